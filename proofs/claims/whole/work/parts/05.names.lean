set_option maxRecDepth 20000 in
theorem gX2_joinTwo_X2_setWires : GoodIn wsX2_joinTwo (wsV RX2 104 RX2 yX2_setWires wsX2_setWires) := goodIn_app (goodIn_of _ (by decide +kernel)) ggX2_joinTwo_X2_setWires
theorem dX2_joinTwo_0 : decode cX2_joinTwo 0 = .ok (.aload_n 0, 1) := by decide +kernel
theorem dX2_joinTwo_1 : decode cX2_joinTwo 1 = .ok (.getfield 52, 3) := by decide +kernel
theorem dX2_joinTwo_4 : decode cX2_joinTwo 4 = .ok (.istore_n 3, 1) := by decide +kernel
theorem dX2_joinTwo_5 : decode cX2_joinTwo 5 = .ok (.aload_n 0, 1) := by decide +kernel
theorem dX2_joinTwo_6 : decode cX2_joinTwo 6 = .ok (.iload_n 1, 1) := by decide +kernel
theorem dX2_joinTwo_7 : decode cX2_joinTwo 7 = .ok (.iload_n 2, 1) := by decide +kernel
theorem dX2_joinTwo_8 : decode cX2_joinTwo 8 = .ok (.aload_n 0, 1) := by decide +kernel
theorem dX2_joinTwo_9 : decode cX2_joinTwo 9 = .ok (.iload_n 1, 1) := by decide +kernel
theorem dX2_joinTwo_10 : decode cX2_joinTwo 10 = .ok (.iload_n 2, 1) := by decide +kernel
theorem dX2_joinTwo_11 : decode cX2_joinTwo 11 = .ok (.invokevirtual 77, 3) := by decide +kernel
theorem dX2_joinTwo_14 : decode cX2_joinTwo 14 = .ok (.invokevirtual 104, 3) := by decide +kernel
theorem dX2_joinTwo_17 : decode cX2_joinTwo 17 = .ok (.aload_n 0, 1) := by decide +kernel
theorem dX2_joinTwo_18 : decode cX2_joinTwo 18 = .ok (.getfield 9, 3) := by decide +kernel
theorem dX2_joinTwo_21 : decode cX2_joinTwo 21 = .ok (.iload_n 3, 1) := by decide +kernel
theorem dX2_joinTwo_22 : decode cX2_joinTwo 22 = .ok (.iload_n 1, 1) := by decide +kernel
theorem dX2_joinTwo_23 : decode cX2_joinTwo 23 = .ok (.iastore, 1) := by decide +kernel
theorem dX2_joinTwo_24 : decode cX2_joinTwo 24 = .ok (.aload_n 0, 1) := by decide +kernel
theorem dX2_joinTwo_25 : decode cX2_joinTwo 25 = .ok (.getfield 15, 3) := by decide +kernel
theorem dX2_joinTwo_28 : decode cX2_joinTwo 28 = .ok (.iload_n 3, 1) := by decide +kernel
theorem dX2_joinTwo_29 : decode cX2_joinTwo 29 = .ok (.iload_n 2, 1) := by decide +kernel
theorem dX2_joinTwo_30 : decode cX2_joinTwo 30 = .ok (.iastore, 1) := by decide +kernel
theorem dX2_joinTwo_31 : decode cX2_joinTwo 31 = .ok (.aload_n 0, 1) := by decide +kernel
theorem dX2_joinTwo_32 : decode cX2_joinTwo 32 = .ok (.getfield 18, 3) := by decide +kernel
theorem dX2_joinTwo_35 : decode cX2_joinTwo 35 = .ok (.iload_n 3, 1) := by decide +kernel
theorem dX2_joinTwo_36 : decode cX2_joinTwo 36 = .ok (.iconst (-1), 1) := by decide +kernel
theorem dX2_joinTwo_37 : decode cX2_joinTwo 37 = .ok (.iastore, 1) := by decide +kernel
theorem dX2_joinTwo_38 : decode cX2_joinTwo 38 = .ok (.aload_n 0, 1) := by decide +kernel
theorem dX2_joinTwo_39 : decode cX2_joinTwo 39 = .ok (.getfield 18, 3) := by decide +kernel
theorem dX2_joinTwo_42 : decode cX2_joinTwo 42 = .ok (.iload_n 1, 1) := by decide +kernel
theorem dX2_joinTwo_43 : decode cX2_joinTwo 43 = .ok (.iload_n 3, 1) := by decide +kernel
theorem dX2_joinTwo_44 : decode cX2_joinTwo 44 = .ok (.iastore, 1) := by decide +kernel
theorem dX2_joinTwo_45 : decode cX2_joinTwo 45 = .ok (.aload_n 0, 1) := by decide +kernel
theorem dX2_joinTwo_46 : decode cX2_joinTwo 46 = .ok (.getfield 18, 3) := by decide +kernel
theorem dX2_joinTwo_49 : decode cX2_joinTwo 49 = .ok (.iload_n 2, 1) := by decide +kernel
theorem dX2_joinTwo_50 : decode cX2_joinTwo 50 = .ok (.iload_n 3, 1) := by decide +kernel
theorem dX2_joinTwo_51 : decode cX2_joinTwo 51 = .ok (.iastore, 1) := by decide +kernel
theorem dX2_joinTwo_52 : decode cX2_joinTwo 52 = .ok (.aload_n 0, 1) := by decide +kernel
theorem dX2_joinTwo_53 : decode cX2_joinTwo 53 = .ok (.getfield 21, 3) := by decide +kernel
theorem dX2_joinTwo_56 : decode cX2_joinTwo 56 = .ok (.iload_n 3, 1) := by decide +kernel
theorem dX2_joinTwo_57 : decode cX2_joinTwo 57 = .ok (.aload_n 0, 1) := by decide +kernel
theorem dX2_joinTwo_58 : decode cX2_joinTwo 58 = .ok (.getfield 21, 3) := by decide +kernel
theorem dX2_joinTwo_61 : decode cX2_joinTwo 61 = .ok (.iload_n 1, 1) := by decide +kernel
theorem dX2_joinTwo_62 : decode cX2_joinTwo 62 = .ok (.iaload, 1) := by decide +kernel
theorem dX2_joinTwo_63 : decode cX2_joinTwo 63 = .ok (.aload_n 0, 1) := by decide +kernel
theorem dX2_joinTwo_64 : decode cX2_joinTwo 64 = .ok (.getfield 36, 3) := by decide +kernel
theorem dX2_joinTwo_67 : decode cX2_joinTwo 67 = .ok (.iload_n 1, 1) := by decide +kernel
theorem dX2_joinTwo_68 : decode cX2_joinTwo 68 = .ok (.iaload, 1) := by decide +kernel
theorem dX2_joinTwo_69 : decode cX2_joinTwo 69 = .ok (.isub, 1) := by decide +kernel
theorem dX2_joinTwo_70 : decode cX2_joinTwo 70 = .ok (.aload_n 0, 1) := by decide +kernel
theorem dX2_joinTwo_71 : decode cX2_joinTwo 71 = .ok (.getfield 21, 3) := by decide +kernel
theorem dX2_joinTwo_74 : decode cX2_joinTwo 74 = .ok (.iload_n 2, 1) := by decide +kernel
theorem dX2_joinTwo_75 : decode cX2_joinTwo 75 = .ok (.iaload, 1) := by decide +kernel
theorem dX2_joinTwo_76 : decode cX2_joinTwo 76 = .ok (.aload_n 0, 1) := by decide +kernel
theorem dX2_joinTwo_77 : decode cX2_joinTwo 77 = .ok (.getfield 36, 3) := by decide +kernel
theorem dX2_joinTwo_80 : decode cX2_joinTwo 80 = .ok (.iload_n 2, 1) := by decide +kernel
theorem dX2_joinTwo_81 : decode cX2_joinTwo 81 = .ok (.iaload, 1) := by decide +kernel
theorem dX2_joinTwo_82 : decode cX2_joinTwo 82 = .ok (.isub, 1) := by decide +kernel
theorem dX2_joinTwo_83 : decode cX2_joinTwo 83 = .ok (.invokestatic 99, 3) := by decide +kernel
theorem dX2_joinTwo_86 : decode cX2_joinTwo 86 = .ok (.iastore, 1) := by decide +kernel
theorem dX2_joinTwo_87 : decode cX2_joinTwo 87 = .ok (.aload_n 0, 1) := by decide +kernel
theorem dX2_joinTwo_88 : decode cX2_joinTwo 88 = .ok (.getfield 24, 3) := by decide +kernel
theorem dX2_joinTwo_91 : decode cX2_joinTwo 91 = .ok (.iload_n 3, 1) := by decide +kernel
theorem dX2_joinTwo_92 : decode cX2_joinTwo 92 = .ok (.aload_n 0, 1) := by decide +kernel
theorem dX2_joinTwo_93 : decode cX2_joinTwo 93 = .ok (.getfield 24, 3) := by decide +kernel
theorem dX2_joinTwo_96 : decode cX2_joinTwo 96 = .ok (.iload_n 1, 1) := by decide +kernel
theorem dX2_joinTwo_97 : decode cX2_joinTwo 97 = .ok (.iaload, 1) := by decide +kernel
theorem dX2_joinTwo_98 : decode cX2_joinTwo 98 = .ok (.aload_n 0, 1) := by decide +kernel
theorem dX2_joinTwo_99 : decode cX2_joinTwo 99 = .ok (.getfield 36, 3) := by decide +kernel
theorem dX2_joinTwo_102 : decode cX2_joinTwo 102 = .ok (.iload_n 1, 1) := by decide +kernel
theorem dX2_joinTwo_103 : decode cX2_joinTwo 103 = .ok (.iaload, 1) := by decide +kernel
theorem dX2_joinTwo_104 : decode cX2_joinTwo 104 = .ok (.iadd, 1) := by decide +kernel
theorem dX2_joinTwo_105 : decode cX2_joinTwo 105 = .ok (.aload_n 0, 1) := by decide +kernel
theorem dX2_joinTwo_106 : decode cX2_joinTwo 106 = .ok (.getfield 24, 3) := by decide +kernel
theorem dX2_joinTwo_109 : decode cX2_joinTwo 109 = .ok (.iload_n 2, 1) := by decide +kernel
theorem dX2_joinTwo_110 : decode cX2_joinTwo 110 = .ok (.iaload, 1) := by decide +kernel
theorem dX2_joinTwo_111 : decode cX2_joinTwo 111 = .ok (.aload_n 0, 1) := by decide +kernel
theorem dX2_joinTwo_112 : decode cX2_joinTwo 112 = .ok (.getfield 36, 3) := by decide +kernel
theorem dX2_joinTwo_115 : decode cX2_joinTwo 115 = .ok (.iload_n 2, 1) := by decide +kernel
theorem dX2_joinTwo_116 : decode cX2_joinTwo 116 = .ok (.iaload, 1) := by decide +kernel
theorem dX2_joinTwo_117 : decode cX2_joinTwo 117 = .ok (.iadd, 1) := by decide +kernel
theorem dX2_joinTwo_118 : decode cX2_joinTwo 118 = .ok (.invokestatic 108, 3) := by decide +kernel
theorem dX2_joinTwo_121 : decode cX2_joinTwo 121 = .ok (.iastore, 1) := by decide +kernel
theorem dX2_joinTwo_122 : decode cX2_joinTwo 122 = .ok (.aload_n 0, 1) := by decide +kernel
theorem dX2_joinTwo_123 : decode cX2_joinTwo 123 = .ok (.getfield 27, 3) := by decide +kernel
theorem dX2_joinTwo_126 : decode cX2_joinTwo 126 = .ok (.iload_n 3, 1) := by decide +kernel
theorem dX2_joinTwo_127 : decode cX2_joinTwo 127 = .ok (.aload_n 0, 1) := by decide +kernel
theorem dX2_joinTwo_128 : decode cX2_joinTwo 128 = .ok (.getfield 27, 3) := by decide +kernel
theorem dX2_joinTwo_131 : decode cX2_joinTwo 131 = .ok (.iload_n 1, 1) := by decide +kernel
theorem dX2_joinTwo_132 : decode cX2_joinTwo 132 = .ok (.iaload, 1) := by decide +kernel
theorem dX2_joinTwo_133 : decode cX2_joinTwo 133 = .ok (.aload_n 0, 1) := by decide +kernel
theorem dX2_joinTwo_134 : decode cX2_joinTwo 134 = .ok (.getfield 36, 3) := by decide +kernel
theorem dX2_joinTwo_137 : decode cX2_joinTwo 137 = .ok (.iload_n 1, 1) := by decide +kernel
theorem dX2_joinTwo_138 : decode cX2_joinTwo 138 = .ok (.iaload, 1) := by decide +kernel
theorem dX2_joinTwo_139 : decode cX2_joinTwo 139 = .ok (.isub, 1) := by decide +kernel
theorem dX2_joinTwo_140 : decode cX2_joinTwo 140 = .ok (.aload_n 0, 1) := by decide +kernel
theorem dX2_joinTwo_141 : decode cX2_joinTwo 141 = .ok (.getfield 27, 3) := by decide +kernel
theorem dX2_joinTwo_144 : decode cX2_joinTwo 144 = .ok (.iload_n 2, 1) := by decide +kernel
theorem dX2_joinTwo_145 : decode cX2_joinTwo 145 = .ok (.iaload, 1) := by decide +kernel
theorem dX2_joinTwo_146 : decode cX2_joinTwo 146 = .ok (.aload_n 0, 1) := by decide +kernel
theorem dX2_joinTwo_147 : decode cX2_joinTwo 147 = .ok (.getfield 36, 3) := by decide +kernel
theorem dX2_joinTwo_150 : decode cX2_joinTwo 150 = .ok (.iload_n 2, 1) := by decide +kernel
theorem dX2_joinTwo_151 : decode cX2_joinTwo 151 = .ok (.iaload, 1) := by decide +kernel
theorem dX2_joinTwo_152 : decode cX2_joinTwo 152 = .ok (.isub, 1) := by decide +kernel
theorem dX2_joinTwo_153 : decode cX2_joinTwo 153 = .ok (.invokestatic 99, 3) := by decide +kernel
theorem dX2_joinTwo_156 : decode cX2_joinTwo 156 = .ok (.iastore, 1) := by decide +kernel
theorem dX2_joinTwo_157 : decode cX2_joinTwo 157 = .ok (.aload_n 0, 1) := by decide +kernel
theorem dX2_joinTwo_158 : decode cX2_joinTwo 158 = .ok (.getfield 30, 3) := by decide +kernel
theorem dX2_joinTwo_161 : decode cX2_joinTwo 161 = .ok (.iload_n 3, 1) := by decide +kernel
theorem dX2_joinTwo_162 : decode cX2_joinTwo 162 = .ok (.aload_n 0, 1) := by decide +kernel
theorem dX2_joinTwo_163 : decode cX2_joinTwo 163 = .ok (.getfield 30, 3) := by decide +kernel
theorem dX2_joinTwo_166 : decode cX2_joinTwo 166 = .ok (.iload_n 1, 1) := by decide +kernel
theorem dX2_joinTwo_167 : decode cX2_joinTwo 167 = .ok (.iaload, 1) := by decide +kernel
theorem dX2_joinTwo_168 : decode cX2_joinTwo 168 = .ok (.aload_n 0, 1) := by decide +kernel
theorem dX2_joinTwo_169 : decode cX2_joinTwo 169 = .ok (.getfield 36, 3) := by decide +kernel
theorem dX2_joinTwo_172 : decode cX2_joinTwo 172 = .ok (.iload_n 1, 1) := by decide +kernel
theorem dX2_joinTwo_173 : decode cX2_joinTwo 173 = .ok (.iaload, 1) := by decide +kernel
theorem dX2_joinTwo_174 : decode cX2_joinTwo 174 = .ok (.iadd, 1) := by decide +kernel
theorem dX2_joinTwo_175 : decode cX2_joinTwo 175 = .ok (.aload_n 0, 1) := by decide +kernel
theorem dX2_joinTwo_176 : decode cX2_joinTwo 176 = .ok (.getfield 30, 3) := by decide +kernel
theorem dX2_joinTwo_179 : decode cX2_joinTwo 179 = .ok (.iload_n 2, 1) := by decide +kernel
theorem dX2_joinTwo_180 : decode cX2_joinTwo 180 = .ok (.iaload, 1) := by decide +kernel
theorem dX2_joinTwo_181 : decode cX2_joinTwo 181 = .ok (.aload_n 0, 1) := by decide +kernel
theorem dX2_joinTwo_182 : decode cX2_joinTwo 182 = .ok (.getfield 36, 3) := by decide +kernel
theorem dX2_joinTwo_185 : decode cX2_joinTwo 185 = .ok (.iload_n 2, 1) := by decide +kernel
theorem dX2_joinTwo_186 : decode cX2_joinTwo 186 = .ok (.iaload, 1) := by decide +kernel
theorem dX2_joinTwo_187 : decode cX2_joinTwo 187 = .ok (.iadd, 1) := by decide +kernel
theorem dX2_joinTwo_188 : decode cX2_joinTwo 188 = .ok (.invokestatic 108, 3) := by decide +kernel
theorem dX2_joinTwo_191 : decode cX2_joinTwo 191 = .ok (.iastore, 1) := by decide +kernel
theorem dX2_joinTwo_192 : decode cX2_joinTwo 192 = .ok (.aload_n 0, 1) := by decide +kernel
theorem dX2_joinTwo_193 : decode cX2_joinTwo 193 = .ok (.getfield 33, 3) := by decide +kernel
theorem dX2_joinTwo_196 : decode cX2_joinTwo 196 = .ok (.iload_n 3, 1) := by decide +kernel
theorem dX2_joinTwo_197 : decode cX2_joinTwo 197 = .ok (.aload_n 0, 1) := by decide +kernel
theorem dX2_joinTwo_198 : decode cX2_joinTwo 198 = .ok (.getfield 33, 3) := by decide +kernel
theorem dX2_joinTwo_201 : decode cX2_joinTwo 201 = .ok (.iload_n 1, 1) := by decide +kernel
theorem dX2_joinTwo_202 : decode cX2_joinTwo 202 = .ok (.iaload, 1) := by decide +kernel
theorem dX2_joinTwo_203 : decode cX2_joinTwo 203 = .ok (.aload_n 0, 1) := by decide +kernel
theorem dX2_joinTwo_204 : decode cX2_joinTwo 204 = .ok (.getfield 36, 3) := by decide +kernel
theorem dX2_joinTwo_207 : decode cX2_joinTwo 207 = .ok (.iload_n 1, 1) := by decide +kernel
theorem dX2_joinTwo_208 : decode cX2_joinTwo 208 = .ok (.iaload, 1) := by decide +kernel
theorem dX2_joinTwo_209 : decode cX2_joinTwo 209 = .ok (.iadd, 1) := by decide +kernel
theorem dX2_joinTwo_210 : decode cX2_joinTwo 210 = .ok (.iastore, 1) := by decide +kernel
theorem dX2_joinTwo_211 : decode cX2_joinTwo 211 = .ok (.aload_n 0, 1) := by decide +kernel
theorem dX2_joinTwo_212 : decode cX2_joinTwo 212 = .ok (.iload_n 3, 1) := by decide +kernel
theorem dX2_joinTwo_213 : decode cX2_joinTwo 213 = .ok (.iconst 1, 1) := by decide +kernel
theorem dX2_joinTwo_214 : decode cX2_joinTwo 214 = .ok (.iadd, 1) := by decide +kernel
theorem dX2_joinTwo_215 : decode cX2_joinTwo 215 = .ok (.putfield 52, 3) := by decide +kernel
theorem dX2_joinTwo_218 : decode cX2_joinTwo 218 = .ok (.iload_n 3, 1) := by decide +kernel
theorem dX2_joinTwo_219 : decode cX2_joinTwo 219 = .ok (.ireturn, 1) := by decide +kernel
theorem dX2_setWires_0 : decode cX2_setWires 0 = .ok (.aload_n 0, 1) := by decide +kernel
theorem dX2_setWires_1 : decode cX2_setWires 1 = .ok (.getfield 33, 3) := by decide +kernel
theorem dX2_setWires_4 : decode cX2_setWires 4 = .ok (.iload_n 1, 1) := by decide +kernel
theorem dX2_setWires_5 : decode cX2_setWires 5 = .ok (.iaload, 1) := by decide +kernel
theorem dX2_setWires_6 : decode cX2_setWires 6 = .ok (.iload_n 3, 1) := by decide +kernel
theorem dX2_setWires_7 : decode cX2_setWires 7 = .ok (.aload_n 0, 1) := by decide +kernel
theorem dX2_setWires_8 : decode cX2_setWires 8 = .ok (.getfield 33, 3) := by decide +kernel
theorem dX2_setWires_11 : decode cX2_setWires 11 = .ok (.iload_n 2, 1) := by decide +kernel
theorem dX2_setWires_12 : decode cX2_setWires 12 = .ok (.iaload, 1) := by decide +kernel
theorem dX2_setWires_13 : decode cX2_setWires 13 = .ok (.iadd, 1) := by decide +kernel
theorem dX2_setWires_14 : decode cX2_setWires 14 = .ok (.if_icmp .le 32, 3) := by decide +kernel
theorem dX2_setWires_17 : decode cX2_setWires 17 = .ok (.aload_n 0, 1) := by decide +kernel
theorem dX2_setWires_18 : decode cX2_setWires 18 = .ok (.getfield 36, 3) := by decide +kernel
theorem dX2_setWires_21 : decode cX2_setWires 21 = .ok (.iload_n 1, 1) := by decide +kernel
theorem dX2_setWires_22 : decode cX2_setWires 22 = .ok (.iconst 0, 1) := by decide +kernel
theorem dX2_setWires_23 : decode cX2_setWires 23 = .ok (.iastore, 1) := by decide +kernel
theorem dX2_setWires_24 : decode cX2_setWires 24 = .ok (.aload_n 0, 1) := by decide +kernel
theorem dX2_setWires_25 : decode cX2_setWires 25 = .ok (.getfield 36, 3) := by decide +kernel
theorem dX2_setWires_28 : decode cX2_setWires 28 = .ok (.iload_n 2, 1) := by decide +kernel
theorem dX2_setWires_29 : decode cX2_setWires 29 = .ok (.aload_n 0, 1) := by decide +kernel
theorem dX2_setWires_30 : decode cX2_setWires 30 = .ok (.getfield 33, 3) := by decide +kernel
theorem dX2_setWires_33 : decode cX2_setWires 33 = .ok (.iload_n 1, 1) := by decide +kernel
theorem dX2_setWires_34 : decode cX2_setWires 34 = .ok (.iaload, 1) := by decide +kernel
theorem dX2_setWires_35 : decode cX2_setWires 35 = .ok (.aload_n 0, 1) := by decide +kernel
theorem dX2_setWires_36 : decode cX2_setWires 36 = .ok (.getfield 33, 3) := by decide +kernel
theorem dX2_setWires_39 : decode cX2_setWires 39 = .ok (.iload_n 2, 1) := by decide +kernel
theorem dX2_setWires_40 : decode cX2_setWires 40 = .ok (.iaload, 1) := by decide +kernel
theorem dX2_setWires_41 : decode cX2_setWires 41 = .ok (.isub, 1) := by decide +kernel
theorem dX2_setWires_42 : decode cX2_setWires 42 = .ok (.iastore, 1) := by decide +kernel
theorem dX2_setWires_43 : decode cX2_setWires 43 = .ok (.goto 86, 3) := by decide +kernel
theorem dX2_setWires_46 : decode cX2_setWires 46 = .ok (.aload_n 0, 1) := by decide +kernel
theorem dX2_setWires_47 : decode cX2_setWires 47 = .ok (.getfield 33, 3) := by decide +kernel
theorem dX2_setWires_50 : decode cX2_setWires 50 = .ok (.iload_n 2, 1) := by decide +kernel
theorem dX2_setWires_51 : decode cX2_setWires 51 = .ok (.iaload, 1) := by decide +kernel
theorem dX2_setWires_52 : decode cX2_setWires 52 = .ok (.iload_n 3, 1) := by decide +kernel
theorem dX2_setWires_53 : decode cX2_setWires 53 = .ok (.aload_n 0, 1) := by decide +kernel
theorem dX2_setWires_54 : decode cX2_setWires 54 = .ok (.getfield 33, 3) := by decide +kernel
theorem dX2_setWires_57 : decode cX2_setWires 57 = .ok (.iload_n 1, 1) := by decide +kernel
theorem dX2_setWires_58 : decode cX2_setWires 58 = .ok (.iaload, 1) := by decide +kernel
theorem dX2_setWires_59 : decode cX2_setWires 59 = .ok (.iadd, 1) := by decide +kernel
theorem dX2_setWires_60 : decode cX2_setWires 60 = .ok (.if_icmp .le 32, 3) := by decide +kernel
theorem dX2_setWires_63 : decode cX2_setWires 63 = .ok (.aload_n 0, 1) := by decide +kernel
theorem dX2_setWires_64 : decode cX2_setWires 64 = .ok (.getfield 36, 3) := by decide +kernel
theorem dX2_setWires_67 : decode cX2_setWires 67 = .ok (.iload_n 1, 1) := by decide +kernel
theorem dX2_setWires_68 : decode cX2_setWires 68 = .ok (.aload_n 0, 1) := by decide +kernel
theorem dX2_setWires_69 : decode cX2_setWires 69 = .ok (.getfield 33, 3) := by decide +kernel
theorem dX2_setWires_72 : decode cX2_setWires 72 = .ok (.iload_n 2, 1) := by decide +kernel
theorem dX2_setWires_73 : decode cX2_setWires 73 = .ok (.iaload, 1) := by decide +kernel
theorem dX2_setWires_74 : decode cX2_setWires 74 = .ok (.aload_n 0, 1) := by decide +kernel
theorem dX2_setWires_75 : decode cX2_setWires 75 = .ok (.getfield 33, 3) := by decide +kernel
theorem dX2_setWires_78 : decode cX2_setWires 78 = .ok (.iload_n 1, 1) := by decide +kernel
theorem dX2_setWires_79 : decode cX2_setWires 79 = .ok (.iaload, 1) := by decide +kernel
theorem dX2_setWires_80 : decode cX2_setWires 80 = .ok (.isub, 1) := by decide +kernel
theorem dX2_setWires_81 : decode cX2_setWires 81 = .ok (.iastore, 1) := by decide +kernel
theorem dX2_setWires_82 : decode cX2_setWires 82 = .ok (.aload_n 0, 1) := by decide +kernel
theorem dX2_setWires_83 : decode cX2_setWires 83 = .ok (.getfield 36, 3) := by decide +kernel
theorem dX2_setWires_86 : decode cX2_setWires 86 = .ok (.iload_n 2, 1) := by decide +kernel
theorem dX2_setWires_87 : decode cX2_setWires 87 = .ok (.iconst 0, 1) := by decide +kernel
theorem dX2_setWires_88 : decode cX2_setWires 88 = .ok (.iastore, 1) := by decide +kernel
theorem dX2_setWires_89 : decode cX2_setWires 89 = .ok (.goto 40, 3) := by decide +kernel
theorem dX2_setWires_92 : decode cX2_setWires 92 = .ok (.aload_n 0, 1) := by decide +kernel
theorem dX2_setWires_93 : decode cX2_setWires 93 = .ok (.getfield 36, 3) := by decide +kernel
theorem dX2_setWires_96 : decode cX2_setWires 96 = .ok (.iload_n 1, 1) := by decide +kernel
theorem dX2_setWires_97 : decode cX2_setWires 97 = .ok (.iload_n 3, 1) := by decide +kernel
theorem dX2_setWires_98 : decode cX2_setWires 98 = .ok (.aload_n 0, 1) := by decide +kernel
theorem dX2_setWires_99 : decode cX2_setWires 99 = .ok (.getfield 33, 3) := by decide +kernel
theorem dX2_setWires_102 : decode cX2_setWires 102 = .ok (.iload_n 2, 1) := by decide +kernel
theorem dX2_setWires_103 : decode cX2_setWires 103 = .ok (.iaload, 1) := by decide +kernel
theorem dX2_setWires_104 : decode cX2_setWires 104 = .ok (.iadd, 1) := by decide +kernel
theorem dX2_setWires_105 : decode cX2_setWires 105 = .ok (.aload_n 0, 1) := by decide +kernel
theorem dX2_setWires_106 : decode cX2_setWires 106 = .ok (.getfield 33, 3) := by decide +kernel
theorem dX2_setWires_109 : decode cX2_setWires 109 = .ok (.iload_n 1, 1) := by decide +kernel
theorem dX2_setWires_110 : decode cX2_setWires 110 = .ok (.iaload, 1) := by decide +kernel
theorem dX2_setWires_111 : decode cX2_setWires 111 = .ok (.isub, 1) := by decide +kernel
theorem dX2_setWires_112 : decode cX2_setWires 112 = .ok (.iconst 2, 1) := by decide +kernel
theorem dX2_setWires_113 : decode cX2_setWires 113 = .ok (.idiv, 1) := by decide +kernel
theorem dX2_setWires_114 : decode cX2_setWires 114 = .ok (.iastore, 1) := by decide +kernel
theorem dX2_setWires_115 : decode cX2_setWires 115 = .ok (.aload_n 0, 1) := by decide +kernel
theorem dX2_setWires_116 : decode cX2_setWires 116 = .ok (.getfield 36, 3) := by decide +kernel
theorem dX2_setWires_119 : decode cX2_setWires 119 = .ok (.iload_n 2, 1) := by decide +kernel
theorem dX2_setWires_120 : decode cX2_setWires 120 = .ok (.iload_n 3, 1) := by decide +kernel
theorem dX2_setWires_121 : decode cX2_setWires 121 = .ok (.aload_n 0, 1) := by decide +kernel
theorem dX2_setWires_122 : decode cX2_setWires 122 = .ok (.getfield 36, 3) := by decide +kernel
theorem dX2_setWires_125 : decode cX2_setWires 125 = .ok (.iload_n 1, 1) := by decide +kernel
theorem dX2_setWires_126 : decode cX2_setWires 126 = .ok (.iaload, 1) := by decide +kernel
theorem dX2_setWires_127 : decode cX2_setWires 127 = .ok (.isub, 1) := by decide +kernel
theorem dX2_setWires_128 : decode cX2_setWires 128 = .ok (.iastore, 1) := by decide +kernel
theorem dX2_setWires_129 : decode cX2_setWires 129 = .ok (.return_, 1) := by decide +kernel
set_option maxRecDepth 20000 in
theorem ggX2_choosePlaces_X2_standNear : GoodIn wsX2_choosePlaces wsX2_standNear := goodIn_r _ [17, 3, 18, 19, 20, 21, 6, 22, 9, 10, 11, 8, 23, 24, 25, 26, 27, 28, 29, 30, 31, 32, 33, 34, 35, 36, 37, 38] (by decide +kernel) (by decide +kernel)
set_option maxRecDepth 20000 in
theorem gX2_choosePlaces_X2_standNear : GoodIn wsX2_choosePlaces (wsV RX2 111 RX2 yX2_standNear wsX2_standNear) := goodIn_app (goodIn_of _ (by decide +kernel)) ggX2_choosePlaces_X2_standNear
theorem dX2_choosePlaces_0 : decode cX2_choosePlaces 0 = .ok (.aload_n 0, 1) := by decide +kernel
theorem dX2_choosePlaces_1 : decode cX2_choosePlaces 1 = .ok (.getfield 52, 3) := by decide +kernel
theorem dX2_choosePlaces_4 : decode cX2_choosePlaces 4 = .ok (.iconst 1, 1) := by decide +kernel
theorem dX2_choosePlaces_5 : decode cX2_choosePlaces 5 = .ok (.isub, 1) := by decide +kernel
theorem dX2_choosePlaces_6 : decode cX2_choosePlaces 6 = .ok (.istore_n 3, 1) := by decide +kernel
theorem dX2_choosePlaces_7 : decode cX2_choosePlaces 7 = .ok (.aload_n 0, 1) := by decide +kernel
theorem dX2_choosePlaces_8 : decode cX2_choosePlaces 8 = .ok (.iload_n 3, 1) := by decide +kernel
theorem dX2_choosePlaces_9 : decode cX2_choosePlaces 9 = .ok (.iload_n 1, 1) := by decide +kernel
theorem dX2_choosePlaces_10 : decode cX2_choosePlaces 10 = .ok (.iload_n 2, 1) := by decide +kernel
theorem dX2_choosePlaces_11 : decode cX2_choosePlaces 11 = .ok (.invokevirtual 111, 3) := by decide +kernel
theorem dX2_choosePlaces_14 : decode cX2_choosePlaces 14 = .ok (.aload_n 0, 1) := by decide +kernel
theorem dX2_choosePlaces_15 : decode cX2_choosePlaces 15 = .ok (.getfield 36, 3) := by decide +kernel
theorem dX2_choosePlaces_18 : decode cX2_choosePlaces 18 = .ok (.iload_n 3, 1) := by decide +kernel
theorem dX2_choosePlaces_19 : decode cX2_choosePlaces 19 = .ok (.aload_n 0, 1) := by decide +kernel
theorem dX2_choosePlaces_20 : decode cX2_choosePlaces 20 = .ok (.getfield 39, 3) := by decide +kernel
theorem dX2_choosePlaces_23 : decode cX2_choosePlaces 23 = .ok (.iload_n 3, 1) := by decide +kernel
theorem dX2_choosePlaces_24 : decode cX2_choosePlaces 24 = .ok (.iaload, 1) := by decide +kernel
theorem dX2_choosePlaces_25 : decode cX2_choosePlaces 25 = .ok (.iload_n 1, 1) := by decide +kernel
theorem dX2_choosePlaces_26 : decode cX2_choosePlaces 26 = .ok (.isub, 1) := by decide +kernel
theorem dX2_choosePlaces_27 : decode cX2_choosePlaces 27 = .ok (.invokestatic 114, 3) := by decide +kernel
theorem dX2_choosePlaces_30 : decode cX2_choosePlaces 30 = .ok (.aload_n 0, 1) := by decide +kernel
theorem dX2_choosePlaces_31 : decode cX2_choosePlaces 31 = .ok (.getfield 42, 3) := by decide +kernel
theorem dX2_choosePlaces_34 : decode cX2_choosePlaces 34 = .ok (.iload_n 3, 1) := by decide +kernel
theorem dX2_choosePlaces_35 : decode cX2_choosePlaces 35 = .ok (.iaload, 1) := by decide +kernel
theorem dX2_choosePlaces_36 : decode cX2_choosePlaces 36 = .ok (.iload_n 2, 1) := by decide +kernel
theorem dX2_choosePlaces_37 : decode cX2_choosePlaces 37 = .ok (.isub, 1) := by decide +kernel
theorem dX2_choosePlaces_38 : decode cX2_choosePlaces 38 = .ok (.invokestatic 114, 3) := by decide +kernel
theorem dX2_choosePlaces_41 : decode cX2_choosePlaces 41 = .ok (.invokestatic 99, 3) := by decide +kernel
theorem dX2_choosePlaces_44 : decode cX2_choosePlaces 44 = .ok (.iastore, 1) := by decide +kernel
theorem dX2_choosePlaces_45 : decode cX2_choosePlaces 45 = .ok (.iload_n 3, 1) := by decide +kernel
theorem dX2_choosePlaces_46 : decode cX2_choosePlaces 46 = .ok (.iconst 1, 1) := by decide +kernel
theorem dX2_choosePlaces_47 : decode cX2_choosePlaces 47 = .ok (.isub, 1) := by decide +kernel
theorem dX2_choosePlaces_48 : decode cX2_choosePlaces 48 = .ok (.istore 4, 2) := by decide +kernel
theorem dX2_choosePlaces_50 : decode cX2_choosePlaces 50 = .ok (.iload 4, 2) := by decide +kernel
theorem dX2_choosePlaces_52 : decode cX2_choosePlaces 52 = .ok (.ifCond .lt 39, 3) := by decide +kernel
theorem dX2_choosePlaces_55 : decode cX2_choosePlaces 55 = .ok (.aload_n 0, 1) := by decide +kernel
theorem dX2_choosePlaces_56 : decode cX2_choosePlaces 56 = .ok (.iload 4, 2) := by decide +kernel
theorem dX2_choosePlaces_58 : decode cX2_choosePlaces 58 = .ok (.aload_n 0, 1) := by decide +kernel
theorem dX2_choosePlaces_59 : decode cX2_choosePlaces 59 = .ok (.getfield 39, 3) := by decide +kernel
theorem dX2_choosePlaces_62 : decode cX2_choosePlaces 62 = .ok (.aload_n 0, 1) := by decide +kernel
theorem dX2_choosePlaces_63 : decode cX2_choosePlaces 63 = .ok (.getfield 18, 3) := by decide +kernel
theorem dX2_choosePlaces_66 : decode cX2_choosePlaces 66 = .ok (.iload 4, 2) := by decide +kernel
theorem dX2_choosePlaces_68 : decode cX2_choosePlaces 68 = .ok (.iaload, 1) := by decide +kernel
theorem dX2_choosePlaces_69 : decode cX2_choosePlaces 69 = .ok (.iaload, 1) := by decide +kernel
theorem dX2_choosePlaces_70 : decode cX2_choosePlaces 70 = .ok (.aload_n 0, 1) := by decide +kernel
theorem dX2_choosePlaces_71 : decode cX2_choosePlaces 71 = .ok (.getfield 42, 3) := by decide +kernel
theorem dX2_choosePlaces_74 : decode cX2_choosePlaces 74 = .ok (.aload_n 0, 1) := by decide +kernel
theorem dX2_choosePlaces_75 : decode cX2_choosePlaces 75 = .ok (.getfield 18, 3) := by decide +kernel
theorem dX2_choosePlaces_78 : decode cX2_choosePlaces 78 = .ok (.iload 4, 2) := by decide +kernel
theorem dX2_choosePlaces_80 : decode cX2_choosePlaces 80 = .ok (.iaload, 1) := by decide +kernel
theorem dX2_choosePlaces_81 : decode cX2_choosePlaces 81 = .ok (.iaload, 1) := by decide +kernel
theorem dX2_choosePlaces_82 : decode cX2_choosePlaces 82 = .ok (.invokevirtual 111, 3) := by decide +kernel
theorem dX2_choosePlaces_85 : decode cX2_choosePlaces 85 = .ok (.iinc 4 (-1), 3) := by decide +kernel
theorem dX2_choosePlaces_88 : decode cX2_choosePlaces 88 = .ok (.goto (-38), 3) := by decide +kernel
theorem dX2_choosePlaces_91 : decode cX2_choosePlaces 91 = .ok (.return_, 1) := by decide +kernel
theorem dX2_standNear_0 : decode cX2_standNear 0 = .ok (.aload_n 0, 1) := by decide +kernel
theorem dX2_standNear_1 : decode cX2_standNear 1 = .ok (.getfield 39, 3) := by decide +kernel
theorem dX2_standNear_4 : decode cX2_standNear 4 = .ok (.iload_n 1, 1) := by decide +kernel
theorem dX2_standNear_5 : decode cX2_standNear 5 = .ok (.aload_n 0, 1) := by decide +kernel
theorem dX2_standNear_6 : decode cX2_standNear 6 = .ok (.getfield 21, 3) := by decide +kernel
theorem dX2_standNear_9 : decode cX2_standNear 9 = .ok (.iload_n 1, 1) := by decide +kernel
theorem dX2_standNear_10 : decode cX2_standNear 10 = .ok (.iaload, 1) := by decide +kernel
theorem dX2_standNear_11 : decode cX2_standNear 11 = .ok (.aload_n 0, 1) := by decide +kernel
theorem dX2_standNear_12 : decode cX2_standNear 12 = .ok (.getfield 24, 3) := by decide +kernel
theorem dX2_standNear_15 : decode cX2_standNear 15 = .ok (.iload_n 1, 1) := by decide +kernel
theorem dX2_standNear_16 : decode cX2_standNear 16 = .ok (.iaload, 1) := by decide +kernel
theorem dX2_standNear_17 : decode cX2_standNear 17 = .ok (.iload_n 2, 1) := by decide +kernel
theorem dX2_standNear_18 : decode cX2_standNear 18 = .ok (.invokestatic 108, 3) := by decide +kernel
theorem dX2_standNear_21 : decode cX2_standNear 21 = .ok (.invokestatic 99, 3) := by decide +kernel
theorem dX2_standNear_24 : decode cX2_standNear 24 = .ok (.iastore, 1) := by decide +kernel
theorem dX2_standNear_25 : decode cX2_standNear 25 = .ok (.aload_n 0, 1) := by decide +kernel
theorem dX2_standNear_26 : decode cX2_standNear 26 = .ok (.getfield 42, 3) := by decide +kernel
theorem dX2_standNear_29 : decode cX2_standNear 29 = .ok (.iload_n 1, 1) := by decide +kernel
theorem dX2_standNear_30 : decode cX2_standNear 30 = .ok (.aload_n 0, 1) := by decide +kernel
theorem dX2_standNear_31 : decode cX2_standNear 31 = .ok (.getfield 27, 3) := by decide +kernel
theorem dX2_standNear_34 : decode cX2_standNear 34 = .ok (.iload_n 1, 1) := by decide +kernel
theorem dX2_standNear_35 : decode cX2_standNear 35 = .ok (.iaload, 1) := by decide +kernel
theorem dX2_standNear_36 : decode cX2_standNear 36 = .ok (.aload_n 0, 1) := by decide +kernel
theorem dX2_standNear_37 : decode cX2_standNear 37 = .ok (.getfield 30, 3) := by decide +kernel
theorem dX2_standNear_40 : decode cX2_standNear 40 = .ok (.iload_n 1, 1) := by decide +kernel
theorem dX2_standNear_41 : decode cX2_standNear 41 = .ok (.iaload, 1) := by decide +kernel
theorem dX2_standNear_42 : decode cX2_standNear 42 = .ok (.iload_n 3, 1) := by decide +kernel
theorem dX2_standNear_43 : decode cX2_standNear 43 = .ok (.invokestatic 108, 3) := by decide +kernel
theorem dX2_standNear_46 : decode cX2_standNear 46 = .ok (.invokestatic 99, 3) := by decide +kernel
theorem dX2_standNear_49 : decode cX2_standNear 49 = .ok (.iastore, 1) := by decide +kernel
theorem dX2_standNear_50 : decode cX2_standNear 50 = .ok (.return_, 1) := by decide +kernel
theorem dX2_partOf_0 : decode cX2_partOf 0 = .ok (.iload_n 2, 1) := by decide +kernel
theorem dX2_partOf_1 : decode cX2_partOf 1 = .ok (.tableswitch 125 0 9 #[55, 62, 69, 76, 83, 90, 97, 104, 111, 118], 55) := by decide +kernel
theorem dX2_partOf_56 : decode cX2_partOf 56 = .ok (.aload_n 0, 1) := by decide +kernel
theorem dX2_partOf_57 : decode cX2_partOf 57 = .ok (.getfield 9, 3) := by decide +kernel
theorem dX2_partOf_60 : decode cX2_partOf 60 = .ok (.iload_n 1, 1) := by decide +kernel
theorem dX2_partOf_61 : decode cX2_partOf 61 = .ok (.iaload, 1) := by decide +kernel
theorem dX2_partOf_62 : decode cX2_partOf 62 = .ok (.ireturn, 1) := by decide +kernel
theorem dX2_partOf_63 : decode cX2_partOf 63 = .ok (.aload_n 0, 1) := by decide +kernel
theorem dX2_partOf_64 : decode cX2_partOf 64 = .ok (.getfield 15, 3) := by decide +kernel
theorem dX2_partOf_67 : decode cX2_partOf 67 = .ok (.iload_n 1, 1) := by decide +kernel
theorem dX2_partOf_68 : decode cX2_partOf 68 = .ok (.iaload, 1) := by decide +kernel
theorem dX2_partOf_69 : decode cX2_partOf 69 = .ok (.ireturn, 1) := by decide +kernel
theorem dX2_partOf_70 : decode cX2_partOf 70 = .ok (.aload_n 0, 1) := by decide +kernel
theorem dX2_partOf_71 : decode cX2_partOf 71 = .ok (.getfield 18, 3) := by decide +kernel
theorem dX2_partOf_74 : decode cX2_partOf 74 = .ok (.iload_n 1, 1) := by decide +kernel
theorem dX2_partOf_75 : decode cX2_partOf 75 = .ok (.iaload, 1) := by decide +kernel
theorem dX2_partOf_76 : decode cX2_partOf 76 = .ok (.ireturn, 1) := by decide +kernel
theorem dX2_partOf_77 : decode cX2_partOf 77 = .ok (.aload_n 0, 1) := by decide +kernel
theorem dX2_partOf_78 : decode cX2_partOf 78 = .ok (.getfield 21, 3) := by decide +kernel
theorem dX2_partOf_81 : decode cX2_partOf 81 = .ok (.iload_n 1, 1) := by decide +kernel
theorem dX2_partOf_82 : decode cX2_partOf 82 = .ok (.iaload, 1) := by decide +kernel
theorem dX2_partOf_83 : decode cX2_partOf 83 = .ok (.ireturn, 1) := by decide +kernel
theorem dX2_partOf_84 : decode cX2_partOf 84 = .ok (.aload_n 0, 1) := by decide +kernel
theorem dX2_partOf_85 : decode cX2_partOf 85 = .ok (.getfield 24, 3) := by decide +kernel
theorem dX2_partOf_88 : decode cX2_partOf 88 = .ok (.iload_n 1, 1) := by decide +kernel
theorem dX2_partOf_89 : decode cX2_partOf 89 = .ok (.iaload, 1) := by decide +kernel
theorem dX2_partOf_90 : decode cX2_partOf 90 = .ok (.ireturn, 1) := by decide +kernel
theorem dX2_partOf_91 : decode cX2_partOf 91 = .ok (.aload_n 0, 1) := by decide +kernel
theorem dX2_partOf_92 : decode cX2_partOf 92 = .ok (.getfield 27, 3) := by decide +kernel
theorem dX2_partOf_95 : decode cX2_partOf 95 = .ok (.iload_n 1, 1) := by decide +kernel
theorem dX2_partOf_96 : decode cX2_partOf 96 = .ok (.iaload, 1) := by decide +kernel
theorem dX2_partOf_97 : decode cX2_partOf 97 = .ok (.ireturn, 1) := by decide +kernel
theorem dX2_partOf_98 : decode cX2_partOf 98 = .ok (.aload_n 0, 1) := by decide +kernel
theorem dX2_partOf_99 : decode cX2_partOf 99 = .ok (.getfield 30, 3) := by decide +kernel
theorem dX2_partOf_102 : decode cX2_partOf 102 = .ok (.iload_n 1, 1) := by decide +kernel
theorem dX2_partOf_103 : decode cX2_partOf 103 = .ok (.iaload, 1) := by decide +kernel
theorem dX2_partOf_104 : decode cX2_partOf 104 = .ok (.ireturn, 1) := by decide +kernel
theorem dX2_partOf_105 : decode cX2_partOf 105 = .ok (.aload_n 0, 1) := by decide +kernel
theorem dX2_partOf_106 : decode cX2_partOf 106 = .ok (.getfield 33, 3) := by decide +kernel
theorem dX2_partOf_109 : decode cX2_partOf 109 = .ok (.iload_n 1, 1) := by decide +kernel
theorem dX2_partOf_110 : decode cX2_partOf 110 = .ok (.iaload, 1) := by decide +kernel
theorem dX2_partOf_111 : decode cX2_partOf 111 = .ok (.ireturn, 1) := by decide +kernel
theorem dX2_partOf_112 : decode cX2_partOf 112 = .ok (.aload_n 0, 1) := by decide +kernel
theorem dX2_partOf_113 : decode cX2_partOf 113 = .ok (.getfield 36, 3) := by decide +kernel
theorem dX2_partOf_116 : decode cX2_partOf 116 = .ok (.iload_n 1, 1) := by decide +kernel
theorem dX2_partOf_117 : decode cX2_partOf 117 = .ok (.iaload, 1) := by decide +kernel
theorem dX2_partOf_118 : decode cX2_partOf 118 = .ok (.ireturn, 1) := by decide +kernel
theorem dX2_partOf_119 : decode cX2_partOf 119 = .ok (.aload_n 0, 1) := by decide +kernel
theorem dX2_partOf_120 : decode cX2_partOf 120 = .ok (.getfield 39, 3) := by decide +kernel
theorem dX2_partOf_123 : decode cX2_partOf 123 = .ok (.iload_n 1, 1) := by decide +kernel
theorem dX2_partOf_124 : decode cX2_partOf 124 = .ok (.iaload, 1) := by decide +kernel
theorem dX2_partOf_125 : decode cX2_partOf 125 = .ok (.ireturn, 1) := by decide +kernel
theorem dX2_partOf_126 : decode cX2_partOf 126 = .ok (.aload_n 0, 1) := by decide +kernel
theorem dX2_partOf_127 : decode cX2_partOf 127 = .ok (.getfield 42, 3) := by decide +kernel
theorem dX2_partOf_130 : decode cX2_partOf 130 = .ok (.iload_n 1, 1) := by decide +kernel
theorem dX2_partOf_131 : decode cX2_partOf 131 = .ok (.iaload, 1) := by decide +kernel
theorem dX2_partOf_132 : decode cX2_partOf 132 = .ok (.ireturn, 1) := by decide +kernel
theorem dX2_wireSum_0 : decode cX2_wireSum 0 = .ok (.iconst 0, 1) := by decide +kernel
theorem dX2_wireSum_1 : decode cX2_wireSum 1 = .ok (.istore_n 1, 1) := by decide +kernel
theorem dX2_wireSum_2 : decode cX2_wireSum 2 = .ok (.iconst 0, 1) := by decide +kernel
theorem dX2_wireSum_3 : decode cX2_wireSum 3 = .ok (.istore_n 2, 1) := by decide +kernel
theorem dX2_wireSum_4 : decode cX2_wireSum 4 = .ok (.iload_n 2, 1) := by decide +kernel
theorem dX2_wireSum_5 : decode cX2_wireSum 5 = .ok (.aload_n 0, 1) := by decide +kernel
theorem dX2_wireSum_6 : decode cX2_wireSum 6 = .ok (.getfield 52, 3) := by decide +kernel
theorem dX2_wireSum_9 : decode cX2_wireSum 9 = .ok (.if_icmp .ge 18, 3) := by decide +kernel
theorem dX2_wireSum_12 : decode cX2_wireSum 12 = .ok (.iload_n 1, 1) := by decide +kernel
theorem dX2_wireSum_13 : decode cX2_wireSum 13 = .ok (.aload_n 0, 1) := by decide +kernel
theorem dX2_wireSum_14 : decode cX2_wireSum 14 = .ok (.getfield 36, 3) := by decide +kernel
theorem dX2_wireSum_17 : decode cX2_wireSum 17 = .ok (.iload_n 2, 1) := by decide +kernel
theorem dX2_wireSum_18 : decode cX2_wireSum 18 = .ok (.iaload, 1) := by decide +kernel
theorem dX2_wireSum_19 : decode cX2_wireSum 19 = .ok (.iadd, 1) := by decide +kernel
theorem dX2_wireSum_20 : decode cX2_wireSum 20 = .ok (.istore_n 1, 1) := by decide +kernel
theorem dX2_wireSum_21 : decode cX2_wireSum 21 = .ok (.iinc 2 1, 3) := by decide +kernel
theorem dX2_wireSum_24 : decode cX2_wireSum 24 = .ok (.goto (-20), 3) := by decide +kernel
theorem dX2_wireSum_27 : decode cX2_wireSum 27 = .ok (.iload_n 1, 1) := by decide +kernel
theorem dX2_wireSum_28 : decode cX2_wireSum 28 = .ok (.ireturn, 1) := by decide +kernel
theorem dX2_joinsAbove_0 : decode cX2_joinsAbove 0 = .ok (.iload_n 1, 1) := by decide +kernel
theorem dX2_joinsAbove_1 : decode cX2_joinsAbove 1 = .ok (.istore_n 2, 1) := by decide +kernel
theorem dX2_joinsAbove_2 : decode cX2_joinsAbove 2 = .ok (.iconst 0, 1) := by decide +kernel
theorem dX2_joinsAbove_3 : decode cX2_joinsAbove 3 = .ok (.istore_n 3, 1) := by decide +kernel
theorem dX2_joinsAbove_4 : decode cX2_joinsAbove 4 = .ok (.aload_n 0, 1) := by decide +kernel
theorem dX2_joinsAbove_5 : decode cX2_joinsAbove 5 = .ok (.getfield 48, 3) := by decide +kernel
theorem dX2_joinsAbove_8 : decode cX2_joinsAbove 8 = .ok (.istore 4, 2) := by decide +kernel
theorem dX2_joinsAbove_10 : decode cX2_joinsAbove 10 = .ok (.iload 4, 2) := by decide +kernel
theorem dX2_joinsAbove_12 : decode cX2_joinsAbove 12 = .ok (.aload_n 0, 1) := by decide +kernel
theorem dX2_joinsAbove_13 : decode cX2_joinsAbove 13 = .ok (.getfield 52, 3) := by decide +kernel
theorem dX2_joinsAbove_16 : decode cX2_joinsAbove 16 = .ok (.if_icmp .ge 26, 3) := by decide +kernel
theorem dX2_joinsAbove_19 : decode cX2_joinsAbove 19 = .ok (.aload_n 0, 1) := by decide +kernel
theorem dX2_joinsAbove_20 : decode cX2_joinsAbove 20 = .ok (.getfield 18, 3) := by decide +kernel
theorem dX2_joinsAbove_23 : decode cX2_joinsAbove 23 = .ok (.iload_n 2, 1) := by decide +kernel
theorem dX2_joinsAbove_24 : decode cX2_joinsAbove 24 = .ok (.iaload, 1) := by decide +kernel
theorem dX2_joinsAbove_25 : decode cX2_joinsAbove 25 = .ok (.iload 4, 2) := by decide +kernel
theorem dX2_joinsAbove_27 : decode cX2_joinsAbove 27 = .ok (.if_icmp .ne 9, 3) := by decide +kernel
theorem dX2_joinsAbove_30 : decode cX2_joinsAbove 30 = .ok (.iload 4, 2) := by decide +kernel
theorem dX2_joinsAbove_32 : decode cX2_joinsAbove 32 = .ok (.istore_n 2, 1) := by decide +kernel
theorem dX2_joinsAbove_33 : decode cX2_joinsAbove 33 = .ok (.iinc 3 1, 3) := by decide +kernel
theorem dX2_joinsAbove_36 : decode cX2_joinsAbove 36 = .ok (.iinc 4 1, 3) := by decide +kernel
theorem dX2_joinsAbove_39 : decode cX2_joinsAbove 39 = .ok (.goto (-29), 3) := by decide +kernel
theorem dX2_joinsAbove_42 : decode cX2_joinsAbove 42 = .ok (.iload_n 3, 1) := by decide +kernel
theorem dX2_joinsAbove_43 : decode cX2_joinsAbove 43 = .ok (.ireturn, 1) := by decide +kernel
theorem dX2_bitOf_0 : decode cX2_bitOf 0 = .ok (.iconst 1, 1) := by decide +kernel
theorem dX2_bitOf_1 : decode cX2_bitOf 1 = .ok (.iload_n 1, 1) := by decide +kernel
theorem dX2_bitOf_2 : decode cX2_bitOf 2 = .ok (.aload_n 0, 1) := by decide +kernel
theorem dX2_bitOf_3 : decode cX2_bitOf 3 = .ok (.getfield 48, 3) := by decide +kernel
theorem dX2_bitOf_6 : decode cX2_bitOf 6 = .ok (.isub, 1) := by decide +kernel
theorem dX2_bitOf_7 : decode cX2_bitOf 7 = .ok (.ishl, 1) := by decide +kernel
theorem dX2_bitOf_8 : decode cX2_bitOf 8 = .ok (.ireturn, 1) := by decide +kernel
set_option maxRecDepth 20000 in
theorem ggX3_init_X1_init : GoodIn wsX3_init wsX1_init := goodIn_r _ [21, 22, 2, 3, 23, 24, 25, 26, 27, 28, 60, 61, 62, 63, 64] (by decide +kernel) (by decide +kernel)
set_option maxRecDepth 20000 in
theorem gX3_init_X1_init_n11 : GoodIn wsX3_init (wsX1_init) := ggX3_init_X1_init
set_option maxRecDepth 20000 in
theorem ggX3_init_X2_init : GoodIn wsX3_init wsX2_init := goodIn_r _ [30, 31, 2, 3, 23, 32, 33, 34, 35, 36, 37, 38, 39, 40, 41, 42, 43, 44, 45, 72, 73, 74, 75, 76, 77, 78, 79, 80, 81, 82, 83, 84, 85] (by decide +kernel) (by decide +kernel)
set_option maxRecDepth 20000 in
theorem gX3_init_X2_init_n18 : GoodIn wsX3_init (wsX2_init) := ggX3_init_X2_init
set_option maxRecDepth 20000 in
theorem ggX3_init_X0_init : GoodIn wsX3_init wsX0_init := goodIn_r _ [47, 48, 2, 3, 49, 50, 51, 52, 53, 54, 55, 56, 57, 58, 59, 86, 87, 88, 89, 90, 91, 92, 93, 94, 95] (by decide +kernel) (by decide +kernel)
set_option maxRecDepth 20000 in
theorem gX3_init_X0_init_n25 : GoodIn wsX3_init (wsX0_init) := ggX3_init_X0_init
theorem dX3_init_0 : decode cX3_init 0 = .ok (.aload_n 0, 1) := by decide +kernel
theorem dX3_init_1 : decode cX3_init 1 = .ok (.invokespecial 3, 3) := by decide +kernel
theorem dX3_init_4 : decode cX3_init 4 = .ok (.aload_n 0, 1) := by decide +kernel
theorem dX3_init_5 : decode cX3_init 5 = .ok (.new 9, 3) := by decide +kernel
theorem dX3_init_8 : decode cX3_init 8 = .ok (.dup, 1) := by decide +kernel
theorem dX3_init_9 : decode cX3_init 9 = .ok (.invokespecial 11, 3) := by decide +kernel
theorem dX3_init_12 : decode cX3_init 12 = .ok (.putfield 12, 3) := by decide +kernel
theorem dX3_init_15 : decode cX3_init 15 = .ok (.aload_n 0, 1) := by decide +kernel
theorem dX3_init_16 : decode cX3_init 16 = .ok (.new 16, 3) := by decide +kernel
theorem dX3_init_19 : decode cX3_init 19 = .ok (.dup, 1) := by decide +kernel
theorem dX3_init_20 : decode cX3_init 20 = .ok (.invokespecial 18, 3) := by decide +kernel
theorem dX3_init_23 : decode cX3_init 23 = .ok (.putfield 19, 3) := by decide +kernel
theorem dX3_init_26 : decode cX3_init 26 = .ok (.aload_n 0, 1) := by decide +kernel
theorem dX3_init_27 : decode cX3_init 27 = .ok (.new 23, 3) := by decide +kernel
theorem dX3_init_30 : decode cX3_init 30 = .ok (.dup, 1) := by decide +kernel
theorem dX3_init_31 : decode cX3_init 31 = .ok (.invokespecial 25, 3) := by decide +kernel
theorem dX3_init_34 : decode cX3_init 34 = .ok (.putfield 26, 3) := by decide +kernel
theorem dX3_init_37 : decode cX3_init 37 = .ok (.aload_n 0, 1) := by decide +kernel
theorem dX3_init_38 : decode cX3_init 38 = .ok (.iconst 0, 1) := by decide +kernel
theorem dX3_init_39 : decode cX3_init 39 = .ok (.putfield 30, 3) := by decide +kernel
theorem dX3_init_42 : decode cX3_init 42 = .ok (.aload_n 0, 1) := by decide +kernel
theorem dX3_init_43 : decode cX3_init 43 = .ok (.iconst 0, 1) := by decide +kernel
theorem dX3_init_44 : decode cX3_init 44 = .ok (.putfield 34, 3) := by decide +kernel
theorem dX3_init_47 : decode cX3_init 47 = .ok (.aload_n 0, 1) := by decide +kernel
theorem dX3_init_48 : decode cX3_init 48 = .ok (.iconst 0, 1) := by decide +kernel
theorem dX3_init_49 : decode cX3_init 49 = .ok (.putfield 37, 3) := by decide +kernel
theorem dX3_init_52 : decode cX3_init 52 = .ok (.aload_n 0, 1) := by decide +kernel
theorem dX3_init_53 : decode cX3_init 53 = .ok (.iconst 0, 1) := by decide +kernel
theorem dX3_init_54 : decode cX3_init 54 = .ok (.putfield 41, 3) := by decide +kernel
theorem dX3_init_57 : decode cX3_init 57 = .ok (.return_, 1) := by decide +kernel
set_option maxRecDepth 20000 in
theorem ggX3_sink_X3_isPlace : GoodIn wsX3_sink wsX3_isPlace := goodIn_r _ [12, 13, 14, 11, 15] (by decide +kernel) (by decide +kernel)
set_option maxRecDepth 20000 in
theorem gX3_sink_X3_isPlace : GoodIn wsX3_sink (va_wsS RX3 44 yX3_isPlace wsX3_isPlace) := goodIn_app (goodIn_of _ (by decide +kernel)) ggX3_sink_X3_isPlace
set_option maxRecDepth 20000 in
theorem ggX3_sink_X3_isWithin : GoodIn wsX3_sink wsX3_isWithin := goodIn_r _ [15] (by decide +kernel) (by decide +kernel)
set_option maxRecDepth 20000 in
theorem gX3_sink_X3_isWithin : GoodIn wsX3_sink (va_wsS RX3 48 yX3_isWithin wsX3_isWithin) := goodIn_app (goodIn_of _ (by decide +kernel)) ggX3_sink_X3_isWithin
set_option maxRecDepth 20000 in
theorem ggX3_sink_X1_append : GoodIn wsX3_sink wsX1_append := goodIn_r _ [20, 21, 22, 23, 24, 25, 33, 34, 35, 36, 37] (by decide +kernel) (by decide +kernel)
set_option maxRecDepth 20000 in
theorem gX3_sink_X1_append : GoodIn wsX3_sink (wsV RX3 68 RX1 yX1_append wsX1_append) := goodIn_app (goodIn_of _ (by decide +kernel)) ggX3_sink_X1_append
theorem dX3_sink_0 : decode cX3_sink 0 = .ok (.iload_n 1, 1) := by decide +kernel
theorem dX3_sink_1 : decode cX3_sink 1 = .ok (.iload_n 2, 1) := by decide +kernel
theorem dX3_sink_2 : decode cX3_sink 2 = .ok (.invokestatic 44, 3) := by decide +kernel
theorem dX3_sink_5 : decode cX3_sink 5 = .ok (.ifCond .eq 24, 3) := by decide +kernel
theorem dX3_sink_8 : decode cX3_sink 8 = .ok (.iload_n 3, 1) := by decide +kernel
theorem dX3_sink_9 : decode cX3_sink 9 = .ok (.iconst 1, 1) := by decide +kernel
theorem dX3_sink_10 : decode cX3_sink 10 = .ok (.bipush 100, 2) := by decide +kernel
theorem dX3_sink_12 : decode cX3_sink 12 = .ok (.invokestatic 48, 3) := by decide +kernel
theorem dX3_sink_15 : decode cX3_sink 15 = .ok (.ifCond .eq 14, 3) := by decide +kernel
theorem dX3_sink_18 : decode cX3_sink 18 = .ok (.iload 4, 2) := by decide +kernel
theorem dX3_sink_20 : decode cX3_sink 20 = .ok (.iconst 0, 1) := by decide +kernel
theorem dX3_sink_21 : decode cX3_sink 21 = .ok (.ldc 52, 2) := by decide +kernel
theorem dX3_sink_23 : decode cX3_sink 23 = .ok (.invokestatic 48, 3) := by decide +kernel
theorem dX3_sink_26 : decode cX3_sink 26 = .ok (.ifCond .ne 13, 3) := by decide +kernel
theorem dX3_sink_29 : decode cX3_sink 29 = .ok (.new 53, 3) := by decide +kernel
theorem dX3_sink_32 : decode cX3_sink 32 = .ok (.dup, 1) := by decide +kernel
theorem dX3_sink_33 : decode cX3_sink 33 = .ok (.ldc 55, 2) := by decide +kernel
theorem dX3_sink_35 : decode cX3_sink 35 = .ok (.invokespecial 57, 3) := by decide +kernel
theorem dX3_sink_38 : decode cX3_sink 38 = .ok (.athrow, 1) := by decide +kernel
theorem dX3_sink_39 : decode cX3_sink 39 = .ok (.aload_n 0, 1) := by decide +kernel
theorem dX3_sink_40 : decode cX3_sink 40 = .ok (.getfield 12, 3) := by decide +kernel
theorem dX3_sink_43 : decode cX3_sink 43 = .ok (.getfield 60, 3) := by decide +kernel
theorem dX3_sink_46 : decode cX3_sink 46 = .ok (.bipush 10, 2) := by decide +kernel
theorem dX3_sink_48 : decode cX3_sink 48 = .ok (.if_icmp .lt 13, 3) := by decide +kernel
theorem dX3_sink_51 : decode cX3_sink 51 = .ok (.new 63, 3) := by decide +kernel
theorem dX3_sink_54 : decode cX3_sink 54 = .ok (.dup, 1) := by decide +kernel
theorem dX3_sink_55 : decode cX3_sink 55 = .ok (.ldc 65, 2) := by decide +kernel
theorem dX3_sink_57 : decode cX3_sink 57 = .ok (.invokespecial 67, 3) := by decide +kernel
theorem dX3_sink_60 : decode cX3_sink 60 = .ok (.athrow, 1) := by decide +kernel
theorem dX3_sink_61 : decode cX3_sink 61 = .ok (.aload_n 0, 1) := by decide +kernel
theorem dX3_sink_62 : decode cX3_sink 62 = .ok (.iconst 0, 1) := by decide +kernel
theorem dX3_sink_63 : decode cX3_sink 63 = .ok (.putfield 37, 3) := by decide +kernel
theorem dX3_sink_66 : decode cX3_sink 66 = .ok (.aload_n 0, 1) := by decide +kernel
theorem dX3_sink_67 : decode cX3_sink 67 = .ok (.getfield 12, 3) := by decide +kernel
theorem dX3_sink_70 : decode cX3_sink 70 = .ok (.iload_n 1, 1) := by decide +kernel
theorem dX3_sink_71 : decode cX3_sink 71 = .ok (.iload_n 2, 1) := by decide +kernel
theorem dX3_sink_72 : decode cX3_sink 72 = .ok (.iload_n 3, 1) := by decide +kernel
theorem dX3_sink_73 : decode cX3_sink 73 = .ok (.iload 4, 2) := by decide +kernel
theorem dX3_sink_75 : decode cX3_sink 75 = .ok (.invokevirtual 68, 3) := by decide +kernel
theorem dX3_sink_78 : decode cX3_sink 78 = .ok (.ireturn, 1) := by decide +kernel
set_option maxRecDepth 20000 in
theorem ggX3_cut_X3_isWithin : GoodIn wsX3_cut wsX3_isWithin := goodIn_r _ [9] (by decide +kernel) (by decide +kernel)
set_option maxRecDepth 20000 in
theorem gX3_cut_X3_isWithin : GoodIn wsX3_cut (va_wsS RX3 48 yX3_isWithin wsX3_isWithin) := goodIn_app (goodIn_of _ (by decide +kernel)) ggX3_cut_X3_isWithin
theorem dX3_cut_0 : decode cX3_cut 0 = .ok (.iload_n 1, 1) := by decide +kernel
theorem dX3_cut_1 : decode cX3_cut 1 = .ok (.iconst 0, 1) := by decide +kernel
theorem dX3_cut_2 : decode cX3_cut 2 = .ok (.aload_n 0, 1) := by decide +kernel
theorem dX3_cut_3 : decode cX3_cut 3 = .ok (.getfield 12, 3) := by decide +kernel
theorem dX3_cut_6 : decode cX3_cut 6 = .ok (.getfield 60, 3) := by decide +kernel
theorem dX3_cut_9 : decode cX3_cut 9 = .ok (.invokestatic 48, 3) := by decide +kernel
theorem dX3_cut_12 : decode cX3_cut 12 = .ok (.ifCond .ne 13, 3) := by decide +kernel
theorem dX3_cut_15 : decode cX3_cut 15 = .ok (.new 53, 3) := by decide +kernel
theorem dX3_cut_18 : decode cX3_cut 18 = .ok (.dup, 1) := by decide +kernel
theorem dX3_cut_19 : decode cX3_cut 19 = .ok (.ldc 72, 2) := by decide +kernel
theorem dX3_cut_21 : decode cX3_cut 21 = .ok (.invokespecial 57, 3) := by decide +kernel
theorem dX3_cut_24 : decode cX3_cut 24 = .ok (.athrow, 1) := by decide +kernel
theorem dX3_cut_25 : decode cX3_cut 25 = .ok (.aload_n 0, 1) := by decide +kernel
theorem dX3_cut_26 : decode cX3_cut 26 = .ok (.iconst 0, 1) := by decide +kernel
theorem dX3_cut_27 : decode cX3_cut 27 = .ok (.putfield 37, 3) := by decide +kernel
theorem dX3_cut_30 : decode cX3_cut 30 = .ok (.aload_n 0, 1) := by decide +kernel
theorem dX3_cut_31 : decode cX3_cut 31 = .ok (.getfield 12, 3) := by decide +kernel
theorem dX3_cut_34 : decode cX3_cut 34 = .ok (.iload_n 1, 1) := by decide +kernel
theorem dX3_cut_35 : decode cX3_cut 35 = .ok (.putfield 60, 3) := by decide +kernel
theorem dX3_cut_38 : decode cX3_cut 38 = .ok (.return_, 1) := by decide +kernel
set_option maxRecDepth 20000 in
theorem ggX3_source_X3_isPlace : GoodIn wsX3_source wsX3_isPlace := goodIn_r _ [9, 10, 11, 8, 12] (by decide +kernel) (by decide +kernel)
set_option maxRecDepth 20000 in
theorem gX3_source_X3_isPlace : GoodIn wsX3_source (va_wsS RX3 44 yX3_isPlace wsX3_isPlace) := goodIn_app (goodIn_of _ (by decide +kernel)) ggX3_source_X3_isPlace
theorem dX3_source_0 : decode cX3_source 0 = .ok (.iload_n 1, 1) := by decide +kernel
theorem dX3_source_1 : decode cX3_source 1 = .ok (.iload_n 2, 1) := by decide +kernel
theorem dX3_source_2 : decode cX3_source 2 = .ok (.invokestatic 44, 3) := by decide +kernel
theorem dX3_source_5 : decode cX3_source 5 = .ok (.ifCond .ne 13, 3) := by decide +kernel
theorem dX3_source_8 : decode cX3_source 8 = .ok (.new 53, 3) := by decide +kernel
theorem dX3_source_11 : decode cX3_source 11 = .ok (.dup, 1) := by decide +kernel
theorem dX3_source_12 : decode cX3_source 12 = .ok (.ldc 74, 2) := by decide +kernel
theorem dX3_source_14 : decode cX3_source 14 = .ok (.invokespecial 57, 3) := by decide +kernel
theorem dX3_source_17 : decode cX3_source 17 = .ok (.athrow, 1) := by decide +kernel
theorem dX3_source_18 : decode cX3_source 18 = .ok (.aload_n 0, 1) := by decide +kernel
theorem dX3_source_19 : decode cX3_source 19 = .ok (.iconst 0, 1) := by decide +kernel
theorem dX3_source_20 : decode cX3_source 20 = .ok (.putfield 37, 3) := by decide +kernel
theorem dX3_source_23 : decode cX3_source 23 = .ok (.aload_n 0, 1) := by decide +kernel
theorem dX3_source_24 : decode cX3_source 24 = .ok (.iload_n 1, 1) := by decide +kernel
theorem dX3_source_25 : decode cX3_source 25 = .ok (.putfield 30, 3) := by decide +kernel
theorem dX3_source_28 : decode cX3_source 28 = .ok (.aload_n 0, 1) := by decide +kernel
theorem dX3_source_29 : decode cX3_source 29 = .ok (.iload_n 2, 1) := by decide +kernel
theorem dX3_source_30 : decode cX3_source 30 = .ok (.putfield 34, 3) := by decide +kernel
theorem dX3_source_33 : decode cX3_source 33 = .ok (.return_, 1) := by decide +kernel
set_option maxRecDepth 20000 in
theorem ggX3_wires_X3_isWithin : GoodIn wsX3_wires wsX3_isWithin := goodIn_r _ [9] (by decide +kernel) (by decide +kernel)
set_option maxRecDepth 20000 in
theorem gX3_wires_X3_isWithin : GoodIn wsX3_wires (va_wsS RX3 48 yX3_isWithin wsX3_isWithin) := goodIn_app (goodIn_of _ (by decide +kernel)) ggX3_wires_X3_isWithin
theorem dX3_wires_0 : decode cX3_wires 0 = .ok (.iload_n 1, 1) := by decide +kernel
theorem dX3_wires_1 : decode cX3_wires 1 = .ok (.iconst 1, 1) := by decide +kernel
theorem dX3_wires_2 : decode cX3_wires 2 = .ok (.bipush 20, 2) := by decide +kernel
theorem dX3_wires_4 : decode cX3_wires 4 = .ok (.invokestatic 48, 3) := by decide +kernel
theorem dX3_wires_7 : decode cX3_wires 7 = .ok (.ifCond .eq 13, 3) := by decide +kernel
theorem dX3_wires_10 : decode cX3_wires 10 = .ok (.iload_n 2, 1) := by decide +kernel
theorem dX3_wires_11 : decode cX3_wires 11 = .ok (.iconst 1, 1) := by decide +kernel
theorem dX3_wires_12 : decode cX3_wires 12 = .ok (.bipush 20, 2) := by decide +kernel
theorem dX3_wires_14 : decode cX3_wires 14 = .ok (.invokestatic 48, 3) := by decide +kernel
theorem dX3_wires_17 : decode cX3_wires 17 = .ok (.ifCond .ne 13, 3) := by decide +kernel
theorem dX3_wires_20 : decode cX3_wires 20 = .ok (.new 53, 3) := by decide +kernel
theorem dX3_wires_23 : decode cX3_wires 23 = .ok (.dup, 1) := by decide +kernel
theorem dX3_wires_24 : decode cX3_wires 24 = .ok (.ldc 76, 2) := by decide +kernel
theorem dX3_wires_26 : decode cX3_wires 26 = .ok (.invokespecial 57, 3) := by decide +kernel
theorem dX3_wires_29 : decode cX3_wires 29 = .ok (.athrow, 1) := by decide +kernel
theorem dX3_wires_30 : decode cX3_wires 30 = .ok (.aload_n 0, 1) := by decide +kernel
theorem dX3_wires_31 : decode cX3_wires 31 = .ok (.getfield 26, 3) := by decide +kernel
theorem dX3_wires_34 : decode cX3_wires 34 = .ok (.iload_n 1, 1) := by decide +kernel
theorem dX3_wires_35 : decode cX3_wires 35 = .ok (.putfield 78, 3) := by decide +kernel
theorem dX3_wires_38 : decode cX3_wires 38 = .ok (.aload_n 0, 1) := by decide +kernel
theorem dX3_wires_39 : decode cX3_wires 39 = .ok (.getfield 26, 3) := by decide +kernel
theorem dX3_wires_42 : decode cX3_wires 42 = .ok (.iload_n 2, 1) := by decide +kernel
theorem dX3_wires_43 : decode cX3_wires 43 = .ok (.putfield 81, 3) := by decide +kernel
theorem dX3_wires_46 : decode cX3_wires 46 = .ok (.return_, 1) := by decide +kernel
set_option maxRecDepth 20000 in
theorem ggX3_buffer_X3_isWithin : GoodIn wsX3_buffer wsX3_isWithin := goodIn_r _ [12] (by decide +kernel) (by decide +kernel)
set_option maxRecDepth 20000 in
theorem gX3_buffer_X3_isWithin : GoodIn wsX3_buffer (va_wsS RX3 48 yX3_isWithin wsX3_isWithin) := goodIn_app (goodIn_of _ (by decide +kernel)) ggX3_buffer_X3_isWithin
theorem dX3_buffer_0 : decode cX3_buffer 0 = .ok (.iload_n 1, 1) := by decide +kernel
theorem dX3_buffer_1 : decode cX3_buffer 1 = .ok (.iconst 1, 1) := by decide +kernel
theorem dX3_buffer_2 : decode cX3_buffer 2 = .ok (.ldc 84, 2) := by decide +kernel
theorem dX3_buffer_4 : decode cX3_buffer 4 = .ok (.invokestatic 48, 3) := by decide +kernel
theorem dX3_buffer_7 : decode cX3_buffer 7 = .ok (.ifCond .eq 24, 3) := by decide +kernel
theorem dX3_buffer_10 : decode cX3_buffer 10 = .ok (.iload_n 2, 1) := by decide +kernel
theorem dX3_buffer_11 : decode cX3_buffer 11 = .ok (.iconst 1, 1) := by decide +kernel
theorem dX3_buffer_12 : decode cX3_buffer 12 = .ok (.sipush 1000, 3) := by decide +kernel
theorem dX3_buffer_15 : decode cX3_buffer 15 = .ok (.invokestatic 48, 3) := by decide +kernel
theorem dX3_buffer_18 : decode cX3_buffer 18 = .ok (.ifCond .eq 13, 3) := by decide +kernel
theorem dX3_buffer_21 : decode cX3_buffer 21 = .ok (.iload_n 3, 1) := by decide +kernel
theorem dX3_buffer_22 : decode cX3_buffer 22 = .ok (.iconst 0, 1) := by decide +kernel
theorem dX3_buffer_23 : decode cX3_buffer 23 = .ok (.ldc 52, 2) := by decide +kernel
theorem dX3_buffer_25 : decode cX3_buffer 25 = .ok (.invokestatic 48, 3) := by decide +kernel
theorem dX3_buffer_28 : decode cX3_buffer 28 = .ok (.ifCond .ne 13, 3) := by decide +kernel
theorem dX3_buffer_31 : decode cX3_buffer 31 = .ok (.new 53, 3) := by decide +kernel
theorem dX3_buffer_34 : decode cX3_buffer 34 = .ok (.dup, 1) := by decide +kernel
theorem dX3_buffer_35 : decode cX3_buffer 35 = .ok (.ldc 85, 2) := by decide +kernel
theorem dX3_buffer_37 : decode cX3_buffer 37 = .ok (.invokespecial 57, 3) := by decide +kernel
theorem dX3_buffer_40 : decode cX3_buffer 40 = .ok (.athrow, 1) := by decide +kernel
theorem dX3_buffer_41 : decode cX3_buffer 41 = .ok (.aload_n 0, 1) := by decide +kernel
theorem dX3_buffer_42 : decode cX3_buffer 42 = .ok (.getfield 26, 3) := by decide +kernel
theorem dX3_buffer_45 : decode cX3_buffer 45 = .ok (.iload_n 1, 1) := by decide +kernel
theorem dX3_buffer_46 : decode cX3_buffer 46 = .ok (.putfield 87, 3) := by decide +kernel
theorem dX3_buffer_49 : decode cX3_buffer 49 = .ok (.aload_n 0, 1) := by decide +kernel
theorem dX3_buffer_50 : decode cX3_buffer 50 = .ok (.getfield 26, 3) := by decide +kernel
theorem dX3_buffer_53 : decode cX3_buffer 53 = .ok (.iload_n 2, 1) := by decide +kernel
theorem dX3_buffer_54 : decode cX3_buffer 54 = .ok (.putfield 90, 3) := by decide +kernel
theorem dX3_buffer_57 : decode cX3_buffer 57 = .ok (.aload_n 0, 1) := by decide +kernel
theorem dX3_buffer_58 : decode cX3_buffer 58 = .ok (.getfield 26, 3) := by decide +kernel
theorem dX3_buffer_61 : decode cX3_buffer 61 = .ok (.iload_n 3, 1) := by decide +kernel
theorem dX3_buffer_62 : decode cX3_buffer 62 = .ok (.putfield 93, 3) := by decide +kernel
theorem dX3_buffer_65 : decode cX3_buffer 65 = .ok (.return_, 1) := by decide +kernel
theorem dX3_sinks_0 : decode cX3_sinks 0 = .ok (.aload_n 0, 1) := by decide +kernel
theorem dX3_sinks_1 : decode cX3_sinks 1 = .ok (.getfield 12, 3) := by decide +kernel
theorem dX3_sinks_4 : decode cX3_sinks 4 = .ok (.getfield 60, 3) := by decide +kernel
theorem dX3_sinks_7 : decode cX3_sinks 7 = .ok (.ireturn, 1) := by decide +kernel
set_option maxRecDepth 20000 in
theorem ggX3_build_X3_isWithin : GoodIn wsX3_build wsX3_isWithin := goodIn_r _ [16] (by decide +kernel) (by decide +kernel)
set_option maxRecDepth 20000 in
theorem gX3_build_X3_isWithin : GoodIn wsX3_build (va_wsS RX3 48 yX3_isWithin wsX3_isWithin) := goodIn_app (goodIn_of _ (by decide +kernel)) ggX3_build_X3_isWithin
set_option maxRecDepth 20000 in
theorem ggX3_build_X2_plantSinks : GoodIn wsX3_build wsX2_plantSinks := goodIn_r _ [21, 22, 23, 24, 25, 26, 27, 28, 29, 30, 31, 32, 33, 34, 35, 15, 36, 37, 38, 112, 113, 114, 115, 116, 117, 118, 119, 120, 121, 122, 123, 124, 125, 126, 127, 128, 129, 130] (by decide +kernel) (by decide +kernel)
set_option maxRecDepth 20000 in
theorem gX3_build_X2_plantSinks : GoodIn wsX3_build (wsV RX3 103 RX2 yX2_plantSinks wsX2_plantSinks) := goodIn_app (goodIn_of _ (by decide +kernel)) ggX3_build_X2_plantSinks
set_option maxRecDepth 20000 in
theorem ggX3_build_X2_joinByDistance : GoodIn wsX3_build wsX2_joinByDistance := goodIn_r _ [42, 23, 43, 44, 45, 20, 46, 47, 24, 29, 48, 49, 50, 51, 30, 31, 32, 33, 52, 53, 54, 55, 56, 57, 58, 59, 60, 61, 62, 27, 28, 63, 64, 65, 66, 34, 67, 68, 69, 70, 117, 118, 119, 120, 121, 122, 123, 124, 125, 126, 127, 128, 129, 130] (by decide +kernel) (by decide +kernel)
set_option maxRecDepth 20000 in
theorem gX3_build_X2_joinByDistance : GoodIn wsX3_build (wsV RX3 107 RX2 yX2_joinByDistance wsX2_joinByDistance) := goodIn_app (goodIn_of _ (by decide +kernel)) ggX3_build_X2_joinByDistance
set_option maxRecDepth 20000 in
theorem ggX3_build_X2_joinByCutting : GoodIn wsX3_build wsX2_joinByCutting := goodIn_r _ [74, 23, 75, 76, 77, 20, 78, 79, 80, 81, 82, 83, 84, 85, 86, 87, 88, 89, 59, 60, 61, 62, 24, 27, 28, 29, 30, 63, 52, 53, 54, 55, 31, 64, 65, 66, 32, 33, 34, 48, 49, 50, 51, 56, 57, 58, 67, 68, 69, 70, 117, 118, 119, 120, 121, 122, 123, 124, 125, 126, 127, 128, 129, 130, 112, 113, 114, 115, 116] (by decide +kernel) (by decide +kernel)
set_option maxRecDepth 20000 in
theorem gX3_build_X2_joinByCutting : GoodIn wsX3_build (wsV RX3 110 RX2 yX2_joinByCutting wsX2_joinByCutting) := goodIn_app (goodIn_of _ (by decide +kernel)) ggX3_build_X2_joinByCutting
set_option maxRecDepth 20000 in
theorem ggX3_build_X3_placeU : GoodIn wsX3_build wsX3_placeU := goodIn_r _ [36] (by decide +kernel) (by decide +kernel)
set_option maxRecDepth 20000 in
theorem gX3_build_X3_placeU : GoodIn wsX3_build (va_wsS RX3 113 yX3_placeU wsX3_placeU) := goodIn_app (goodIn_of _ (by decide +kernel)) ggX3_build_X3_placeU
set_option maxRecDepth 20000 in
theorem ggX3_build_X3_placeV : GoodIn wsX3_build wsX3_placeV := goodIn_r _ [38] (by decide +kernel) (by decide +kernel)
set_option maxRecDepth 20000 in
theorem gX3_build_X3_placeV : GoodIn wsX3_build (va_wsS RX3 117 yX3_placeV wsX3_placeV) := goodIn_app (goodIn_of _ (by decide +kernel)) ggX3_build_X3_placeV
set_option maxRecDepth 20000 in
theorem ggX3_build_X2_choosePlaces : GoodIn wsX3_build wsX2_choosePlaces := goodIn_r _ [95, 24, 63, 96, 97, 98, 54, 99, 100, 52, 53, 55, 29, 101, 102, 103, 20, 104, 30, 31, 64, 65, 66, 32, 33, 117, 118, 119, 120, 121, 122, 123, 124, 125, 126, 127, 128, 129, 130] (by decide +kernel) (by decide +kernel)
set_option maxRecDepth 20000 in
theorem gX3_build_X2_choosePlaces : GoodIn wsX3_build (wsV RX3 120 RX2 yX2_choosePlaces wsX2_choosePlaces) := goodIn_app (goodIn_of _ (by decide +kernel)) ggX3_build_X2_choosePlaces
theorem dX3_build_0 : decode cX3_build 0 = .ok (.iload_n 1, 1) := by decide +kernel
theorem dX3_build_1 : decode cX3_build 1 = .ok (.iconst 0, 1) := by decide +kernel
theorem dX3_build_2 : decode cX3_build 2 = .ok (.iconst 1, 1) := by decide +kernel
theorem dX3_build_3 : decode cX3_build 3 = .ok (.invokestatic 48, 3) := by decide +kernel
theorem dX3_build_6 : decode cX3_build 6 = .ok (.ifCond .ne 13, 3) := by decide +kernel
theorem dX3_build_9 : decode cX3_build 9 = .ok (.new 53, 3) := by decide +kernel
theorem dX3_build_12 : decode cX3_build 12 = .ok (.dup, 1) := by decide +kernel
theorem dX3_build_13 : decode cX3_build 13 = .ok (.ldc 96, 2) := by decide +kernel
theorem dX3_build_15 : decode cX3_build 15 = .ok (.invokespecial 57, 3) := by decide +kernel
theorem dX3_build_18 : decode cX3_build 18 = .ok (.athrow, 1) := by decide +kernel
theorem dX3_build_19 : decode cX3_build 19 = .ok (.aload_n 0, 1) := by decide +kernel
theorem dX3_build_20 : decode cX3_build 20 = .ok (.getfield 12, 3) := by decide +kernel
theorem dX3_build_23 : decode cX3_build 23 = .ok (.getfield 60, 3) := by decide +kernel
theorem dX3_build_26 : decode cX3_build 26 = .ok (.ifCond .ne 13, 3) := by decide +kernel
theorem dX3_build_29 : decode cX3_build 29 = .ok (.new 98, 3) := by decide +kernel
theorem dX3_build_32 : decode cX3_build 32 = .ok (.dup, 1) := by decide +kernel
theorem dX3_build_33 : decode cX3_build 33 = .ok (.ldc 100, 2) := by decide +kernel
theorem dX3_build_35 : decode cX3_build 35 = .ok (.invokespecial 102, 3) := by decide +kernel
theorem dX3_build_38 : decode cX3_build 38 = .ok (.athrow, 1) := by decide +kernel
theorem dX3_build_39 : decode cX3_build 39 = .ok (.aload_n 0, 1) := by decide +kernel
theorem dX3_build_40 : decode cX3_build 40 = .ok (.getfield 19, 3) := by decide +kernel
theorem dX3_build_43 : decode cX3_build 43 = .ok (.aload_n 0, 1) := by decide +kernel
theorem dX3_build_44 : decode cX3_build 44 = .ok (.getfield 12, 3) := by decide +kernel
theorem dX3_build_47 : decode cX3_build 47 = .ok (.invokevirtual 103, 3) := by decide +kernel
theorem dX3_build_50 : decode cX3_build 50 = .ok (.iload_n 1, 1) := by decide +kernel
theorem dX3_build_51 : decode cX3_build 51 = .ok (.ifCond .ne 13, 3) := by decide +kernel
theorem dX3_build_54 : decode cX3_build 54 = .ok (.aload_n 0, 1) := by decide +kernel
theorem dX3_build_55 : decode cX3_build 55 = .ok (.getfield 19, 3) := by decide +kernel
theorem dX3_build_58 : decode cX3_build 58 = .ok (.invokevirtual 107, 3) := by decide +kernel
theorem dX3_build_61 : decode cX3_build 61 = .ok (.goto 14, 3) := by decide +kernel
theorem dX3_build_64 : decode cX3_build 64 = .ok (.aload_n 0, 1) := by decide +kernel
theorem dX3_build_65 : decode cX3_build 65 = .ok (.getfield 19, 3) := by decide +kernel
theorem dX3_build_68 : decode cX3_build 68 = .ok (.aload_n 0, 1) := by decide +kernel
theorem dX3_build_69 : decode cX3_build 69 = .ok (.getfield 12, 3) := by decide +kernel
theorem dX3_build_72 : decode cX3_build 72 = .ok (.invokevirtual 110, 3) := by decide +kernel
theorem dX3_build_75 : decode cX3_build 75 = .ok (.aload_n 0, 1) := by decide +kernel
theorem dX3_build_76 : decode cX3_build 76 = .ok (.getfield 19, 3) := by decide +kernel
theorem dX3_build_79 : decode cX3_build 79 = .ok (.aload_n 0, 1) := by decide +kernel
theorem dX3_build_80 : decode cX3_build 80 = .ok (.getfield 30, 3) := by decide +kernel
theorem dX3_build_83 : decode cX3_build 83 = .ok (.aload_n 0, 1) := by decide +kernel
theorem dX3_build_84 : decode cX3_build 84 = .ok (.getfield 34, 3) := by decide +kernel
theorem dX3_build_87 : decode cX3_build 87 = .ok (.invokestatic 113, 3) := by decide +kernel
theorem dX3_build_90 : decode cX3_build 90 = .ok (.aload_n 0, 1) := by decide +kernel
theorem dX3_build_91 : decode cX3_build 91 = .ok (.getfield 30, 3) := by decide +kernel
theorem dX3_build_94 : decode cX3_build 94 = .ok (.aload_n 0, 1) := by decide +kernel
theorem dX3_build_95 : decode cX3_build 95 = .ok (.getfield 34, 3) := by decide +kernel
theorem dX3_build_98 : decode cX3_build 98 = .ok (.invokestatic 117, 3) := by decide +kernel
theorem dX3_build_101 : decode cX3_build 101 = .ok (.invokevirtual 120, 3) := by decide +kernel
theorem dX3_build_104 : decode cX3_build 104 = .ok (.aload_n 0, 1) := by decide +kernel
theorem dX3_build_105 : decode cX3_build 105 = .ok (.iconst 1, 1) := by decide +kernel
theorem dX3_build_106 : decode cX3_build 106 = .ok (.putfield 37, 3) := by decide +kernel
theorem dX3_build_109 : decode cX3_build 109 = .ok (.aload_n 0, 1) := by decide +kernel
theorem dX3_build_110 : decode cX3_build 110 = .ok (.iconst 0, 1) := by decide +kernel
theorem dX3_build_111 : decode cX3_build 111 = .ok (.putfield 41, 3) := by decide +kernel
theorem dX3_build_114 : decode cX3_build 114 = .ok (.aload_n 0, 1) := by decide +kernel
theorem dX3_build_115 : decode cX3_build 115 = .ok (.getfield 19, 3) := by decide +kernel
theorem dX3_build_118 : decode cX3_build 118 = .ok (.getfield 124, 3) := by decide +kernel
theorem dX3_build_121 : decode cX3_build 121 = .ok (.ireturn, 1) := by decide +kernel
set_option maxRecDepth 20000 in
theorem ggX3_node_X3_requireTree : GoodIn wsX3_node wsX3_requireTree := goodIn_ca (goodIn_r _ [9, 10, 11, 12, 32, 33, 34, 35, 36, 37, 38] (by decide +kernel) (by decide +kernel)) (goodIn_sub (fun _ h => List.mem_cons_of_mem _ (List.mem_append_right _ h)) (by decide +kernel))
set_option maxRecDepth 20000 in
theorem gX3_node_X3_requireTree : GoodIn wsX3_node (wsV RX3 127 RX3 yX3_requireTree wsX3_requireTree) := goodIn_app (goodIn_of _ (by decide +kernel)) ggX3_node_X3_requireTree
set_option maxRecDepth 20000 in
theorem ggX3_node_X3_isWithin : GoodIn wsX3_node wsX3_isWithin := goodIn_r _ [15] (by decide +kernel) (by decide +kernel)
set_option maxRecDepth 20000 in
theorem gX3_node_X3_isWithin : GoodIn wsX3_node (va_wsS RX3 48 yX3_isWithin wsX3_isWithin) := goodIn_app (goodIn_of _ (by decide +kernel)) ggX3_node_X3_isWithin
set_option maxRecDepth 20000 in
theorem ggX3_node_X2_partOf : GoodIn wsX3_node wsX2_partOf := goodIn_r _ [20, 21, 22, 23, 24, 25, 26, 27, 28, 29, 30, 31, 39, 40, 41, 42, 43, 44, 45, 46, 47, 48, 49, 50, 51, 52] (by decide +kernel) (by decide +kernel)
set_option maxRecDepth 20000 in
theorem gX3_node_X2_partOf : GoodIn wsX3_node (wsV RX3 135 RX2 yX2_partOf wsX2_partOf) := goodIn_app (goodIn_of _ (by decide +kernel)) ggX3_node_X2_partOf
theorem dX3_node_0 : decode cX3_node 0 = .ok (.aload_n 0, 1) := by decide +kernel
theorem dX3_node_1 : decode cX3_node 1 = .ok (.invokevirtual 127, 3) := by decide +kernel
theorem dX3_node_4 : decode cX3_node 4 = .ok (.iload_n 1, 1) := by decide +kernel
theorem dX3_node_5 : decode cX3_node 5 = .ok (.iconst 0, 1) := by decide +kernel
theorem dX3_node_6 : decode cX3_node 6 = .ok (.aload_n 0, 1) := by decide +kernel
theorem dX3_node_7 : decode cX3_node 7 = .ok (.getfield 19, 3) := by decide +kernel
theorem dX3_node_10 : decode cX3_node 10 = .ok (.getfield 124, 3) := by decide +kernel
theorem dX3_node_13 : decode cX3_node 13 = .ok (.iconst 1, 1) := by decide +kernel
theorem dX3_node_14 : decode cX3_node 14 = .ok (.isub, 1) := by decide +kernel
theorem dX3_node_15 : decode cX3_node 15 = .ok (.invokestatic 48, 3) := by decide +kernel
theorem dX3_node_18 : decode cX3_node 18 = .ok (.ifCond .eq 13, 3) := by decide +kernel
theorem dX3_node_21 : decode cX3_node 21 = .ok (.iload_n 2, 1) := by decide +kernel
theorem dX3_node_22 : decode cX3_node 22 = .ok (.iconst 0, 1) := by decide +kernel
theorem dX3_node_23 : decode cX3_node 23 = .ok (.bipush 10, 2) := by decide +kernel
theorem dX3_node_25 : decode cX3_node 25 = .ok (.invokestatic 48, 3) := by decide +kernel
theorem dX3_node_28 : decode cX3_node 28 = .ok (.ifCond .ne 13, 3) := by decide +kernel
theorem dX3_node_31 : decode cX3_node 31 = .ok (.new 130, 3) := by decide +kernel
theorem dX3_node_34 : decode cX3_node 34 = .ok (.dup, 1) := by decide +kernel
theorem dX3_node_35 : decode cX3_node 35 = .ok (.ldc 132, 2) := by decide +kernel
theorem dX3_node_37 : decode cX3_node 37 = .ok (.invokespecial 134, 3) := by decide +kernel
theorem dX3_node_40 : decode cX3_node 40 = .ok (.athrow, 1) := by decide +kernel
theorem dX3_node_41 : decode cX3_node 41 = .ok (.aload_n 0, 1) := by decide +kernel
theorem dX3_node_42 : decode cX3_node 42 = .ok (.getfield 19, 3) := by decide +kernel
theorem dX3_node_45 : decode cX3_node 45 = .ok (.iload_n 1, 1) := by decide +kernel
theorem dX3_node_46 : decode cX3_node 46 = .ok (.iload_n 2, 1) := by decide +kernel
theorem dX3_node_47 : decode cX3_node 47 = .ok (.invokevirtual 135, 3) := by decide +kernel
theorem dX3_node_50 : decode cX3_node 50 = .ok (.ireturn, 1) := by decide +kernel
set_option maxRecDepth 20000 in
theorem ggX3_length_X3_requireTree : GoodIn wsX3_length wsX3_requireTree := goodIn_ca (goodIn_r _ [6, 7, 8, 9, 17, 18, 19, 20, 21, 22, 23] (by decide +kernel) (by decide +kernel)) (goodIn_sub (fun _ h => List.mem_cons_of_mem _ (List.mem_append_right _ h)) (by decide +kernel))
set_option maxRecDepth 20000 in
theorem gX3_length_X3_requireTree : GoodIn wsX3_length (wsV RX3 127 RX3 yX3_requireTree wsX3_requireTree) := goodIn_app (goodIn_of _ (by decide +kernel)) ggX3_length_X3_requireTree
set_option maxRecDepth 20000 in
theorem ggX3_length_X2_wireSum : GoodIn wsX3_length wsX2_wireSum := goodIn_r _ [14, 15, 16, 24, 25, 26, 27, 28, 29, 30, 31, 32, 33, 34, 35, 36, 37] (by decide +kernel) (by decide +kernel)
set_option maxRecDepth 20000 in
theorem gX3_length_X2_wireSum : GoodIn wsX3_length (wsV RX3 138 RX2 yX2_wireSum wsX2_wireSum) := goodIn_app (goodIn_of _ (by decide +kernel)) ggX3_length_X2_wireSum
theorem dX3_length_0 : decode cX3_length 0 = .ok (.aload_n 0, 1) := by decide +kernel
theorem dX3_length_1 : decode cX3_length 1 = .ok (.invokevirtual 127, 3) := by decide +kernel
theorem dX3_length_4 : decode cX3_length 4 = .ok (.aload_n 0, 1) := by decide +kernel
theorem dX3_length_5 : decode cX3_length 5 = .ok (.getfield 19, 3) := by decide +kernel
theorem dX3_length_8 : decode cX3_length 8 = .ok (.invokevirtual 138, 3) := by decide +kernel
theorem dX3_length_11 : decode cX3_length 11 = .ok (.ireturn, 1) := by decide +kernel
set_option maxRecDepth 20000 in
theorem ggX3_depth_X3_requireTree : GoodIn wsX3_depth wsX3_requireTree := goodIn_ca (goodIn_r _ [6, 7, 8, 9, 28, 29, 30, 31, 32, 33, 34] (by decide +kernel) (by decide +kernel)) (goodIn_sub (fun _ h => List.mem_cons_of_mem _ (List.mem_append_left _ (List.mem_append_right _ h))) (by decide +kernel))
set_option maxRecDepth 20000 in
theorem gX3_depth_X3_requireTree : GoodIn wsX3_depth (wsV RX3 127 RX3 yX3_requireTree wsX3_requireTree) := goodIn_app (goodIn_of _ (by decide +kernel)) ggX3_depth_X3_requireTree
set_option maxRecDepth 20000 in
theorem ggX3_depth_X3_requireSink : GoodIn wsX3_depth wsX3_requireSink := goodIn_ca (goodIn_r _ [13, 14, 15, 1, 16, 17, 18, 5, 19, 28, 29, 30, 31, 32, 33, 34, 35, 36, 37, 38, 39, 40, 41, 42, 43, 44, 45, 46, 47, 48] (by decide +kernel) (by decide +kernel)) (goodIn_sub (fun _ h => List.mem_cons_of_mem _ (List.mem_append_right _ h)) (by decide +kernel))
set_option maxRecDepth 20000 in
theorem gX3_depth_X3_requireSink : GoodIn wsX3_depth (wsV RX3 142 RX3 yX3_requireSink wsX3_requireSink) := goodIn_app (goodIn_of _ (by decide +kernel)) ggX3_depth_X3_requireSink
set_option maxRecDepth 20000 in
theorem ggX3_depth_X2_joinsAbove : GoodIn wsX3_depth wsX2_joinsAbove := goodIn_r _ [24, 25, 26, 27, 35, 36, 37, 38, 39, 40, 41, 42, 43, 44, 45, 46, 47, 48] (by decide +kernel) (by decide +kernel)
set_option maxRecDepth 20000 in
theorem gX3_depth_X2_joinsAbove : GoodIn wsX3_depth (wsV RX3 146 RX2 yX2_joinsAbove wsX2_joinsAbove) := goodIn_app (goodIn_of _ (by decide +kernel)) ggX3_depth_X2_joinsAbove
theorem dX3_depth_0 : decode cX3_depth 0 = .ok (.aload_n 0, 1) := by decide +kernel
theorem dX3_depth_1 : decode cX3_depth 1 = .ok (.invokevirtual 127, 3) := by decide +kernel
theorem dX3_depth_4 : decode cX3_depth 4 = .ok (.aload_n 0, 1) := by decide +kernel
theorem dX3_depth_5 : decode cX3_depth 5 = .ok (.iload_n 1, 1) := by decide +kernel
theorem dX3_depth_6 : decode cX3_depth 6 = .ok (.invokevirtual 142, 3) := by decide +kernel
theorem dX3_depth_9 : decode cX3_depth 9 = .ok (.aload_n 0, 1) := by decide +kernel
theorem dX3_depth_10 : decode cX3_depth 10 = .ok (.getfield 19, 3) := by decide +kernel
theorem dX3_depth_13 : decode cX3_depth 13 = .ok (.iload_n 1, 1) := by decide +kernel
theorem dX3_depth_14 : decode cX3_depth 14 = .ok (.invokevirtual 146, 3) := by decide +kernel
theorem dX3_depth_17 : decode cX3_depth 17 = .ok (.ireturn, 1) := by decide +kernel
set_option maxRecDepth 20000 in
theorem ggX3_set_X3_requireTree : GoodIn wsX3_set wsX3_requireTree := goodIn_ca (goodIn_r _ [11, 12, 13, 14, 24, 25, 26, 27, 28, 29, 30] (by decide +kernel) (by decide +kernel)) (goodIn_sub (fun _ h => List.mem_cons_of_mem _ (List.mem_append_right _ h)) (by decide +kernel))
set_option maxRecDepth 20000 in
theorem gX3_set_X3_requireTree : GoodIn wsX3_set (wsV RX3 127 RX3 yX3_requireTree wsX3_requireTree) := goodIn_app (goodIn_of _ (by decide +kernel)) ggX3_set_X3_requireTree
set_option maxRecDepth 20000 in
theorem ggX3_set_X3_isWithin : GoodIn wsX3_set wsX3_isWithin := goodIn_r _ [17] (by decide +kernel) (by decide +kernel)
set_option maxRecDepth 20000 in
theorem gX3_set_X3_isWithin : GoodIn wsX3_set (va_wsS RX3 48 yX3_isWithin wsX3_isWithin) := goodIn_app (goodIn_of _ (by decide +kernel)) ggX3_set_X3_isWithin
set_option maxRecDepth 20000 in
theorem ggX3_set_X2_bitOf : GoodIn wsX3_set wsX2_bitOf := goodIn_r _ [22, 23, 31, 32, 33, 34, 35, 36, 37, 38, 39, 40, 41, 42, 43, 44] (by decide +kernel) (by decide +kernel)
set_option maxRecDepth 20000 in
theorem gX3_set_X2_bitOf : GoodIn wsX3_set (wsV RX3 155 RX2 yX2_bitOf wsX2_bitOf) := goodIn_app (goodIn_of _ (by decide +kernel)) ggX3_set_X2_bitOf
theorem dX3_set_0 : decode cX3_set 0 = .ok (.aload_n 0, 1) := by decide +kernel
theorem dX3_set_1 : decode cX3_set 1 = .ok (.invokevirtual 127, 3) := by decide +kernel
theorem dX3_set_4 : decode cX3_set 4 = .ok (.iload_n 1, 1) := by decide +kernel
theorem dX3_set_5 : decode cX3_set 5 = .ok (.aload_n 0, 1) := by decide +kernel
theorem dX3_set_6 : decode cX3_set 6 = .ok (.getfield 19, 3) := by decide +kernel
theorem dX3_set_9 : decode cX3_set 9 = .ok (.getfield 150, 3) := by decide +kernel
theorem dX3_set_12 : decode cX3_set 12 = .ok (.aload_n 0, 1) := by decide +kernel
theorem dX3_set_13 : decode cX3_set 13 = .ok (.getfield 19, 3) := by decide +kernel
theorem dX3_set_16 : decode cX3_set 16 = .ok (.getfield 124, 3) := by decide +kernel
theorem dX3_set_19 : decode cX3_set 19 = .ok (.iconst 1, 1) := by decide +kernel
theorem dX3_set_20 : decode cX3_set 20 = .ok (.isub, 1) := by decide +kernel
theorem dX3_set_21 : decode cX3_set 21 = .ok (.invokestatic 48, 3) := by decide +kernel
theorem dX3_set_24 : decode cX3_set 24 = .ok (.ifCond .ne 13, 3) := by decide +kernel
theorem dX3_set_27 : decode cX3_set 27 = .ok (.new 130, 3) := by decide +kernel
theorem dX3_set_30 : decode cX3_set 30 = .ok (.dup, 1) := by decide +kernel
theorem dX3_set_31 : decode cX3_set 31 = .ok (.ldc 153, 2) := by decide +kernel
theorem dX3_set_33 : decode cX3_set 33 = .ok (.invokespecial 134, 3) := by decide +kernel
theorem dX3_set_36 : decode cX3_set 36 = .ok (.athrow, 1) := by decide +kernel
theorem dX3_set_37 : decode cX3_set 37 = .ok (.aload_n 0, 1) := by decide +kernel
theorem dX3_set_38 : decode cX3_set 38 = .ok (.getfield 41, 3) := by decide +kernel
theorem dX3_set_41 : decode cX3_set 41 = .ok (.istore_n 3, 1) := by decide +kernel
theorem dX3_set_42 : decode cX3_set 42 = .ok (.aload_n 0, 1) := by decide +kernel
theorem dX3_set_43 : decode cX3_set 43 = .ok (.getfield 19, 3) := by decide +kernel
theorem dX3_set_46 : decode cX3_set 46 = .ok (.iload_n 1, 1) := by decide +kernel
theorem dX3_set_47 : decode cX3_set 47 = .ok (.invokevirtual 155, 3) := by decide +kernel
theorem dX3_set_50 : decode cX3_set 50 = .ok (.istore 4, 2) := by decide +kernel
theorem dX3_set_52 : decode cX3_set 52 = .ok (.aload_n 0, 1) := by decide +kernel
theorem dX3_set_53 : decode cX3_set 53 = .ok (.iload_n 2, 1) := by decide +kernel
theorem dX3_set_54 : decode cX3_set 54 = .ok (.ifCond .eq 10, 3) := by decide +kernel
theorem dX3_set_57 : decode cX3_set 57 = .ok (.iload_n 3, 1) := by decide +kernel
theorem dX3_set_58 : decode cX3_set 58 = .ok (.iload 4, 2) := by decide +kernel
theorem dX3_set_60 : decode cX3_set 60 = .ok (.ior, 1) := by decide +kernel
theorem dX3_set_61 : decode cX3_set 61 = .ok (.goto 9, 3) := by decide +kernel
theorem dX3_set_64 : decode cX3_set 64 = .ok (.iload_n 3, 1) := by decide +kernel
theorem dX3_set_65 : decode cX3_set 65 = .ok (.iload 4, 2) := by decide +kernel
theorem dX3_set_67 : decode cX3_set 67 = .ok (.iconst (-1), 1) := by decide +kernel
theorem dX3_set_68 : decode cX3_set 68 = .ok (.ixor, 1) := by decide +kernel
theorem dX3_set_69 : decode cX3_set 69 = .ok (.iand, 1) := by decide +kernel
theorem dX3_set_70 : decode cX3_set 70 = .ok (.putfield 41, 3) := by decide +kernel
theorem dX3_set_73 : decode cX3_set 73 = .ok (.aload_n 0, 1) := by decide +kernel
theorem dX3_set_74 : decode cX3_set 74 = .ok (.getfield 41, 3) := by decide +kernel
theorem dX3_set_77 : decode cX3_set 77 = .ok (.iload_n 3, 1) := by decide +kernel
theorem dX3_set_78 : decode cX3_set 78 = .ok (.if_icmp .eq 7, 3) := by decide +kernel
theorem dX3_set_81 : decode cX3_set 81 = .ok (.iconst 1, 1) := by decide +kernel
theorem dX3_set_82 : decode cX3_set 82 = .ok (.goto 4, 3) := by decide +kernel
theorem dX3_set_85 : decode cX3_set 85 = .ok (.iconst 0, 1) := by decide +kernel
theorem dX3_set_86 : decode cX3_set 86 = .ok (.ireturn, 1) := by decide +kernel
set_option maxRecDepth 20000 in
theorem ggX3_setting_X3_requireTree : GoodIn wsX3_setting wsX3_requireTree := goodIn_ca (goodIn_r _ [6, 7, 8, 9, 10, 11, 12, 13, 14, 15, 16] (by decide +kernel) (by decide +kernel)) (goodIn_sub (fun _ h => List.mem_cons_of_mem _ (List.mem_append_right _ h)) (by decide +kernel))
set_option maxRecDepth 20000 in
theorem gX3_setting_X3_requireTree : GoodIn wsX3_setting (wsV RX3 127 RX3 yX3_requireTree wsX3_requireTree) := goodIn_app (goodIn_of _ (by decide +kernel)) ggX3_setting_X3_requireTree
theorem dX3_setting_0 : decode cX3_setting 0 = .ok (.aload_n 0, 1) := by decide +kernel
theorem dX3_setting_1 : decode cX3_setting 1 = .ok (.invokevirtual 127, 3) := by decide +kernel
theorem dX3_setting_4 : decode cX3_setting 4 = .ok (.aload_n 0, 1) := by decide +kernel
theorem dX3_setting_5 : decode cX3_setting 5 = .ok (.getfield 41, 3) := by decide +kernel
theorem dX3_setting_8 : decode cX3_setting 8 = .ok (.ireturn, 1) := by decide +kernel
set_option maxRecDepth 20000 in
theorem ggX3_load_X3_requireTree : GoodIn wsX3_load wsX3_requireTree := goodIn_ca (goodIn_r _ [14, 15, 16, 17, 78, 79, 80, 81, 82, 83, 84] (by decide +kernel) (by decide +kernel)) (goodIn_sub (fun _ h => List.mem_cons_of_mem _ (List.mem_append_right _ h)) (by decide +kernel))
set_option maxRecDepth 20000 in
theorem gX3_load_X3_requireTree : GoodIn wsX3_load (wsV RX3 127 RX3 yX3_requireTree wsX3_requireTree) := goodIn_app (goodIn_of _ (by decide +kernel)) ggX3_load_X3_requireTree
set_option maxRecDepth 20000 in
theorem ggX3_load_X3_isWithin : GoodIn wsX3_load wsX3_isWithin := goodIn_r _ [20] (by decide +kernel) (by decide +kernel)
set_option maxRecDepth 20000 in
theorem gX3_load_X3_isWithin : GoodIn wsX3_load (va_wsS RX3 48 yX3_isWithin wsX3_isWithin) := goodIn_app (goodIn_of _ (by decide +kernel)) ggX3_load_X3_isWithin
set_option maxRecDepth 20000 in
theorem ggX3_load_X0_weigh : GoodIn wsX3_load wsX0_weigh := goodIn_r _ [25, 26, 27, 28, 29, 30, 24, 31, 32, 33, 34, 35, 36, 37, 38, 39, 40, 41, 42, 43, 44, 45, 46, 47, 48, 49, 50, 51, 52, 53, 54, 55, 56, 57, 58, 59, 60, 61, 62, 63, 64, 65, 66, 67, 68, 69, 70, 71, 72, 73, 74, 75, 76, 77, 85, 86, 87, 88, 89, 90, 91, 92, 93, 94, 95, 96, 97, 98, 99, 100, 101, 102, 103, 104, 105, 106, 107, 108, 109, 110, 111, 112, 113] (by decide +kernel) (by decide +kernel)
set_option maxRecDepth 20000 in
theorem gX3_load_X0_weigh : GoodIn wsX3_load (wsV RX3 160 RX0 yX0_weigh wsX0_weigh) := goodIn_app (goodIn_of _ (by decide +kernel)) ggX3_load_X0_weigh
theorem dX3_load_0 : decode cX3_load 0 = .ok (.aload_n 0, 1) := by decide +kernel
theorem dX3_load_1 : decode cX3_load 1 = .ok (.invokevirtual 127, 3) := by decide +kernel
theorem dX3_load_4 : decode cX3_load 4 = .ok (.iload_n 1, 1) := by decide +kernel
theorem dX3_load_5 : decode cX3_load 5 = .ok (.iconst 0, 1) := by decide +kernel
theorem dX3_load_6 : decode cX3_load 6 = .ok (.aload_n 0, 1) := by decide +kernel
theorem dX3_load_7 : decode cX3_load 7 = .ok (.getfield 19, 3) := by decide +kernel
theorem dX3_load_10 : decode cX3_load 10 = .ok (.getfield 124, 3) := by decide +kernel
theorem dX3_load_13 : decode cX3_load 13 = .ok (.iconst 1, 1) := by decide +kernel
theorem dX3_load_14 : decode cX3_load 14 = .ok (.isub, 1) := by decide +kernel
theorem dX3_load_15 : decode cX3_load 15 = .ok (.invokestatic 48, 3) := by decide +kernel
theorem dX3_load_18 : decode cX3_load 18 = .ok (.ifCond .ne 13, 3) := by decide +kernel
theorem dX3_load_21 : decode cX3_load 21 = .ok (.new 130, 3) := by decide +kernel
theorem dX3_load_24 : decode cX3_load 24 = .ok (.dup, 1) := by decide +kernel
theorem dX3_load_25 : decode cX3_load 25 = .ok (.ldc 158, 2) := by decide +kernel
theorem dX3_load_27 : decode cX3_load 27 = .ok (.invokespecial 134, 3) := by decide +kernel
theorem dX3_load_30 : decode cX3_load 30 = .ok (.athrow, 1) := by decide +kernel
theorem dX3_load_31 : decode cX3_load 31 = .ok (.aload_n 0, 1) := by decide +kernel
theorem dX3_load_32 : decode cX3_load 32 = .ok (.getfield 26, 3) := by decide +kernel
theorem dX3_load_35 : decode cX3_load 35 = .ok (.aload_n 0, 1) := by decide +kernel
theorem dX3_load_36 : decode cX3_load 36 = .ok (.getfield 19, 3) := by decide +kernel
theorem dX3_load_39 : decode cX3_load 39 = .ok (.aload_n 0, 1) := by decide +kernel
theorem dX3_load_40 : decode cX3_load 40 = .ok (.getfield 12, 3) := by decide +kernel
theorem dX3_load_43 : decode cX3_load 43 = .ok (.aload_n 0, 1) := by decide +kernel
theorem dX3_load_44 : decode cX3_load 44 = .ok (.getfield 41, 3) := by decide +kernel
theorem dX3_load_47 : decode cX3_load 47 = .ok (.invokevirtual 160, 3) := by decide +kernel
theorem dX3_load_50 : decode cX3_load 50 = .ok (.iload_n 2, 1) := by decide +kernel
theorem dX3_load_51 : decode cX3_load 51 = .ok (.ifCond .eq 15, 3) := by decide +kernel
theorem dX3_load_54 : decode cX3_load 54 = .ok (.aload_n 0, 1) := by decide +kernel
theorem dX3_load_55 : decode cX3_load 55 = .ok (.getfield 26, 3) := by decide +kernel
theorem dX3_load_58 : decode cX3_load 58 = .ok (.getfield 164, 3) := by decide +kernel
theorem dX3_load_61 : decode cX3_load 61 = .ok (.iload_n 1, 1) := by decide +kernel
theorem dX3_load_62 : decode cX3_load 62 = .ok (.laload, 1) := by decide +kernel
theorem dX3_load_63 : decode cX3_load 63 = .ok (.goto 12, 3) := by decide +kernel
theorem dX3_load_66 : decode cX3_load 66 = .ok (.aload_n 0, 1) := by decide +kernel
theorem dX3_load_67 : decode cX3_load 67 = .ok (.getfield 26, 3) := by decide +kernel
theorem dX3_load_70 : decode cX3_load 70 = .ok (.getfield 168, 3) := by decide +kernel
theorem dX3_load_73 : decode cX3_load 73 = .ok (.iload_n 1, 1) := by decide +kernel
theorem dX3_load_74 : decode cX3_load 74 = .ok (.laload, 1) := by decide +kernel
theorem dX3_load_75 : decode cX3_load 75 = .ok (.lreturn, 1) := by decide +kernel
set_option maxRecDepth 20000 in
theorem ggX3_delay_X3_requireTree : GoodIn wsX3_delay wsX3_requireTree := goodIn_ca (goodIn_r _ [9, 10, 11, 12, 85, 86, 87, 88, 89, 90, 91] (by decide +kernel) (by decide +kernel)) (goodIn_sub (fun _ h => List.mem_cons_of_mem _ (List.mem_append_left _ (List.mem_append_right _ h))) (by decide +kernel))
set_option maxRecDepth 20000 in
theorem gX3_delay_X3_requireTree : GoodIn wsX3_delay (wsV RX3 127 RX3 yX3_requireTree wsX3_requireTree) := goodIn_app (goodIn_of _ (by decide +kernel)) ggX3_delay_X3_requireTree
set_option maxRecDepth 20000 in
theorem ggX3_delay_X3_requireSink : GoodIn wsX3_delay wsX3_requireSink := goodIn_ca (goodIn_r _ [16, 17, 18, 2, 19, 20, 21, 8, 22, 85, 86, 87, 88, 89, 90, 91, 92, 93, 94, 95, 96, 97, 98, 99, 100, 101, 102, 103, 104, 105] (by decide +kernel) (by decide +kernel)) (goodIn_sub (fun _ h => List.mem_cons_of_mem _ (List.mem_append_right _ h)) (by decide +kernel))
set_option maxRecDepth 20000 in
theorem gX3_delay_X3_requireSink : GoodIn wsX3_delay (wsV RX3 142 RX3 yX3_requireSink wsX3_requireSink) := goodIn_app (goodIn_of _ (by decide +kernel)) ggX3_delay_X3_requireSink
set_option maxRecDepth 20000 in
theorem ggX3_delay_X0_weigh : GoodIn wsX3_delay wsX0_weigh := goodIn_r _ [27, 28, 29, 30, 31, 32, 26, 33, 34, 35, 36, 37, 38, 39, 40, 41, 42, 43, 44, 45, 46, 47, 48, 49, 50, 51, 52, 53, 54, 55, 56, 57, 58, 59, 60, 61, 62, 63, 64, 65, 66, 67, 68, 69, 70, 71, 72, 73, 74, 75, 76, 77, 78, 79, 92, 93, 94, 95, 96, 97, 98, 99, 100, 101, 102, 103, 104, 105, 106, 107, 108, 109, 110, 111, 112, 113, 114, 115, 116, 117, 118, 119, 120] (by decide +kernel) (by decide +kernel)
set_option maxRecDepth 20000 in
theorem gX3_delay_X0_weigh : GoodIn wsX3_delay (wsV RX3 160 RX0 yX0_weigh wsX0_weigh) := goodIn_app (goodIn_of _ (by decide +kernel)) ggX3_delay_X0_weigh
set_option maxRecDepth 20000 in
theorem ggX3_delay_X0_delayTo : GoodIn wsX3_delay wsX0_delayTo := goodIn_r _ [83, 28, 29, 84, 68, 69, 70, 26, 71, 72, 63, 73, 37, 58, 59, 60, 61, 62, 41, 42, 43, 44, 45, 46, 74, 75, 76, 77, 78, 79, 34, 92, 93, 94, 95, 96, 97, 98, 99, 100, 101, 102, 103, 104, 105, 106, 107, 108, 109, 110, 111, 112, 113, 114, 115] (by decide +kernel) (by decide +kernel)
set_option maxRecDepth 20000 in
theorem gX3_delay_X0_delayTo : GoodIn wsX3_delay (wsV RX3 171 RX0 yX0_delayTo wsX0_delayTo) := goodIn_app (goodIn_of _ (by decide +kernel)) ggX3_delay_X0_delayTo
theorem dX3_delay_0 : decode cX3_delay 0 = .ok (.aload_n 0, 1) := by decide +kernel
theorem dX3_delay_1 : decode cX3_delay 1 = .ok (.invokevirtual 127, 3) := by decide +kernel
theorem dX3_delay_4 : decode cX3_delay 4 = .ok (.aload_n 0, 1) := by decide +kernel
theorem dX3_delay_5 : decode cX3_delay 5 = .ok (.iload_n 1, 1) := by decide +kernel
theorem dX3_delay_6 : decode cX3_delay 6 = .ok (.invokevirtual 142, 3) := by decide +kernel
theorem dX3_delay_9 : decode cX3_delay 9 = .ok (.aload_n 0, 1) := by decide +kernel
theorem dX3_delay_10 : decode cX3_delay 10 = .ok (.getfield 26, 3) := by decide +kernel
theorem dX3_delay_13 : decode cX3_delay 13 = .ok (.aload_n 0, 1) := by decide +kernel
theorem dX3_delay_14 : decode cX3_delay 14 = .ok (.getfield 19, 3) := by decide +kernel
theorem dX3_delay_17 : decode cX3_delay 17 = .ok (.aload_n 0, 1) := by decide +kernel
theorem dX3_delay_18 : decode cX3_delay 18 = .ok (.getfield 12, 3) := by decide +kernel
theorem dX3_delay_21 : decode cX3_delay 21 = .ok (.aload_n 0, 1) := by decide +kernel
theorem dX3_delay_22 : decode cX3_delay 22 = .ok (.getfield 41, 3) := by decide +kernel
theorem dX3_delay_25 : decode cX3_delay 25 = .ok (.invokevirtual 160, 3) := by decide +kernel
theorem dX3_delay_28 : decode cX3_delay 28 = .ok (.aload_n 0, 1) := by decide +kernel
theorem dX3_delay_29 : decode cX3_delay 29 = .ok (.getfield 26, 3) := by decide +kernel
theorem dX3_delay_32 : decode cX3_delay 32 = .ok (.aload_n 0, 1) := by decide +kernel
theorem dX3_delay_33 : decode cX3_delay 33 = .ok (.getfield 19, 3) := by decide +kernel
theorem dX3_delay_36 : decode cX3_delay 36 = .ok (.iload_n 1, 1) := by decide +kernel
theorem dX3_delay_37 : decode cX3_delay 37 = .ok (.aload_n 0, 1) := by decide +kernel
theorem dX3_delay_38 : decode cX3_delay 38 = .ok (.getfield 41, 3) := by decide +kernel
theorem dX3_delay_41 : decode cX3_delay 41 = .ok (.invokevirtual 171, 3) := by decide +kernel
theorem dX3_delay_44 : decode cX3_delay 44 = .ok (.lreturn, 1) := by decide +kernel
set_option maxRecDepth 20000 in
theorem ggX3_slack_X3_requireTree : GoodIn wsX3_slack wsX3_requireTree := goodIn_ca (goodIn_r _ [9, 10, 11, 12, 74, 75, 76, 77, 78, 79, 80] (by decide +kernel) (by decide +kernel)) (goodIn_sub (fun _ h => List.mem_cons_of_mem _ (List.mem_append_right _ h)) (by decide +kernel))
set_option maxRecDepth 20000 in
theorem gX3_slack_X3_requireTree : GoodIn wsX3_slack (wsV RX3 127 RX3 yX3_requireTree wsX3_requireTree) := goodIn_app (goodIn_of _ (by decide +kernel)) ggX3_slack_X3_requireTree
set_option maxRecDepth 20000 in
theorem ggX3_slack_X0_weigh : GoodIn wsX3_slack wsX0_weigh := goodIn_r _ [17, 18, 19, 20, 21, 22, 16, 23, 24, 25, 26, 27, 28, 29, 30, 31, 32, 33, 34, 35, 36, 37, 38, 39, 40, 41, 42, 43, 44, 45, 46, 47, 48, 49, 50, 51, 52, 53, 54, 55, 56, 57, 58, 59, 60, 61, 62, 63, 64, 65, 66, 67, 68, 69, 81, 82, 83, 84, 85, 86, 87, 88, 89, 90, 91, 92, 93, 94, 95, 96, 97, 98, 99, 100, 101, 102, 103, 104, 105, 106, 107, 108, 109] (by decide +kernel) (by decide +kernel)
set_option maxRecDepth 20000 in
theorem gX3_slack_X0_weigh : GoodIn wsX3_slack (wsV RX3 160 RX0 yX0_weigh wsX0_weigh) := goodIn_app (goodIn_of _ (by decide +kernel)) ggX3_slack_X0_weigh
set_option maxRecDepth 20000 in
theorem ggX3_slack_X0_slackAtSource : GoodIn wsX3_slack wsX0_slackAtSource := goodIn_r _ [73, 19, 54, 55, 56, 16, 57, 28, 58, 59, 60, 61, 62, 53, 63, 27, 48, 49, 50, 51, 52, 81, 82, 83, 84, 85, 86, 87, 88, 89, 90, 91, 92, 93, 94, 95, 96, 97, 98, 99, 100, 101, 102, 103, 104] (by decide +kernel) (by decide +kernel)
set_option maxRecDepth 20000 in
theorem gX3_slack_X0_slackAtSource : GoodIn wsX3_slack (wsV RX3 175 RX0 yX0_slackAtSource wsX0_slackAtSource) := goodIn_app (goodIn_of _ (by decide +kernel)) ggX3_slack_X0_slackAtSource
theorem dX3_slack_0 : decode cX3_slack 0 = .ok (.aload_n 0, 1) := by decide +kernel
theorem dX3_slack_1 : decode cX3_slack 1 = .ok (.invokevirtual 127, 3) := by decide +kernel
theorem dX3_slack_4 : decode cX3_slack 4 = .ok (.aload_n 0, 1) := by decide +kernel
theorem dX3_slack_5 : decode cX3_slack 5 = .ok (.getfield 26, 3) := by decide +kernel
theorem dX3_slack_8 : decode cX3_slack 8 = .ok (.aload_n 0, 1) := by decide +kernel
theorem dX3_slack_9 : decode cX3_slack 9 = .ok (.getfield 19, 3) := by decide +kernel
theorem dX3_slack_12 : decode cX3_slack 12 = .ok (.aload_n 0, 1) := by decide +kernel
theorem dX3_slack_13 : decode cX3_slack 13 = .ok (.getfield 12, 3) := by decide +kernel
theorem dX3_slack_16 : decode cX3_slack 16 = .ok (.aload_n 0, 1) := by decide +kernel
theorem dX3_slack_17 : decode cX3_slack 17 = .ok (.getfield 41, 3) := by decide +kernel
theorem dX3_slack_20 : decode cX3_slack 20 = .ok (.invokevirtual 160, 3) := by decide +kernel
theorem dX3_slack_23 : decode cX3_slack 23 = .ok (.aload_n 0, 1) := by decide +kernel
theorem dX3_slack_24 : decode cX3_slack 24 = .ok (.getfield 26, 3) := by decide +kernel
theorem dX3_slack_27 : decode cX3_slack 27 = .ok (.aload_n 0, 1) := by decide +kernel
theorem dX3_slack_28 : decode cX3_slack 28 = .ok (.getfield 19, 3) := by decide +kernel
theorem dX3_slack_31 : decode cX3_slack 31 = .ok (.invokevirtual 175, 3) := by decide +kernel
theorem dX3_slack_34 : decode cX3_slack 34 = .ok (.lreturn, 1) := by decide +kernel
set_option maxRecDepth 20000 in
theorem ggX3_best_X3_requireTree : GoodIn wsX3_best wsX3_requireTree := goodIn_ca (goodIn_r _ [9, 10, 11, 12, 83, 84, 85, 86, 87, 88, 89] (by decide +kernel) (by decide +kernel)) (goodIn_sub (fun _ h => List.mem_cons_of_mem _ (List.mem_append_right _ h)) (by decide +kernel))
set_option maxRecDepth 20000 in
theorem gX3_best_X3_requireTree : GoodIn wsX3_best (wsV RX3 127 RX3 yX3_requireTree wsX3_requireTree) := goodIn_app (goodIn_of _ (by decide +kernel)) ggX3_best_X3_requireTree
set_option maxRecDepth 20000 in
theorem ggX3_best_X0_findBest : GoodIn wsX3_best wsX0_findBest := goodIn_r _ [17, 18, 19, 20, 21, 22, 16, 23, 24, 25, 26, 27, 28, 29, 30, 31, 32, 33, 34, 35, 36, 37, 38, 39, 40, 41, 42, 43, 44, 45, 46, 47, 48, 49, 50, 51, 52, 53, 54, 55, 56, 57, 58, 59, 60, 61, 62, 63, 64, 65, 66, 67, 68, 69, 70, 71, 72, 73, 74, 75, 76, 77, 78, 79, 80, 81, 82, 90, 91, 92, 93, 94, 95, 96, 97, 98, 99, 100, 101, 102, 103, 104, 105, 106, 107, 108, 109, 110, 111, 112, 113, 114, 115, 116, 117, 118] (by decide +kernel) (by decide +kernel)
set_option maxRecDepth 20000 in
theorem gX3_best_X0_findBest : GoodIn wsX3_best (wsV RX3 179 RX0 yX0_findBest wsX0_findBest) := goodIn_app (goodIn_of _ (by decide +kernel)) ggX3_best_X0_findBest
theorem dX3_best_0 : decode cX3_best 0 = .ok (.aload_n 0, 1) := by decide +kernel
theorem dX3_best_1 : decode cX3_best 1 = .ok (.invokevirtual 127, 3) := by decide +kernel
theorem dX3_best_4 : decode cX3_best 4 = .ok (.aload_n 0, 1) := by decide +kernel
theorem dX3_best_5 : decode cX3_best 5 = .ok (.getfield 26, 3) := by decide +kernel
theorem dX3_best_8 : decode cX3_best 8 = .ok (.aload_n 0, 1) := by decide +kernel
theorem dX3_best_9 : decode cX3_best 9 = .ok (.getfield 19, 3) := by decide +kernel
theorem dX3_best_12 : decode cX3_best 12 = .ok (.aload_n 0, 1) := by decide +kernel
theorem dX3_best_13 : decode cX3_best 13 = .ok (.getfield 12, 3) := by decide +kernel
theorem dX3_best_16 : decode cX3_best 16 = .ok (.invokevirtual 179, 3) := by decide +kernel
theorem dX3_best_19 : decode cX3_best 19 = .ok (.aload_n 0, 1) := by decide +kernel
theorem dX3_best_20 : decode cX3_best 20 = .ok (.getfield 26, 3) := by decide +kernel
theorem dX3_best_23 : decode cX3_best 23 = .ok (.getfield 183, 3) := by decide +kernel
theorem dX3_best_26 : decode cX3_best 26 = .ok (.lreturn, 1) := by decide +kernel
set_option maxRecDepth 20000 in
theorem ggX3_improve_X3_requireTree : GoodIn wsX3_improve wsX3_requireTree := goodIn_ca (goodIn_r _ [10, 11, 12, 13, 84, 85, 86, 87, 88, 89, 90] (by decide +kernel) (by decide +kernel)) (goodIn_sub (fun _ h => List.mem_cons_of_mem _ (List.mem_append_right _ h)) (by decide +kernel))
set_option maxRecDepth 20000 in
theorem gX3_improve_X3_requireTree : GoodIn wsX3_improve (wsV RX3 127 RX3 yX3_requireTree wsX3_requireTree) := goodIn_app (goodIn_of _ (by decide +kernel)) ggX3_improve_X3_requireTree
set_option maxRecDepth 20000 in
theorem ggX3_improve_X0_findBest : GoodIn wsX3_improve wsX0_findBest := goodIn_r _ [18, 19, 20, 21, 22, 23, 17, 24, 25, 26, 27, 28, 29, 30, 31, 32, 33, 34, 35, 36, 37, 38, 39, 40, 41, 42, 43, 44, 45, 46, 47, 48, 49, 50, 51, 52, 53, 54, 55, 56, 57, 58, 59, 60, 61, 62, 63, 64, 65, 66, 67, 68, 69, 70, 71, 72, 73, 74, 75, 76, 77, 78, 79, 80, 81, 82, 83, 91, 92, 93, 94, 95, 96, 97, 98, 99, 100, 101, 102, 103, 104, 105, 106, 107, 108, 109, 110, 111, 112, 113, 114, 115, 116, 117, 118, 119] (by decide +kernel) (by decide +kernel)
set_option maxRecDepth 20000 in
theorem gX3_improve_X0_findBest : GoodIn wsX3_improve (wsV RX3 179 RX0 yX0_findBest wsX0_findBest) := goodIn_app (goodIn_of _ (by decide +kernel)) ggX3_improve_X0_findBest
theorem dX3_improve_0 : decode cX3_improve 0 = .ok (.aload_n 0, 1) := by decide +kernel
theorem dX3_improve_1 : decode cX3_improve 1 = .ok (.invokevirtual 127, 3) := by decide +kernel
theorem dX3_improve_4 : decode cX3_improve 4 = .ok (.aload_n 0, 1) := by decide +kernel
theorem dX3_improve_5 : decode cX3_improve 5 = .ok (.getfield 26, 3) := by decide +kernel
theorem dX3_improve_8 : decode cX3_improve 8 = .ok (.aload_n 0, 1) := by decide +kernel
theorem dX3_improve_9 : decode cX3_improve 9 = .ok (.getfield 19, 3) := by decide +kernel
theorem dX3_improve_12 : decode cX3_improve 12 = .ok (.aload_n 0, 1) := by decide +kernel
theorem dX3_improve_13 : decode cX3_improve 13 = .ok (.getfield 12, 3) := by decide +kernel
theorem dX3_improve_16 : decode cX3_improve 16 = .ok (.invokevirtual 179, 3) := by decide +kernel
theorem dX3_improve_19 : decode cX3_improve 19 = .ok (.aload_n 0, 1) := by decide +kernel
theorem dX3_improve_20 : decode cX3_improve 20 = .ok (.aload_n 0, 1) := by decide +kernel
theorem dX3_improve_21 : decode cX3_improve 21 = .ok (.getfield 26, 3) := by decide +kernel
theorem dX3_improve_24 : decode cX3_improve 24 = .ok (.getfield 187, 3) := by decide +kernel
theorem dX3_improve_27 : decode cX3_improve 27 = .ok (.putfield 41, 3) := by decide +kernel
theorem dX3_improve_30 : decode cX3_improve 30 = .ok (.aload_n 0, 1) := by decide +kernel
theorem dX3_improve_31 : decode cX3_improve 31 = .ok (.getfield 41, 3) := by decide +kernel
theorem dX3_improve_34 : decode cX3_improve 34 = .ok (.ireturn, 1) := by decide +kernel
theorem dX3_requireTree_0 : decode cX3_requireTree 0 = .ok (.aload_n 0, 1) := by decide +kernel
theorem dX3_requireTree_1 : decode cX3_requireTree 1 = .ok (.getfield 37, 3) := by decide +kernel
theorem dX3_requireTree_4 : decode cX3_requireTree 4 = .ok (.ifCond .ne 13, 3) := by decide +kernel
theorem dX3_requireTree_7 : decode cX3_requireTree 7 = .ok (.new 190, 3) := by decide +kernel
theorem dX3_requireTree_10 : decode cX3_requireTree 10 = .ok (.dup, 1) := by decide +kernel
theorem dX3_requireTree_11 : decode cX3_requireTree 11 = .ok (.ldc 192, 2) := by decide +kernel
theorem dX3_requireTree_13 : decode cX3_requireTree 13 = .ok (.invokespecial 194, 3) := by decide +kernel
theorem dX3_requireTree_16 : decode cX3_requireTree 16 = .ok (.athrow, 1) := by decide +kernel
theorem dX3_requireTree_17 : decode cX3_requireTree 17 = .ok (.return_, 1) := by decide +kernel
set_option maxRecDepth 20000 in
theorem ggX3_requireSink_X3_isWithin : GoodIn wsX3_requireSink wsX3_isWithin := goodIn_r _ [8] (by decide +kernel) (by decide +kernel)
set_option maxRecDepth 20000 in
theorem gX3_requireSink_X3_isWithin : GoodIn wsX3_requireSink (va_wsS RX3 48 yX3_isWithin wsX3_isWithin) := goodIn_app (goodIn_of _ (by decide +kernel)) ggX3_requireSink_X3_isWithin
theorem dX3_requireSink_0 : decode cX3_requireSink 0 = .ok (.iload_n 1, 1) := by decide +kernel
theorem dX3_requireSink_1 : decode cX3_requireSink 1 = .ok (.iconst 0, 1) := by decide +kernel
theorem dX3_requireSink_2 : decode cX3_requireSink 2 = .ok (.aload_n 0, 1) := by decide +kernel
theorem dX3_requireSink_3 : decode cX3_requireSink 3 = .ok (.getfield 19, 3) := by decide +kernel
theorem dX3_requireSink_6 : decode cX3_requireSink 6 = .ok (.getfield 150, 3) := by decide +kernel
theorem dX3_requireSink_9 : decode cX3_requireSink 9 = .ok (.iconst 1, 1) := by decide +kernel
theorem dX3_requireSink_10 : decode cX3_requireSink 10 = .ok (.isub, 1) := by decide +kernel
theorem dX3_requireSink_11 : decode cX3_requireSink 11 = .ok (.invokestatic 48, 3) := by decide +kernel
theorem dX3_requireSink_14 : decode cX3_requireSink 14 = .ok (.ifCond .ne 13, 3) := by decide +kernel
theorem dX3_requireSink_17 : decode cX3_requireSink 17 = .ok (.new 130, 3) := by decide +kernel
theorem dX3_requireSink_20 : decode cX3_requireSink 20 = .ok (.dup, 1) := by decide +kernel
theorem dX3_requireSink_21 : decode cX3_requireSink 21 = .ok (.ldc 195, 2) := by decide +kernel
theorem dX3_requireSink_23 : decode cX3_requireSink 23 = .ok (.invokespecial 134, 3) := by decide +kernel
theorem dX3_requireSink_26 : decode cX3_requireSink 26 = .ok (.athrow, 1) := by decide +kernel
theorem dX3_requireSink_27 : decode cX3_requireSink 27 = .ok (.return_, 1) := by decide +kernel
set_option maxRecDepth 20000 in
theorem ggX3_isPlace_X3_isWithin : GoodIn wsX3_isPlace wsX3_isWithin := goodIn_r _ [4] (by decide +kernel) (by decide +kernel)
