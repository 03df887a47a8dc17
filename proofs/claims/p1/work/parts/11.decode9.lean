theorem dX9_in_0 : decode cX9_in 0 = .ok (.lload_n 0, 1) := by decide +kernel
theorem dX9_in_1 : decode cX9_in 1 = .ok (.lload_n 2, 1) := by decide +kernel
theorem dX9_in_2 : decode cX9_in 2 = .ok (.lcmp, 1) := by decide +kernel
theorem dX9_in_3 : decode cX9_in 3 = .ok (.ifCond .lt 14, 3) := by decide +kernel
theorem dX9_in_6 : decode cX9_in 6 = .ok (.lload_n 0, 1) := by decide +kernel
theorem dX9_in_7 : decode cX9_in 7 = .ok (.lload 4, 2) := by decide +kernel
theorem dX9_in_9 : decode cX9_in 9 = .ok (.lcmp, 1) := by decide +kernel
theorem dX9_in_10 : decode cX9_in 10 = .ok (.ifCond .gt 7, 3) := by decide +kernel
theorem dX9_in_13 : decode cX9_in 13 = .ok (.iconst 1, 1) := by decide +kernel
theorem dX9_in_14 : decode cX9_in 14 = .ok (.goto 4, 3) := by decide +kernel
theorem dX9_in_17 : decode cX9_in 17 = .ok (.iconst 0, 1) := by decide +kernel
theorem dX9_in_18 : decode cX9_in 18 = .ok (.ireturn, 1) := by decide +kernel
theorem dX9_init_0 : decode cX9_init 0 = .ok (.aload_n 0, 1) := by decide +kernel
theorem dX9_init_1 : decode cX9_init 1 = .ok (.invokespecial 7, 3) := by decide +kernel
theorem dX9_init_4 : decode cX9_init 4 = .ok (.aload_n 0, 1) := by decide +kernel
theorem dX9_init_5 : decode cX9_init 5 = .ok (.iconst 1, 1) := by decide +kernel
theorem dX9_init_6 : decode cX9_init 6 = .ok (.putfield 13, 3) := by decide +kernel
theorem dX9_init_9 : decode cX9_init 9 = .ok (.aload_n 0, 1) := by decide +kernel
theorem dX9_init_10 : decode cX9_init 10 = .ok (.bipush 16, 2) := by decide +kernel
theorem dX9_init_12 : decode cX9_init 12 = .ok (.newarray .int, 2) := by decide +kernel
theorem dX9_init_14 : decode cX9_init 14 = .ok (.putfield 16, 3) := by decide +kernel
theorem dX9_init_17 : decode cX9_init 17 = .ok (.aload_n 0, 1) := by decide +kernel
theorem dX9_init_18 : decode cX9_init 18 = .ok (.bipush 16, 2) := by decide +kernel
theorem dX9_init_20 : decode cX9_init 20 = .ok (.newarray .int, 2) := by decide +kernel
theorem dX9_init_22 : decode cX9_init 22 = .ok (.putfield 20, 3) := by decide +kernel
theorem dX9_init_25 : decode cX9_init 25 = .ok (.aload_n 0, 1) := by decide +kernel
theorem dX9_init_26 : decode cX9_init 26 = .ok (.bipush 16, 2) := by decide +kernel
theorem dX9_init_28 : decode cX9_init 28 = .ok (.newarray .int, 2) := by decide +kernel
theorem dX9_init_30 : decode cX9_init 30 = .ok (.putfield 23, 3) := by decide +kernel
theorem dX9_init_33 : decode cX9_init 33 = .ok (.aload_n 0, 1) := by decide +kernel
theorem dX9_init_34 : decode cX9_init 34 = .ok (.bipush 16, 2) := by decide +kernel
theorem dX9_init_36 : decode cX9_init 36 = .ok (.newarray .boolean, 2) := by decide +kernel
theorem dX9_init_38 : decode cX9_init 38 = .ok (.putfield 26, 3) := by decide +kernel
theorem dX9_init_41 : decode cX9_init 41 = .ok (.aload_n 0, 1) := by decide +kernel
theorem dX9_init_42 : decode cX9_init 42 = .ok (.bipush 16, 2) := by decide +kernel
theorem dX9_init_44 : decode cX9_init 44 = .ok (.newarray .boolean, 2) := by decide +kernel
theorem dX9_init_46 : decode cX9_init 46 = .ok (.putfield 30, 3) := by decide +kernel
theorem dX9_init_49 : decode cX9_init 49 = .ok (.aload_n 0, 1) := by decide +kernel
theorem dX9_init_50 : decode cX9_init 50 = .ok (.bipush 16, 2) := by decide +kernel
theorem dX9_init_52 : decode cX9_init 52 = .ok (.newarray .int, 2) := by decide +kernel
theorem dX9_init_54 : decode cX9_init 54 = .ok (.putfield 33, 3) := by decide +kernel
theorem dX9_init_57 : decode cX9_init 57 = .ok (.aload_n 0, 1) := by decide +kernel
theorem dX9_init_58 : decode cX9_init 58 = .ok (.bipush 16, 2) := by decide +kernel
theorem dX9_init_60 : decode cX9_init 60 = .ok (.newarray .int, 2) := by decide +kernel
theorem dX9_init_62 : decode cX9_init 62 = .ok (.putfield 36, 3) := by decide +kernel
theorem dX9_init_65 : decode cX9_init 65 = .ok (.aload_n 0, 1) := by decide +kernel
theorem dX9_init_66 : decode cX9_init 66 = .ok (.bipush 16, 2) := by decide +kernel
theorem dX9_init_68 : decode cX9_init 68 = .ok (.newarray .int, 2) := by decide +kernel
theorem dX9_init_70 : decode cX9_init 70 = .ok (.putfield 39, 3) := by decide +kernel
theorem dX9_init_73 : decode cX9_init 73 = .ok (.aload_n 0, 1) := by decide +kernel
theorem dX9_init_74 : decode cX9_init 74 = .ok (.bipush 40, 2) := by decide +kernel
theorem dX9_init_76 : decode cX9_init 76 = .ok (.newarray .int, 2) := by decide +kernel
theorem dX9_init_78 : decode cX9_init 78 = .ok (.putfield 42, 3) := by decide +kernel
theorem dX9_init_81 : decode cX9_init 81 = .ok (.aload_n 0, 1) := by decide +kernel
theorem dX9_init_82 : decode cX9_init 82 = .ok (.bipush 40, 2) := by decide +kernel
theorem dX9_init_84 : decode cX9_init 84 = .ok (.newarray .boolean, 2) := by decide +kernel
theorem dX9_init_86 : decode cX9_init 86 = .ok (.putfield 45, 3) := by decide +kernel
theorem dX9_init_89 : decode cX9_init 89 = .ok (.aload_n 0, 1) := by decide +kernel
theorem dX9_init_90 : decode cX9_init 90 = .ok (.bipush 40, 2) := by decide +kernel
theorem dX9_init_92 : decode cX9_init 92 = .ok (.newarray .int, 2) := by decide +kernel
theorem dX9_init_94 : decode cX9_init 94 = .ok (.putfield 48, 3) := by decide +kernel
theorem dX9_init_97 : decode cX9_init 97 = .ok (.aload_n 0, 1) := by decide +kernel
theorem dX9_init_98 : decode cX9_init 98 = .ok (.bipush 40, 2) := by decide +kernel
theorem dX9_init_100 : decode cX9_init 100 = .ok (.newarray .int, 2) := by decide +kernel
theorem dX9_init_102 : decode cX9_init 102 = .ok (.putfield 51, 3) := by decide +kernel
theorem dX9_init_105 : decode cX9_init 105 = .ok (.aload_n 0, 1) := by decide +kernel
theorem dX9_init_106 : decode cX9_init 106 = .ok (.bipush 40, 2) := by decide +kernel
theorem dX9_init_108 : decode cX9_init 108 = .ok (.newarray .int, 2) := by decide +kernel
theorem dX9_init_110 : decode cX9_init 110 = .ok (.putfield 54, 3) := by decide +kernel
theorem dX9_init_113 : decode cX9_init 113 = .ok (.aload_n 0, 1) := by decide +kernel
theorem dX9_init_114 : decode cX9_init 114 = .ok (.bipush 80, 2) := by decide +kernel
theorem dX9_init_116 : decode cX9_init 116 = .ok (.newarray .int, 2) := by decide +kernel
theorem dX9_init_118 : decode cX9_init 118 = .ok (.putfield 57, 3) := by decide +kernel
theorem dX9_init_121 : decode cX9_init 121 = .ok (.aload_n 0, 1) := by decide +kernel
theorem dX9_init_122 : decode cX9_init 122 = .ok (.bipush 40, 2) := by decide +kernel
theorem dX9_init_124 : decode cX9_init 124 = .ok (.newarray .boolean, 2) := by decide +kernel
theorem dX9_init_126 : decode cX9_init 126 = .ok (.putfield 60, 3) := by decide +kernel
theorem dX9_init_129 : decode cX9_init 129 = .ok (.aload_n 0, 1) := by decide +kernel
theorem dX9_init_130 : decode cX9_init 130 = .ok (.bipush 40, 2) := by decide +kernel
theorem dX9_init_132 : decode cX9_init 132 = .ok (.newarray .boolean, 2) := by decide +kernel
theorem dX9_init_134 : decode cX9_init 134 = .ok (.putfield 63, 3) := by decide +kernel
theorem dX9_init_137 : decode cX9_init 137 = .ok (.aload_n 0, 1) := by decide +kernel
theorem dX9_init_138 : decode cX9_init 138 = .ok (.bipush 40, 2) := by decide +kernel
theorem dX9_init_140 : decode cX9_init 140 = .ok (.newarray .boolean, 2) := by decide +kernel
theorem dX9_init_142 : decode cX9_init 142 = .ok (.putfield 66, 3) := by decide +kernel
theorem dX9_init_145 : decode cX9_init 145 = .ok (.aload_n 0, 1) := by decide +kernel
theorem dX9_init_146 : decode cX9_init 146 = .ok (.bipush 40, 2) := by decide +kernel
theorem dX9_init_148 : decode cX9_init 148 = .ok (.newarray .boolean, 2) := by decide +kernel
theorem dX9_init_150 : decode cX9_init 150 = .ok (.putfield 69, 3) := by decide +kernel
theorem dX9_init_153 : decode cX9_init 153 = .ok (.aload_n 0, 1) := by decide +kernel
theorem dX9_init_154 : decode cX9_init 154 = .ok (.bipush 40, 2) := by decide +kernel
theorem dX9_init_156 : decode cX9_init 156 = .ok (.newarray .int, 2) := by decide +kernel
theorem dX9_init_158 : decode cX9_init 158 = .ok (.putfield 72, 3) := by decide +kernel
theorem dX9_init_161 : decode cX9_init 161 = .ok (.aload_n 0, 1) := by decide +kernel
theorem dX9_init_162 : decode cX9_init 162 = .ok (.bipush 40, 2) := by decide +kernel
theorem dX9_init_164 : decode cX9_init 164 = .ok (.newarray .int, 2) := by decide +kernel
theorem dX9_init_166 : decode cX9_init 166 = .ok (.putfield 75, 3) := by decide +kernel
theorem dX9_init_169 : decode cX9_init 169 = .ok (.aload_n 0, 1) := by decide +kernel
theorem dX9_init_170 : decode cX9_init 170 = .ok (.bipush 60, 2) := by decide +kernel
theorem dX9_init_172 : decode cX9_init 172 = .ok (.newarray .int, 2) := by decide +kernel
theorem dX9_init_174 : decode cX9_init 174 = .ok (.putfield 78, 3) := by decide +kernel
theorem dX9_init_177 : decode cX9_init 177 = .ok (.aload_n 0, 1) := by decide +kernel
theorem dX9_init_178 : decode cX9_init 178 = .ok (.bipush 60, 2) := by decide +kernel
theorem dX9_init_180 : decode cX9_init 180 = .ok (.newarray .boolean, 2) := by decide +kernel
theorem dX9_init_182 : decode cX9_init 182 = .ok (.putfield 81, 3) := by decide +kernel
theorem dX9_init_185 : decode cX9_init 185 = .ok (.aload_n 0, 1) := by decide +kernel
theorem dX9_init_186 : decode cX9_init 186 = .ok (.sipush 130, 3) := by decide +kernel
theorem dX9_init_189 : decode cX9_init 189 = .ok (.newarray .int, 2) := by decide +kernel
theorem dX9_init_191 : decode cX9_init 191 = .ok (.putfield 84, 3) := by decide +kernel
theorem dX9_init_194 : decode cX9_init 194 = .ok (.aload_n 0, 1) := by decide +kernel
theorem dX9_init_195 : decode cX9_init 195 = .ok (.sipush 130, 3) := by decide +kernel
theorem dX9_init_198 : decode cX9_init 198 = .ok (.newarray .int, 2) := by decide +kernel
theorem dX9_init_200 : decode cX9_init 200 = .ok (.putfield 87, 3) := by decide +kernel
theorem dX9_init_203 : decode cX9_init 203 = .ok (.aload_n 0, 1) := by decide +kernel
theorem dX9_init_204 : decode cX9_init 204 = .ok (.sipush 130, 3) := by decide +kernel
theorem dX9_init_207 : decode cX9_init 207 = .ok (.newarray .int, 2) := by decide +kernel
theorem dX9_init_209 : decode cX9_init 209 = .ok (.putfield 90, 3) := by decide +kernel
theorem dX9_init_212 : decode cX9_init 212 = .ok (.aload_n 0, 1) := by decide +kernel
theorem dX9_init_213 : decode cX9_init 213 = .ok (.sipush 130, 3) := by decide +kernel
theorem dX9_init_216 : decode cX9_init 216 = .ok (.newarray .int, 2) := by decide +kernel
theorem dX9_init_218 : decode cX9_init 218 = .ok (.putfield 93, 3) := by decide +kernel
theorem dX9_init_221 : decode cX9_init 221 = .ok (.aload_n 0, 1) := by decide +kernel
theorem dX9_init_222 : decode cX9_init 222 = .ok (.sipush 5240, 3) := by decide +kernel
theorem dX9_init_225 : decode cX9_init 225 = .ok (.newarray .int, 2) := by decide +kernel
theorem dX9_init_227 : decode cX9_init 227 = .ok (.putfield 96, 3) := by decide +kernel
theorem dX9_init_230 : decode cX9_init 230 = .ok (.aload_n 0, 1) := by decide +kernel
theorem dX9_init_231 : decode cX9_init 231 = .ok (.sipush 5240, 3) := by decide +kernel
theorem dX9_init_234 : decode cX9_init 234 = .ok (.newarray .long, 2) := by decide +kernel
theorem dX9_init_236 : decode cX9_init 236 = .ok (.putfield 99, 3) := by decide +kernel
theorem dX9_init_239 : decode cX9_init 239 = .ok (.aload_n 0, 1) := by decide +kernel
theorem dX9_init_240 : decode cX9_init 240 = .ok (.iconst 3, 1) := by decide +kernel
theorem dX9_init_241 : decode cX9_init 241 = .ok (.newarray .int, 2) := by decide +kernel
theorem dX9_init_243 : decode cX9_init 243 = .ok (.putfield 103, 3) := by decide +kernel
theorem dX9_init_246 : decode cX9_init 246 = .ok (.aload_n 0, 1) := by decide +kernel
theorem dX9_init_247 : decode cX9_init 247 = .ok (.iconst 3, 1) := by decide +kernel
theorem dX9_init_248 : decode cX9_init 248 = .ok (.newarray .long, 2) := by decide +kernel
theorem dX9_init_250 : decode cX9_init 250 = .ok (.putfield 106, 3) := by decide +kernel
theorem dX9_init_253 : decode cX9_init 253 = .ok (.aload_n 0, 1) := by decide +kernel
theorem dX9_init_254 : decode cX9_init 254 = .ok (.bipush 16, 2) := by decide +kernel
theorem dX9_init_256 : decode cX9_init 256 = .ok (.newarray .int, 2) := by decide +kernel
theorem dX9_init_258 : decode cX9_init 258 = .ok (.putfield 109, 3) := by decide +kernel
theorem dX9_init_261 : decode cX9_init 261 = .ok (.aload_n 0, 1) := by decide +kernel
theorem dX9_init_262 : decode cX9_init 262 = .ok (.getfield 16, 3) := by decide +kernel
theorem dX9_init_265 : decode cX9_init 265 = .ok (.iconst 0, 1) := by decide +kernel
theorem dX9_init_266 : decode cX9_init 266 = .ok (.iconst (-1), 1) := by decide +kernel
theorem dX9_init_267 : decode cX9_init 267 = .ok (.iastore, 1) := by decide +kernel
theorem dX9_init_268 : decode cX9_init 268 = .ok (.aload_n 0, 1) := by decide +kernel
theorem dX9_init_269 : decode cX9_init 269 = .ok (.getfield 23, 3) := by decide +kernel
theorem dX9_init_272 : decode cX9_init 272 = .ok (.iconst 0, 1) := by decide +kernel
theorem dX9_init_273 : decode cX9_init 273 = .ok (.iconst (-1), 1) := by decide +kernel
theorem dX9_init_274 : decode cX9_init 274 = .ok (.iastore, 1) := by decide +kernel
theorem dX9_init_275 : decode cX9_init 275 = .ok (.return_, 1) := by decide +kernel
theorem dX9_fails_0 : decode cX9_fails 0 = .ok (.aload_n 0, 1) := by decide +kernel
theorem dX9_fails_1 : decode cX9_fails 1 = .ok (.iload_n 1, 1) := by decide +kernel
theorem dX9_fails_2 : decode cX9_fails 2 = .ok (.putfield 112, 3) := by decide +kernel
theorem dX9_fails_5 : decode cX9_fails 5 = .ok (.bipush (-10), 2) := by decide +kernel
theorem dX9_fails_7 : decode cX9_fails 7 = .ok (.iload_n 1, 1) := by decide +kernel
theorem dX9_fails_8 : decode cX9_fails 8 = .ok (.isub, 1) := by decide +kernel
theorem dX9_fails_9 : decode cX9_fails 9 = .ok (.ireturn, 1) := by decide +kernel
theorem dX9_isClass_0 : decode cX9_isClass 0 = .ok (.iload_n 1, 1) := by decide +kernel
theorem dX9_isClass_1 : decode cX9_isClass 1 = .ok (.i2l, 1) := by decide +kernel
theorem dX9_isClass_2 : decode cX9_isClass 2 = .ok (.lconst 0, 1) := by decide +kernel
theorem dX9_isClass_3 : decode cX9_isClass 3 = .ok (.aload_n 0, 1) := by decide +kernel
theorem dX9_isClass_4 : decode cX9_isClass 4 = .ok (.getfield 13, 3) := by decide +kernel
theorem dX9_isClass_7 : decode cX9_isClass 7 = .ok (.iconst 1, 1) := by decide +kernel
theorem dX9_isClass_8 : decode cX9_isClass 8 = .ok (.isub, 1) := by decide +kernel
theorem dX9_isClass_9 : decode cX9_isClass 9 = .ok (.i2l, 1) := by decide +kernel
theorem dX9_isClass_10 : decode cX9_isClass 10 = .ok (.invokestatic 115, 3) := by decide +kernel
theorem dX9_isClass_13 : decode cX9_isClass 13 = .ok (.ireturn, 1) := by decide +kernel
theorem dX9_isObject_0 : decode cX9_isObject 0 = .ok (.lload_n 1, 1) := by decide +kernel
theorem dX9_isObject_1 : decode cX9_isObject 1 = .ok (.lconst 0, 1) := by decide +kernel
theorem dX9_isObject_2 : decode cX9_isObject 2 = .ok (.aload_n 0, 1) := by decide +kernel
theorem dX9_isObject_3 : decode cX9_isObject 3 = .ok (.getfield 119, 3) := by decide +kernel
theorem dX9_isObject_6 : decode cX9_isObject 6 = .ok (.iconst 1, 1) := by decide +kernel
theorem dX9_isObject_7 : decode cX9_isObject 7 = .ok (.isub, 1) := by decide +kernel
theorem dX9_isObject_8 : decode cX9_isObject 8 = .ok (.i2l, 1) := by decide +kernel
theorem dX9_isObject_9 : decode cX9_isObject 9 = .ok (.invokestatic 115, 3) := by decide +kernel
theorem dX9_isObject_12 : decode cX9_isObject 12 = .ok (.ireturn, 1) := by decide +kernel
theorem dX9_type_0 : decode cX9_type 0 = .ok (.aload_n 0, 1) := by decide +kernel
theorem dX9_type_1 : decode cX9_type 1 = .ok (.iconst 0, 1) := by decide +kernel
theorem dX9_type_2 : decode cX9_type 2 = .ok (.putfield 1, 3) := by decide +kernel
theorem dX9_type_5 : decode cX9_type 5 = .ok (.aload_n 0, 1) := by decide +kernel
theorem dX9_type_6 : decode cX9_type 6 = .ok (.iload_n 1, 1) := by decide +kernel
theorem dX9_type_7 : decode cX9_type 7 = .ok (.invokevirtual 122, 3) := by decide +kernel
theorem dX9_type_10 : decode cX9_type 10 = .ok (.ifCond .eq 16, 3) := by decide +kernel
theorem dX9_type_13 : decode cX9_type 13 = .ok (.iload_n 3, 1) := by decide +kernel
theorem dX9_type_14 : decode cX9_type 14 = .ok (.iconst (-1), 1) := by decide +kernel
theorem dX9_type_15 : decode cX9_type 15 = .ok (.if_icmp .eq 14, 3) := by decide +kernel
theorem dX9_type_18 : decode cX9_type 18 = .ok (.aload_n 0, 1) := by decide +kernel
theorem dX9_type_19 : decode cX9_type 19 = .ok (.iload_n 3, 1) := by decide +kernel
theorem dX9_type_20 : decode cX9_type 20 = .ok (.invokevirtual 122, 3) := by decide +kernel
theorem dX9_type_23 : decode cX9_type 23 = .ok (.ifCond .ne 6, 3) := by decide +kernel
theorem dX9_type_26 : decode cX9_type 26 = .ok (.bipush (-2), 2) := by decide +kernel
theorem dX9_type_28 : decode cX9_type 28 = .ok (.ireturn, 1) := by decide +kernel
theorem dX9_type_29 : decode cX9_type 29 = .ok (.iload_n 2, 1) := by decide +kernel
theorem dX9_type_30 : decode cX9_type 30 = .ok (.i2l, 1) := by decide +kernel
theorem dX9_type_31 : decode cX9_type 31 = .ok (.lconst 0, 1) := by decide +kernel
theorem dX9_type_32 : decode cX9_type 32 = .ok (.ldc2_w 126, 3) := by decide +kernel
theorem dX9_type_35 : decode cX9_type 35 = .ok (.invokestatic 115, 3) := by decide +kernel
theorem dX9_type_38 : decode cX9_type 38 = .ok (.ifCond .ne 6, 3) := by decide +kernel
theorem dX9_type_41 : decode cX9_type 41 = .ok (.bipush (-3), 2) := by decide +kernel
theorem dX9_type_43 : decode cX9_type 43 = .ok (.ireturn, 1) := by decide +kernel
theorem dX9_type_44 : decode cX9_type 44 = .ok (.aload_n 0, 1) := by decide +kernel
theorem dX9_type_45 : decode cX9_type 45 = .ok (.getfield 20, 3) := by decide +kernel
theorem dX9_type_48 : decode cX9_type 48 = .ok (.iload_n 1, 1) := by decide +kernel
theorem dX9_type_49 : decode cX9_type 49 = .ok (.iaload, 1) := by decide +kernel
theorem dX9_type_50 : decode cX9_type 50 = .ok (.istore 6, 2) := by decide +kernel
theorem dX9_type_52 : decode cX9_type 52 = .ok (.iload_n 2, 1) := by decide +kernel
theorem dX9_type_53 : decode cX9_type 53 = .ok (.iconst 2, 1) := by decide +kernel
theorem dX9_type_54 : decode cX9_type 54 = .ok (.if_icmp .le 15, 3) := by decide +kernel
theorem dX9_type_57 : decode cX9_type 57 = .ok (.iload_n 1, 1) := by decide +kernel
theorem dX9_type_58 : decode cX9_type 58 = .ok (.ifCond .ne 7, 3) := by decide +kernel
theorem dX9_type_61 : decode cX9_type 61 = .ok (.iconst 1, 1) := by decide +kernel
theorem dX9_type_62 : decode cX9_type 62 = .ok (.goto 41, 3) := by decide +kernel
theorem dX9_type_69 : decode cX9_type 69 = .ok (.iload_n 2, 1) := by decide +kernel
theorem dX9_type_70 : decode cX9_type 70 = .ok (.iconst 2, 1) := by decide +kernel
theorem dX9_type_71 : decode cX9_type 71 = .ok (.if_icmp .ne 21, 3) := by decide +kernel
theorem dX9_type_74 : decode cX9_type 74 = .ok (.iload_n 1, 1) := by decide +kernel
theorem dX9_type_75 : decode cX9_type 75 = .ok (.ifCond .eq 9, 3) := by decide +kernel
theorem dX9_type_84 : decode cX9_type 84 = .ok (.iconst 1, 1) := by decide +kernel
theorem dX9_type_85 : decode cX9_type 85 = .ok (.goto 18, 3) := by decide +kernel
theorem dX9_type_92 : decode cX9_type 92 = .ok (.iload 6, 2) := by decide +kernel
theorem dX9_type_94 : decode cX9_type 94 = .ok (.iconst 2, 1) := by decide +kernel
theorem dX9_type_95 : decode cX9_type 95 = .ok (.if_icmp .ge 7, 3) := by decide +kernel
theorem dX9_type_98 : decode cX9_type 98 = .ok (.iconst 1, 1) := by decide +kernel
theorem dX9_type_99 : decode cX9_type 99 = .ok (.goto 4, 3) := by decide +kernel
theorem dX9_type_103 : decode cX9_type 103 = .ok (.istore 7, 2) := by decide +kernel
theorem dX9_type_105 : decode cX9_type 105 = .ok (.iload 7, 2) := by decide +kernel
theorem dX9_type_107 : decode cX9_type 107 = .ok (.ifCond .eq 23, 3) := by decide +kernel
theorem dX9_type_110 : decode cX9_type 110 = .ok (.iload_n 3, 1) := by decide +kernel
theorem dX9_type_111 : decode cX9_type 111 = .ok (.iconst (-1), 1) := by decide +kernel
theorem dX9_type_112 : decode cX9_type 112 = .ok (.if_icmp .eq 21, 3) := by decide +kernel
theorem dX9_type_115 : decode cX9_type 115 = .ok (.iload_n 2, 1) := by decide +kernel
theorem dX9_type_116 : decode cX9_type 116 = .ok (.iconst 2, 1) := by decide +kernel
theorem dX9_type_117 : decode cX9_type 117 = .ok (.if_icmp .eq 13, 3) := by decide +kernel
theorem dX9_type_120 : decode cX9_type 120 = .ok (.aload_n 0, 1) := by decide +kernel
theorem dX9_type_121 : decode cX9_type 121 = .ok (.getfield 20, 3) := by decide +kernel
theorem dX9_type_124 : decode cX9_type 124 = .ok (.iload_n 3, 1) := by decide +kernel
theorem dX9_type_125 : decode cX9_type 125 = .ok (.iaload, 1) := by decide +kernel
theorem dX9_type_126 : decode cX9_type 126 = .ok (.iconst 2, 1) := by decide +kernel
theorem dX9_type_127 : decode cX9_type 127 = .ok (.if_icmp .eq 6, 3) := by decide +kernel
theorem dX9_type_130 : decode cX9_type 130 = .ok (.bipush (-4), 2) := by decide +kernel
theorem dX9_type_132 : decode cX9_type 132 = .ok (.ireturn, 1) := by decide +kernel
theorem dX9_type_133 : decode cX9_type 133 = .ok (.aload_n 0, 1) := by decide +kernel
theorem dX9_type_134 : decode cX9_type 134 = .ok (.getfield 13, 3) := by decide +kernel
theorem dX9_type_137 : decode cX9_type 137 = .ok (.bipush 16, 2) := by decide +kernel
theorem dX9_type_139 : decode cX9_type 139 = .ok (.if_icmp .ne 6, 3) := by decide +kernel
theorem dX9_type_145 : decode cX9_type 145 = .ok (.aload_n 0, 1) := by decide +kernel
theorem dX9_type_146 : decode cX9_type 146 = .ok (.getfield 13, 3) := by decide +kernel
theorem dX9_type_149 : decode cX9_type 149 = .ok (.istore 8, 2) := by decide +kernel
theorem dX9_type_151 : decode cX9_type 151 = .ok (.aload_n 0, 1) := by decide +kernel
theorem dX9_type_152 : decode cX9_type 152 = .ok (.dup, 1) := by decide +kernel
theorem dX9_type_153 : decode cX9_type 153 = .ok (.getfield 13, 3) := by decide +kernel
theorem dX9_type_156 : decode cX9_type 156 = .ok (.iconst 1, 1) := by decide +kernel
theorem dX9_type_157 : decode cX9_type 157 = .ok (.iadd, 1) := by decide +kernel
theorem dX9_type_158 : decode cX9_type 158 = .ok (.putfield 13, 3) := by decide +kernel
theorem dX9_type_161 : decode cX9_type 161 = .ok (.aload_n 0, 1) := by decide +kernel
theorem dX9_type_162 : decode cX9_type 162 = .ok (.getfield 16, 3) := by decide +kernel
theorem dX9_type_165 : decode cX9_type 165 = .ok (.iload 8, 2) := by decide +kernel
theorem dX9_type_167 : decode cX9_type 167 = .ok (.iload_n 1, 1) := by decide +kernel
theorem dX9_type_168 : decode cX9_type 168 = .ok (.iastore, 1) := by decide +kernel
theorem dX9_type_169 : decode cX9_type 169 = .ok (.aload_n 0, 1) := by decide +kernel
theorem dX9_type_170 : decode cX9_type 170 = .ok (.getfield 20, 3) := by decide +kernel
theorem dX9_type_173 : decode cX9_type 173 = .ok (.iload 8, 2) := by decide +kernel
theorem dX9_type_175 : decode cX9_type 175 = .ok (.iload_n 2, 1) := by decide +kernel
theorem dX9_type_176 : decode cX9_type 176 = .ok (.iastore, 1) := by decide +kernel
theorem dX9_type_177 : decode cX9_type 177 = .ok (.aload_n 0, 1) := by decide +kernel
theorem dX9_type_178 : decode cX9_type 178 = .ok (.getfield 23, 3) := by decide +kernel
theorem dX9_type_181 : decode cX9_type 181 = .ok (.iload 8, 2) := by decide +kernel
theorem dX9_type_183 : decode cX9_type 183 = .ok (.iload_n 3, 1) := by decide +kernel
theorem dX9_type_184 : decode cX9_type 184 = .ok (.iastore, 1) := by decide +kernel
theorem dX9_type_185 : decode cX9_type 185 = .ok (.aload_n 0, 1) := by decide +kernel
theorem dX9_type_186 : decode cX9_type 186 = .ok (.getfield 26, 3) := by decide +kernel
theorem dX9_type_189 : decode cX9_type 189 = .ok (.iload 8, 2) := by decide +kernel
theorem dX9_type_191 : decode cX9_type 191 = .ok (.iload 4, 2) := by decide +kernel
theorem dX9_type_193 : decode cX9_type 193 = .ok (.bastore, 1) := by decide +kernel
theorem dX9_type_194 : decode cX9_type 194 = .ok (.aload_n 0, 1) := by decide +kernel
theorem dX9_type_195 : decode cX9_type 195 = .ok (.getfield 30, 3) := by decide +kernel
theorem dX9_type_198 : decode cX9_type 198 = .ok (.iload 8, 2) := by decide +kernel
theorem dX9_type_200 : decode cX9_type 200 = .ok (.iload 5, 2) := by decide +kernel
theorem dX9_type_202 : decode cX9_type 202 = .ok (.bastore, 1) := by decide +kernel
theorem dX9_type_203 : decode cX9_type 203 = .ok (.iload 8, 2) := by decide +kernel
theorem dX9_type_205 : decode cX9_type 205 = .ok (.ireturn, 1) := by decide +kernel
theorem dX9_constants_0 : decode cX9_constants 0 = .ok (.aload_n 0, 1) := by decide +kernel
theorem dX9_constants_1 : decode cX9_constants 1 = .ok (.iconst 0, 1) := by decide +kernel
theorem dX9_constants_2 : decode cX9_constants 2 = .ok (.putfield 1, 3) := by decide +kernel
theorem dX9_constants_5 : decode cX9_constants 5 = .ok (.aload_n 0, 1) := by decide +kernel
theorem dX9_constants_6 : decode cX9_constants 6 = .ok (.iload_n 1, 1) := by decide +kernel
theorem dX9_constants_7 : decode cX9_constants 7 = .ok (.invokevirtual 122, 3) := by decide +kernel
theorem dX9_constants_10 : decode cX9_constants 10 = .ok (.ifCond .ne 6, 3) := by decide +kernel
theorem dX9_constants_13 : decode cX9_constants 13 = .ok (.bipush (-2), 2) := by decide +kernel
theorem dX9_constants_15 : decode cX9_constants 15 = .ok (.ireturn, 1) := by decide +kernel
theorem dX9_constants_16 : decode cX9_constants 16 = .ok (.iload_n 2, 1) := by decide +kernel
theorem dX9_constants_17 : decode cX9_constants 17 = .ok (.i2l, 1) := by decide +kernel
theorem dX9_constants_18 : decode cX9_constants 18 = .ok (.lconst 1, 1) := by decide +kernel
theorem dX9_constants_19 : decode cX9_constants 19 = .ok (.ldc2_w 126, 3) := by decide +kernel
theorem dX9_constants_22 : decode cX9_constants 22 = .ok (.invokestatic 115, 3) := by decide +kernel
theorem dX9_constants_25 : decode cX9_constants 25 = .ok (.ifCond .ne 6, 3) := by decide +kernel
theorem dX9_constants_28 : decode cX9_constants 28 = .ok (.bipush (-3), 2) := by decide +kernel
theorem dX9_constants_30 : decode cX9_constants 30 = .ok (.ireturn, 1) := by decide +kernel
theorem dX9_constants_31 : decode cX9_constants 31 = .ok (.aload_n 0, 1) := by decide +kernel
theorem dX9_constants_32 : decode cX9_constants 32 = .ok (.getfield 20, 3) := by decide +kernel
theorem dX9_constants_35 : decode cX9_constants 35 = .ok (.iload_n 1, 1) := by decide +kernel
theorem dX9_constants_36 : decode cX9_constants 36 = .ok (.iaload, 1) := by decide +kernel
theorem dX9_constants_37 : decode cX9_constants 37 = .ok (.iconst 4, 1) := by decide +kernel
theorem dX9_constants_38 : decode cX9_constants 38 = .ok (.if_icmp .ne 21, 3) := by decide +kernel
theorem dX9_constants_59 : decode cX9_constants 59 = .ok (.bipush (-4), 2) := by decide +kernel
theorem dX9_constants_61 : decode cX9_constants 61 = .ok (.ireturn, 1) := by decide +kernel
theorem dX9_isNoClass_0 : decode cX9_isNoClass 0 = .ok (.iload_n 1, 1) := by decide +kernel
theorem dX9_isNoClass_1 : decode cX9_isNoClass 1 = .ok (.ifCond .lt 15, 3) := by decide +kernel
theorem dX9_isNoClass_4 : decode cX9_isNoClass 4 = .ok (.aload_n 0, 1) := by decide +kernel
theorem dX9_isNoClass_5 : decode cX9_isNoClass 5 = .ok (.iload_n 1, 1) := by decide +kernel
theorem dX9_isNoClass_6 : decode cX9_isNoClass 6 = .ok (.invokevirtual 122, 3) := by decide +kernel
theorem dX9_isNoClass_9 : decode cX9_isNoClass 9 = .ok (.ifCond .ne 7, 3) := by decide +kernel
theorem dX9_isNoClass_12 : decode cX9_isNoClass 12 = .ok (.iconst 1, 1) := by decide +kernel
theorem dX9_isNoClass_13 : decode cX9_isNoClass 13 = .ok (.goto 4, 3) := by decide +kernel
theorem dX9_isNoClass_16 : decode cX9_isNoClass 16 = .ok (.iconst 0, 1) := by decide +kernel
theorem dX9_isNoClass_17 : decode cX9_isNoClass 17 = .ok (.ireturn, 1) := by decide +kernel
theorem dX9_hasField_0 : decode cX9_hasField 0 = .ok (.iconst 0, 1) := by decide +kernel
theorem dX9_hasField_1 : decode cX9_hasField 1 = .ok (.istore_n 3, 1) := by decide +kernel
theorem dX9_hasField_2 : decode cX9_hasField 2 = .ok (.iload_n 3, 1) := by decide +kernel
theorem dX9_hasField_3 : decode cX9_hasField 3 = .ok (.aload_n 0, 1) := by decide +kernel
theorem dX9_hasField_4 : decode cX9_hasField 4 = .ok (.getfield 128, 3) := by decide +kernel
theorem dX9_hasField_7 : decode cX9_hasField 7 = .ok (.if_icmp .ge 40, 3) := by decide +kernel
theorem dX9_hasField_47 : decode cX9_hasField 47 = .ok (.iconst 0, 1) := by decide +kernel
theorem dX9_hasField_48 : decode cX9_hasField 48 = .ok (.ireturn, 1) := by decide +kernel
theorem dX9_field_0 : decode cX9_field 0 = .ok (.aload_n 0, 1) := by decide +kernel
theorem dX9_field_1 : decode cX9_field 1 = .ok (.iconst 0, 1) := by decide +kernel
theorem dX9_field_2 : decode cX9_field 2 = .ok (.putfield 1, 3) := by decide +kernel
theorem dX9_field_5 : decode cX9_field 5 = .ok (.aload_n 0, 1) := by decide +kernel
theorem dX9_field_6 : decode cX9_field 6 = .ok (.iload_n 1, 1) := by decide +kernel
theorem dX9_field_7 : decode cX9_field 7 = .ok (.invokevirtual 122, 3) := by decide +kernel
theorem dX9_field_10 : decode cX9_field 10 = .ok (.ifCond .eq 11, 3) := by decide +kernel
theorem dX9_field_13 : decode cX9_field 13 = .ok (.aload_n 0, 1) := by decide +kernel
theorem dX9_field_14 : decode cX9_field 14 = .ok (.iload_n 3, 1) := by decide +kernel
theorem dX9_field_15 : decode cX9_field 15 = .ok (.invokevirtual 131, 3) := by decide +kernel
theorem dX9_field_18 : decode cX9_field 18 = .ok (.ifCond .eq 6, 3) := by decide +kernel
theorem dX9_field_21 : decode cX9_field 21 = .ok (.bipush (-2), 2) := by decide +kernel
theorem dX9_field_23 : decode cX9_field 23 = .ok (.ireturn, 1) := by decide +kernel
theorem dX9_field_24 : decode cX9_field 24 = .ok (.iload_n 2, 1) := by decide +kernel
theorem dX9_field_25 : decode cX9_field 25 = .ok (.i2l, 1) := by decide +kernel
theorem dX9_field_26 : decode cX9_field 26 = .ok (.lconst 0, 1) := by decide +kernel
theorem dX9_field_27 : decode cX9_field 27 = .ok (.ldc2_w 134, 3) := by decide +kernel
theorem dX9_field_30 : decode cX9_field 30 = .ok (.invokestatic 115, 3) := by decide +kernel
theorem dX9_field_33 : decode cX9_field 33 = .ok (.ifCond .eq 9, 3) := by decide +kernel
theorem dX9_field_36 : decode cX9_field 36 = .ok (.iload_n 3, 1) := by decide +kernel
theorem dX9_field_37 : decode cX9_field 37 = .ok (.bipush (-2), 2) := by decide +kernel
theorem dX9_field_39 : decode cX9_field 39 = .ok (.if_icmp .ge 6, 3) := by decide +kernel
theorem dX9_field_42 : decode cX9_field 42 = .ok (.bipush (-3), 2) := by decide +kernel
theorem dX9_field_44 : decode cX9_field 44 = .ok (.ireturn, 1) := by decide +kernel
theorem dX9_field_45 : decode cX9_field 45 = .ok (.iload_n 1, 1) := by decide +kernel
theorem dX9_field_46 : decode cX9_field 46 = .ok (.ifCond .eq 13, 3) := by decide +kernel
theorem dX9_field_59 : decode cX9_field 59 = .ok (.iload 4, 2) := by decide +kernel
theorem dX9_field_61 : decode cX9_field 61 = .ok (.goto 28, 3) := by decide +kernel
theorem dX9_field_89 : decode cX9_field 89 = .ok (.istore 7, 2) := by decide +kernel
theorem dX9_field_91 : decode cX9_field 91 = .ok (.iload 7, 2) := by decide +kernel
theorem dX9_field_93 : decode cX9_field 93 = .ok (.ifCond .eq 19, 3) := by decide +kernel
theorem dX9_field_96 : decode cX9_field 96 = .ok (.aload_n 0, 1) := by decide +kernel
theorem dX9_field_97 : decode cX9_field 97 = .ok (.iload_n 1, 1) := by decide +kernel
theorem dX9_field_98 : decode cX9_field 98 = .ok (.iload_n 2, 1) := by decide +kernel
theorem dX9_field_99 : decode cX9_field 99 = .ok (.invokevirtual 136, 3) := by decide +kernel
theorem dX9_field_102 : decode cX9_field 102 = .ok (.ifCond .ne 10, 3) := by decide +kernel
theorem dX9_field_105 : decode cX9_field 105 = .ok (.aload_n 0, 1) := by decide +kernel
theorem dX9_field_106 : decode cX9_field 106 = .ok (.getfield 119, 3) := by decide +kernel
theorem dX9_field_109 : decode cX9_field 109 = .ok (.ifCond .le 6, 3) := by decide +kernel
theorem dX9_field_112 : decode cX9_field 112 = .ok (.bipush (-4), 2) := by decide +kernel
theorem dX9_field_114 : decode cX9_field 114 = .ok (.ireturn, 1) := by decide +kernel
theorem dX9_field_115 : decode cX9_field 115 = .ok (.aload_n 0, 1) := by decide +kernel
theorem dX9_field_116 : decode cX9_field 116 = .ok (.getfield 128, 3) := by decide +kernel
theorem dX9_field_119 : decode cX9_field 119 = .ok (.bipush 40, 2) := by decide +kernel
theorem dX9_field_121 : decode cX9_field 121 = .ok (.if_icmp .ne 6, 3) := by decide +kernel
theorem dX9_field_127 : decode cX9_field 127 = .ok (.aload_n 0, 1) := by decide +kernel
theorem dX9_field_128 : decode cX9_field 128 = .ok (.getfield 128, 3) := by decide +kernel
theorem dX9_field_131 : decode cX9_field 131 = .ok (.istore 8, 2) := by decide +kernel
theorem dX9_field_133 : decode cX9_field 133 = .ok (.aload_n 0, 1) := by decide +kernel
theorem dX9_field_134 : decode cX9_field 134 = .ok (.dup, 1) := by decide +kernel
theorem dX9_field_135 : decode cX9_field 135 = .ok (.getfield 128, 3) := by decide +kernel
theorem dX9_field_138 : decode cX9_field 138 = .ok (.iconst 1, 1) := by decide +kernel
theorem dX9_field_139 : decode cX9_field 139 = .ok (.iadd, 1) := by decide +kernel
theorem dX9_field_140 : decode cX9_field 140 = .ok (.putfield 128, 3) := by decide +kernel
theorem dX9_field_143 : decode cX9_field 143 = .ok (.aload_n 0, 1) := by decide +kernel
theorem dX9_field_144 : decode cX9_field 144 = .ok (.getfield 42, 3) := by decide +kernel
theorem dX9_field_147 : decode cX9_field 147 = .ok (.iload 8, 2) := by decide +kernel
theorem dX9_field_149 : decode cX9_field 149 = .ok (.iload_n 1, 1) := by decide +kernel
theorem dX9_field_150 : decode cX9_field 150 = .ok (.iastore, 1) := by decide +kernel
theorem dX9_field_151 : decode cX9_field 151 = .ok (.aload_n 0, 1) := by decide +kernel
theorem dX9_field_152 : decode cX9_field 152 = .ok (.getfield 45, 3) := by decide +kernel
theorem dX9_field_155 : decode cX9_field 155 = .ok (.iload 8, 2) := by decide +kernel
theorem dX9_field_157 : decode cX9_field 157 = .ok (.iconst 1, 1) := by decide +kernel
theorem dX9_field_158 : decode cX9_field 158 = .ok (.bastore, 1) := by decide +kernel
theorem dX9_field_159 : decode cX9_field 159 = .ok (.aload_n 0, 1) := by decide +kernel
theorem dX9_field_160 : decode cX9_field 160 = .ok (.getfield 48, 3) := by decide +kernel
theorem dX9_field_163 : decode cX9_field 163 = .ok (.iload 8, 2) := by decide +kernel
theorem dX9_field_165 : decode cX9_field 165 = .ok (.iload_n 2, 1) := by decide +kernel
theorem dX9_field_166 : decode cX9_field 166 = .ok (.iastore, 1) := by decide +kernel
theorem dX9_field_167 : decode cX9_field 167 = .ok (.aload_n 0, 1) := by decide +kernel
theorem dX9_field_168 : decode cX9_field 168 = .ok (.getfield 51, 3) := by decide +kernel
theorem dX9_field_171 : decode cX9_field 171 = .ok (.iload 8, 2) := by decide +kernel
theorem dX9_field_173 : decode cX9_field 173 = .ok (.iload_n 3, 1) := by decide +kernel
theorem dX9_field_174 : decode cX9_field 174 = .ok (.iastore, 1) := by decide +kernel
theorem dX9_field_175 : decode cX9_field 175 = .ok (.aload_n 0, 1) := by decide +kernel
theorem dX9_field_176 : decode cX9_field 176 = .ok (.getfield 60, 3) := by decide +kernel
theorem dX9_field_179 : decode cX9_field 179 = .ok (.iload 8, 2) := by decide +kernel
theorem dX9_field_181 : decode cX9_field 181 = .ok (.iload 4, 2) := by decide +kernel
theorem dX9_field_183 : decode cX9_field 183 = .ok (.bastore, 1) := by decide +kernel
theorem dX9_field_184 : decode cX9_field 184 = .ok (.aload_n 0, 1) := by decide +kernel
theorem dX9_field_185 : decode cX9_field 185 = .ok (.getfield 63, 3) := by decide +kernel
theorem dX9_field_188 : decode cX9_field 188 = .ok (.iload 8, 2) := by decide +kernel
theorem dX9_field_190 : decode cX9_field 190 = .ok (.iload 5, 2) := by decide +kernel
theorem dX9_field_192 : decode cX9_field 192 = .ok (.bastore, 1) := by decide +kernel
theorem dX9_field_193 : decode cX9_field 193 = .ok (.aload_n 0, 1) := by decide +kernel
theorem dX9_field_194 : decode cX9_field 194 = .ok (.getfield 66, 3) := by decide +kernel
theorem dX9_field_197 : decode cX9_field 197 = .ok (.iload 8, 2) := by decide +kernel
theorem dX9_field_199 : decode cX9_field 199 = .ok (.iload 6, 2) := by decide +kernel
theorem dX9_field_201 : decode cX9_field 201 = .ok (.bastore, 1) := by decide +kernel
theorem dX9_field_202 : decode cX9_field 202 = .ok (.aload_n 0, 1) := by decide +kernel
theorem dX9_field_203 : decode cX9_field 203 = .ok (.sipush 130, 3) := by decide +kernel
theorem dX9_field_206 : decode cX9_field 206 = .ok (.iload 8, 2) := by decide +kernel
theorem dX9_field_208 : decode cX9_field 208 = .ok (.invokevirtual 140, 3) := by decide +kernel
theorem dX9_field_211 : decode cX9_field 211 = .ok (.iload 8, 2) := by decide +kernel
theorem dX9_field_213 : decode cX9_field 213 = .ok (.ireturn, 1) := by decide +kernel
theorem dX9_first_0 : decode cX9_first 0 = .ok (.aload_n 0, 1) := by decide +kernel
theorem dX9_first_1 : decode cX9_first 1 = .ok (.getfield 96, 3) := by decide +kernel
theorem dX9_first_4 : decode cX9_first 4 = .ok (.bipush 40, 2) := by decide +kernel
theorem dX9_first_6 : decode cX9_first 6 = .ok (.iload_n 1, 1) := by decide +kernel
theorem dX9_first_7 : decode cX9_first 7 = .ok (.imul, 1) := by decide +kernel
theorem dX9_first_8 : decode cX9_first 8 = .ok (.iload_n 2, 1) := by decide +kernel
theorem dX9_first_9 : decode cX9_first 9 = .ok (.iadd, 1) := by decide +kernel
theorem dX9_first_10 : decode cX9_first 10 = .ok (.aload_n 0, 1) := by decide +kernel
theorem dX9_first_11 : decode cX9_first 11 = .ok (.getfield 51, 3) := by decide +kernel
theorem dX9_first_14 : decode cX9_first 14 = .ok (.iload_n 2, 1) := by decide +kernel
theorem dX9_first_15 : decode cX9_first 15 = .ok (.iaload, 1) := by decide +kernel
theorem dX9_first_16 : decode cX9_first 16 = .ok (.iconst (-1), 1) := by decide +kernel
theorem dX9_first_17 : decode cX9_first 17 = .ok (.if_icmp .ne 7, 3) := by decide +kernel
theorem dX9_first_20 : decode cX9_first 20 = .ok (.iconst 1, 1) := by decide +kernel
theorem dX9_first_21 : decode cX9_first 21 = .ok (.goto 19, 3) := by decide +kernel
theorem dX9_first_24 : decode cX9_first 24 = .ok (.aload_n 0, 1) := by decide +kernel
theorem dX9_first_25 : decode cX9_first 25 = .ok (.getfield 51, 3) := by decide +kernel
theorem dX9_first_28 : decode cX9_first 28 = .ok (.iload_n 2, 1) := by decide +kernel
theorem dX9_first_29 : decode cX9_first 29 = .ok (.iaload, 1) := by decide +kernel
theorem dX9_first_30 : decode cX9_first 30 = .ok (.bipush (-2), 2) := by decide +kernel
theorem dX9_first_32 : decode cX9_first 32 = .ok (.if_icmp .ne 7, 3) := by decide +kernel
theorem dX9_first_35 : decode cX9_first 35 = .ok (.iconst 2, 1) := by decide +kernel
theorem dX9_first_36 : decode cX9_first 36 = .ok (.goto 4, 3) := by decide +kernel
theorem dX9_first_39 : decode cX9_first 39 = .ok (.iconst 0, 1) := by decide +kernel
theorem dX9_first_40 : decode cX9_first 40 = .ok (.iastore, 1) := by decide +kernel
theorem dX9_first_41 : decode cX9_first 41 = .ok (.aload_n 0, 1) := by decide +kernel
theorem dX9_first_42 : decode cX9_first 42 = .ok (.getfield 99, 3) := by decide +kernel
theorem dX9_first_45 : decode cX9_first 45 = .ok (.bipush 40, 2) := by decide +kernel
theorem dX9_first_47 : decode cX9_first 47 = .ok (.iload_n 1, 1) := by decide +kernel
theorem dX9_first_48 : decode cX9_first 48 = .ok (.imul, 1) := by decide +kernel
theorem dX9_first_49 : decode cX9_first 49 = .ok (.iload_n 2, 1) := by decide +kernel
theorem dX9_first_50 : decode cX9_first 50 = .ok (.iadd, 1) := by decide +kernel
theorem dX9_first_51 : decode cX9_first 51 = .ok (.lconst 0, 1) := by decide +kernel
theorem dX9_first_52 : decode cX9_first 52 = .ok (.lastore, 1) := by decide +kernel
theorem dX9_first_53 : decode cX9_first 53 = .ok (.return_, 1) := by decide +kernel
theorem dX9_bodyMay_0 : decode cX9_bodyMay 0 = .ok (.iload 5, 2) := by decide +kernel
theorem dX9_bodyMay_2 : decode cX9_bodyMay 2 = .ok (.tableswitch 165 1 7 #[42, 63, 86, 137, 165, 152, 63], 42) := by decide +kernel
theorem dX9_bodyMay_44 : decode cX9_bodyMay 44 = .ok (.iload_n 1, 1) := by decide +kernel
theorem dX9_bodyMay_45 : decode cX9_bodyMay 45 = .ok (.iconst 2, 1) := by decide +kernel
theorem dX9_bodyMay_46 : decode cX9_bodyMay 46 = .ok (.if_icmp .ne 17, 3) := by decide +kernel
theorem dX9_bodyMay_49 : decode cX9_bodyMay 49 = .ok (.iload_n 2, 1) := by decide +kernel
theorem dX9_bodyMay_50 : decode cX9_bodyMay 50 = .ok (.iconst (-1), 1) := by decide +kernel
theorem dX9_bodyMay_51 : decode cX9_bodyMay 51 = .ok (.if_icmp .ne 12, 3) := by decide +kernel
theorem dX9_bodyMay_54 : decode cX9_bodyMay 54 = .ok (.iload_n 3, 1) := by decide +kernel
theorem dX9_bodyMay_55 : decode cX9_bodyMay 55 = .ok (.iconst (-1), 1) := by decide +kernel
theorem dX9_bodyMay_56 : decode cX9_bodyMay 56 = .ok (.if_icmp .ne 7, 3) := by decide +kernel
theorem dX9_bodyMay_59 : decode cX9_bodyMay 59 = .ok (.iconst 1, 1) := by decide +kernel
theorem dX9_bodyMay_60 : decode cX9_bodyMay 60 = .ok (.goto 4, 3) := by decide +kernel
theorem dX9_bodyMay_63 : decode cX9_bodyMay 63 = .ok (.iconst 0, 1) := by decide +kernel
theorem dX9_bodyMay_64 : decode cX9_bodyMay 64 = .ok (.ireturn, 1) := by decide +kernel
theorem dX9_bodyMay_65 : decode cX9_bodyMay 65 = .ok (.iload_n 1, 1) := by decide +kernel
theorem dX9_bodyMay_66 : decode cX9_bodyMay 66 = .ok (.ifCond .le 20, 3) := by decide +kernel
theorem dX9_bodyMay_69 : decode cX9_bodyMay 69 = .ok (.iload_n 2, 1) := by decide +kernel
theorem dX9_bodyMay_70 : decode cX9_bodyMay 70 = .ok (.ifCond .lt 16, 3) := by decide +kernel
theorem dX9_bodyMay_73 : decode cX9_bodyMay 73 = .ok (.aload_n 0, 1) := by decide +kernel
theorem dX9_bodyMay_74 : decode cX9_bodyMay 74 = .ok (.iload 6, 2) := by decide +kernel
theorem dX9_bodyMay_76 : decode cX9_bodyMay 76 = .ok (.invokevirtual 122, 3) := by decide +kernel
theorem dX9_bodyMay_79 : decode cX9_bodyMay 79 = .ok (.ifCond .eq 7, 3) := by decide +kernel
theorem dX9_bodyMay_82 : decode cX9_bodyMay 82 = .ok (.iconst 1, 1) := by decide +kernel
theorem dX9_bodyMay_83 : decode cX9_bodyMay 83 = .ok (.goto 4, 3) := by decide +kernel
theorem dX9_bodyMay_86 : decode cX9_bodyMay 86 = .ok (.iconst 0, 1) := by decide +kernel
theorem dX9_bodyMay_87 : decode cX9_bodyMay 87 = .ok (.ireturn, 1) := by decide +kernel
theorem dX9_bodyMay_88 : decode cX9_bodyMay 88 = .ok (.iload_n 1, 1) := by decide +kernel
theorem dX9_bodyMay_89 : decode cX9_bodyMay 89 = .ok (.ifCond .le 48, 3) := by decide +kernel
theorem dX9_bodyMay_92 : decode cX9_bodyMay 92 = .ok (.iload_n 2, 1) := by decide +kernel
theorem dX9_bodyMay_93 : decode cX9_bodyMay 93 = .ok (.ifCond .lt 44, 3) := by decide +kernel
theorem dX9_bodyMay_96 : decode cX9_bodyMay 96 = .ok (.iload 6, 2) := by decide +kernel
theorem dX9_bodyMay_98 : decode cX9_bodyMay 98 = .ok (.i2l, 1) := by decide +kernel
theorem dX9_bodyMay_99 : decode cX9_bodyMay 99 = .ok (.lconst 0, 1) := by decide +kernel
theorem dX9_bodyMay_100 : decode cX9_bodyMay 100 = .ok (.aload_n 0, 1) := by decide +kernel
theorem dX9_bodyMay_101 : decode cX9_bodyMay 101 = .ok (.getfield 128, 3) := by decide +kernel
theorem dX9_bodyMay_104 : decode cX9_bodyMay 104 = .ok (.iconst 1, 1) := by decide +kernel
theorem dX9_bodyMay_105 : decode cX9_bodyMay 105 = .ok (.isub, 1) := by decide +kernel
theorem dX9_bodyMay_106 : decode cX9_bodyMay 106 = .ok (.i2l, 1) := by decide +kernel
theorem dX9_bodyMay_107 : decode cX9_bodyMay 107 = .ok (.invokestatic 115, 3) := by decide +kernel
theorem dX9_bodyMay_110 : decode cX9_bodyMay 110 = .ok (.ifCond .eq 27, 3) := by decide +kernel
theorem dX9_bodyMay_137 : decode cX9_bodyMay 137 = .ok (.iconst 0, 1) := by decide +kernel
theorem dX9_bodyMay_138 : decode cX9_bodyMay 138 = .ok (.ireturn, 1) := by decide +kernel
theorem dX9_bodyMay_139 : decode cX9_bodyMay 139 = .ok (.iload_n 1, 1) := by decide +kernel
theorem dX9_bodyMay_140 : decode cX9_bodyMay 140 = .ok (.ifCond .le 12, 3) := by decide +kernel
theorem dX9_bodyMay_143 : decode cX9_bodyMay 143 = .ok (.iload_n 2, 1) := by decide +kernel
theorem dX9_bodyMay_144 : decode cX9_bodyMay 144 = .ok (.iconst (-1), 1) := by decide +kernel
theorem dX9_bodyMay_145 : decode cX9_bodyMay 145 = .ok (.if_icmp .ne 7, 3) := by decide +kernel
theorem dX9_bodyMay_148 : decode cX9_bodyMay 148 = .ok (.iconst 1, 1) := by decide +kernel
theorem dX9_bodyMay_149 : decode cX9_bodyMay 149 = .ok (.goto 4, 3) := by decide +kernel
theorem dX9_bodyMay_152 : decode cX9_bodyMay 152 = .ok (.iconst 0, 1) := by decide +kernel
theorem dX9_bodyMay_153 : decode cX9_bodyMay 153 = .ok (.ireturn, 1) := by decide +kernel
theorem dX9_bodyMay_154 : decode cX9_bodyMay 154 = .ok (.iload 4, 2) := by decide +kernel
theorem dX9_bodyMay_156 : decode cX9_bodyMay 156 = .ok (.iconst 1, 1) := by decide +kernel
theorem dX9_bodyMay_157 : decode cX9_bodyMay 157 = .ok (.iand, 1) := by decide +kernel
theorem dX9_bodyMay_158 : decode cX9_bodyMay 158 = .ok (.ifCond .ne 7, 3) := by decide +kernel
theorem dX9_bodyMay_161 : decode cX9_bodyMay 161 = .ok (.iconst 1, 1) := by decide +kernel
theorem dX9_bodyMay_162 : decode cX9_bodyMay 162 = .ok (.goto 4, 3) := by decide +kernel
theorem dX9_bodyMay_165 : decode cX9_bodyMay 165 = .ok (.iconst 0, 1) := by decide +kernel
theorem dX9_bodyMay_166 : decode cX9_bodyMay 166 = .ok (.ireturn, 1) := by decide +kernel
theorem dX9_bodyMay_167 : decode cX9_bodyMay 167 = .ok (.iconst 1, 1) := by decide +kernel
theorem dX9_bodyMay_168 : decode cX9_bodyMay 168 = .ok (.ireturn, 1) := by decide +kernel
theorem dX9_method_0 : decode cX9_method 0 = .ok (.aload_n 0, 1) := by decide +kernel
theorem dX9_method_1 : decode cX9_method 1 = .ok (.iconst 0, 1) := by decide +kernel
theorem dX9_method_2 : decode cX9_method 2 = .ok (.putfield 1, 3) := by decide +kernel
theorem dX9_method_5 : decode cX9_method 5 = .ok (.aload_n 0, 1) := by decide +kernel
theorem dX9_method_6 : decode cX9_method 6 = .ok (.iload_n 1, 1) := by decide +kernel
theorem dX9_method_7 : decode cX9_method 7 = .ok (.invokevirtual 122, 3) := by decide +kernel
theorem dX9_method_10 : decode cX9_method 10 = .ok (.ifCond .eq 39, 3) := by decide +kernel
theorem dX9_method_13 : decode cX9_method 13 = .ok (.iload_n 3, 1) := by decide +kernel
theorem dX9_method_14 : decode cX9_method 14 = .ok (.ifCond .le 12, 3) := by decide +kernel
theorem dX9_method_17 : decode cX9_method 17 = .ok (.aload_n 0, 1) := by decide +kernel
theorem dX9_method_18 : decode cX9_method 18 = .ok (.iload 4, 2) := by decide +kernel
theorem dX9_method_20 : decode cX9_method 20 = .ok (.invokevirtual 131, 3) := by decide +kernel
theorem dX9_method_23 : decode cX9_method 23 = .ok (.ifCond .ne 26, 3) := by decide +kernel
theorem dX9_method_26 : decode cX9_method 26 = .ok (.iload_n 3, 1) := by decide +kernel
theorem dX9_method_27 : decode cX9_method 27 = .ok (.iconst 1, 1) := by decide +kernel
theorem dX9_method_28 : decode cX9_method 28 = .ok (.if_icmp .le 12, 3) := by decide +kernel
theorem dX9_method_31 : decode cX9_method 31 = .ok (.aload_n 0, 1) := by decide +kernel
theorem dX9_method_32 : decode cX9_method 32 = .ok (.iload 5, 2) := by decide +kernel
theorem dX9_method_34 : decode cX9_method 34 = .ok (.invokevirtual 131, 3) := by decide +kernel
theorem dX9_method_37 : decode cX9_method 37 = .ok (.ifCond .ne 12, 3) := by decide +kernel
theorem dX9_method_40 : decode cX9_method 40 = .ok (.aload_n 0, 1) := by decide +kernel
theorem dX9_method_41 : decode cX9_method 41 = .ok (.iload 6, 2) := by decide +kernel
theorem dX9_method_43 : decode cX9_method 43 = .ok (.invokevirtual 131, 3) := by decide +kernel
theorem dX9_method_46 : decode cX9_method 46 = .ok (.ifCond .eq 6, 3) := by decide +kernel
theorem dX9_method_49 : decode cX9_method 49 = .ok (.bipush (-2), 2) := by decide +kernel
theorem dX9_method_51 : decode cX9_method 51 = .ok (.ireturn, 1) := by decide +kernel
theorem dX9_method_52 : decode cX9_method 52 = .ok (.iload_n 2, 1) := by decide +kernel
theorem dX9_method_53 : decode cX9_method 53 = .ok (.i2l, 1) := by decide +kernel
theorem dX9_method_54 : decode cX9_method 54 = .ok (.lconst 0, 1) := by decide +kernel
theorem dX9_method_55 : decode cX9_method 55 = .ok (.ldc2_w 134, 3) := by decide +kernel
theorem dX9_method_58 : decode cX9_method 58 = .ok (.invokestatic 115, 3) := by decide +kernel
theorem dX9_method_61 : decode cX9_method 61 = .ok (.ifCond .eq 45, 3) := by decide +kernel
theorem dX9_method_64 : decode cX9_method 64 = .ok (.iload_n 3, 1) := by decide +kernel
theorem dX9_method_65 : decode cX9_method 65 = .ok (.i2l, 1) := by decide +kernel
theorem dX9_method_66 : decode cX9_method 66 = .ok (.lconst 0, 1) := by decide +kernel
theorem dX9_method_67 : decode cX9_method 67 = .ok (.ldc2_w 144, 3) := by decide +kernel
theorem dX9_method_70 : decode cX9_method 70 = .ok (.invokestatic 115, 3) := by decide +kernel
theorem dX9_method_73 : decode cX9_method 73 = .ok (.ifCond .eq 33, 3) := by decide +kernel
theorem dX9_method_76 : decode cX9_method 76 = .ok (.iload_n 3, 1) := by decide +kernel
theorem dX9_method_77 : decode cX9_method 77 = .ok (.ifCond .le 10, 3) := by decide +kernel
theorem dX9_method_80 : decode cX9_method 80 = .ok (.iload 4, 2) := by decide +kernel
theorem dX9_method_82 : decode cX9_method 82 = .ok (.bipush (-2), 2) := by decide +kernel
theorem dX9_method_84 : decode cX9_method 84 = .ok (.if_icmp .lt 22, 3) := by decide +kernel
theorem dX9_method_87 : decode cX9_method 87 = .ok (.iload_n 3, 1) := by decide +kernel
theorem dX9_method_88 : decode cX9_method 88 = .ok (.iconst 1, 1) := by decide +kernel
theorem dX9_method_89 : decode cX9_method 89 = .ok (.if_icmp .le 10, 3) := by decide +kernel
theorem dX9_method_92 : decode cX9_method 92 = .ok (.iload 5, 2) := by decide +kernel
theorem dX9_method_94 : decode cX9_method 94 = .ok (.bipush (-2), 2) := by decide +kernel
theorem dX9_method_96 : decode cX9_method 96 = .ok (.if_icmp .lt 10, 3) := by decide +kernel
theorem dX9_method_99 : decode cX9_method 99 = .ok (.iload 6, 2) := by decide +kernel
theorem dX9_method_101 : decode cX9_method 101 = .ok (.bipush (-3), 2) := by decide +kernel
theorem dX9_method_103 : decode cX9_method 103 = .ok (.if_icmp .ge 7, 3) := by decide +kernel
theorem dX9_method_106 : decode cX9_method 106 = .ok (.iconst 1, 1) := by decide +kernel
theorem dX9_method_107 : decode cX9_method 107 = .ok (.goto 4, 3) := by decide +kernel
theorem dX9_method_110 : decode cX9_method 110 = .ok (.iconst 0, 1) := by decide +kernel
theorem dX9_method_111 : decode cX9_method 111 = .ok (.istore 10, 2) := by decide +kernel
theorem dX9_method_113 : decode cX9_method 113 = .ok (.iload 10, 2) := by decide +kernel
theorem dX9_method_115 : decode cX9_method 115 = .ok (.ifCond .ne 61, 3) := by decide +kernel
theorem dX9_method_118 : decode cX9_method 118 = .ok (.iload 7, 2) := by decide +kernel
theorem dX9_method_120 : decode cX9_method 120 = .ok (.i2l, 1) := by decide +kernel
theorem dX9_method_121 : decode cX9_method 121 = .ok (.lconst 0, 1) := by decide +kernel
theorem dX9_method_122 : decode cX9_method 122 = .ok (.ldc2_w 146, 3) := by decide +kernel
theorem dX9_method_125 : decode cX9_method 125 = .ok (.invokestatic 115, 3) := by decide +kernel
theorem dX9_method_128 : decode cX9_method 128 = .ok (.ifCond .eq 48, 3) := by decide +kernel
theorem dX9_method_131 : decode cX9_method 131 = .ok (.iload 7, 2) := by decide +kernel
theorem dX9_method_133 : decode cX9_method 133 = .ok (.iconst 2, 1) := by decide +kernel
theorem dX9_method_134 : decode cX9_method 134 = .ok (.iand, 1) := by decide +kernel
theorem dX9_method_135 : decode cX9_method 135 = .ok (.ifCond .eq 9, 3) := by decide +kernel
theorem dX9_method_138 : decode cX9_method 138 = .ok (.iload 7, 2) := by decide +kernel
theorem dX9_method_140 : decode cX9_method 140 = .ok (.iconst 2, 1) := by decide +kernel
theorem dX9_method_141 : decode cX9_method 141 = .ok (.if_icmp .ne 35, 3) := by decide +kernel
theorem dX9_method_144 : decode cX9_method 144 = .ok (.iload 8, 2) := by decide +kernel
theorem dX9_method_146 : decode cX9_method 146 = .ok (.i2l, 1) := by decide +kernel
theorem dX9_method_147 : decode cX9_method 147 = .ok (.lconst 0, 1) := by decide +kernel
theorem dX9_method_148 : decode cX9_method 148 = .ok (.ldc2_w 146, 3) := by decide +kernel
theorem dX9_method_151 : decode cX9_method 151 = .ok (.invokestatic 115, 3) := by decide +kernel
theorem dX9_method_154 : decode cX9_method 154 = .ok (.ifCond .eq 22, 3) := by decide +kernel
theorem dX9_method_157 : decode cX9_method 157 = .ok (.iload 8, 2) := by decide +kernel
theorem dX9_method_159 : decode cX9_method 159 = .ok (.iconst 5, 1) := by decide +kernel
theorem dX9_method_160 : decode cX9_method 160 = .ok (.if_icmp .ne 19, 3) := by decide +kernel
theorem dX9_method_163 : decode cX9_method 163 = .ok (.iload 9, 2) := by decide +kernel
theorem dX9_method_165 : decode cX9_method 165 = .ok (.i2l, 1) := by decide +kernel
theorem dX9_method_166 : decode cX9_method 166 = .ok (.lconst 0, 1) := by decide +kernel
theorem dX9_method_167 : decode cX9_method 167 = .ok (.ldc2_w 148, 3) := by decide +kernel
theorem dX9_method_170 : decode cX9_method 170 = .ok (.invokestatic 115, 3) := by decide +kernel
theorem dX9_method_173 : decode cX9_method 173 = .ok (.ifCond .ne 6, 3) := by decide +kernel
theorem dX9_method_176 : decode cX9_method 176 = .ok (.bipush (-3), 2) := by decide +kernel
theorem dX9_method_178 : decode cX9_method 178 = .ok (.ireturn, 1) := by decide +kernel
theorem dX9_method_179 : decode cX9_method 179 = .ok (.iload 7, 2) := by decide +kernel
theorem dX9_method_181 : decode cX9_method 181 = .ok (.iconst 2, 1) := by decide +kernel
theorem dX9_method_182 : decode cX9_method 182 = .ok (.if_icmp .ne 7, 3) := by decide +kernel
theorem dX9_method_185 : decode cX9_method 185 = .ok (.iconst 1, 1) := by decide +kernel
theorem dX9_method_186 : decode cX9_method 186 = .ok (.goto 4, 3) := by decide +kernel
theorem dX9_method_189 : decode cX9_method 189 = .ok (.iconst 0, 1) := by decide +kernel
theorem dX9_method_190 : decode cX9_method 190 = .ok (.istore 11, 2) := by decide +kernel
theorem dX9_method_192 : decode cX9_method 192 = .ok (.aload_n 0, 1) := by decide +kernel
theorem dX9_method_193 : decode cX9_method 193 = .ok (.getfield 20, 3) := by decide +kernel
theorem dX9_method_196 : decode cX9_method 196 = .ok (.iload_n 1, 1) := by decide +kernel
theorem dX9_method_197 : decode cX9_method 197 = .ok (.iaload, 1) := by decide +kernel
theorem dX9_method_198 : decode cX9_method 198 = .ok (.iconst 2, 1) := by decide +kernel
theorem dX9_method_199 : decode cX9_method 199 = .ok (.if_icmp .ne 24, 3) := by decide +kernel
theorem dX9_method_223 : decode cX9_method 223 = .ok (.iload 11, 2) := by decide +kernel
theorem dX9_method_225 : decode cX9_method 225 = .ok (.ifCond .eq 13, 3) := by decide +kernel
theorem dX9_method_228 : decode cX9_method 228 = .ok (.aload_n 0, 1) := by decide +kernel
theorem dX9_method_229 : decode cX9_method 229 = .ok (.getfield 20, 3) := by decide +kernel
theorem dX9_method_232 : decode cX9_method 232 = .ok (.iload_n 1, 1) := by decide +kernel
theorem dX9_method_233 : decode cX9_method 233 = .ok (.iaload, 1) := by decide +kernel
theorem dX9_method_234 : decode cX9_method 234 = .ok (.iconst 1, 1) := by decide +kernel
theorem dX9_method_235 : decode cX9_method 235 = .ok (.if_icmp .ne 7, 3) := by decide +kernel
theorem dX9_method_238 : decode cX9_method 238 = .ok (.iconst 1, 1) := by decide +kernel
theorem dX9_method_239 : decode cX9_method 239 = .ok (.goto 4, 3) := by decide +kernel
theorem dX9_method_242 : decode cX9_method 242 = .ok (.iconst 0, 1) := by decide +kernel
theorem dX9_method_243 : decode cX9_method 243 = .ok (.istore 12, 2) := by decide +kernel
theorem dX9_method_245 : decode cX9_method 245 = .ok (.iload 12, 2) := by decide +kernel
theorem dX9_method_247 : decode cX9_method 247 = .ok (.ifCond .eq 30, 3) := by decide +kernel
theorem dX9_method_250 : decode cX9_method 250 = .ok (.iload 11, 2) := by decide +kernel
theorem dX9_method_252 : decode cX9_method 252 = .ok (.ifCond .ne 21, 3) := by decide +kernel
theorem dX9_method_255 : decode cX9_method 255 = .ok (.aload_n 0, 1) := by decide +kernel
theorem dX9_method_256 : decode cX9_method 256 = .ok (.iload_n 3, 1) := by decide +kernel
theorem dX9_method_257 : decode cX9_method 257 = .ok (.iload 4, 2) := by decide +kernel
theorem dX9_method_259 : decode cX9_method 259 = .ok (.iload 5, 2) := by decide +kernel
theorem dX9_method_261 : decode cX9_method 261 = .ok (.iload 7, 2) := by decide +kernel
theorem dX9_method_263 : decode cX9_method 263 = .ok (.iload 8, 2) := by decide +kernel
theorem dX9_method_265 : decode cX9_method 265 = .ok (.iload 9, 2) := by decide +kernel
theorem dX9_method_267 : decode cX9_method 267 = .ok (.invokevirtual 150, 3) := by decide +kernel
theorem dX9_method_270 : decode cX9_method 270 = .ok (.ifCond .eq 7, 3) := by decide +kernel
theorem dX9_method_273 : decode cX9_method 273 = .ok (.iconst 1, 1) := by decide +kernel
theorem dX9_method_274 : decode cX9_method 274 = .ok (.goto 4, 3) := by decide +kernel
theorem dX9_method_277 : decode cX9_method 277 = .ok (.iconst 0, 1) := by decide +kernel
theorem dX9_method_278 : decode cX9_method 278 = .ok (.istore 12, 2) := by decide +kernel
theorem dX9_method_280 : decode cX9_method 280 = .ok (.iconst 0, 1) := by decide +kernel
theorem dX9_method_281 : decode cX9_method 281 = .ok (.istore 13, 2) := by decide +kernel
theorem dX9_method_283 : decode cX9_method 283 = .ok (.iload 13, 2) := by decide +kernel
theorem dX9_method_285 : decode cX9_method 285 = .ok (.aload_n 0, 1) := by decide +kernel
theorem dX9_method_286 : decode cX9_method 286 = .ok (.getfield 128, 3) := by decide +kernel
theorem dX9_method_289 : decode cX9_method 289 = .ok (.if_icmp .ge 47, 3) := by decide +kernel
theorem dX9_method_336 : decode cX9_method 336 = .ok (.iload 12, 2) := by decide +kernel
theorem dX9_method_338 : decode cX9_method 338 = .ok (.ifCond .eq 10, 3) := by decide +kernel
theorem dX9_method_341 : decode cX9_method 341 = .ok (.aload_n 0, 1) := by decide +kernel
theorem dX9_method_342 : decode cX9_method 342 = .ok (.getfield 119, 3) := by decide +kernel
theorem dX9_method_345 : decode cX9_method 345 = .ok (.ifCond .le 6, 3) := by decide +kernel
theorem dX9_method_348 : decode cX9_method 348 = .ok (.bipush (-4), 2) := by decide +kernel
theorem dX9_method_350 : decode cX9_method 350 = .ok (.ireturn, 1) := by decide +kernel
theorem dX9_method_351 : decode cX9_method 351 = .ok (.aload_n 0, 1) := by decide +kernel
theorem dX9_method_352 : decode cX9_method 352 = .ok (.getfield 128, 3) := by decide +kernel
theorem dX9_method_355 : decode cX9_method 355 = .ok (.bipush 40, 2) := by decide +kernel
theorem dX9_method_357 : decode cX9_method 357 = .ok (.if_icmp .ne 6, 3) := by decide +kernel
theorem dX9_method_363 : decode cX9_method 363 = .ok (.aload_n 0, 1) := by decide +kernel
theorem dX9_method_364 : decode cX9_method 364 = .ok (.getfield 128, 3) := by decide +kernel
theorem dX9_method_367 : decode cX9_method 367 = .ok (.istore 13, 2) := by decide +kernel
theorem dX9_method_369 : decode cX9_method 369 = .ok (.aload_n 0, 1) := by decide +kernel
theorem dX9_method_370 : decode cX9_method 370 = .ok (.dup, 1) := by decide +kernel
theorem dX9_method_371 : decode cX9_method 371 = .ok (.getfield 128, 3) := by decide +kernel
theorem dX9_method_374 : decode cX9_method 374 = .ok (.iconst 1, 1) := by decide +kernel
theorem dX9_method_375 : decode cX9_method 375 = .ok (.iadd, 1) := by decide +kernel
theorem dX9_method_376 : decode cX9_method 376 = .ok (.putfield 128, 3) := by decide +kernel
theorem dX9_method_379 : decode cX9_method 379 = .ok (.aload_n 0, 1) := by decide +kernel
theorem dX9_method_380 : decode cX9_method 380 = .ok (.getfield 42, 3) := by decide +kernel
theorem dX9_method_383 : decode cX9_method 383 = .ok (.iload 13, 2) := by decide +kernel
theorem dX9_method_385 : decode cX9_method 385 = .ok (.iload_n 1, 1) := by decide +kernel
theorem dX9_method_386 : decode cX9_method 386 = .ok (.iastore, 1) := by decide +kernel
theorem dX9_method_387 : decode cX9_method 387 = .ok (.aload_n 0, 1) := by decide +kernel
theorem dX9_method_388 : decode cX9_method 388 = .ok (.getfield 45, 3) := by decide +kernel
theorem dX9_method_391 : decode cX9_method 391 = .ok (.iload 13, 2) := by decide +kernel
theorem dX9_method_393 : decode cX9_method 393 = .ok (.iconst 0, 1) := by decide +kernel
theorem dX9_method_394 : decode cX9_method 394 = .ok (.bastore, 1) := by decide +kernel
theorem dX9_method_395 : decode cX9_method 395 = .ok (.aload_n 0, 1) := by decide +kernel
theorem dX9_method_396 : decode cX9_method 396 = .ok (.getfield 48, 3) := by decide +kernel
theorem dX9_method_399 : decode cX9_method 399 = .ok (.iload 13, 2) := by decide +kernel
theorem dX9_method_401 : decode cX9_method 401 = .ok (.iload_n 2, 1) := by decide +kernel
theorem dX9_method_402 : decode cX9_method 402 = .ok (.iastore, 1) := by decide +kernel
theorem dX9_method_403 : decode cX9_method 403 = .ok (.aload_n 0, 1) := by decide +kernel
theorem dX9_method_404 : decode cX9_method 404 = .ok (.getfield 54, 3) := by decide +kernel
theorem dX9_method_407 : decode cX9_method 407 = .ok (.iload 13, 2) := by decide +kernel
theorem dX9_method_409 : decode cX9_method 409 = .ok (.iload_n 3, 1) := by decide +kernel
theorem dX9_method_410 : decode cX9_method 410 = .ok (.iastore, 1) := by decide +kernel
theorem dX9_method_411 : decode cX9_method 411 = .ok (.aload_n 0, 1) := by decide +kernel
theorem dX9_method_412 : decode cX9_method 412 = .ok (.getfield 57, 3) := by decide +kernel
theorem dX9_method_415 : decode cX9_method 415 = .ok (.iconst 2, 1) := by decide +kernel
theorem dX9_method_416 : decode cX9_method 416 = .ok (.iload 13, 2) := by decide +kernel
theorem dX9_method_418 : decode cX9_method 418 = .ok (.imul, 1) := by decide +kernel
theorem dX9_method_419 : decode cX9_method 419 = .ok (.iload 4, 2) := by decide +kernel
theorem dX9_method_421 : decode cX9_method 421 = .ok (.iastore, 1) := by decide +kernel
theorem dX9_method_422 : decode cX9_method 422 = .ok (.aload_n 0, 1) := by decide +kernel
theorem dX9_method_423 : decode cX9_method 423 = .ok (.getfield 57, 3) := by decide +kernel
theorem dX9_method_426 : decode cX9_method 426 = .ok (.iconst 2, 1) := by decide +kernel
theorem dX9_method_427 : decode cX9_method 427 = .ok (.iload 13, 2) := by decide +kernel
theorem dX9_method_429 : decode cX9_method 429 = .ok (.imul, 1) := by decide +kernel
theorem dX9_method_430 : decode cX9_method 430 = .ok (.iconst 1, 1) := by decide +kernel
theorem dX9_method_431 : decode cX9_method 431 = .ok (.iadd, 1) := by decide +kernel
theorem dX9_method_432 : decode cX9_method 432 = .ok (.iload 5, 2) := by decide +kernel
theorem dX9_method_434 : decode cX9_method 434 = .ok (.iastore, 1) := by decide +kernel
theorem dX9_method_435 : decode cX9_method 435 = .ok (.aload_n 0, 1) := by decide +kernel
theorem dX9_method_436 : decode cX9_method 436 = .ok (.getfield 51, 3) := by decide +kernel
theorem dX9_method_439 : decode cX9_method 439 = .ok (.iload 13, 2) := by decide +kernel
theorem dX9_method_441 : decode cX9_method 441 = .ok (.iload 6, 2) := by decide +kernel
theorem dX9_method_443 : decode cX9_method 443 = .ok (.iastore, 1) := by decide +kernel
theorem dX9_method_444 : decode cX9_method 444 = .ok (.aload_n 0, 1) := by decide +kernel
theorem dX9_method_445 : decode cX9_method 445 = .ok (.getfield 60, 3) := by decide +kernel
theorem dX9_method_448 : decode cX9_method 448 = .ok (.iload 13, 2) := by decide +kernel
theorem dX9_method_450 : decode cX9_method 450 = .ok (.iload 7, 2) := by decide +kernel
theorem dX9_method_452 : decode cX9_method 452 = .ok (.iconst 1, 1) := by decide +kernel
theorem dX9_method_453 : decode cX9_method 453 = .ok (.iand, 1) := by decide +kernel
theorem dX9_method_454 : decode cX9_method 454 = .ok (.iconst 1, 1) := by decide +kernel
theorem dX9_method_455 : decode cX9_method 455 = .ok (.if_icmp .ne 7, 3) := by decide +kernel
theorem dX9_method_458 : decode cX9_method 458 = .ok (.iconst 1, 1) := by decide +kernel
theorem dX9_method_459 : decode cX9_method 459 = .ok (.goto 4, 3) := by decide +kernel
theorem dX9_method_462 : decode cX9_method 462 = .ok (.iconst 0, 1) := by decide +kernel
theorem dX9_method_463 : decode cX9_method 463 = .ok (.bastore, 1) := by decide +kernel
theorem dX9_method_464 : decode cX9_method 464 = .ok (.aload_n 0, 1) := by decide +kernel
theorem dX9_method_465 : decode cX9_method 465 = .ok (.getfield 69, 3) := by decide +kernel
theorem dX9_method_468 : decode cX9_method 468 = .ok (.iload 13, 2) := by decide +kernel
theorem dX9_method_470 : decode cX9_method 470 = .ok (.iload 11, 2) := by decide +kernel
theorem dX9_method_472 : decode cX9_method 472 = .ok (.bastore, 1) := by decide +kernel
theorem dX9_method_473 : decode cX9_method 473 = .ok (.aload_n 0, 1) := by decide +kernel
theorem dX9_method_474 : decode cX9_method 474 = .ok (.getfield 66, 3) := by decide +kernel
theorem dX9_method_477 : decode cX9_method 477 = .ok (.iload 13, 2) := by decide +kernel
theorem dX9_method_479 : decode cX9_method 479 = .ok (.iload 7, 2) := by decide +kernel
theorem dX9_method_481 : decode cX9_method 481 = .ok (.iconst 4, 1) := by decide +kernel
theorem dX9_method_482 : decode cX9_method 482 = .ok (.iand, 1) := by decide +kernel
theorem dX9_method_483 : decode cX9_method 483 = .ok (.iconst 4, 1) := by decide +kernel
theorem dX9_method_484 : decode cX9_method 484 = .ok (.if_icmp .ne 7, 3) := by decide +kernel
theorem dX9_method_487 : decode cX9_method 487 = .ok (.iconst 1, 1) := by decide +kernel
theorem dX9_method_488 : decode cX9_method 488 = .ok (.goto 4, 3) := by decide +kernel
theorem dX9_method_491 : decode cX9_method 491 = .ok (.iconst 0, 1) := by decide +kernel
theorem dX9_method_492 : decode cX9_method 492 = .ok (.bastore, 1) := by decide +kernel
theorem dX9_method_493 : decode cX9_method 493 = .ok (.aload_n 0, 1) := by decide +kernel
theorem dX9_method_494 : decode cX9_method 494 = .ok (.getfield 72, 3) := by decide +kernel
theorem dX9_method_497 : decode cX9_method 497 = .ok (.iload 13, 2) := by decide +kernel
theorem dX9_method_499 : decode cX9_method 499 = .ok (.iload 8, 2) := by decide +kernel
theorem dX9_method_501 : decode cX9_method 501 = .ok (.iastore, 1) := by decide +kernel
theorem dX9_method_502 : decode cX9_method 502 = .ok (.aload_n 0, 1) := by decide +kernel
theorem dX9_method_503 : decode cX9_method 503 = .ok (.getfield 75, 3) := by decide +kernel
theorem dX9_method_506 : decode cX9_method 506 = .ok (.iload 13, 2) := by decide +kernel
theorem dX9_method_508 : decode cX9_method 508 = .ok (.iload 9, 2) := by decide +kernel
theorem dX9_method_510 : decode cX9_method 510 = .ok (.iastore, 1) := by decide +kernel
theorem dX9_method_511 : decode cX9_method 511 = .ok (.iload 13, 2) := by decide +kernel
theorem dX9_method_513 : decode cX9_method 513 = .ok (.ireturn, 1) := by decide +kernel
theorem dX9_caller_0 : decode cX9_caller 0 = .ok (.aload_n 0, 1) := by decide +kernel
theorem dX9_caller_1 : decode cX9_caller 1 = .ok (.iconst 0, 1) := by decide +kernel
theorem dX9_caller_2 : decode cX9_caller 2 = .ok (.putfield 1, 3) := by decide +kernel
theorem dX9_caller_5 : decode cX9_caller 5 = .ok (.aload_n 0, 1) := by decide +kernel
theorem dX9_caller_6 : decode cX9_caller 6 = .ok (.iload_n 1, 1) := by decide +kernel
theorem dX9_caller_7 : decode cX9_caller 7 = .ok (.invokevirtual 122, 3) := by decide +kernel
theorem dX9_caller_10 : decode cX9_caller 10 = .ok (.ifCond .ne 6, 3) := by decide +kernel
theorem dX9_caller_13 : decode cX9_caller 13 = .ok (.bipush (-2), 2) := by decide +kernel
theorem dX9_caller_15 : decode cX9_caller 15 = .ok (.ireturn, 1) := by decide +kernel
theorem dX9_caller_16 : decode cX9_caller 16 = .ok (.aload_n 0, 1) := by decide +kernel
theorem dX9_caller_17 : decode cX9_caller 17 = .ok (.getfield 158, 3) := by decide +kernel
theorem dX9_caller_20 : decode cX9_caller 20 = .ok (.istore_n 2, 1) := by decide +kernel
theorem dX9_caller_21 : decode cX9_caller 21 = .ok (.aload_n 0, 1) := by decide +kernel
theorem dX9_caller_22 : decode cX9_caller 22 = .ok (.iload_n 1, 1) := by decide +kernel
theorem dX9_caller_23 : decode cX9_caller 23 = .ok (.putfield 158, 3) := by decide +kernel
theorem dX9_caller_26 : decode cX9_caller 26 = .ok (.iload_n 2, 1) := by decide +kernel
theorem dX9_caller_27 : decode cX9_caller 27 = .ok (.ireturn, 1) := by decide +kernel
theorem dX9_newHandle_0 : decode cX9_newHandle 0 = .ok (.iload_n 1, 1) := by decide +kernel
theorem dX9_newHandle_1 : decode cX9_newHandle 1 = .ok (.ifCond .ge 9, 3) := by decide +kernel
theorem dX9_newHandle_4 : decode cX9_newHandle 4 = .ok (.aload_n 0, 1) := by decide +kernel
theorem dX9_newHandle_5 : decode cX9_newHandle 5 = .ok (.iconst 1, 1) := by decide +kernel
theorem dX9_newHandle_6 : decode cX9_newHandle 6 = .ok (.invokevirtual 161, 3) := by decide +kernel
theorem dX9_newHandle_9 : decode cX9_newHandle 9 = .ok (.ireturn, 1) := by decide +kernel
theorem dX9_findField_0 : decode cX9_findField 0 = .ok (.aload_n 0, 1) := by decide +kernel
theorem dX9_findField_1 : decode cX9_findField 1 = .ok (.iconst 0, 1) := by decide +kernel
theorem dX9_findField_2 : decode cX9_findField 2 = .ok (.putfield 1, 3) := by decide +kernel
theorem dX9_findField_5 : decode cX9_findField 5 = .ok (.aload_n 0, 1) := by decide +kernel
theorem dX9_findField_6 : decode cX9_findField 6 = .ok (.iload_n 1, 1) := by decide +kernel
theorem dX9_findField_7 : decode cX9_findField 7 = .ok (.invokevirtual 122, 3) := by decide +kernel
theorem dX9_findField_10 : decode cX9_findField 10 = .ok (.ifCond .ne 6, 3) := by decide +kernel
theorem dX9_findField_13 : decode cX9_findField 13 = .ok (.bipush (-2), 2) := by decide +kernel
theorem dX9_findField_15 : decode cX9_findField 15 = .ok (.ireturn, 1) := by decide +kernel
theorem dX9_findField_16 : decode cX9_findField 16 = .ok (.iload_n 2, 1) := by decide +kernel
theorem dX9_findField_17 : decode cX9_findField 17 = .ok (.i2l, 1) := by decide +kernel
theorem dX9_findField_18 : decode cX9_findField 18 = .ok (.lconst 0, 1) := by decide +kernel
theorem dX9_findField_19 : decode cX9_findField 19 = .ok (.ldc2_w 134, 3) := by decide +kernel
theorem dX9_findField_22 : decode cX9_findField 22 = .ok (.invokestatic 115, 3) := by decide +kernel
theorem dX9_findField_25 : decode cX9_findField 25 = .ok (.ifCond .ne 6, 3) := by decide +kernel
theorem dX9_findField_28 : decode cX9_findField 28 = .ok (.bipush (-3), 2) := by decide +kernel
theorem dX9_findField_30 : decode cX9_findField 30 = .ok (.ireturn, 1) := by decide +kernel
theorem dX9_findField_31 : decode cX9_findField 31 = .ok (.iconst (-1), 1) := by decide +kernel
theorem dX9_findField_32 : decode cX9_findField 32 = .ok (.istore 4, 2) := by decide +kernel
theorem dX9_findField_34 : decode cX9_findField 34 = .ok (.iload_n 1, 1) := by decide +kernel
theorem dX9_findField_35 : decode cX9_findField 35 = .ok (.istore 5, 2) := by decide +kernel
theorem dX9_findField_37 : decode cX9_findField 37 = .ok (.iload 5, 2) := by decide +kernel
theorem dX9_findField_39 : decode cX9_findField 39 = .ok (.ifCond .lt 97, 3) := by decide +kernel
theorem dX9_findField_42 : decode cX9_findField 42 = .ok (.iload 4, 2) := by decide +kernel
theorem dX9_findField_44 : decode cX9_findField 44 = .ok (.ifCond .ge 92, 3) := by decide +kernel
theorem dX9_findField_47 : decode cX9_findField 47 = .ok (.iconst 0, 1) := by decide +kernel
theorem dX9_findField_48 : decode cX9_findField 48 = .ok (.istore 6, 2) := by decide +kernel
theorem dX9_findField_50 : decode cX9_findField 50 = .ok (.iload 6, 2) := by decide +kernel
theorem dX9_findField_52 : decode cX9_findField 52 = .ok (.aload_n 0, 1) := by decide +kernel
theorem dX9_findField_53 : decode cX9_findField 53 = .ok (.getfield 128, 3) := by decide +kernel
theorem dX9_findField_56 : decode cX9_findField 56 = .ok (.if_icmp .ge 60, 3) := by decide +kernel
theorem dX9_findField_116 : decode cX9_findField 116 = .ok (.iload_n 3, 1) := by decide +kernel
theorem dX9_findField_117 : decode cX9_findField 117 = .ok (.ifCond .eq 13, 3) := by decide +kernel
theorem dX9_findField_120 : decode cX9_findField 120 = .ok (.aload_n 0, 1) := by decide +kernel
theorem dX9_findField_121 : decode cX9_findField 121 = .ok (.getfield 16, 3) := by decide +kernel
theorem dX9_findField_124 : decode cX9_findField 124 = .ok (.iload 5, 2) := by decide +kernel
theorem dX9_findField_126 : decode cX9_findField 126 = .ok (.iaload, 1) := by decide +kernel
theorem dX9_findField_127 : decode cX9_findField 127 = .ok (.goto 4, 3) := by decide +kernel
theorem dX9_findField_130 : decode cX9_findField 130 = .ok (.iconst (-1), 1) := by decide +kernel
theorem dX9_findField_131 : decode cX9_findField 131 = .ok (.istore 5, 2) := by decide +kernel
theorem dX9_findField_133 : decode cX9_findField 133 = .ok (.goto (-96), 3) := by decide +kernel
theorem dX9_findField_136 : decode cX9_findField 136 = .ok (.aload_n 0, 1) := by decide +kernel
theorem dX9_findField_137 : decode cX9_findField 137 = .ok (.iload 4, 2) := by decide +kernel
theorem dX9_findField_139 : decode cX9_findField 139 = .ok (.invokevirtual 168, 3) := by decide +kernel
theorem dX9_findField_142 : decode cX9_findField 142 = .ok (.ireturn, 1) := by decide +kernel
theorem dX9_methodFrom_0 : decode cX9_methodFrom 0 = .ok (.iload_n 1, 1) := by decide +kernel
theorem dX9_methodFrom_1 : decode cX9_methodFrom 1 = .ok (.istore 7, 2) := by decide +kernel
theorem dX9_methodFrom_3 : decode cX9_methodFrom 3 = .ok (.iload 7, 2) := by decide +kernel
theorem dX9_methodFrom_5 : decode cX9_methodFrom 5 = .ok (.ifCond .lt 86, 3) := by decide +kernel
theorem dX9_methodFrom_8 : decode cX9_methodFrom 8 = .ok (.iconst 0, 1) := by decide +kernel
theorem dX9_methodFrom_9 : decode cX9_methodFrom 9 = .ok (.istore 8, 2) := by decide +kernel
theorem dX9_methodFrom_11 : decode cX9_methodFrom 11 = .ok (.iload 8, 2) := by decide +kernel
theorem dX9_methodFrom_13 : decode cX9_methodFrom 13 = .ok (.aload_n 0, 1) := by decide +kernel
theorem dX9_methodFrom_14 : decode cX9_methodFrom 14 = .ok (.getfield 128, 3) := by decide +kernel
theorem dX9_methodFrom_17 : decode cX9_methodFrom 17 = .ok (.if_icmp .ge 54, 3) := by decide +kernel
theorem dX9_methodFrom_71 : decode cX9_methodFrom 71 = .ok (.iload_n 2, 1) := by decide +kernel
theorem dX9_methodFrom_72 : decode cX9_methodFrom 72 = .ok (.ifCond .eq 13, 3) := by decide +kernel
theorem dX9_methodFrom_75 : decode cX9_methodFrom 75 = .ok (.aload_n 0, 1) := by decide +kernel
theorem dX9_methodFrom_76 : decode cX9_methodFrom 76 = .ok (.getfield 16, 3) := by decide +kernel
theorem dX9_methodFrom_79 : decode cX9_methodFrom 79 = .ok (.iload 7, 2) := by decide +kernel
theorem dX9_methodFrom_81 : decode cX9_methodFrom 81 = .ok (.iaload, 1) := by decide +kernel
theorem dX9_methodFrom_82 : decode cX9_methodFrom 82 = .ok (.goto 4, 3) := by decide +kernel
theorem dX9_methodFrom_85 : decode cX9_methodFrom 85 = .ok (.iconst (-1), 1) := by decide +kernel
theorem dX9_methodFrom_86 : decode cX9_methodFrom 86 = .ok (.istore 7, 2) := by decide +kernel
theorem dX9_methodFrom_88 : decode cX9_methodFrom 88 = .ok (.goto (-85), 3) := by decide +kernel
theorem dX9_methodFrom_91 : decode cX9_methodFrom 91 = .ok (.iconst (-1), 1) := by decide +kernel
theorem dX9_methodFrom_92 : decode cX9_methodFrom 92 = .ok (.ireturn, 1) := by decide +kernel
theorem dX9_findMethod_0 : decode cX9_findMethod 0 = .ok (.aload_n 0, 1) := by decide +kernel
theorem dX9_findMethod_1 : decode cX9_findMethod 1 = .ok (.iconst 0, 1) := by decide +kernel
theorem dX9_findMethod_2 : decode cX9_findMethod 2 = .ok (.putfield 1, 3) := by decide +kernel
theorem dX9_findMethod_5 : decode cX9_findMethod 5 = .ok (.aload_n 0, 1) := by decide +kernel
theorem dX9_findMethod_6 : decode cX9_findMethod 6 = .ok (.iload_n 1, 1) := by decide +kernel
theorem dX9_findMethod_7 : decode cX9_findMethod 7 = .ok (.invokevirtual 122, 3) := by decide +kernel
theorem dX9_findMethod_10 : decode cX9_findMethod 10 = .ok (.ifCond .eq 30, 3) := by decide +kernel
theorem dX9_findMethod_13 : decode cX9_findMethod 13 = .ok (.iload_n 3, 1) := by decide +kernel
theorem dX9_findMethod_14 : decode cX9_findMethod 14 = .ok (.ifCond .le 12, 3) := by decide +kernel
theorem dX9_findMethod_17 : decode cX9_findMethod 17 = .ok (.aload_n 0, 1) := by decide +kernel
theorem dX9_findMethod_18 : decode cX9_findMethod 18 = .ok (.iload 4, 2) := by decide +kernel
theorem dX9_findMethod_20 : decode cX9_findMethod 20 = .ok (.invokevirtual 131, 3) := by decide +kernel
theorem dX9_findMethod_23 : decode cX9_findMethod 23 = .ok (.ifCond .ne 17, 3) := by decide +kernel
theorem dX9_findMethod_26 : decode cX9_findMethod 26 = .ok (.iload_n 3, 1) := by decide +kernel
theorem dX9_findMethod_27 : decode cX9_findMethod 27 = .ok (.iconst 1, 1) := by decide +kernel
theorem dX9_findMethod_28 : decode cX9_findMethod 28 = .ok (.if_icmp .le 15, 3) := by decide +kernel
theorem dX9_findMethod_31 : decode cX9_findMethod 31 = .ok (.aload_n 0, 1) := by decide +kernel
theorem dX9_findMethod_32 : decode cX9_findMethod 32 = .ok (.iload 5, 2) := by decide +kernel
theorem dX9_findMethod_34 : decode cX9_findMethod 34 = .ok (.invokevirtual 131, 3) := by decide +kernel
theorem dX9_findMethod_37 : decode cX9_findMethod 37 = .ok (.ifCond .eq 6, 3) := by decide +kernel
theorem dX9_findMethod_40 : decode cX9_findMethod 40 = .ok (.bipush (-2), 2) := by decide +kernel
theorem dX9_findMethod_42 : decode cX9_findMethod 42 = .ok (.ireturn, 1) := by decide +kernel
theorem dX9_findMethod_43 : decode cX9_findMethod 43 = .ok (.iload_n 2, 1) := by decide +kernel
theorem dX9_findMethod_44 : decode cX9_findMethod 44 = .ok (.i2l, 1) := by decide +kernel
theorem dX9_findMethod_45 : decode cX9_findMethod 45 = .ok (.lconst 0, 1) := by decide +kernel
theorem dX9_findMethod_46 : decode cX9_findMethod 46 = .ok (.ldc2_w 134, 3) := by decide +kernel
theorem dX9_findMethod_49 : decode cX9_findMethod 49 = .ok (.invokestatic 115, 3) := by decide +kernel
theorem dX9_findMethod_52 : decode cX9_findMethod 52 = .ok (.ifCond .eq 38, 3) := by decide +kernel
theorem dX9_findMethod_55 : decode cX9_findMethod 55 = .ok (.iload_n 3, 1) := by decide +kernel
theorem dX9_findMethod_56 : decode cX9_findMethod 56 = .ok (.i2l, 1) := by decide +kernel
theorem dX9_findMethod_57 : decode cX9_findMethod 57 = .ok (.lconst 0, 1) := by decide +kernel
theorem dX9_findMethod_58 : decode cX9_findMethod 58 = .ok (.ldc2_w 144, 3) := by decide +kernel
theorem dX9_findMethod_61 : decode cX9_findMethod 61 = .ok (.invokestatic 115, 3) := by decide +kernel
theorem dX9_findMethod_64 : decode cX9_findMethod 64 = .ok (.ifCond .eq 26, 3) := by decide +kernel
theorem dX9_findMethod_67 : decode cX9_findMethod 67 = .ok (.iload_n 3, 1) := by decide +kernel
theorem dX9_findMethod_68 : decode cX9_findMethod 68 = .ok (.ifCond .le 10, 3) := by decide +kernel
theorem dX9_findMethod_71 : decode cX9_findMethod 71 = .ok (.iload 4, 2) := by decide +kernel
theorem dX9_findMethod_73 : decode cX9_findMethod 73 = .ok (.bipush (-2), 2) := by decide +kernel
theorem dX9_findMethod_75 : decode cX9_findMethod 75 = .ok (.if_icmp .lt 15, 3) := by decide +kernel
theorem dX9_findMethod_78 : decode cX9_findMethod 78 = .ok (.iload_n 3, 1) := by decide +kernel
theorem dX9_findMethod_79 : decode cX9_findMethod 79 = .ok (.iconst 1, 1) := by decide +kernel
theorem dX9_findMethod_80 : decode cX9_findMethod 80 = .ok (.if_icmp .le 13, 3) := by decide +kernel
theorem dX9_findMethod_83 : decode cX9_findMethod 83 = .ok (.iload 5, 2) := by decide +kernel
theorem dX9_findMethod_85 : decode cX9_findMethod 85 = .ok (.bipush (-2), 2) := by decide +kernel
theorem dX9_findMethod_87 : decode cX9_findMethod 87 = .ok (.if_icmp .ge 6, 3) := by decide +kernel
theorem dX9_findMethod_90 : decode cX9_findMethod 90 = .ok (.bipush (-3), 2) := by decide +kernel
theorem dX9_findMethod_92 : decode cX9_findMethod 92 = .ok (.ireturn, 1) := by decide +kernel
theorem dX9_findMethod_93 : decode cX9_findMethod 93 = .ok (.aload_n 0, 1) := by decide +kernel
theorem dX9_findMethod_94 : decode cX9_findMethod 94 = .ok (.iload_n 1, 1) := by decide +kernel
theorem dX9_findMethod_95 : decode cX9_findMethod 95 = .ok (.iload 6, 2) := by decide +kernel
theorem dX9_findMethod_97 : decode cX9_findMethod 97 = .ok (.iload_n 2, 1) := by decide +kernel
theorem dX9_findMethod_98 : decode cX9_findMethod 98 = .ok (.iload_n 3, 1) := by decide +kernel
theorem dX9_findMethod_99 : decode cX9_findMethod 99 = .ok (.iload 4, 2) := by decide +kernel
theorem dX9_findMethod_101 : decode cX9_findMethod 101 = .ok (.iload 5, 2) := by decide +kernel
theorem dX9_findMethod_103 : decode cX9_findMethod 103 = .ok (.invokevirtual 171, 3) := by decide +kernel
theorem dX9_findMethod_106 : decode cX9_findMethod 106 = .ok (.istore 7, 2) := by decide +kernel
theorem dX9_findMethod_108 : decode cX9_findMethod 108 = .ok (.iload_n 1, 1) := by decide +kernel
theorem dX9_findMethod_109 : decode cX9_findMethod 109 = .ok (.istore 8, 2) := by decide +kernel
theorem dX9_findMethod_111 : decode cX9_findMethod 111 = .ok (.iload 6, 2) := by decide +kernel
theorem dX9_findMethod_113 : decode cX9_findMethod 113 = .ok (.ifCond .eq 59, 3) := by decide +kernel
theorem dX9_findMethod_116 : decode cX9_findMethod 116 = .ok (.iload 8, 2) := by decide +kernel
theorem dX9_findMethod_118 : decode cX9_findMethod 118 = .ok (.ifCond .lt 54, 3) := by decide +kernel
theorem dX9_findMethod_121 : decode cX9_findMethod 121 = .ok (.iload 7, 2) := by decide +kernel
theorem dX9_findMethod_123 : decode cX9_findMethod 123 = .ok (.ifCond .ge 49, 3) := by decide +kernel
theorem dX9_findMethod_126 : decode cX9_findMethod 126 = .ok (.aload_n 0, 1) := by decide +kernel
theorem dX9_findMethod_127 : decode cX9_findMethod 127 = .ok (.getfield 23, 3) := by decide +kernel
theorem dX9_findMethod_130 : decode cX9_findMethod 130 = .ok (.iload 8, 2) := by decide +kernel
theorem dX9_findMethod_132 : decode cX9_findMethod 132 = .ok (.iaload, 1) := by decide +kernel
theorem dX9_findMethod_133 : decode cX9_findMethod 133 = .ok (.ifCond .ge 7, 3) := by decide +kernel
theorem dX9_findMethod_136 : decode cX9_findMethod 136 = .ok (.iconst (-1), 1) := by decide +kernel
theorem dX9_findMethod_137 : decode cX9_findMethod 137 = .ok (.goto 21, 3) := by decide +kernel
theorem dX9_findMethod_158 : decode cX9_findMethod 158 = .ok (.istore 7, 2) := by decide +kernel
theorem dX9_findMethod_160 : decode cX9_findMethod 160 = .ok (.aload_n 0, 1) := by decide +kernel
theorem dX9_findMethod_161 : decode cX9_findMethod 161 = .ok (.getfield 16, 3) := by decide +kernel
theorem dX9_findMethod_164 : decode cX9_findMethod 164 = .ok (.iload 8, 2) := by decide +kernel
theorem dX9_findMethod_166 : decode cX9_findMethod 166 = .ok (.iaload, 1) := by decide +kernel
theorem dX9_findMethod_167 : decode cX9_findMethod 167 = .ok (.istore 8, 2) := by decide +kernel
theorem dX9_findMethod_169 : decode cX9_findMethod 169 = .ok (.goto (-58), 3) := by decide +kernel
theorem dX9_findMethod_172 : decode cX9_findMethod 172 = .ok (.aload_n 0, 1) := by decide +kernel
theorem dX9_findMethod_173 : decode cX9_findMethod 173 = .ok (.iload 7, 2) := by decide +kernel
theorem dX9_findMethod_175 : decode cX9_findMethod 175 = .ok (.invokevirtual 168, 3) := by decide +kernel
theorem dX9_findMethod_178 : decode cX9_findMethod 178 = .ok (.ireturn, 1) := by decide +kernel
theorem dX9_isHandle_0 : decode cX9_isHandle 0 = .ok (.iload_n 1, 1) := by decide +kernel
theorem dX9_isHandle_1 : decode cX9_isHandle 1 = .ok (.i2l, 1) := by decide +kernel
theorem dX9_isHandle_2 : decode cX9_isHandle 2 = .ok (.lconst 0, 1) := by decide +kernel
theorem dX9_isHandle_3 : decode cX9_isHandle 3 = .ok (.aload_n 0, 1) := by decide +kernel
theorem dX9_isHandle_4 : decode cX9_isHandle 4 = .ok (.getfield 165, 3) := by decide +kernel
theorem dX9_isHandle_7 : decode cX9_isHandle 7 = .ok (.iconst 1, 1) := by decide +kernel
theorem dX9_isHandle_8 : decode cX9_isHandle 8 = .ok (.isub, 1) := by decide +kernel
theorem dX9_isHandle_9 : decode cX9_isHandle 9 = .ok (.i2l, 1) := by decide +kernel
theorem dX9_isHandle_10 : decode cX9_isHandle 10 = .ok (.invokestatic 115, 3) := by decide +kernel
theorem dX9_isHandle_13 : decode cX9_isHandle 13 = .ok (.ireturn, 1) := by decide +kernel
theorem dX9_leave_0 : decode cX9_leave 0 = .ok (.aload_n 0, 1) := by decide +kernel
theorem dX9_leave_1 : decode cX9_leave 1 = .ok (.iconst 0, 1) := by decide +kernel
theorem dX9_leave_2 : decode cX9_leave 2 = .ok (.putfield 1, 3) := by decide +kernel
theorem dX9_leave_5 : decode cX9_leave 5 = .ok (.aload_n 0, 1) := by decide +kernel
theorem dX9_leave_6 : decode cX9_leave 6 = .ok (.iload_n 1, 1) := by decide +kernel
theorem dX9_leave_7 : decode cX9_leave 7 = .ok (.invokevirtual 175, 3) := by decide +kernel
theorem dX9_leave_10 : decode cX9_leave 10 = .ok (.ifCond .ne 6, 3) := by decide +kernel
theorem dX9_leave_13 : decode cX9_leave 13 = .ok (.bipush (-2), 2) := by decide +kernel
theorem dX9_leave_15 : decode cX9_leave 15 = .ok (.ireturn, 1) := by decide +kernel
theorem dX9_value_0 : decode cX9_value 0 = .ok (.aload_n 0, 1) := by decide +kernel
theorem dX9_value_1 : decode cX9_value 1 = .ok (.iconst 0, 1) := by decide +kernel
theorem dX9_value_2 : decode cX9_value 2 = .ok (.putfield 1, 3) := by decide +kernel
theorem dX9_value_5 : decode cX9_value 5 = .ok (.iload_n 2, 1) := by decide +kernel
theorem dX9_value_6 : decode cX9_value 6 = .ok (.iconst 3, 1) := by decide +kernel
theorem dX9_value_7 : decode cX9_value 7 = .ok (.if_icmp .ne 14, 3) := by decide +kernel
theorem dX9_value_10 : decode cX9_value 10 = .ok (.aload_n 0, 1) := by decide +kernel
theorem dX9_value_11 : decode cX9_value 11 = .ok (.lload_n 3, 1) := by decide +kernel
theorem dX9_value_12 : decode cX9_value 12 = .ok (.invokevirtual 184, 3) := by decide +kernel
theorem dX9_value_15 : decode cX9_value 15 = .ok (.ifCond .ne 6, 3) := by decide +kernel
theorem dX9_value_18 : decode cX9_value 18 = .ok (.bipush (-2), 2) := by decide +kernel
theorem dX9_value_20 : decode cX9_value 20 = .ok (.ireturn, 1) := by decide +kernel
theorem dX9_value_21 : decode cX9_value 21 = .ok (.iload_n 1, 1) := by decide +kernel
theorem dX9_value_22 : decode cX9_value 22 = .ok (.i2l, 1) := by decide +kernel
theorem dX9_value_23 : decode cX9_value 23 = .ok (.lconst 0, 1) := by decide +kernel
theorem dX9_value_24 : decode cX9_value 24 = .ok (.aload_n 0, 1) := by decide +kernel
theorem dX9_value_25 : decode cX9_value 25 = .ok (.getfield 188, 3) := by decide +kernel
theorem dX9_value_28 : decode cX9_value 28 = .ok (.iconst 2, 1) := by decide +kernel
theorem dX9_value_29 : decode cX9_value 29 = .ok (.if_icmp .ge 11, 3) := by decide +kernel
theorem dX9_value_32 : decode cX9_value 32 = .ok (.aload_n 0, 1) := by decide +kernel
theorem dX9_value_33 : decode cX9_value 33 = .ok (.getfield 188, 3) := by decide +kernel
theorem dX9_value_36 : decode cX9_value 36 = .ok (.i2l, 1) := by decide +kernel
theorem dX9_value_37 : decode cX9_value 37 = .ok (.goto 6, 3) := by decide +kernel
theorem dX9_value_43 : decode cX9_value 43 = .ok (.invokestatic 115, 3) := by decide +kernel
theorem dX9_value_46 : decode cX9_value 46 = .ok (.ifCond .eq 28, 3) := by decide +kernel
theorem dX9_value_49 : decode cX9_value 49 = .ok (.iload_n 2, 1) := by decide +kernel
theorem dX9_value_50 : decode cX9_value 50 = .ok (.i2l, 1) := by decide +kernel
theorem dX9_value_51 : decode cX9_value 51 = .ok (.lconst 0, 1) := by decide +kernel
theorem dX9_value_52 : decode cX9_value 52 = .ok (.ldc2_w 191, 3) := by decide +kernel
theorem dX9_value_55 : decode cX9_value 55 = .ok (.invokestatic 115, 3) := by decide +kernel
theorem dX9_value_58 : decode cX9_value 58 = .ok (.ifCond .eq 16, 3) := by decide +kernel
theorem dX9_value_61 : decode cX9_value 61 = .ok (.iload_n 2, 1) := by decide +kernel
theorem dX9_value_62 : decode cX9_value 62 = .ok (.iconst 1, 1) := by decide +kernel
theorem dX9_value_63 : decode cX9_value 63 = .ok (.if_icmp .ne 14, 3) := by decide +kernel
theorem dX9_value_66 : decode cX9_value 66 = .ok (.lload_n 3, 1) := by decide +kernel
theorem dX9_value_67 : decode cX9_value 67 = .ok (.l2i, 1) := by decide +kernel
theorem dX9_value_68 : decode cX9_value 68 = .ok (.i2l, 1) := by decide +kernel
theorem dX9_value_69 : decode cX9_value 69 = .ok (.lload_n 3, 1) := by decide +kernel
theorem dX9_value_70 : decode cX9_value 70 = .ok (.lcmp, 1) := by decide +kernel
theorem dX9_value_71 : decode cX9_value 71 = .ok (.ifCond .eq 6, 3) := by decide +kernel
theorem dX9_value_74 : decode cX9_value 74 = .ok (.bipush (-3), 2) := by decide +kernel
theorem dX9_value_76 : decode cX9_value 76 = .ok (.ireturn, 1) := by decide +kernel
theorem dX9_value_77 : decode cX9_value 77 = .ok (.aload_n 0, 1) := by decide +kernel
theorem dX9_value_78 : decode cX9_value 78 = .ok (.getfield 103, 3) := by decide +kernel
theorem dX9_value_81 : decode cX9_value 81 = .ok (.iload_n 1, 1) := by decide +kernel
theorem dX9_value_82 : decode cX9_value 82 = .ok (.iload_n 2, 1) := by decide +kernel
theorem dX9_value_83 : decode cX9_value 83 = .ok (.iastore, 1) := by decide +kernel
theorem dX9_value_84 : decode cX9_value 84 = .ok (.aload_n 0, 1) := by decide +kernel
theorem dX9_value_85 : decode cX9_value 85 = .ok (.getfield 106, 3) := by decide +kernel
theorem dX9_value_88 : decode cX9_value 88 = .ok (.iload_n 1, 1) := by decide +kernel
theorem dX9_value_89 : decode cX9_value 89 = .ok (.iload_n 2, 1) := by decide +kernel
theorem dX9_value_90 : decode cX9_value 90 = .ok (.ifCond .ne 7, 3) := by decide +kernel
theorem dX9_value_93 : decode cX9_value 93 = .ok (.lconst 0, 1) := by decide +kernel
theorem dX9_value_94 : decode cX9_value 94 = .ok (.goto 4, 3) := by decide +kernel
theorem dX9_value_97 : decode cX9_value 97 = .ok (.lload_n 3, 1) := by decide +kernel
theorem dX9_value_98 : decode cX9_value 98 = .ok (.lastore, 1) := by decide +kernel
theorem dX9_value_99 : decode cX9_value 99 = .ok (.aload_n 0, 1) := by decide +kernel
theorem dX9_value_100 : decode cX9_value 100 = .ok (.iload_n 1, 1) := by decide +kernel
theorem dX9_value_101 : decode cX9_value 101 = .ok (.iconst 1, 1) := by decide +kernel
theorem dX9_value_102 : decode cX9_value 102 = .ok (.iadd, 1) := by decide +kernel
theorem dX9_value_103 : decode cX9_value 103 = .ok (.putfield 188, 3) := by decide +kernel
theorem dX9_value_106 : decode cX9_value 106 = .ok (.aload_n 0, 1) := by decide +kernel
theorem dX9_value_107 : decode cX9_value 107 = .ok (.getfield 188, 3) := by decide +kernel
theorem dX9_value_110 : decode cX9_value 110 = .ok (.ireturn, 1) := by decide +kernel
theorem dX9_newObject_0 : decode cX9_newObject 0 = .ok (.aload_n 0, 1) := by decide +kernel
theorem dX9_newObject_1 : decode cX9_newObject 1 = .ok (.getfield 119, 3) := by decide +kernel
theorem dX9_newObject_4 : decode cX9_newObject 4 = .ok (.istore_n 2, 1) := by decide +kernel
theorem dX9_newObject_5 : decode cX9_newObject 5 = .ok (.aload_n 0, 1) := by decide +kernel
theorem dX9_newObject_6 : decode cX9_newObject 6 = .ok (.dup, 1) := by decide +kernel
theorem dX9_newObject_7 : decode cX9_newObject 7 = .ok (.getfield 119, 3) := by decide +kernel
theorem dX9_newObject_10 : decode cX9_newObject 10 = .ok (.iconst 1, 1) := by decide +kernel
theorem dX9_newObject_11 : decode cX9_newObject 11 = .ok (.iadd, 1) := by decide +kernel
theorem dX9_newObject_12 : decode cX9_newObject 12 = .ok (.putfield 119, 3) := by decide +kernel
theorem dX9_newObject_15 : decode cX9_newObject 15 = .ok (.aload_n 0, 1) := by decide +kernel
theorem dX9_newObject_16 : decode cX9_newObject 16 = .ok (.getfield 84, 3) := by decide +kernel
theorem dX9_newObject_19 : decode cX9_newObject 19 = .ok (.iload_n 2, 1) := by decide +kernel
theorem dX9_newObject_20 : decode cX9_newObject 20 = .ok (.iload_n 1, 1) := by decide +kernel
theorem dX9_newObject_21 : decode cX9_newObject 21 = .ok (.iastore, 1) := by decide +kernel
theorem dX9_newObject_22 : decode cX9_newObject 22 = .ok (.aload_n 0, 1) := by decide +kernel
theorem dX9_newObject_23 : decode cX9_newObject 23 = .ok (.getfield 87, 3) := by decide +kernel
theorem dX9_newObject_26 : decode cX9_newObject 26 = .ok (.iload_n 2, 1) := by decide +kernel
theorem dX9_newObject_27 : decode cX9_newObject 27 = .ok (.iconst (-1), 1) := by decide +kernel
theorem dX9_newObject_28 : decode cX9_newObject 28 = .ok (.iastore, 1) := by decide +kernel
theorem dX9_newObject_29 : decode cX9_newObject 29 = .ok (.aload_n 0, 1) := by decide +kernel
theorem dX9_newObject_30 : decode cX9_newObject 30 = .ok (.getfield 93, 3) := by decide +kernel
theorem dX9_newObject_33 : decode cX9_newObject 33 = .ok (.iload_n 2, 1) := by decide +kernel
theorem dX9_newObject_34 : decode cX9_newObject 34 = .ok (.iconst 0, 1) := by decide +kernel
theorem dX9_newObject_35 : decode cX9_newObject 35 = .ok (.iastore, 1) := by decide +kernel
theorem dX9_newObject_36 : decode cX9_newObject 36 = .ok (.iconst 0, 1) := by decide +kernel
theorem dX9_newObject_37 : decode cX9_newObject 37 = .ok (.istore_n 3, 1) := by decide +kernel
theorem dX9_newObject_38 : decode cX9_newObject 38 = .ok (.iload_n 3, 1) := by decide +kernel
theorem dX9_newObject_39 : decode cX9_newObject 39 = .ok (.aload_n 0, 1) := by decide +kernel
theorem dX9_newObject_40 : decode cX9_newObject 40 = .ok (.getfield 128, 3) := by decide +kernel
theorem dX9_newObject_43 : decode cX9_newObject 43 = .ok (.if_icmp .ge 24, 3) := by decide +kernel
theorem dX9_newObject_67 : decode cX9_newObject 67 = .ok (.iload_n 2, 1) := by decide +kernel
theorem dX9_newObject_68 : decode cX9_newObject 68 = .ok (.ireturn, 1) := by decide +kernel
theorem dX9_started_0 : decode cX9_started 0 = .ok (.iconst 0, 1) := by decide +kernel
theorem dX9_started_1 : decode cX9_started 1 = .ok (.istore_n 2, 1) := by decide +kernel
theorem dX9_started_2 : decode cX9_started 2 = .ok (.iload_n 1, 1) := by decide +kernel
theorem dX9_started_3 : decode cX9_started 3 = .ok (.istore_n 3, 1) := by decide +kernel
theorem dX9_started_4 : decode cX9_started 4 = .ok (.iload_n 3, 1) := by decide +kernel
theorem dX9_started_5 : decode cX9_started 5 = .ok (.ifCond .lt 32, 3) := by decide +kernel
theorem dX9_started_8 : decode cX9_started 8 = .ok (.aload_n 0, 1) := by decide +kernel
theorem dX9_started_9 : decode cX9_started 9 = .ok (.getfield 33, 3) := by decide +kernel
theorem dX9_started_12 : decode cX9_started 12 = .ok (.iload_n 3, 1) := by decide +kernel
theorem dX9_started_13 : decode cX9_started 13 = .ok (.iaload, 1) := by decide +kernel
theorem dX9_started_14 : decode cX9_started 14 = .ok (.ifCond .ne 23, 3) := by decide +kernel
theorem dX9_started_17 : decode cX9_started 17 = .ok (.aload_n 0, 1) := by decide +kernel
theorem dX9_started_18 : decode cX9_started 18 = .ok (.getfield 109, 3) := by decide +kernel
theorem dX9_started_21 : decode cX9_started 21 = .ok (.iload_n 2, 1) := by decide +kernel
theorem dX9_started_22 : decode cX9_started 22 = .ok (.iload_n 3, 1) := by decide +kernel
theorem dX9_started_23 : decode cX9_started 23 = .ok (.iastore, 1) := by decide +kernel
theorem dX9_started_24 : decode cX9_started 24 = .ok (.iinc 2 1, 3) := by decide +kernel
theorem dX9_started_27 : decode cX9_started 27 = .ok (.aload_n 0, 1) := by decide +kernel
theorem dX9_started_28 : decode cX9_started 28 = .ok (.getfield 16, 3) := by decide +kernel
theorem dX9_started_31 : decode cX9_started 31 = .ok (.iload_n 3, 1) := by decide +kernel
theorem dX9_started_32 : decode cX9_started 32 = .ok (.iaload, 1) := by decide +kernel
theorem dX9_started_33 : decode cX9_started 33 = .ok (.istore_n 3, 1) := by decide +kernel
theorem dX9_started_34 : decode cX9_started 34 = .ok (.goto (-30), 3) := by decide +kernel
theorem dX9_started_37 : decode cX9_started 37 = .ok (.iload_n 3, 1) := by decide +kernel
theorem dX9_started_38 : decode cX9_started 38 = .ok (.ifCond .lt 18, 3) := by decide +kernel
theorem dX9_started_56 : decode cX9_started 56 = .ok (.iconst 0, 1) := by decide +kernel
theorem dX9_started_57 : decode cX9_started 57 = .ok (.istore 4, 2) := by decide +kernel
theorem dX9_started_59 : decode cX9_started 59 = .ok (.iload_n 2, 1) := by decide +kernel
theorem dX9_started_60 : decode cX9_started 60 = .ok (.iconst 1, 1) := by decide +kernel
theorem dX9_started_61 : decode cX9_started 61 = .ok (.isub, 1) := by decide +kernel
theorem dX9_started_62 : decode cX9_started 62 = .ok (.istore 5, 2) := by decide +kernel
theorem dX9_started_64 : decode cX9_started 64 = .ok (.iload 5, 2) := by decide +kernel
theorem dX9_started_66 : decode cX9_started 66 = .ok (.ifCond .lt 114, 3) := by decide +kernel
theorem dX9_started_69 : decode cX9_started 69 = .ok (.aload_n 0, 1) := by decide +kernel
theorem dX9_started_70 : decode cX9_started 70 = .ok (.getfield 109, 3) := by decide +kernel
theorem dX9_started_73 : decode cX9_started 73 = .ok (.iload 5, 2) := by decide +kernel
theorem dX9_started_75 : decode cX9_started 75 = .ok (.iaload, 1) := by decide +kernel
theorem dX9_started_76 : decode cX9_started 76 = .ok (.istore 6, 2) := by decide +kernel
theorem dX9_started_78 : decode cX9_started 78 = .ok (.iload 4, 2) := by decide +kernel
theorem dX9_started_80 : decode cX9_started 80 = .ok (.ifCond .ne 18, 3) := by decide +kernel
theorem dX9_started_83 : decode cX9_started 83 = .ok (.aload_n 0, 1) := by decide +kernel
theorem dX9_started_84 : decode cX9_started 84 = .ok (.getfield 30, 3) := by decide +kernel
theorem dX9_started_87 : decode cX9_started 87 = .ok (.iload 6, 2) := by decide +kernel
theorem dX9_started_89 : decode cX9_started 89 = .ok (.baload, 1) := by decide +kernel
theorem dX9_started_90 : decode cX9_started 90 = .ok (.ifCond .eq 8, 3) := by decide +kernel
theorem dX9_started_98 : decode cX9_started 98 = .ok (.iload 4, 2) := by decide +kernel
theorem dX9_started_100 : decode cX9_started 100 = .ok (.istore 4, 2) := by decide +kernel
theorem dX9_started_102 : decode cX9_started 102 = .ok (.aload_n 0, 1) := by decide +kernel
theorem dX9_started_103 : decode cX9_started 103 = .ok (.getfield 33, 3) := by decide +kernel
theorem dX9_started_106 : decode cX9_started 106 = .ok (.iload 6, 2) := by decide +kernel
theorem dX9_started_108 : decode cX9_started 108 = .ok (.iload 4, 2) := by decide +kernel
theorem dX9_started_110 : decode cX9_started 110 = .ok (.ifCond .ne 7, 3) := by decide +kernel
theorem dX9_started_113 : decode cX9_started 113 = .ok (.iconst 1, 1) := by decide +kernel
theorem dX9_started_114 : decode cX9_started 114 = .ok (.goto 4, 3) := by decide +kernel
theorem dX9_started_118 : decode cX9_started 118 = .ok (.iastore, 1) := by decide +kernel
theorem dX9_started_119 : decode cX9_started 119 = .ok (.iload 4, 2) := by decide +kernel
theorem dX9_started_121 : decode cX9_started 121 = .ok (.ifCond .ne 53, 3) := by decide +kernel
theorem dX9_started_124 : decode cX9_started 124 = .ok (.aload_n 0, 1) := by decide +kernel
theorem dX9_started_125 : decode cX9_started 125 = .ok (.getfield 36, 3) := by decide +kernel
theorem dX9_started_128 : decode cX9_started 128 = .ok (.iload 6, 2) := by decide +kernel
theorem dX9_started_130 : decode cX9_started 130 = .ok (.iaload, 1) := by decide +kernel
theorem dX9_started_131 : decode cX9_started 131 = .ok (.ifCond .le 43, 3) := by decide +kernel
theorem dX9_started_174 : decode cX9_started 174 = .ok (.iinc 5 (-1), 3) := by decide +kernel
theorem dX9_started_177 : decode cX9_started 177 = .ok (.goto (-113), 3) := by decide +kernel
theorem dX9_started_180 : decode cX9_started 180 = .ok (.iload 4, 2) := by decide +kernel
theorem dX9_started_182 : decode cX9_started 182 = .ok (.ireturn, 1) := by decide +kernel
theorem dX9_get_0 : decode cX9_get 0 = .ok (.aload_n 0, 1) := by decide +kernel
theorem dX9_get_1 : decode cX9_get 1 = .ok (.iconst 0, 1) := by decide +kernel
theorem dX9_get_2 : decode cX9_get 2 = .ok (.putfield 1, 3) := by decide +kernel
theorem dX9_get_5 : decode cX9_get 5 = .ok (.aload_n 0, 1) := by decide +kernel
theorem dX9_get_6 : decode cX9_get 6 = .ok (.iload_n 1, 1) := by decide +kernel
theorem dX9_get_7 : decode cX9_get 7 = .ok (.invokevirtual 175, 3) := by decide +kernel
theorem dX9_get_10 : decode cX9_get 10 = .ok (.ifCond .eq 11, 3) := by decide +kernel
theorem dX9_get_21 : decode cX9_get 21 = .ok (.bipush (-2), 2) := by decide +kernel
theorem dX9_get_23 : decode cX9_get 23 = .ok (.ireturn, 1) := by decide +kernel
theorem dX9_set_0 : decode cX9_set 0 = .ok (.aload_n 0, 1) := by decide +kernel
theorem dX9_set_1 : decode cX9_set 1 = .ok (.iconst 0, 1) := by decide +kernel
theorem dX9_set_2 : decode cX9_set 2 = .ok (.putfield 1, 3) := by decide +kernel
theorem dX9_set_5 : decode cX9_set 5 = .ok (.aload_n 0, 1) := by decide +kernel
theorem dX9_set_6 : decode cX9_set 6 = .ok (.iload_n 1, 1) := by decide +kernel
theorem dX9_set_7 : decode cX9_set 7 = .ok (.invokevirtual 175, 3) := by decide +kernel
theorem dX9_set_10 : decode cX9_set 10 = .ok (.ifCond .eq 11, 3) := by decide +kernel
theorem dX9_set_21 : decode cX9_set 21 = .ok (.bipush (-2), 2) := by decide +kernel
theorem dX9_set_23 : decode cX9_set 23 = .ok (.ireturn, 1) := by decide +kernel
theorem dX9_call_0 : decode cX9_call 0 = .ok (.aload_n 0, 1) := by decide +kernel
theorem dX9_call_1 : decode cX9_call 1 = .ok (.iconst 0, 1) := by decide +kernel
theorem dX9_call_2 : decode cX9_call 2 = .ok (.putfield 1, 3) := by decide +kernel
theorem dX9_call_5 : decode cX9_call 5 = .ok (.aload_n 0, 1) := by decide +kernel
theorem dX9_call_6 : decode cX9_call 6 = .ok (.iload_n 1, 1) := by decide +kernel
theorem dX9_call_7 : decode cX9_call 7 = .ok (.invokevirtual 175, 3) := by decide +kernel
theorem dX9_call_10 : decode cX9_call 10 = .ok (.ifCond .eq 11, 3) := by decide +kernel
theorem dX9_call_21 : decode cX9_call 21 = .ok (.bipush (-2), 2) := by decide +kernel
theorem dX9_call_23 : decode cX9_call 23 = .ok (.ireturn, 1) := by decide +kernel
theorem dX9_make_0 : decode cX9_make 0 = .ok (.aload_n 0, 1) := by decide +kernel
theorem dX9_make_1 : decode cX9_make 1 = .ok (.iconst 0, 1) := by decide +kernel
theorem dX9_make_2 : decode cX9_make 2 = .ok (.putfield 1, 3) := by decide +kernel
theorem dX9_make_5 : decode cX9_make 5 = .ok (.aload_n 0, 1) := by decide +kernel
theorem dX9_make_6 : decode cX9_make 6 = .ok (.iload_n 1, 1) := by decide +kernel
theorem dX9_make_7 : decode cX9_make 7 = .ok (.invokevirtual 122, 3) := by decide +kernel
theorem dX9_make_10 : decode cX9_make 10 = .ok (.ifCond .ne 6, 3) := by decide +kernel
theorem dX9_make_13 : decode cX9_make 13 = .ok (.bipush (-2), 2) := by decide +kernel
theorem dX9_make_15 : decode cX9_make 15 = .ok (.ireturn, 1) := by decide +kernel
theorem dX9_make_16 : decode cX9_make 16 = .ok (.aload_n 0, 1) := by decide +kernel
theorem dX9_make_17 : decode cX9_make 17 = .ok (.getfield 119, 3) := by decide +kernel
theorem dX9_make_20 : decode cX9_make 20 = .ok (.bipush 60, 2) := by decide +kernel
theorem dX9_make_22 : decode cX9_make 22 = .ok (.if_icmp .lt 6, 3) := by decide +kernel
theorem dX9_make_28 : decode cX9_make 28 = .ok (.aload_n 0, 1) := by decide +kernel
theorem dX9_make_29 : decode cX9_make 29 = .ok (.getfield 20, 3) := by decide +kernel
theorem dX9_make_32 : decode cX9_make 32 = .ok (.iload_n 1, 1) := by decide +kernel
theorem dX9_make_33 : decode cX9_make 33 = .ok (.iaload, 1) := by decide +kernel
theorem dX9_make_34 : decode cX9_make 34 = .ok (.iconst 1, 1) := by decide +kernel
theorem dX9_make_35 : decode cX9_make 35 = .ok (.if_icmp .eq 13, 3) := by decide +kernel
theorem dX9_make_38 : decode cX9_make 38 = .ok (.aload_n 0, 1) := by decide +kernel
theorem dX9_make_39 : decode cX9_make 39 = .ok (.getfield 20, 3) := by decide +kernel
theorem dX9_make_42 : decode cX9_make 42 = .ok (.iload_n 1, 1) := by decide +kernel
theorem dX9_make_43 : decode cX9_make 43 = .ok (.iaload, 1) := by decide +kernel
theorem dX9_make_44 : decode cX9_make 44 = .ok (.iconst 2, 1) := by decide +kernel
theorem dX9_make_45 : decode cX9_make 45 = .ok (.if_icmp .ne 7, 3) := by decide +kernel
theorem dX9_make_52 : decode cX9_make 52 = .ok (.aload_n 0, 1) := by decide +kernel
theorem dX9_make_53 : decode cX9_make 53 = .ok (.getfield 20, 3) := by decide +kernel
theorem dX9_make_56 : decode cX9_make 56 = .ok (.iload_n 1, 1) := by decide +kernel
theorem dX9_make_57 : decode cX9_make 57 = .ok (.iaload, 1) := by decide +kernel
theorem dX9_make_58 : decode cX9_make 58 = .ok (.iconst 4, 1) := by decide +kernel
theorem dX9_make_59 : decode cX9_make 59 = .ok (.if_icmp .eq 31, 3) := by decide +kernel
theorem dX9_make_62 : decode cX9_make 62 = .ok (.aload_n 0, 1) := by decide +kernel
theorem dX9_make_63 : decode cX9_make 63 = .ok (.getfield 20, 3) := by decide +kernel
theorem dX9_make_66 : decode cX9_make 66 = .ok (.iload_n 1, 1) := by decide +kernel
theorem dX9_make_67 : decode cX9_make 67 = .ok (.iaload, 1) := by decide +kernel
theorem dX9_make_68 : decode cX9_make 68 = .ok (.iconst 3, 1) := by decide +kernel
theorem dX9_make_69 : decode cX9_make 69 = .ok (.if_icmp .ne 14, 3) := by decide +kernel
theorem dX9_make_83 : decode cX9_make 83 = .ok (.aload_n 0, 1) := by decide +kernel
theorem dX9_make_84 : decode cX9_make 84 = .ok (.getfield 188, 3) := by decide +kernel
theorem dX9_make_87 : decode cX9_make 87 = .ok (.ifCond .le 7, 3) := by decide +kernel
theorem dX9_make_94 : decode cX9_make 94 = .ok (.aload_n 0, 1) := by decide +kernel
theorem dX9_make_95 : decode cX9_make 95 = .ok (.iload_n 1, 1) := by decide +kernel
theorem dX9_make_96 : decode cX9_make 96 = .ok (.invokevirtual 214, 3) := by decide +kernel
theorem dX9_make_99 : decode cX9_make 99 = .ok (.istore_n 2, 1) := by decide +kernel
theorem dX9_make_100 : decode cX9_make 100 = .ok (.iload_n 2, 1) := by decide +kernel
theorem dX9_make_101 : decode cX9_make 101 = .ok (.ifCond .le 9, 3) := by decide +kernel
theorem dX9_make_110 : decode cX9_make 110 = .ok (.aload_n 0, 1) := by decide +kernel
theorem dX9_make_111 : decode cX9_make 111 = .ok (.iload_n 1, 1) := by decide +kernel
theorem dX9_make_112 : decode cX9_make 112 = .ok (.invokevirtual 193, 3) := by decide +kernel
theorem dX9_make_115 : decode cX9_make 115 = .ok (.istore_n 3, 1) := by decide +kernel
theorem dX9_make_116 : decode cX9_make 116 = .ok (.iconst 0, 1) := by decide +kernel
theorem dX9_make_117 : decode cX9_make 117 = .ok (.istore 4, 2) := by decide +kernel
theorem dX9_make_119 : decode cX9_make 119 = .ok (.iconst 0, 1) := by decide +kernel
theorem dX9_make_120 : decode cX9_make 120 = .ok (.istore 5, 2) := by decide +kernel
theorem dX9_make_122 : decode cX9_make 122 = .ok (.iload 5, 2) := by decide +kernel
theorem dX9_make_124 : decode cX9_make 124 = .ok (.aload_n 0, 1) := by decide +kernel
theorem dX9_make_125 : decode cX9_make 125 = .ok (.getfield 128, 3) := by decide +kernel
theorem dX9_make_128 : decode cX9_make 128 = .ok (.if_icmp .ge 52, 3) := by decide +kernel
theorem dX9_make_180 : decode cX9_make 180 = .ok (.iload_n 3, 1) := by decide +kernel
theorem dX9_make_181 : decode cX9_make 181 = .ok (.ireturn, 1) := by decide +kernel
theorem dX9_proxy_0 : decode cX9_proxy 0 = .ok (.aload_n 0, 1) := by decide +kernel
theorem dX9_proxy_1 : decode cX9_proxy 1 = .ok (.iconst 0, 1) := by decide +kernel
theorem dX9_proxy_2 : decode cX9_proxy 2 = .ok (.putfield 1, 3) := by decide +kernel
theorem dX9_proxy_5 : decode cX9_proxy 5 = .ok (.aload_n 0, 1) := by decide +kernel
theorem dX9_proxy_6 : decode cX9_proxy 6 = .ok (.iload_n 1, 1) := by decide +kernel
theorem dX9_proxy_7 : decode cX9_proxy 7 = .ok (.invokevirtual 122, 3) := by decide +kernel
theorem dX9_proxy_10 : decode cX9_proxy 10 = .ok (.ifCond .ne 6, 3) := by decide +kernel
theorem dX9_proxy_13 : decode cX9_proxy 13 = .ok (.bipush (-2), 2) := by decide +kernel
theorem dX9_proxy_15 : decode cX9_proxy 15 = .ok (.ireturn, 1) := by decide +kernel
theorem dX9_proxy_16 : decode cX9_proxy 16 = .ok (.iload_n 2, 1) := by decide +kernel
theorem dX9_proxy_17 : decode cX9_proxy 17 = .ok (.i2l, 1) := by decide +kernel
theorem dX9_proxy_18 : decode cX9_proxy 18 = .ok (.lconst 0, 1) := by decide +kernel
theorem dX9_proxy_19 : decode cX9_proxy 19 = .ok (.ldc2_w 191, 3) := by decide +kernel
theorem dX9_proxy_22 : decode cX9_proxy 22 = .ok (.invokestatic 115, 3) := by decide +kernel
theorem dX9_proxy_25 : decode cX9_proxy 25 = .ok (.ifCond .ne 6, 3) := by decide +kernel
theorem dX9_proxy_28 : decode cX9_proxy 28 = .ok (.bipush (-3), 2) := by decide +kernel
theorem dX9_proxy_30 : decode cX9_proxy 30 = .ok (.ireturn, 1) := by decide +kernel
theorem dX9_proxy_31 : decode cX9_proxy 31 = .ok (.aload_n 0, 1) := by decide +kernel
theorem dX9_proxy_32 : decode cX9_proxy 32 = .ok (.getfield 20, 3) := by decide +kernel
theorem dX9_proxy_35 : decode cX9_proxy 35 = .ok (.iload_n 1, 1) := by decide +kernel
theorem dX9_proxy_36 : decode cX9_proxy 36 = .ok (.iaload, 1) := by decide +kernel
theorem dX9_proxy_37 : decode cX9_proxy 37 = .ok (.iconst 2, 1) := by decide +kernel
theorem dX9_proxy_38 : decode cX9_proxy 38 = .ok (.if_icmp .eq 6, 3) := by decide +kernel
theorem dX9_proxy_41 : decode cX9_proxy 41 = .ok (.bipush (-4), 2) := by decide +kernel
theorem dX9_proxy_43 : decode cX9_proxy 43 = .ok (.ireturn, 1) := by decide +kernel
theorem dX9_constant_0 : decode cX9_constant 0 = .ok (.aload_n 0, 1) := by decide +kernel
theorem dX9_constant_1 : decode cX9_constant 1 = .ok (.iconst 0, 1) := by decide +kernel
theorem dX9_constant_2 : decode cX9_constant 2 = .ok (.putfield 1, 3) := by decide +kernel
theorem dX9_constant_5 : decode cX9_constant 5 = .ok (.aload_n 0, 1) := by decide +kernel
theorem dX9_constant_6 : decode cX9_constant 6 = .ok (.iload_n 1, 1) := by decide +kernel
theorem dX9_constant_7 : decode cX9_constant 7 = .ok (.invokevirtual 122, 3) := by decide +kernel
theorem dX9_constant_10 : decode cX9_constant 10 = .ok (.ifCond .ne 6, 3) := by decide +kernel
theorem dX9_constant_13 : decode cX9_constant 13 = .ok (.bipush (-2), 2) := by decide +kernel
theorem dX9_constant_15 : decode cX9_constant 15 = .ok (.ireturn, 1) := by decide +kernel
theorem dX9_constant_16 : decode cX9_constant 16 = .ok (.aload_n 0, 1) := by decide +kernel
theorem dX9_constant_17 : decode cX9_constant 17 = .ok (.getfield 20, 3) := by decide +kernel
theorem dX9_constant_20 : decode cX9_constant 20 = .ok (.iload_n 1, 1) := by decide +kernel
theorem dX9_constant_21 : decode cX9_constant 21 = .ok (.iaload, 1) := by decide +kernel
theorem dX9_constant_22 : decode cX9_constant 22 = .ok (.iconst 4, 1) := by decide +kernel
theorem dX9_constant_23 : decode cX9_constant 23 = .ok (.if_icmp .eq 6, 3) := by decide +kernel
theorem dX9_constant_26 : decode cX9_constant 26 = .ok (.bipush (-4), 2) := by decide +kernel
theorem dX9_constant_28 : decode cX9_constant 28 = .ok (.ireturn, 1) := by decide +kernel
theorem dX9_start_0 : decode cX9_start 0 = .ok (.aload_n 0, 1) := by decide +kernel
theorem dX9_start_1 : decode cX9_start 1 = .ok (.iconst 0, 1) := by decide +kernel
theorem dX9_start_2 : decode cX9_start 2 = .ok (.putfield 1, 3) := by decide +kernel
theorem dX9_start_5 : decode cX9_start 5 = .ok (.aload_n 0, 1) := by decide +kernel
theorem dX9_start_6 : decode cX9_start 6 = .ok (.iload_n 1, 1) := by decide +kernel
theorem dX9_start_7 : decode cX9_start 7 = .ok (.invokevirtual 122, 3) := by decide +kernel
theorem dX9_start_10 : decode cX9_start 10 = .ok (.ifCond .ne 6, 3) := by decide +kernel
theorem dX9_start_13 : decode cX9_start 13 = .ok (.bipush (-2), 2) := by decide +kernel
theorem dX9_start_15 : decode cX9_start 15 = .ok (.ireturn, 1) := by decide +kernel
theorem dX9_start_16 : decode cX9_start 16 = .ok (.aload_n 0, 1) := by decide +kernel
theorem dX9_start_17 : decode cX9_start 17 = .ok (.iload_n 1, 1) := by decide +kernel
theorem dX9_start_18 : decode cX9_start 18 = .ok (.invokevirtual 214, 3) := by decide +kernel
theorem dX9_start_21 : decode cX9_start 21 = .ok (.istore_n 2, 1) := by decide +kernel
theorem dX9_start_22 : decode cX9_start 22 = .ok (.iload_n 2, 1) := by decide +kernel
theorem dX9_start_23 : decode cX9_start 23 = .ok (.ifCond .le 11, 3) := by decide +kernel
theorem dX9_start_34 : decode cX9_start 34 = .ok (.iconst 1, 1) := by decide +kernel
theorem dX9_start_35 : decode cX9_start 35 = .ok (.ireturn, 1) := by decide +kernel
theorem dX9_resultKind_0 : decode cX9_resultKind 0 = .ok (.aload_n 0, 1) := by decide +kernel
theorem dX9_resultKind_1 : decode cX9_resultKind 1 = .ok (.iconst 0, 1) := by decide +kernel
theorem dX9_resultKind_2 : decode cX9_resultKind 2 = .ok (.putfield 1, 3) := by decide +kernel
theorem dX9_resultKind_5 : decode cX9_resultKind 5 = .ok (.aload_n 0, 1) := by decide +kernel
theorem dX9_resultKind_6 : decode cX9_resultKind 6 = .ok (.getfield 196, 3) := by decide +kernel
theorem dX9_resultKind_9 : decode cX9_resultKind 9 = .ok (.ireturn, 1) := by decide +kernel
theorem dX9_result_0 : decode cX9_result 0 = .ok (.aload_n 0, 1) := by decide +kernel
theorem dX9_result_1 : decode cX9_result 1 = .ok (.iconst 0, 1) := by decide +kernel
theorem dX9_result_2 : decode cX9_result 2 = .ok (.putfield 1, 3) := by decide +kernel
theorem dX9_result_5 : decode cX9_result 5 = .ok (.aload_n 0, 1) := by decide +kernel
theorem dX9_result_6 : decode cX9_result 6 = .ok (.getfield 199, 3) := by decide +kernel
theorem dX9_result_9 : decode cX9_result 9 = .ok (.lreturn, 1) := by decide +kernel
theorem dX9_cause_0 : decode cX9_cause 0 = .ok (.aload_n 0, 1) := by decide +kernel
theorem dX9_cause_1 : decode cX9_cause 1 = .ok (.iconst 0, 1) := by decide +kernel
theorem dX9_cause_2 : decode cX9_cause 2 = .ok (.putfield 1, 3) := by decide +kernel
theorem dX9_cause_5 : decode cX9_cause 5 = .ok (.aload_n 0, 1) := by decide +kernel
theorem dX9_cause_6 : decode cX9_cause 6 = .ok (.getfield 229, 3) := by decide +kernel
theorem dX9_cause_9 : decode cX9_cause 9 = .ok (.ireturn, 1) := by decide +kernel
theorem dX9_about_0 : decode cX9_about 0 = .ok (.aload_n 0, 1) := by decide +kernel
theorem dX9_about_1 : decode cX9_about 1 = .ok (.iconst 0, 1) := by decide +kernel
theorem dX9_about_2 : decode cX9_about 2 = .ok (.putfield 1, 3) := by decide +kernel
theorem dX9_about_5 : decode cX9_about 5 = .ok (.aload_n 0, 1) := by decide +kernel
theorem dX9_about_6 : decode cX9_about 6 = .ok (.iload_n 1, 1) := by decide +kernel
theorem dX9_about_7 : decode cX9_about 7 = .ok (.invokevirtual 122, 3) := by decide +kernel
theorem dX9_about_10 : decode cX9_about 10 = .ok (.ifCond .ne 6, 3) := by decide +kernel
theorem dX9_about_13 : decode cX9_about 13 = .ok (.bipush (-2), 2) := by decide +kernel
theorem dX9_about_15 : decode cX9_about 15 = .ok (.ireturn, 1) := by decide +kernel
theorem dX9_about_16 : decode cX9_about 16 = .ok (.iconst 0, 1) := by decide +kernel
theorem dX9_about_17 : decode cX9_about 17 = .ok (.istore_n 3, 1) := by decide +kernel
theorem dX9_about_18 : decode cX9_about 18 = .ok (.iconst 0, 1) := by decide +kernel
theorem dX9_about_19 : decode cX9_about 19 = .ok (.istore 4, 2) := by decide +kernel
theorem dX9_about_21 : decode cX9_about 21 = .ok (.iload 4, 2) := by decide +kernel
theorem dX9_about_23 : decode cX9_about 23 = .ok (.aload_n 0, 1) := by decide +kernel
theorem dX9_about_24 : decode cX9_about 24 = .ok (.getfield 128, 3) := by decide +kernel
theorem dX9_about_27 : decode cX9_about 27 = .ok (.if_icmp .ge 28, 3) := by decide +kernel
theorem dX9_about_55 : decode cX9_about 55 = .ok (.iload_n 2, 1) := by decide +kernel
theorem dX9_about_56 : decode cX9_about 56 = .ok (.ifCond .ne 12, 3) := by decide +kernel
theorem dX9_about_59 : decode cX9_about 59 = .ok (.aload_n 0, 1) := by decide +kernel
theorem dX9_about_60 : decode cX9_about 60 = .ok (.getfield 20, 3) := by decide +kernel
theorem dX9_about_63 : decode cX9_about 63 = .ok (.iload_n 1, 1) := by decide +kernel
theorem dX9_about_64 : decode cX9_about 64 = .ok (.iaload, 1) := by decide +kernel
theorem dX9_about_65 : decode cX9_about 65 = .ok (.goto 56, 3) := by decide +kernel
theorem dX9_about_68 : decode cX9_about 68 = .ok (.iload_n 2, 1) := by decide +kernel
theorem dX9_about_69 : decode cX9_about 69 = .ok (.iconst 1, 1) := by decide +kernel
theorem dX9_about_70 : decode cX9_about 70 = .ok (.if_icmp .ne 12, 3) := by decide +kernel
theorem dX9_about_73 : decode cX9_about 73 = .ok (.aload_n 0, 1) := by decide +kernel
theorem dX9_about_74 : decode cX9_about 74 = .ok (.getfield 16, 3) := by decide +kernel
theorem dX9_about_77 : decode cX9_about 77 = .ok (.iload_n 1, 1) := by decide +kernel
theorem dX9_about_78 : decode cX9_about 78 = .ok (.iaload, 1) := by decide +kernel
theorem dX9_about_79 : decode cX9_about 79 = .ok (.goto 42, 3) := by decide +kernel
theorem dX9_about_82 : decode cX9_about 82 = .ok (.iload_n 2, 1) := by decide +kernel
theorem dX9_about_83 : decode cX9_about 83 = .ok (.iconst 2, 1) := by decide +kernel
theorem dX9_about_84 : decode cX9_about 84 = .ok (.if_icmp .ne 12, 3) := by decide +kernel
theorem dX9_about_87 : decode cX9_about 87 = .ok (.aload_n 0, 1) := by decide +kernel
theorem dX9_about_88 : decode cX9_about 88 = .ok (.getfield 23, 3) := by decide +kernel
theorem dX9_about_91 : decode cX9_about 91 = .ok (.iload_n 1, 1) := by decide +kernel
theorem dX9_about_92 : decode cX9_about 92 = .ok (.iaload, 1) := by decide +kernel
theorem dX9_about_93 : decode cX9_about 93 = .ok (.goto 28, 3) := by decide +kernel
theorem dX9_about_96 : decode cX9_about 96 = .ok (.iload_n 2, 1) := by decide +kernel
theorem dX9_about_97 : decode cX9_about 97 = .ok (.iconst 3, 1) := by decide +kernel
theorem dX9_about_98 : decode cX9_about 98 = .ok (.if_icmp .ne 12, 3) := by decide +kernel
theorem dX9_about_101 : decode cX9_about 101 = .ok (.aload_n 0, 1) := by decide +kernel
theorem dX9_about_102 : decode cX9_about 102 = .ok (.getfield 33, 3) := by decide +kernel
theorem dX9_about_105 : decode cX9_about 105 = .ok (.iload_n 1, 1) := by decide +kernel
theorem dX9_about_106 : decode cX9_about 106 = .ok (.iaload, 1) := by decide +kernel
theorem dX9_about_107 : decode cX9_about 107 = .ok (.goto 14, 3) := by decide +kernel
theorem dX9_about_110 : decode cX9_about 110 = .ok (.iload_n 2, 1) := by decide +kernel
theorem dX9_about_111 : decode cX9_about 111 = .ok (.iconst 4, 1) := by decide +kernel
theorem dX9_about_112 : decode cX9_about 112 = .ok (.if_icmp .ne 7, 3) := by decide +kernel
theorem dX9_about_115 : decode cX9_about 115 = .ok (.iload_n 3, 1) := by decide +kernel
theorem dX9_about_116 : decode cX9_about 116 = .ok (.goto 5, 3) := by decide +kernel
theorem dX9_about_119 : decode cX9_about 119 = .ok (.bipush (-3), 2) := by decide +kernel
theorem dX9_about_121 : decode cX9_about 121 = .ok (.ireturn, 1) := by decide +kernel
theorem dX9_is_0 : decode cX9_is 0 = .ok (.aload_n 0, 1) := by decide +kernel
theorem dX9_is_1 : decode cX9_is 1 = .ok (.iconst 0, 1) := by decide +kernel
theorem dX9_is_2 : decode cX9_is 2 = .ok (.putfield 1, 3) := by decide +kernel
theorem dX9_is_5 : decode cX9_is 5 = .ok (.aload_n 0, 1) := by decide +kernel
theorem dX9_is_6 : decode cX9_is 6 = .ok (.iload_n 1, 1) := by decide +kernel
theorem dX9_is_7 : decode cX9_is 7 = .ok (.i2l, 1) := by decide +kernel
theorem dX9_is_8 : decode cX9_is 8 = .ok (.invokevirtual 184, 3) := by decide +kernel
theorem dX9_is_11 : decode cX9_is 11 = .ok (.ifCond .eq 11, 3) := by decide +kernel
theorem dX9_is_22 : decode cX9_is 22 = .ok (.bipush (-2), 2) := by decide +kernel
theorem dX9_is_24 : decode cX9_is 24 = .ok (.ireturn, 1) := by decide +kernel
theorem dX9_handle_0 : decode cX9_handle 0 = .ok (.aload_n 0, 1) := by decide +kernel
theorem dX9_handle_1 : decode cX9_handle 1 = .ok (.iconst 0, 1) := by decide +kernel
theorem dX9_handle_2 : decode cX9_handle 2 = .ok (.putfield 1, 3) := by decide +kernel
theorem dX9_handle_5 : decode cX9_handle 5 = .ok (.aload_n 0, 1) := by decide +kernel
theorem dX9_handle_6 : decode cX9_handle 6 = .ok (.iload_n 1, 1) := by decide +kernel
theorem dX9_handle_7 : decode cX9_handle 7 = .ok (.invokevirtual 175, 3) := by decide +kernel
theorem dX9_handle_10 : decode cX9_handle 10 = .ok (.ifCond .ne 6, 3) := by decide +kernel
theorem dX9_handle_13 : decode cX9_handle 13 = .ok (.bipush (-2), 2) := by decide +kernel
theorem dX9_handle_15 : decode cX9_handle 15 = .ok (.ireturn, 1) := by decide +kernel
theorem dX9_told_0 : decode cX9_told 0 = .ok (.aload_n 0, 1) := by decide +kernel
theorem dX9_told_1 : decode cX9_told 1 = .ok (.iconst 0, 1) := by decide +kernel
theorem dX9_told_2 : decode cX9_told 2 = .ok (.putfield 1, 3) := by decide +kernel
theorem dX9_told_5 : decode cX9_told 5 = .ok (.iload_n 1, 1) := by decide +kernel
theorem dX9_told_6 : decode cX9_told 6 = .ok (.ifCond .ne 10, 3) := by decide +kernel
theorem dX9_told_9 : decode cX9_told 9 = .ok (.aload_n 0, 1) := by decide +kernel
theorem dX9_told_10 : decode cX9_told 10 = .ok (.getfield 13, 3) := by decide +kernel
theorem dX9_told_13 : decode cX9_told 13 = .ok (.goto 65, 3) := by decide +kernel
theorem dX9_told_16 : decode cX9_told 16 = .ok (.iload_n 1, 1) := by decide +kernel
theorem dX9_told_17 : decode cX9_told 17 = .ok (.iconst 1, 1) := by decide +kernel
theorem dX9_told_18 : decode cX9_told 18 = .ok (.if_icmp .ne 10, 3) := by decide +kernel
theorem dX9_told_21 : decode cX9_told 21 = .ok (.aload_n 0, 1) := by decide +kernel
theorem dX9_told_22 : decode cX9_told 22 = .ok (.getfield 128, 3) := by decide +kernel
theorem dX9_told_25 : decode cX9_told 25 = .ok (.goto 53, 3) := by decide +kernel
theorem dX9_told_28 : decode cX9_told 28 = .ok (.iload_n 1, 1) := by decide +kernel
theorem dX9_told_29 : decode cX9_told 29 = .ok (.iconst 2, 1) := by decide +kernel
theorem dX9_told_30 : decode cX9_told 30 = .ok (.if_icmp .ne 10, 3) := by decide +kernel
theorem dX9_told_33 : decode cX9_told 33 = .ok (.aload_n 0, 1) := by decide +kernel
theorem dX9_told_34 : decode cX9_told 34 = .ok (.getfield 165, 3) := by decide +kernel
theorem dX9_told_37 : decode cX9_told 37 = .ok (.goto 41, 3) := by decide +kernel
theorem dX9_told_40 : decode cX9_told 40 = .ok (.iload_n 1, 1) := by decide +kernel
theorem dX9_told_41 : decode cX9_told 41 = .ok (.iconst 3, 1) := by decide +kernel
theorem dX9_told_42 : decode cX9_told 42 = .ok (.if_icmp .ne 10, 3) := by decide +kernel
theorem dX9_told_45 : decode cX9_told 45 = .ok (.aload_n 0, 1) := by decide +kernel
theorem dX9_told_46 : decode cX9_told 46 = .ok (.getfield 119, 3) := by decide +kernel
theorem dX9_told_49 : decode cX9_told 49 = .ok (.goto 29, 3) := by decide +kernel
theorem dX9_told_52 : decode cX9_told 52 = .ok (.iload_n 1, 1) := by decide +kernel
theorem dX9_told_53 : decode cX9_told 53 = .ok (.iconst 4, 1) := by decide +kernel
theorem dX9_told_54 : decode cX9_told 54 = .ok (.if_icmp .ne 10, 3) := by decide +kernel
theorem dX9_told_57 : decode cX9_told 57 = .ok (.aload_n 0, 1) := by decide +kernel
theorem dX9_told_58 : decode cX9_told 58 = .ok (.getfield 188, 3) := by decide +kernel
theorem dX9_told_61 : decode cX9_told 61 = .ok (.goto 17, 3) := by decide +kernel
theorem dX9_told_64 : decode cX9_told 64 = .ok (.iload_n 1, 1) := by decide +kernel
theorem dX9_told_65 : decode cX9_told 65 = .ok (.iconst 5, 1) := by decide +kernel
theorem dX9_told_66 : decode cX9_told 66 = .ok (.if_icmp .ne 10, 3) := by decide +kernel
theorem dX9_told_69 : decode cX9_told 69 = .ok (.aload_n 0, 1) := by decide +kernel
theorem dX9_told_70 : decode cX9_told 70 = .ok (.getfield 112, 3) := by decide +kernel
theorem dX9_told_73 : decode cX9_told 73 = .ok (.goto 5, 3) := by decide +kernel
theorem dX9_told_76 : decode cX9_told 76 = .ok (.bipush (-3), 2) := by decide +kernel
theorem dX9_told_78 : decode cX9_told 78 = .ok (.ireturn, 1) := by decide +kernel
