theorem dX10_firstItem_0 : decode cX10_firstItem 0 = .ok (.aload_n 0, 1) := by decide +kernel
theorem dX10_firstItem_1 : decode cX10_firstItem 1 = .ok (.getfield 29, 3) := by decide +kernel
theorem dX10_firstItem_4 : decode cX10_firstItem 4 = .ok (.iload_n 1, 1) := by decide +kernel
theorem dX10_firstItem_5 : decode cX10_firstItem 5 = .ok (.iaload, 1) := by decide +kernel
theorem dX10_firstItem_6 : decode cX10_firstItem 6 = .ok (.iconst 3, 1) := by decide +kernel
theorem dX10_firstItem_7 : decode cX10_firstItem 7 = .ok (.iadd, 1) := by decide +kernel
theorem dX10_firstItem_8 : decode cX10_firstItem 8 = .ok (.ireturn, 1) := by decide +kernel
set_option maxRecDepth 20000 in
theorem ggX10_add_X10_has : GoodIn wsX10_add wsX10_has := goodIn_r _ [15, 16, 17, 18, 19, 20, 21, 14, 22, 23, 31, 32, 33, 34, 35, 36, 37, 38, 39, 40, 41, 42, 43, 44, 45, 46, 47, 48, 49, 50, 51, 52, 53, 54, 55, 56, 57, 58, 59] (by decide +kernel) (by decide +kernel)
set_option maxRecDepth 20000 in
theorem gX10_add_X10_has : GoodIn wsX10_add (wsV RX10 168 RX10 yX10_has wsX10_has) := goodIn_app (goodIn_of _ (by decide +kernel)) ggX10_add_X10_has
set_option maxRecDepth 20000 in
theorem ggX10_add_X10_number : GoodIn wsX10_add wsX10_number := goodIn_r _ [27, 17, 18, 19, 28, 29, 14, 30, 31, 32, 33, 34, 35, 36, 37, 38, 39, 40, 41, 42, 43, 44, 45, 46, 47, 48, 49, 50, 51, 52, 53, 54, 55, 56, 57, 58, 59] (by decide +kernel) (by decide +kernel)
set_option maxRecDepth 20000 in
theorem gX10_add_X10_number : GoodIn wsX10_add (wsV RX10 172 RX10 yX10_number wsX10_number) := goodIn_app (goodIn_of _ (by decide +kernel)) ggX10_add_X10_number
theorem dX10_add_0 : decode cX10_add 0 = .ok (.aload_n 0, 1) := by decide +kernel
theorem dX10_add_1 : decode cX10_add 1 = .ok (.lconst 0, 1) := by decide +kernel
theorem dX10_add_2 : decode cX10_add 2 = .ok (.putfield 184, 3) := by decide +kernel
theorem dX10_add_5 : decode cX10_add 5 = .ok (.aload_n 0, 1) := by decide +kernel
theorem dX10_add_6 : decode cX10_add 6 = .ok (.iconst (-1), 1) := by decide +kernel
theorem dX10_add_7 : decode cX10_add 7 = .ok (.putfield 188, 3) := by decide +kernel
theorem dX10_add_10 : decode cX10_add 10 = .ok (.iload_n 1, 1) := by decide +kernel
theorem dX10_add_11 : decode cX10_add 11 = .ok (.iconst 1, 1) := by decide +kernel
theorem dX10_add_12 : decode cX10_add 12 = .ok (.iadd, 1) := by decide +kernel
theorem dX10_add_13 : decode cX10_add 13 = .ok (.istore 4, 2) := by decide +kernel
theorem dX10_add_15 : decode cX10_add 15 = .ok (.aload_n 0, 1) := by decide +kernel
theorem dX10_add_16 : decode cX10_add 16 = .ok (.iload 4, 2) := by decide +kernel
theorem dX10_add_18 : decode cX10_add 18 = .ok (.ldc2_w 98, 3) := by decide +kernel
theorem dX10_add_21 : decode cX10_add 21 = .ok (.invokevirtual 168, 3) := by decide +kernel
theorem dX10_add_24 : decode cX10_add 24 = .ok (.ifCond .ne 15, 3) := by decide +kernel
theorem dX10_add_27 : decode cX10_add 27 = .ok (.aload_n 0, 1) := by decide +kernel
theorem dX10_add_28 : decode cX10_add 28 = .ok (.iload 4, 2) := by decide +kernel
theorem dX10_add_30 : decode cX10_add 30 = .ok (.ldc2_w 103, 3) := by decide +kernel
theorem dX10_add_33 : decode cX10_add 33 = .ok (.invokevirtual 168, 3) := by decide +kernel
theorem dX10_add_36 : decode cX10_add 36 = .ok (.ifCond .eq 248, 3) := by decide +kernel
theorem dX10_add_39 : decode cX10_add 39 = .ok (.aload_n 0, 1) := by decide +kernel
theorem dX10_add_40 : decode cX10_add 40 = .ok (.iload 4, 2) := by decide +kernel
theorem dX10_add_42 : decode cX10_add 42 = .ok (.ldc2_w 103, 3) := by decide +kernel
theorem dX10_add_45 : decode cX10_add 45 = .ok (.invokevirtual 168, 3) := by decide +kernel
theorem dX10_add_48 : decode cX10_add 48 = .ok (.istore 5, 2) := by decide +kernel
theorem dX10_add_50 : decode cX10_add 50 = .ok (.aload_n 0, 1) := by decide +kernel
theorem dX10_add_51 : decode cX10_add 51 = .ok (.iload 4, 2) := by decide +kernel
theorem dX10_add_53 : decode cX10_add 53 = .ok (.iconst 1, 1) := by decide +kernel
theorem dX10_add_54 : decode cX10_add 54 = .ok (.iadd, 1) := by decide +kernel
theorem dX10_add_55 : decode cX10_add 55 = .ok (.invokevirtual 172, 3) := by decide +kernel
theorem dX10_add_58 : decode cX10_add 58 = .ok (.istore 6, 2) := by decide +kernel
theorem dX10_add_60 : decode cX10_add 60 = .ok (.aload_n 0, 1) := by decide +kernel
theorem dX10_add_61 : decode cX10_add 61 = .ok (.iload 4, 2) := by decide +kernel
theorem dX10_add_63 : decode cX10_add 63 = .ok (.iconst 3, 1) := by decide +kernel
theorem dX10_add_64 : decode cX10_add 64 = .ok (.iadd, 1) := by decide +kernel
theorem dX10_add_65 : decode cX10_add 65 = .ok (.invokevirtual 172, 3) := by decide +kernel
theorem dX10_add_68 : decode cX10_add 68 = .ok (.istore 7, 2) := by decide +kernel
theorem dX10_add_70 : decode cX10_add 70 = .ok (.iinc 4 4, 3) := by decide +kernel
theorem dX10_add_73 : decode cX10_add 73 = .ok (.iconst 0, 1) := by decide +kernel
theorem dX10_add_74 : decode cX10_add 74 = .ok (.istore 8, 2) := by decide +kernel
theorem dX10_add_76 : decode cX10_add 76 = .ok (.iconst 1, 1) := by decide +kernel
theorem dX10_add_77 : decode cX10_add 77 = .ok (.istore 9, 2) := by decide +kernel
theorem dX10_add_79 : decode cX10_add 79 = .ok (.aload_n 0, 1) := by decide +kernel
theorem dX10_add_80 : decode cX10_add 80 = .ok (.iload 4, 2) := by decide +kernel
theorem dX10_add_82 : decode cX10_add 82 = .ok (.ldc2_w 111, 3) := by decide +kernel
theorem dX10_add_85 : decode cX10_add 85 = .ok (.invokevirtual 168, 3) := by decide +kernel
theorem dX10_add_88 : decode cX10_add 88 = .ok (.ifCond .eq 16, 3) := by decide +kernel
theorem dX10_add_91 : decode cX10_add 91 = .ok (.aload_n 0, 1) := by decide +kernel
theorem dX10_add_92 : decode cX10_add 92 = .ok (.iload 4, 2) := by decide +kernel
theorem dX10_add_94 : decode cX10_add 94 = .ok (.iconst 1, 1) := by decide +kernel
theorem dX10_add_95 : decode cX10_add 95 = .ok (.iadd, 1) := by decide +kernel
theorem dX10_add_96 : decode cX10_add 96 = .ok (.invokevirtual 172, 3) := by decide +kernel
theorem dX10_add_99 : decode cX10_add 99 = .ok (.istore 8, 2) := by decide +kernel
theorem dX10_add_101 : decode cX10_add 101 = .ok (.iinc 4 2, 3) := by decide +kernel
theorem dX10_add_104 : decode cX10_add 104 = .ok (.aload_n 0, 1) := by decide +kernel
theorem dX10_add_105 : decode cX10_add 105 = .ok (.iload 4, 2) := by decide +kernel
theorem dX10_add_107 : decode cX10_add 107 = .ok (.ldc2_w 114, 3) := by decide +kernel
theorem dX10_add_110 : decode cX10_add 110 = .ok (.invokevirtual 168, 3) := by decide +kernel
theorem dX10_add_113 : decode cX10_add 113 = .ok (.ifCond .eq 16, 3) := by decide +kernel
theorem dX10_add_116 : decode cX10_add 116 = .ok (.aload_n 0, 1) := by decide +kernel
theorem dX10_add_117 : decode cX10_add 117 = .ok (.iload 4, 2) := by decide +kernel
theorem dX10_add_119 : decode cX10_add 119 = .ok (.iconst 1, 1) := by decide +kernel
theorem dX10_add_120 : decode cX10_add 120 = .ok (.iadd, 1) := by decide +kernel
theorem dX10_add_121 : decode cX10_add 121 = .ok (.invokevirtual 172, 3) := by decide +kernel
theorem dX10_add_124 : decode cX10_add 124 = .ok (.istore 9, 2) := by decide +kernel
theorem dX10_add_126 : decode cX10_add 126 = .ok (.iinc 4 2, 3) := by decide +kernel
theorem dX10_add_129 : decode cX10_add 129 = .ok (.aload_n 0, 1) := by decide +kernel
theorem dX10_add_130 : decode cX10_add 130 = .ok (.getfield 44, 3) := by decide +kernel
theorem dX10_add_133 : decode cX10_add 133 = .ok (.iload 7, 2) := by decide +kernel
theorem dX10_add_135 : decode cX10_add 135 = .ok (.baload, 1) := by decide +kernel
theorem dX10_add_136 : decode cX10_add 136 = .ok (.ifCond .ne 8, 3) := by decide +kernel
theorem dX10_add_139 : decode cX10_add 139 = .ok (.iload 7, 2) := by decide +kernel
theorem dX10_add_141 : decode cX10_add 141 = .ok (.goto 18, 3) := by decide +kernel
theorem dX10_add_144 : decode cX10_add 144 = .ok (.iload 9, 2) := by decide +kernel
theorem dX10_add_146 : decode cX10_add 146 = .ok (.ifCond .ne 12, 3) := by decide +kernel
theorem dX10_add_149 : decode cX10_add 149 = .ok (.sipush 200, 3) := by decide +kernel
theorem dX10_add_152 : decode cX10_add 152 = .ok (.iload 7, 2) := by decide +kernel
theorem dX10_add_154 : decode cX10_add 154 = .ok (.iadd, 1) := by decide +kernel
theorem dX10_add_155 : decode cX10_add 155 = .ok (.goto 4, 3) := by decide +kernel
theorem dX10_add_158 : decode cX10_add 158 = .ok (.iconst (-1), 1) := by decide +kernel
theorem dX10_add_159 : decode cX10_add 159 = .ok (.istore 10, 2) := by decide +kernel
theorem dX10_add_161 : decode cX10_add 161 = .ok (.aload_n 0, 1) := by decide +kernel
theorem dX10_add_162 : decode cX10_add 162 = .ok (.aload_n 0, 1) := by decide +kernel
theorem dX10_add_163 : decode cX10_add 163 = .ok (.getfield 188, 3) := by decide +kernel
theorem dX10_add_166 : decode cX10_add 166 = .ok (.iconst (-1), 1) := by decide +kernel
theorem dX10_add_167 : decode cX10_add 167 = .ok (.if_icmp .ne 8, 3) := by decide +kernel
theorem dX10_add_170 : decode cX10_add 170 = .ok (.iload 10, 2) := by decide +kernel
theorem dX10_add_172 : decode cX10_add 172 = .ok (.goto 7, 3) := by decide +kernel
theorem dX10_add_175 : decode cX10_add 175 = .ok (.aload_n 0, 1) := by decide +kernel
theorem dX10_add_176 : decode cX10_add 176 = .ok (.getfield 188, 3) := by decide +kernel
theorem dX10_add_179 : decode cX10_add 179 = .ok (.putfield 188, 3) := by decide +kernel
theorem dX10_add_182 : decode cX10_add 182 = .ok (.iload 10, 2) := by decide +kernel
theorem dX10_add_184 : decode cX10_add 184 = .ok (.iconst (-1), 1) := by decide +kernel
theorem dX10_add_185 : decode cX10_add 185 = .ok (.if_icmp .ne 96, 3) := by decide +kernel
theorem dX10_add_188 : decode cX10_add 188 = .ok (.iload_n 2, 1) := by decide +kernel
theorem dX10_add_189 : decode cX10_add 189 = .ok (.iload 5, 2) := by decide +kernel
theorem dX10_add_191 : decode cX10_add 191 = .ok (.if_icmp .ne 14, 3) := by decide +kernel
theorem dX10_add_194 : decode cX10_add 194 = .ok (.aload_n 0, 1) := by decide +kernel
theorem dX10_add_195 : decode cX10_add 195 = .ok (.getfield 38, 3) := by decide +kernel
theorem dX10_add_198 : decode cX10_add 198 = .ok (.iload 7, 2) := by decide +kernel
theorem dX10_add_200 : decode cX10_add 200 = .ok (.iaload, 1) := by decide +kernel
theorem dX10_add_201 : decode cX10_add 201 = .ok (.i2l, 1) := by decide +kernel
theorem dX10_add_202 : decode cX10_add 202 = .ok (.goto 11, 3) := by decide +kernel
theorem dX10_add_205 : decode cX10_add 205 = .ok (.aload_n 0, 1) := by decide +kernel
theorem dX10_add_206 : decode cX10_add 206 = .ok (.getfield 41, 3) := by decide +kernel
theorem dX10_add_209 : decode cX10_add 209 = .ok (.iload 7, 2) := by decide +kernel
theorem dX10_add_211 : decode cX10_add 211 = .ok (.iaload, 1) := by decide +kernel
theorem dX10_add_212 : decode cX10_add 212 = .ok (.i2l, 1) := by decide +kernel
theorem dX10_add_213 : decode cX10_add 213 = .ok (.lstore 11, 2) := by decide +kernel
theorem dX10_add_215 : decode cX10_add 215 = .ok (.lload 11, 2) := by decide +kernel
theorem dX10_add_217 : decode cX10_add 217 = .ok (.iload 8, 2) := by decide +kernel
theorem dX10_add_219 : decode cX10_add 219 = .ok (.i2l, 1) := by decide +kernel
theorem dX10_add_220 : decode cX10_add 220 = .ok (.lcmp, 1) := by decide +kernel
theorem dX10_add_221 : decode cX10_add 221 = .ok (.ifCond .ge 7, 3) := by decide +kernel
theorem dX10_add_224 : decode cX10_add 224 = .ok (.lconst 0, 1) := by decide +kernel
theorem dX10_add_225 : decode cX10_add 225 = .ok (.goto 5, 3) := by decide +kernel
theorem dX10_add_228 : decode cX10_add 228 = .ok (.lload 11, 2) := by decide +kernel
theorem dX10_add_230 : decode cX10_add 230 = .ok (.lstore 11, 2) := by decide +kernel
theorem dX10_add_232 : decode cX10_add 232 = .ok (.lload 11, 2) := by decide +kernel
theorem dX10_add_234 : decode cX10_add 234 = .ok (.iload 6, 2) := by decide +kernel
theorem dX10_add_236 : decode cX10_add 236 = .ok (.i2l, 1) := by decide +kernel
theorem dX10_add_237 : decode cX10_add 237 = .ok (.lmul, 1) := by decide +kernel
theorem dX10_add_238 : decode cX10_add 238 = .ok (.iload 9, 2) := by decide +kernel
theorem dX10_add_240 : decode cX10_add 240 = .ok (.i2l, 1) := by decide +kernel
theorem dX10_add_241 : decode cX10_add 241 = .ok (.ldiv, 1) := by decide +kernel
theorem dX10_add_242 : decode cX10_add 242 = .ok (.lstore 13, 2) := by decide +kernel
theorem dX10_add_244 : decode cX10_add 244 = .ok (.aload_n 0, 1) := by decide +kernel
theorem dX10_add_245 : decode cX10_add 245 = .ok (.dup, 1) := by decide +kernel
theorem dX10_add_246 : decode cX10_add 246 = .ok (.getfield 184, 3) := by decide +kernel
theorem dX10_add_249 : decode cX10_add 249 = .ok (.iload_n 3, 1) := by decide +kernel
theorem dX10_add_250 : decode cX10_add 250 = .ok (.iconst (-1), 1) := by decide +kernel
theorem dX10_add_251 : decode cX10_add 251 = .ok (.if_icmp .eq 13, 3) := by decide +kernel
theorem dX10_add_254 : decode cX10_add 254 = .ok (.iload_n 3, 1) := by decide +kernel
theorem dX10_add_255 : decode cX10_add 255 = .ok (.iload 7, 2) := by decide +kernel
theorem dX10_add_257 : decode cX10_add 257 = .ok (.if_icmp .eq 7, 3) := by decide +kernel
theorem dX10_add_260 : decode cX10_add 260 = .ok (.lconst 0, 1) := by decide +kernel
theorem dX10_add_261 : decode cX10_add 261 = .ok (.goto 16, 3) := by decide +kernel
theorem dX10_add_264 : decode cX10_add 264 = .ok (.iload 5, 2) := by decide +kernel
theorem dX10_add_266 : decode cX10_add 266 = .ok (.ifCond .eq 9, 3) := by decide +kernel
theorem dX10_add_269 : decode cX10_add 269 = .ok (.lload 13, 2) := by decide +kernel
theorem dX10_add_271 : decode cX10_add 271 = .ok (.lneg, 1) := by decide +kernel
theorem dX10_add_272 : decode cX10_add 272 = .ok (.goto 5, 3) := by decide +kernel
theorem dX10_add_275 : decode cX10_add 275 = .ok (.lload 13, 2) := by decide +kernel
theorem dX10_add_277 : decode cX10_add 277 = .ok (.ladd, 1) := by decide +kernel
theorem dX10_add_278 : decode cX10_add 278 = .ok (.putfield 184, 3) := by decide +kernel
theorem dX10_add_281 : decode cX10_add 281 = .ok (.goto (-266), 3) := by decide +kernel
theorem dX10_add_284 : decode cX10_add 284 = .ok (.aload_n 0, 1) := by decide +kernel
theorem dX10_add_285 : decode cX10_add 285 = .ok (.iload 4, 2) := by decide +kernel
theorem dX10_add_287 : decode cX10_add 287 = .ok (.putfield 191, 3) := by decide +kernel
theorem dX10_add_290 : decode cX10_add 290 = .ok (.return_, 1) := by decide +kernel
set_option maxRecDepth 20000 in
theorem ggX10_stateOfSum_X10_add : GoodIn wsX10_stateOfSum wsX10_add := goodIn_r _ [10, 5, 1, 11, 12, 13, 14, 15, 16, 17, 2, 18, 19, 20, 9, 21, 22, 23, 24, 25, 26, 27, 28, 29, 30, 31, 32, 33, 34, 35, 36, 37, 38, 39, 40, 41, 42, 43, 44, 45, 46, 47, 48, 49, 50, 51, 52, 53, 54, 55, 56, 57, 58, 59, 60, 61, 62, 63, 64, 65] (by decide +kernel) (by decide +kernel)
set_option maxRecDepth 20000 in
theorem gX10_stateOfSum_X10_add : GoodIn wsX10_stateOfSum (wsV RX10 194 RX10 yX10_add wsX10_add) := goodIn_app (goodIn_of _ (by decide +kernel)) ggX10_stateOfSum_X10_add
set_option maxRecDepth 20000 in
theorem ggX10_stateOfSum_X10_has : GoodIn wsX10_stateOfSum wsX10_has := goodIn_r _ [21, 22, 23, 24, 25, 26, 27, 9, 28, 29, 37, 38, 39, 40, 41, 42, 43, 44, 45, 46, 47, 48, 49, 50, 51, 52, 53, 54, 55, 56, 57, 58, 59, 60, 61, 62, 63, 64, 65] (by decide +kernel) (by decide +kernel)
set_option maxRecDepth 20000 in
theorem gX10_stateOfSum_X10_has : GoodIn wsX10_stateOfSum (wsV RX10 168 RX10 yX10_has wsX10_has) := goodIn_app (goodIn_of _ (by decide +kernel)) ggX10_stateOfSum_X10_has
set_option maxRecDepth 20000 in
theorem ggX10_stateOfSum_X10_number : GoodIn wsX10_stateOfSum wsX10_number := goodIn_r _ [33, 23, 24, 25, 34, 35, 9, 36, 37, 38, 39, 40, 41, 42, 43, 44, 45, 46, 47, 48, 49, 50, 51, 52, 53, 54, 55, 56, 57, 58, 59, 60, 61, 62, 63, 64, 65] (by decide +kernel) (by decide +kernel)
set_option maxRecDepth 20000 in
theorem gX10_stateOfSum_X10_number : GoodIn wsX10_stateOfSum (wsV RX10 172 RX10 yX10_number wsX10_number) := goodIn_app (goodIn_of _ (by decide +kernel)) ggX10_stateOfSum_X10_number
theorem dX10_stateOfSum_0 : decode cX10_stateOfSum 0 = .ok (.aload_n 0, 1) := by decide +kernel
theorem dX10_stateOfSum_1 : decode cX10_stateOfSum 1 = .ok (.iload_n 1, 1) := by decide +kernel
theorem dX10_stateOfSum_2 : decode cX10_stateOfSum 2 = .ok (.iconst 1, 1) := by decide +kernel
theorem dX10_stateOfSum_3 : decode cX10_stateOfSum 3 = .ok (.iconst (-1), 1) := by decide +kernel
theorem dX10_stateOfSum_4 : decode cX10_stateOfSum 4 = .ok (.invokevirtual 194, 3) := by decide +kernel
theorem dX10_stateOfSum_7 : decode cX10_stateOfSum 7 = .ok (.aload_n 0, 1) := by decide +kernel
theorem dX10_stateOfSum_8 : decode cX10_stateOfSum 8 = .ok (.getfield 188, 3) := by decide +kernel
theorem dX10_stateOfSum_11 : decode cX10_stateOfSum 11 = .ok (.iconst (-1), 1) := by decide +kernel
theorem dX10_stateOfSum_12 : decode cX10_stateOfSum 12 = .ok (.if_icmp .eq 5, 3) := by decide +kernel
theorem dX10_stateOfSum_15 : decode cX10_stateOfSum 15 = .ok (.iconst 2, 1) := by decide +kernel
theorem dX10_stateOfSum_16 : decode cX10_stateOfSum 16 = .ok (.ireturn, 1) := by decide +kernel
theorem dX10_stateOfSum_17 : decode cX10_stateOfSum 17 = .ok (.aload_n 0, 1) := by decide +kernel
theorem dX10_stateOfSum_18 : decode cX10_stateOfSum 18 = .ok (.aload_n 0, 1) := by decide +kernel
theorem dX10_stateOfSum_19 : decode cX10_stateOfSum 19 = .ok (.getfield 191, 3) := by decide +kernel
theorem dX10_stateOfSum_22 : decode cX10_stateOfSum 22 = .ok (.ldc2_w 120, 3) := by decide +kernel
theorem dX10_stateOfSum_25 : decode cX10_stateOfSum 25 = .ok (.invokevirtual 168, 3) := by decide +kernel
theorem dX10_stateOfSum_28 : decode cX10_stateOfSum 28 = .ok (.istore_n 2, 1) := by decide +kernel
theorem dX10_stateOfSum_29 : decode cX10_stateOfSum 29 = .ok (.aload_n 0, 1) := by decide +kernel
theorem dX10_stateOfSum_30 : decode cX10_stateOfSum 30 = .ok (.iload_n 1, 1) := by decide +kernel
theorem dX10_stateOfSum_31 : decode cX10_stateOfSum 31 = .ok (.iload_n 2, 1) := by decide +kernel
theorem dX10_stateOfSum_32 : decode cX10_stateOfSum 32 = .ok (.aload_n 0, 1) := by decide +kernel
theorem dX10_stateOfSum_33 : decode cX10_stateOfSum 33 = .ok (.getfield 51, 3) := by decide +kernel
theorem dX10_stateOfSum_36 : decode cX10_stateOfSum 36 = .ok (.if_icmp .ne 7, 3) := by decide +kernel
theorem dX10_stateOfSum_39 : decode cX10_stateOfSum 39 = .ok (.iconst 1, 1) := by decide +kernel
theorem dX10_stateOfSum_40 : decode cX10_stateOfSum 40 = .ok (.goto 4, 3) := by decide +kernel
theorem dX10_stateOfSum_43 : decode cX10_stateOfSum 43 = .ok (.iconst 0, 1) := by decide +kernel
theorem dX10_stateOfSum_44 : decode cX10_stateOfSum 44 = .ok (.iconst (-1), 1) := by decide +kernel
theorem dX10_stateOfSum_45 : decode cX10_stateOfSum 45 = .ok (.invokevirtual 194, 3) := by decide +kernel
theorem dX10_stateOfSum_48 : decode cX10_stateOfSum 48 = .ok (.aload_n 0, 1) := by decide +kernel
theorem dX10_stateOfSum_49 : decode cX10_stateOfSum 49 = .ok (.aload_n 0, 1) := by decide +kernel
theorem dX10_stateOfSum_50 : decode cX10_stateOfSum 50 = .ok (.getfield 191, 3) := by decide +kernel
theorem dX10_stateOfSum_53 : decode cX10_stateOfSum 53 = .ok (.iconst 1, 1) := by decide +kernel
theorem dX10_stateOfSum_54 : decode cX10_stateOfSum 54 = .ok (.iadd, 1) := by decide +kernel
theorem dX10_stateOfSum_55 : decode cX10_stateOfSum 55 = .ok (.invokevirtual 172, 3) := by decide +kernel
theorem dX10_stateOfSum_58 : decode cX10_stateOfSum 58 = .ok (.istore_n 3, 1) := by decide +kernel
theorem dX10_stateOfSum_59 : decode cX10_stateOfSum 59 = .ok (.iload_n 2, 1) := by decide +kernel
theorem dX10_stateOfSum_60 : decode cX10_stateOfSum 60 = .ok (.ifCond .eq 21, 3) := by decide +kernel
theorem dX10_stateOfSum_63 : decode cX10_stateOfSum 63 = .ok (.aload_n 0, 1) := by decide +kernel
theorem dX10_stateOfSum_64 : decode cX10_stateOfSum 64 = .ok (.getfield 184, 3) := by decide +kernel
theorem dX10_stateOfSum_67 : decode cX10_stateOfSum 67 = .ok (.iload_n 3, 1) := by decide +kernel
theorem dX10_stateOfSum_68 : decode cX10_stateOfSum 68 = .ok (.i2l, 1) := by decide +kernel
theorem dX10_stateOfSum_69 : decode cX10_stateOfSum 69 = .ok (.lcmp, 1) := by decide +kernel
theorem dX10_stateOfSum_70 : decode cX10_stateOfSum 70 = .ok (.ifCond .le 7, 3) := by decide +kernel
theorem dX10_stateOfSum_73 : decode cX10_stateOfSum 73 = .ok (.iconst 1, 1) := by decide +kernel
theorem dX10_stateOfSum_74 : decode cX10_stateOfSum 74 = .ok (.goto 22, 3) := by decide +kernel
theorem dX10_stateOfSum_77 : decode cX10_stateOfSum 77 = .ok (.iconst 0, 1) := by decide +kernel
theorem dX10_stateOfSum_78 : decode cX10_stateOfSum 78 = .ok (.goto 18, 3) := by decide +kernel
theorem dX10_stateOfSum_81 : decode cX10_stateOfSum 81 = .ok (.aload_n 0, 1) := by decide +kernel
theorem dX10_stateOfSum_82 : decode cX10_stateOfSum 82 = .ok (.getfield 184, 3) := by decide +kernel
theorem dX10_stateOfSum_85 : decode cX10_stateOfSum 85 = .ok (.iload_n 3, 1) := by decide +kernel
theorem dX10_stateOfSum_86 : decode cX10_stateOfSum 86 = .ok (.i2l, 1) := by decide +kernel
theorem dX10_stateOfSum_87 : decode cX10_stateOfSum 87 = .ok (.lcmp, 1) := by decide +kernel
theorem dX10_stateOfSum_88 : decode cX10_stateOfSum 88 = .ok (.ifCond .ge 7, 3) := by decide +kernel
theorem dX10_stateOfSum_91 : decode cX10_stateOfSum 91 = .ok (.iconst 1, 1) := by decide +kernel
theorem dX10_stateOfSum_92 : decode cX10_stateOfSum 92 = .ok (.goto 4, 3) := by decide +kernel
theorem dX10_stateOfSum_95 : decode cX10_stateOfSum 95 = .ok (.iconst 0, 1) := by decide +kernel
theorem dX10_stateOfSum_96 : decode cX10_stateOfSum 96 = .ok (.ireturn, 1) := by decide +kernel
set_option maxRecDepth 20000 in
theorem ggX10_stateOfTest_X10_number : GoodIn wsX10_stateOfTest wsX10_number := goodIn_r _ [8, 9, 10, 11, 12, 13, 7, 14, 24, 25, 26, 27, 28, 29, 30, 31, 32, 33, 34, 35, 36, 37, 38, 39, 40, 41, 42, 43, 44, 45, 46, 47, 48, 49, 50, 51, 52] (by decide +kernel) (by decide +kernel)
set_option maxRecDepth 20000 in
theorem gX10_stateOfTest_X10_number : GoodIn wsX10_stateOfTest (wsV RX10 172 RX10 yX10_number wsX10_number) := goodIn_app (goodIn_of _ (by decide +kernel)) ggX10_stateOfTest_X10_number
set_option maxRecDepth 20000 in
theorem ggX10_stateOfTest_X10_has : GoodIn wsX10_stateOfTest wsX10_has := goodIn_r _ [18, 19, 9, 10, 11, 20, 21, 7, 22, 23, 24, 25, 26, 27, 28, 29, 30, 31, 32, 33, 34, 35, 36, 37, 38, 39, 40, 41, 42, 43, 44, 45, 46, 47, 48, 49, 50, 51, 52] (by decide +kernel) (by decide +kernel)
set_option maxRecDepth 20000 in
theorem gX10_stateOfTest_X10_has : GoodIn wsX10_stateOfTest (wsV RX10 168 RX10 yX10_has wsX10_has) := goodIn_app (goodIn_of _ (by decide +kernel)) ggX10_stateOfTest_X10_has
theorem dX10_stateOfTest_0 : decode cX10_stateOfTest 0 = .ok (.aload_n 0, 1) := by decide +kernel
theorem dX10_stateOfTest_1 : decode cX10_stateOfTest 1 = .ok (.iload_n 1, 1) := by decide +kernel
theorem dX10_stateOfTest_2 : decode cX10_stateOfTest 2 = .ok (.iconst 1, 1) := by decide +kernel
theorem dX10_stateOfTest_3 : decode cX10_stateOfTest 3 = .ok (.iadd, 1) := by decide +kernel
theorem dX10_stateOfTest_4 : decode cX10_stateOfTest 4 = .ok (.invokevirtual 172, 3) := by decide +kernel
theorem dX10_stateOfTest_7 : decode cX10_stateOfTest 7 = .ok (.istore_n 2, 1) := by decide +kernel
theorem dX10_stateOfTest_8 : decode cX10_stateOfTest 8 = .ok (.aload_n 0, 1) := by decide +kernel
theorem dX10_stateOfTest_9 : decode cX10_stateOfTest 9 = .ok (.getfield 48, 3) := by decide +kernel
theorem dX10_stateOfTest_12 : decode cX10_stateOfTest 12 = .ok (.iload_n 2, 1) := by decide +kernel
theorem dX10_stateOfTest_13 : decode cX10_stateOfTest 13 = .ok (.iaload, 1) := by decide +kernel
theorem dX10_stateOfTest_14 : decode cX10_stateOfTest 14 = .ok (.iconst (-1), 1) := by decide +kernel
theorem dX10_stateOfTest_15 : decode cX10_stateOfTest 15 = .ok (.if_icmp .ne 13, 3) := by decide +kernel
theorem dX10_stateOfTest_18 : decode cX10_stateOfTest 18 = .ok (.aload_n 0, 1) := by decide +kernel
theorem dX10_stateOfTest_19 : decode cX10_stateOfTest 19 = .ok (.bipush 100, 2) := by decide +kernel
theorem dX10_stateOfTest_21 : decode cX10_stateOfTest 21 = .ok (.iload_n 2, 1) := by decide +kernel
theorem dX10_stateOfTest_22 : decode cX10_stateOfTest 22 = .ok (.iadd, 1) := by decide +kernel
theorem dX10_stateOfTest_23 : decode cX10_stateOfTest 23 = .ok (.putfield 188, 3) := by decide +kernel
theorem dX10_stateOfTest_26 : decode cX10_stateOfTest 26 = .ok (.iconst 2, 1) := by decide +kernel
theorem dX10_stateOfTest_27 : decode cX10_stateOfTest 27 = .ok (.ireturn, 1) := by decide +kernel
theorem dX10_stateOfTest_28 : decode cX10_stateOfTest 28 = .ok (.aload_n 0, 1) := by decide +kernel
theorem dX10_stateOfTest_29 : decode cX10_stateOfTest 29 = .ok (.getfield 48, 3) := by decide +kernel
theorem dX10_stateOfTest_32 : decode cX10_stateOfTest 32 = .ok (.iload_n 2, 1) := by decide +kernel
theorem dX10_stateOfTest_33 : decode cX10_stateOfTest 33 = .ok (.iaload, 1) := by decide +kernel
theorem dX10_stateOfTest_34 : decode cX10_stateOfTest 34 = .ok (.aload_n 0, 1) := by decide +kernel
theorem dX10_stateOfTest_35 : decode cX10_stateOfTest 35 = .ok (.iload_n 1, 1) := by decide +kernel
theorem dX10_stateOfTest_36 : decode cX10_stateOfTest 36 = .ok (.iconst 3, 1) := by decide +kernel
theorem dX10_stateOfTest_37 : decode cX10_stateOfTest 37 = .ok (.iadd, 1) := by decide +kernel
theorem dX10_stateOfTest_38 : decode cX10_stateOfTest 38 = .ok (.invokevirtual 172, 3) := by decide +kernel
theorem dX10_stateOfTest_41 : decode cX10_stateOfTest 41 = .ok (.if_icmp .ne 7, 3) := by decide +kernel
theorem dX10_stateOfTest_44 : decode cX10_stateOfTest 44 = .ok (.iconst 1, 1) := by decide +kernel
theorem dX10_stateOfTest_45 : decode cX10_stateOfTest 45 = .ok (.goto 4, 3) := by decide +kernel
theorem dX10_stateOfTest_48 : decode cX10_stateOfTest 48 = .ok (.iconst 0, 1) := by decide +kernel
theorem dX10_stateOfTest_49 : decode cX10_stateOfTest 49 = .ok (.aload_n 0, 1) := by decide +kernel
theorem dX10_stateOfTest_50 : decode cX10_stateOfTest 50 = .ok (.iload_n 1, 1) := by decide +kernel
theorem dX10_stateOfTest_51 : decode cX10_stateOfTest 51 = .ok (.iconst 2, 1) := by decide +kernel
theorem dX10_stateOfTest_52 : decode cX10_stateOfTest 52 = .ok (.iadd, 1) := by decide +kernel
theorem dX10_stateOfTest_53 : decode cX10_stateOfTest 53 = .ok (.ldc2_w 126, 3) := by decide +kernel
theorem dX10_stateOfTest_56 : decode cX10_stateOfTest 56 = .ok (.invokevirtual 168, 3) := by decide +kernel
theorem dX10_stateOfTest_59 : decode cX10_stateOfTest 59 = .ok (.if_icmp .ne 7, 3) := by decide +kernel
theorem dX10_stateOfTest_62 : decode cX10_stateOfTest 62 = .ok (.iconst 1, 1) := by decide +kernel
theorem dX10_stateOfTest_63 : decode cX10_stateOfTest 63 = .ok (.goto 4, 3) := by decide +kernel
theorem dX10_stateOfTest_66 : decode cX10_stateOfTest 66 = .ok (.iconst 0, 1) := by decide +kernel
theorem dX10_stateOfTest_67 : decode cX10_stateOfTest 67 = .ok (.ireturn, 1) := by decide +kernel
set_option maxRecDepth 20000 in
theorem ggX10_stateOfHolds_X10_number : GoodIn wsX10_stateOfHolds wsX10_number := goodIn_r _ [8, 9, 10, 11, 12, 13, 7, 14, 20, 21, 22, 23, 24, 25, 26, 27, 28, 29, 30, 31, 32, 33, 34, 35, 36, 37, 38, 39, 40, 41, 42, 43, 44, 45, 46, 47, 48] (by decide +kernel) (by decide +kernel)
set_option maxRecDepth 20000 in
theorem gX10_stateOfHolds_X10_number : GoodIn wsX10_stateOfHolds (wsV RX10 172 RX10 yX10_number wsX10_number) := goodIn_app (goodIn_of _ (by decide +kernel)) ggX10_stateOfHolds_X10_number
set_option maxRecDepth 20000 in
theorem ggX10_stateOfHolds_X10_classOf : GoodIn wsX10_stateOfHolds wsX10_classOf := goodIn_r _ [18, 19, 4, 5, 6, 7, 8, 9, 10, 11, 12, 13, 14, 20, 21, 22, 23, 24, 25, 26, 27, 28, 29, 30, 31, 32, 33, 34, 35, 36, 37, 38, 39, 40, 41, 42, 43, 44, 45, 46, 47, 48] (by decide +kernel) (by decide +kernel)
set_option maxRecDepth 20000 in
theorem gX10_stateOfHolds_X10_classOf : GoodIn wsX10_stateOfHolds (wsV RX10 198 RX10 yX10_classOf wsX10_classOf) := goodIn_app (goodIn_of _ (by decide +kernel)) ggX10_stateOfHolds_X10_classOf
theorem dX10_stateOfHolds_0 : decode cX10_stateOfHolds 0 = .ok (.aload_n 0, 1) := by decide +kernel
theorem dX10_stateOfHolds_1 : decode cX10_stateOfHolds 1 = .ok (.iload_n 1, 1) := by decide +kernel
theorem dX10_stateOfHolds_2 : decode cX10_stateOfHolds 2 = .ok (.iconst 1, 1) := by decide +kernel
theorem dX10_stateOfHolds_3 : decode cX10_stateOfHolds 3 = .ok (.iadd, 1) := by decide +kernel
theorem dX10_stateOfHolds_4 : decode cX10_stateOfHolds 4 = .ok (.invokevirtual 172, 3) := by decide +kernel
theorem dX10_stateOfHolds_7 : decode cX10_stateOfHolds 7 = .ok (.istore_n 3, 1) := by decide +kernel
theorem dX10_stateOfHolds_8 : decode cX10_stateOfHolds 8 = .ok (.iconst 0, 1) := by decide +kernel
theorem dX10_stateOfHolds_9 : decode cX10_stateOfHolds 9 = .ok (.istore 4, 2) := by decide +kernel
theorem dX10_stateOfHolds_11 : decode cX10_stateOfHolds 11 = .ok (.iconst 0, 1) := by decide +kernel
theorem dX10_stateOfHolds_12 : decode cX10_stateOfHolds 12 = .ok (.istore 5, 2) := by decide +kernel
theorem dX10_stateOfHolds_14 : decode cX10_stateOfHolds 14 = .ok (.iload 5, 2) := by decide +kernel
theorem dX10_stateOfHolds_16 : decode cX10_stateOfHolds 16 = .ok (.iload_n 2, 1) := by decide +kernel
theorem dX10_stateOfHolds_17 : decode cX10_stateOfHolds 17 = .ok (.if_icmp .ge 74, 3) := by decide +kernel
theorem dX10_stateOfHolds_20 : decode cX10_stateOfHolds 20 = .ok (.aload_n 0, 1) := by decide +kernel
theorem dX10_stateOfHolds_21 : decode cX10_stateOfHolds 21 = .ok (.getfield 32, 3) := by decide +kernel
theorem dX10_stateOfHolds_24 : decode cX10_stateOfHolds 24 = .ok (.iload 5, 2) := by decide +kernel
theorem dX10_stateOfHolds_26 : decode cX10_stateOfHolds 26 = .ok (.iaload, 1) := by decide +kernel
theorem dX10_stateOfHolds_27 : decode cX10_stateOfHolds 27 = .ok (.aload_n 0, 1) := by decide +kernel
theorem dX10_stateOfHolds_28 : decode cX10_stateOfHolds 28 = .ok (.getfield 32, 3) := by decide +kernel
theorem dX10_stateOfHolds_31 : decode cX10_stateOfHolds 31 = .ok (.iload_n 2, 1) := by decide +kernel
theorem dX10_stateOfHolds_32 : decode cX10_stateOfHolds 32 = .ok (.iaload, 1) := by decide +kernel
theorem dX10_stateOfHolds_33 : decode cX10_stateOfHolds 33 = .ok (.if_icmp .ne 52, 3) := by decide +kernel
theorem dX10_stateOfHolds_36 : decode cX10_stateOfHolds 36 = .ok (.aload_n 0, 1) := by decide +kernel
theorem dX10_stateOfHolds_37 : decode cX10_stateOfHolds 37 = .ok (.iload 5, 2) := by decide +kernel
theorem dX10_stateOfHolds_39 : decode cX10_stateOfHolds 39 = .ok (.invokevirtual 198, 3) := by decide +kernel
theorem dX10_stateOfHolds_42 : decode cX10_stateOfHolds 42 = .ok (.iload_n 3, 1) := by decide +kernel
theorem dX10_stateOfHolds_43 : decode cX10_stateOfHolds 43 = .ok (.if_icmp .ne 42, 3) := by decide +kernel
theorem dX10_stateOfHolds_46 : decode cX10_stateOfHolds 46 = .ok (.aload_n 0, 1) := by decide +kernel
theorem dX10_stateOfHolds_47 : decode cX10_stateOfHolds 47 = .ok (.getfield 59, 3) := by decide +kernel
theorem dX10_stateOfHolds_50 : decode cX10_stateOfHolds 50 = .ok (.iload 5, 2) := by decide +kernel
theorem dX10_stateOfHolds_52 : decode cX10_stateOfHolds 52 = .ok (.iaload, 1) := by decide +kernel
theorem dX10_stateOfHolds_53 : decode cX10_stateOfHolds 53 = .ok (.iconst 1, 1) := by decide +kernel
theorem dX10_stateOfHolds_54 : decode cX10_stateOfHolds 54 = .ok (.if_icmp .ne 7, 3) := by decide +kernel
theorem dX10_stateOfHolds_57 : decode cX10_stateOfHolds 57 = .ok (.iconst 1, 1) := by decide +kernel
theorem dX10_stateOfHolds_58 : decode cX10_stateOfHolds 58 = .ok (.goto 25, 3) := by decide +kernel
theorem dX10_stateOfHolds_61 : decode cX10_stateOfHolds 61 = .ok (.aload_n 0, 1) := by decide +kernel
theorem dX10_stateOfHolds_62 : decode cX10_stateOfHolds 62 = .ok (.getfield 59, 3) := by decide +kernel
theorem dX10_stateOfHolds_65 : decode cX10_stateOfHolds 65 = .ok (.iload 5, 2) := by decide +kernel
theorem dX10_stateOfHolds_67 : decode cX10_stateOfHolds 67 = .ok (.iaload, 1) := by decide +kernel
theorem dX10_stateOfHolds_68 : decode cX10_stateOfHolds 68 = .ok (.iconst 2, 1) := by decide +kernel
theorem dX10_stateOfHolds_69 : decode cX10_stateOfHolds 69 = .ok (.if_icmp .ne 12, 3) := by decide +kernel
theorem dX10_stateOfHolds_72 : decode cX10_stateOfHolds 72 = .ok (.iload 4, 2) := by decide +kernel
theorem dX10_stateOfHolds_74 : decode cX10_stateOfHolds 74 = .ok (.ifCond .ne 7, 3) := by decide +kernel
theorem dX10_stateOfHolds_77 : decode cX10_stateOfHolds 77 = .ok (.iconst 2, 1) := by decide +kernel
theorem dX10_stateOfHolds_78 : decode cX10_stateOfHolds 78 = .ok (.goto 5, 3) := by decide +kernel
theorem dX10_stateOfHolds_81 : decode cX10_stateOfHolds 81 = .ok (.iload 4, 2) := by decide +kernel
theorem dX10_stateOfHolds_83 : decode cX10_stateOfHolds 83 = .ok (.istore 4, 2) := by decide +kernel
theorem dX10_stateOfHolds_85 : decode cX10_stateOfHolds 85 = .ok (.iinc 5 1, 3) := by decide +kernel
theorem dX10_stateOfHolds_88 : decode cX10_stateOfHolds 88 = .ok (.goto (-74), 3) := by decide +kernel
theorem dX10_stateOfHolds_91 : decode cX10_stateOfHolds 91 = .ok (.aload_n 0, 1) := by decide +kernel
theorem dX10_stateOfHolds_92 : decode cX10_stateOfHolds 92 = .ok (.sipush 300, 3) := by decide +kernel
theorem dX10_stateOfHolds_95 : decode cX10_stateOfHolds 95 = .ok (.iload_n 3, 1) := by decide +kernel
theorem dX10_stateOfHolds_96 : decode cX10_stateOfHolds 96 = .ok (.iadd, 1) := by decide +kernel
theorem dX10_stateOfHolds_97 : decode cX10_stateOfHolds 97 = .ok (.putfield 188, 3) := by decide +kernel
theorem dX10_stateOfHolds_100 : decode cX10_stateOfHolds 100 = .ok (.iload 4, 2) := by decide +kernel
theorem dX10_stateOfHolds_102 : decode cX10_stateOfHolds 102 = .ok (.ireturn, 1) := by decide +kernel
set_option maxRecDepth 20000 in
theorem ggX10_classOf_X10_number : GoodIn wsX10_classOf wsX10_number := goodIn_r _ [6, 7, 8, 9, 10, 11, 5, 12, 13, 14, 15, 16, 17, 18, 19, 20, 21, 22, 23, 24, 25, 26, 27, 28, 29, 30, 31, 32, 33, 34, 35, 36, 37, 38, 39, 40, 41] (by decide +kernel) (by decide +kernel)
set_option maxRecDepth 20000 in
theorem gX10_classOf_X10_number : GoodIn wsX10_classOf (wsV RX10 172 RX10 yX10_number wsX10_number) := goodIn_app (goodIn_of _ (by decide +kernel)) ggX10_classOf_X10_number
theorem dX10_classOf_0 : decode cX10_classOf 0 = .ok (.aload_n 0, 1) := by decide +kernel
theorem dX10_classOf_1 : decode cX10_classOf 1 = .ok (.aload_n 0, 1) := by decide +kernel
theorem dX10_classOf_2 : decode cX10_classOf 2 = .ok (.getfield 29, 3) := by decide +kernel
theorem dX10_classOf_5 : decode cX10_classOf 5 = .ok (.iload_n 1, 1) := by decide +kernel
theorem dX10_classOf_6 : decode cX10_classOf 6 = .ok (.iaload, 1) := by decide +kernel
theorem dX10_classOf_7 : decode cX10_classOf 7 = .ok (.iconst 1, 1) := by decide +kernel
theorem dX10_classOf_8 : decode cX10_classOf 8 = .ok (.iadd, 1) := by decide +kernel
theorem dX10_classOf_9 : decode cX10_classOf 9 = .ok (.invokevirtual 172, 3) := by decide +kernel
theorem dX10_classOf_12 : decode cX10_classOf 12 = .ok (.ireturn, 1) := by decide +kernel
set_option maxRecDepth 20000 in
theorem ggX10_hasTests_X10_firstItem : GoodIn wsX10_hasTests wsX10_firstItem := goodIn_r _ [7, 8, 34, 35, 36, 37, 38, 39, 40, 41, 42, 43, 44, 45, 46, 47, 48, 49, 50, 51, 52, 53, 54, 55, 56, 57, 58, 59, 60, 61, 62] (by decide +kernel) (by decide +kernel)
set_option maxRecDepth 20000 in
theorem gX10_hasTests_X10_firstItem : GoodIn wsX10_hasTests (wsV RX10 201 RX10 yX10_firstItem wsX10_firstItem) := goodIn_app (goodIn_of _ (by decide +kernel)) ggX10_hasTests_X10_firstItem
set_option maxRecDepth 20000 in
theorem ggX10_hasTests_X10_has : GoodIn wsX10_hasTests wsX10_has := goodIn_r _ [12, 13, 14, 15, 16, 17, 18, 6, 19, 20, 34, 35, 36, 37, 38, 39, 40, 41, 42, 43, 44, 45, 46, 47, 48, 49, 50, 51, 52, 53, 54, 55, 56, 57, 58, 59, 60, 61, 62] (by decide +kernel) (by decide +kernel)
set_option maxRecDepth 20000 in
theorem gX10_hasTests_X10_has : GoodIn wsX10_hasTests (wsV RX10 168 RX10 yX10_has wsX10_has) := goodIn_app (goodIn_of _ (by decide +kernel)) ggX10_hasTests_X10_has
set_option maxRecDepth 20000 in
theorem ggX10_hasTests_X10_number : GoodIn wsX10_hasTests wsX10_number := goodIn_r _ [24, 14, 15, 16, 25, 26, 6, 27, 34, 35, 36, 37, 38, 39, 40, 41, 42, 43, 44, 45, 46, 47, 48, 49, 50, 51, 52, 53, 54, 55, 56, 57, 58, 59, 60, 61, 62] (by decide +kernel) (by decide +kernel)
set_option maxRecDepth 20000 in
theorem gX10_hasTests_X10_number : GoodIn wsX10_hasTests (wsV RX10 172 RX10 yX10_number wsX10_number) := goodIn_app (goodIn_of _ (by decide +kernel)) ggX10_hasTests_X10_number
set_option maxRecDepth 20000 in
theorem ggX10_hasTests_X10_nextItem : GoodIn wsX10_hasTests wsX10_nextItem := goodIn_r _ [31, 32, 33, 9, 10, 11, 6, 12, 13, 14, 15, 16, 17, 18, 19, 20, 34, 35, 36, 37, 38, 39, 40, 41, 42, 43, 44, 45, 46, 47, 48, 49, 50, 51, 52, 53, 54, 55, 56, 57, 58, 59, 60, 61, 62] (by decide +kernel) (by decide +kernel)
set_option maxRecDepth 20000 in
theorem gX10_hasTests_X10_nextItem : GoodIn wsX10_hasTests (wsV RX10 204 RX10 yX10_nextItem wsX10_nextItem) := goodIn_app (goodIn_of _ (by decide +kernel)) ggX10_hasTests_X10_nextItem
theorem dX10_hasTests_0 : decode cX10_hasTests 0 = .ok (.iconst 0, 1) := by decide +kernel
theorem dX10_hasTests_1 : decode cX10_hasTests 1 = .ok (.istore_n 3, 1) := by decide +kernel
theorem dX10_hasTests_2 : decode cX10_hasTests 2 = .ok (.iconst 1, 1) := by decide +kernel
theorem dX10_hasTests_3 : decode cX10_hasTests 3 = .ok (.istore 4, 2) := by decide +kernel
theorem dX10_hasTests_5 : decode cX10_hasTests 5 = .ok (.aload_n 0, 1) := by decide +kernel
theorem dX10_hasTests_6 : decode cX10_hasTests 6 = .ok (.iload_n 1, 1) := by decide +kernel
theorem dX10_hasTests_7 : decode cX10_hasTests 7 = .ok (.invokevirtual 201, 3) := by decide +kernel
theorem dX10_hasTests_10 : decode cX10_hasTests 10 = .ok (.istore 5, 2) := by decide +kernel
theorem dX10_hasTests_12 : decode cX10_hasTests 12 = .ok (.iload 5, 2) := by decide +kernel
theorem dX10_hasTests_14 : decode cX10_hasTests 14 = .ok (.iconst (-1), 1) := by decide +kernel
theorem dX10_hasTests_15 : decode cX10_hasTests 15 = .ok (.if_icmp .eq 57, 3) := by decide +kernel
theorem dX10_hasTests_18 : decode cX10_hasTests 18 = .ok (.aload_n 0, 1) := by decide +kernel
theorem dX10_hasTests_19 : decode cX10_hasTests 19 = .ok (.iload 5, 2) := by decide +kernel
theorem dX10_hasTests_21 : decode cX10_hasTests 21 = .ok (.ldc2_w 124, 3) := by decide +kernel
theorem dX10_hasTests_24 : decode cX10_hasTests 24 = .ok (.invokevirtual 168, 3) := by decide +kernel
theorem dX10_hasTests_27 : decode cX10_hasTests 27 = .ok (.ifCond .eq 34, 3) := by decide +kernel
theorem dX10_hasTests_30 : decode cX10_hasTests 30 = .ok (.iconst 1, 1) := by decide +kernel
theorem dX10_hasTests_31 : decode cX10_hasTests 31 = .ok (.istore_n 3, 1) := by decide +kernel
theorem dX10_hasTests_32 : decode cX10_hasTests 32 = .ok (.iload 4, 2) := by decide +kernel
theorem dX10_hasTests_34 : decode cX10_hasTests 34 = .ok (.ifCond .eq 24, 3) := by decide +kernel
theorem dX10_hasTests_37 : decode cX10_hasTests 37 = .ok (.aload_n 0, 1) := by decide +kernel
theorem dX10_hasTests_38 : decode cX10_hasTests 38 = .ok (.getfield 48, 3) := by decide +kernel
theorem dX10_hasTests_41 : decode cX10_hasTests 41 = .ok (.aload_n 0, 1) := by decide +kernel
theorem dX10_hasTests_42 : decode cX10_hasTests 42 = .ok (.iload 5, 2) := by decide +kernel
theorem dX10_hasTests_44 : decode cX10_hasTests 44 = .ok (.iconst 1, 1) := by decide +kernel
theorem dX10_hasTests_45 : decode cX10_hasTests 45 = .ok (.iadd, 1) := by decide +kernel
theorem dX10_hasTests_46 : decode cX10_hasTests 46 = .ok (.invokevirtual 172, 3) := by decide +kernel
theorem dX10_hasTests_49 : decode cX10_hasTests 49 = .ok (.iaload, 1) := by decide +kernel
theorem dX10_hasTests_50 : decode cX10_hasTests 50 = .ok (.iconst (-1), 1) := by decide +kernel
theorem dX10_hasTests_51 : decode cX10_hasTests 51 = .ok (.if_icmp .eq 7, 3) := by decide +kernel
theorem dX10_hasTests_54 : decode cX10_hasTests 54 = .ok (.iconst 1, 1) := by decide +kernel
theorem dX10_hasTests_55 : decode cX10_hasTests 55 = .ok (.goto 4, 3) := by decide +kernel
theorem dX10_hasTests_58 : decode cX10_hasTests 58 = .ok (.iconst 0, 1) := by decide +kernel
theorem dX10_hasTests_59 : decode cX10_hasTests 59 = .ok (.istore 4, 2) := by decide +kernel
theorem dX10_hasTests_61 : decode cX10_hasTests 61 = .ok (.aload_n 0, 1) := by decide +kernel
theorem dX10_hasTests_62 : decode cX10_hasTests 62 = .ok (.iload 5, 2) := by decide +kernel
theorem dX10_hasTests_64 : decode cX10_hasTests 64 = .ok (.invokevirtual 204, 3) := by decide +kernel
theorem dX10_hasTests_67 : decode cX10_hasTests 67 = .ok (.istore 5, 2) := by decide +kernel
theorem dX10_hasTests_69 : decode cX10_hasTests 69 = .ok (.goto (-57), 3) := by decide +kernel
theorem dX10_hasTests_72 : decode cX10_hasTests 72 = .ok (.iload_n 3, 1) := by decide +kernel
theorem dX10_hasTests_73 : decode cX10_hasTests 73 = .ok (.ifCond .eq 16, 3) := by decide +kernel
theorem dX10_hasTests_76 : decode cX10_hasTests 76 = .ok (.iload 4, 2) := by decide +kernel
theorem dX10_hasTests_78 : decode cX10_hasTests 78 = .ok (.ifCond .ne 7, 3) := by decide +kernel
theorem dX10_hasTests_81 : decode cX10_hasTests 81 = .ok (.iload_n 2, 1) := by decide +kernel
theorem dX10_hasTests_82 : decode cX10_hasTests 82 = .ok (.ifCond .ne 7, 3) := by decide +kernel
theorem dX10_hasTests_85 : decode cX10_hasTests 85 = .ok (.iconst 1, 1) := by decide +kernel
theorem dX10_hasTests_86 : decode cX10_hasTests 86 = .ok (.goto 4, 3) := by decide +kernel
theorem dX10_hasTests_89 : decode cX10_hasTests 89 = .ok (.iconst 0, 1) := by decide +kernel
theorem dX10_hasTests_90 : decode cX10_hasTests 90 = .ok (.ireturn, 1) := by decide +kernel
set_option maxRecDepth 20000 in
theorem ggX10_isPassed_X10_hasTests : GoodIn wsX10_isPassed wsX10_hasTests := goodIn_r _ [7, 8, 9, 10, 11, 12, 6, 13, 14, 15, 16, 17, 18, 19, 20, 21, 22, 23, 24, 25, 26, 27, 28, 29, 30, 31, 32, 33, 34, 35, 36, 37, 38, 39, 44, 45, 46, 47, 48, 49, 50, 51, 52, 53, 54, 55, 56, 57, 58, 59, 60, 61, 62, 63, 64, 65, 66, 67, 68, 69, 70, 71, 72] (by decide +kernel) (by decide +kernel)
set_option maxRecDepth 20000 in
theorem gX10_isPassed_X10_hasTests : GoodIn wsX10_isPassed (wsV RX10 207 RX10 yX10_hasTests wsX10_hasTests) := goodIn_app (goodIn_of _ (by decide +kernel)) ggX10_isPassed_X10_hasTests
set_option maxRecDepth 20000 in
theorem ggX10_isPassed_X10_classOf : GoodIn wsX10_isPassed wsX10_classOf := goodIn_r _ [43, 14, 27, 28, 29, 6, 30, 20, 21, 22, 31, 32, 33, 44, 45, 46, 47, 48, 49, 50, 51, 52, 53, 54, 55, 56, 57, 58, 59, 60, 61, 62, 63, 64, 65, 66, 67, 68, 69, 70, 71, 72] (by decide +kernel) (by decide +kernel)
set_option maxRecDepth 20000 in
theorem gX10_isPassed_X10_classOf : GoodIn wsX10_isPassed (wsV RX10 198 RX10 yX10_classOf wsX10_classOf) := goodIn_app (goodIn_of _ (by decide +kernel)) ggX10_isPassed_X10_classOf
theorem dX10_isPassed_0 : decode cX10_isPassed 0 = .ok (.aload_n 0, 1) := by decide +kernel
theorem dX10_isPassed_1 : decode cX10_isPassed 1 = .ok (.iload_n 1, 1) := by decide +kernel
theorem dX10_isPassed_2 : decode cX10_isPassed 2 = .ok (.iconst 0, 1) := by decide +kernel
theorem dX10_isPassed_3 : decode cX10_isPassed 3 = .ok (.invokevirtual 207, 3) := by decide +kernel
theorem dX10_isPassed_6 : decode cX10_isPassed 6 = .ok (.ifCond .eq 5, 3) := by decide +kernel
theorem dX10_isPassed_9 : decode cX10_isPassed 9 = .ok (.iconst 0, 1) := by decide +kernel
theorem dX10_isPassed_10 : decode cX10_isPassed 10 = .ok (.ireturn, 1) := by decide +kernel
theorem dX10_isPassed_11 : decode cX10_isPassed 11 = .ok (.iconst 0, 1) := by decide +kernel
theorem dX10_isPassed_12 : decode cX10_isPassed 12 = .ok (.istore_n 2, 1) := by decide +kernel
theorem dX10_isPassed_13 : decode cX10_isPassed 13 = .ok (.iconst 0, 1) := by decide +kernel
theorem dX10_isPassed_14 : decode cX10_isPassed 14 = .ok (.istore_n 3, 1) := by decide +kernel
theorem dX10_isPassed_15 : decode cX10_isPassed 15 = .ok (.iload_n 3, 1) := by decide +kernel
theorem dX10_isPassed_16 : decode cX10_isPassed 16 = .ok (.aload_n 0, 1) := by decide +kernel
theorem dX10_isPassed_17 : decode cX10_isPassed 17 = .ok (.getfield 162, 3) := by decide +kernel
theorem dX10_isPassed_20 : decode cX10_isPassed 20 = .ok (.if_icmp .ge 56, 3) := by decide +kernel
theorem dX10_isPassed_23 : decode cX10_isPassed 23 = .ok (.iload_n 2, 1) := by decide +kernel
theorem dX10_isPassed_24 : decode cX10_isPassed 24 = .ok (.ifCond .ne 40, 3) := by decide +kernel
theorem dX10_isPassed_27 : decode cX10_isPassed 27 = .ok (.aload_n 0, 1) := by decide +kernel
theorem dX10_isPassed_28 : decode cX10_isPassed 28 = .ok (.getfield 32, 3) := by decide +kernel
theorem dX10_isPassed_31 : decode cX10_isPassed 31 = .ok (.iload_n 3, 1) := by decide +kernel
theorem dX10_isPassed_32 : decode cX10_isPassed 32 = .ok (.iaload, 1) := by decide +kernel
theorem dX10_isPassed_33 : decode cX10_isPassed 33 = .ok (.aload_n 0, 1) := by decide +kernel
theorem dX10_isPassed_34 : decode cX10_isPassed 34 = .ok (.getfield 32, 3) := by decide +kernel
theorem dX10_isPassed_37 : decode cX10_isPassed 37 = .ok (.iload_n 1, 1) := by decide +kernel
theorem dX10_isPassed_38 : decode cX10_isPassed 38 = .ok (.iaload, 1) := by decide +kernel
theorem dX10_isPassed_39 : decode cX10_isPassed 39 = .ok (.if_icmp .ne 29, 3) := by decide +kernel
theorem dX10_isPassed_42 : decode cX10_isPassed 42 = .ok (.aload_n 0, 1) := by decide +kernel
theorem dX10_isPassed_43 : decode cX10_isPassed 43 = .ok (.iload_n 3, 1) := by decide +kernel
theorem dX10_isPassed_44 : decode cX10_isPassed 44 = .ok (.invokevirtual 198, 3) := by decide +kernel
theorem dX10_isPassed_47 : decode cX10_isPassed 47 = .ok (.aload_n 0, 1) := by decide +kernel
theorem dX10_isPassed_48 : decode cX10_isPassed 48 = .ok (.iload_n 1, 1) := by decide +kernel
theorem dX10_isPassed_49 : decode cX10_isPassed 49 = .ok (.invokevirtual 198, 3) := by decide +kernel
theorem dX10_isPassed_52 : decode cX10_isPassed 52 = .ok (.if_icmp .ne 16, 3) := by decide +kernel
theorem dX10_isPassed_55 : decode cX10_isPassed 55 = .ok (.aload_n 0, 1) := by decide +kernel
theorem dX10_isPassed_56 : decode cX10_isPassed 56 = .ok (.iload_n 3, 1) := by decide +kernel
theorem dX10_isPassed_57 : decode cX10_isPassed 57 = .ok (.iconst 1, 1) := by decide +kernel
theorem dX10_isPassed_58 : decode cX10_isPassed 58 = .ok (.invokevirtual 207, 3) := by decide +kernel
theorem dX10_isPassed_61 : decode cX10_isPassed 61 = .ok (.ifCond .eq 7, 3) := by decide +kernel
theorem dX10_isPassed_64 : decode cX10_isPassed 64 = .ok (.iconst 1, 1) := by decide +kernel
theorem dX10_isPassed_65 : decode cX10_isPassed 65 = .ok (.goto 4, 3) := by decide +kernel
theorem dX10_isPassed_68 : decode cX10_isPassed 68 = .ok (.iconst 0, 1) := by decide +kernel
theorem dX10_isPassed_69 : decode cX10_isPassed 69 = .ok (.istore_n 2, 1) := by decide +kernel
theorem dX10_isPassed_70 : decode cX10_isPassed 70 = .ok (.iinc 3 1, 3) := by decide +kernel
theorem dX10_isPassed_73 : decode cX10_isPassed 73 = .ok (.goto (-58), 3) := by decide +kernel
theorem dX10_isPassed_76 : decode cX10_isPassed 76 = .ok (.iload_n 2, 1) := by decide +kernel
theorem dX10_isPassed_77 : decode cX10_isPassed 77 = .ok (.ireturn, 1) := by decide +kernel
set_option maxRecDepth 20000 in
theorem ggX10_judge_X10_isPassed : GoodIn wsX10_judge wsX10_isPassed := goodIn_r _ [12, 13, 14, 15, 16, 17, 11, 18, 3, 19, 20, 21, 22, 23, 24, 25, 26, 27, 28, 29, 30, 31, 32, 33, 34, 35, 36, 37, 38, 39, 40, 41, 42, 43, 44, 45, 46, 47, 48, 49, 50, 51, 52, 53, 86, 87, 88, 89, 90, 91, 92, 93, 94, 95, 96, 97, 98, 99, 100, 101, 102, 103, 104, 105, 106, 107, 108, 109, 110, 111, 112, 113, 114] (by decide +kernel) (by decide +kernel)
set_option maxRecDepth 20000 in
theorem gX10_judge_X10_isPassed : GoodIn wsX10_judge (wsV RX10 211 RX10 yX10_isPassed wsX10_isPassed) := goodIn_app (goodIn_of _ (by decide +kernel)) ggX10_judge_X10_isPassed
set_option maxRecDepth 20000 in
theorem ggX10_judge_X10_firstItem : GoodIn wsX10_judge wsX10_firstItem := goodIn_r _ [23, 24, 86, 87, 88, 89, 90, 91, 92, 93, 94, 95, 96, 97, 98, 99, 100, 101, 102, 103, 104, 105, 106, 107, 108, 109, 110, 111, 112, 113, 114] (by decide +kernel) (by decide +kernel)
set_option maxRecDepth 20000 in
theorem gX10_judge_X10_firstItem : GoodIn wsX10_judge (wsV RX10 201 RX10 yX10_firstItem wsX10_firstItem) := goodIn_app (goodIn_of _ (by decide +kernel)) ggX10_judge_X10_firstItem
set_option maxRecDepth 20000 in
theorem ggX10_judge_X10_has : GoodIn wsX10_judge wsX10_has := goodIn_r _ [28, 29, 30, 31, 32, 33, 34, 11, 35, 36, 86, 87, 88, 89, 90, 91, 92, 93, 94, 95, 96, 97, 98, 99, 100, 101, 102, 103, 104, 105, 106, 107, 108, 109, 110, 111, 112, 113, 114] (by decide +kernel) (by decide +kernel)
set_option maxRecDepth 20000 in
theorem gX10_judge_X10_has : GoodIn wsX10_judge (wsV RX10 168 RX10 yX10_has wsX10_has) := goodIn_app (goodIn_of _ (by decide +kernel)) ggX10_judge_X10_has
set_option maxRecDepth 20000 in
theorem ggX10_judge_X10_stateOfTest : GoodIn wsX10_judge wsX10_stateOfTest := goodIn_r _ [57, 19, 5, 58, 37, 38, 39, 11, 40, 30, 31, 32, 41, 42, 43, 25, 26, 27, 28, 29, 33, 34, 35, 36, 86, 87, 88, 89, 90, 91, 92, 93, 94, 95, 96, 97, 98, 99, 100, 101, 102, 103, 104, 105, 106, 107, 108, 109, 110, 111, 112, 113, 114] (by decide +kernel) (by decide +kernel)
set_option maxRecDepth 20000 in
theorem gX10_judge_X10_stateOfTest : GoodIn wsX10_judge (wsV RX10 214 RX10 yX10_stateOfTest wsX10_stateOfTest) := goodIn_app (goodIn_of _ (by decide +kernel)) ggX10_judge_X10_stateOfTest
set_option maxRecDepth 20000 in
theorem ggX10_judge_X10_stateOfHolds : GoodIn wsX10_judge wsX10_stateOfHolds := goodIn_r _ [62, 14, 1, 5, 37, 38, 39, 11, 40, 30, 31, 32, 41, 42, 43, 50, 51, 52, 53, 24, 86, 87, 88, 89, 90, 91, 92, 93, 94, 95, 96, 97, 98, 99, 100, 101, 102, 103, 104, 105, 106, 107, 108, 109, 110, 111, 112, 113, 114] (by decide +kernel) (by decide +kernel)
set_option maxRecDepth 20000 in
theorem gX10_judge_X10_stateOfHolds : GoodIn wsX10_judge (wsV RX10 217 RX10 yX10_stateOfHolds wsX10_stateOfHolds) := goodIn_app (goodIn_of _ (by decide +kernel)) ggX10_judge_X10_stateOfHolds
set_option maxRecDepth 20000 in
theorem ggX10_judge_X10_stateOfSum : GoodIn wsX10_judge wsX10_stateOfSum := goodIn_r _ [66, 5, 67, 68, 69, 70, 71, 72, 73, 11, 74, 75, 76, 77, 78, 79, 80, 81, 25, 26, 27, 28, 29, 30, 31, 32, 33, 34, 35, 36, 37, 38, 39, 40, 41, 42, 43, 86, 87, 88, 89, 90, 91, 92, 93, 94, 95, 96, 97, 98, 99, 100, 101, 102, 103, 104, 105, 106, 107, 108, 109, 110, 111, 112, 113, 114] (by decide +kernel) (by decide +kernel)
set_option maxRecDepth 20000 in
theorem gX10_judge_X10_stateOfSum : GoodIn wsX10_judge (wsV RX10 221 RX10 yX10_stateOfSum wsX10_stateOfSum) := goodIn_app (goodIn_of _ (by decide +kernel)) ggX10_judge_X10_stateOfSum
set_option maxRecDepth 20000 in
theorem ggX10_judge_X10_nextItem : GoodIn wsX10_judge wsX10_nextItem := goodIn_r _ [47, 48, 49, 25, 26, 27, 11, 28, 29, 30, 31, 32, 33, 34, 35, 36, 86, 87, 88, 89, 90, 91, 92, 93, 94, 95, 96, 97, 98, 99, 100, 101, 102, 103, 104, 105, 106, 107, 108, 109, 110, 111, 112, 113, 114] (by decide +kernel) (by decide +kernel)
set_option maxRecDepth 20000 in
theorem gX10_judge_X10_nextItem : GoodIn wsX10_judge (wsV RX10 204 RX10 yX10_nextItem wsX10_nextItem) := goodIn_app (goodIn_of _ (by decide +kernel)) ggX10_judge_X10_nextItem
set_option maxRecDepth 20000 in
theorem ggX10_judge_X10_classOf : GoodIn wsX10_judge wsX10_classOf := goodIn_r _ [53, 24, 37, 38, 39, 11, 40, 30, 31, 32, 41, 42, 43, 86, 87, 88, 89, 90, 91, 92, 93, 94, 95, 96, 97, 98, 99, 100, 101, 102, 103, 104, 105, 106, 107, 108, 109, 110, 111, 112, 113, 114] (by decide +kernel) (by decide +kernel)
set_option maxRecDepth 20000 in
theorem gX10_judge_X10_classOf : GoodIn wsX10_judge (wsV RX10 198 RX10 yX10_classOf wsX10_classOf) := goodIn_app (goodIn_of _ (by decide +kernel)) ggX10_judge_X10_classOf
set_option maxRecDepth 20000 in
theorem ggX10_judge_X10_holds : GoodIn wsX10_judge wsX10_holds := goodIn_r _ [85, 7, 6, 86, 87, 88, 89, 90, 91, 92, 93, 94, 95, 96, 97, 98, 99, 100, 101, 102, 103, 104, 105, 106, 107, 108, 109, 110, 111, 112, 113, 114] (by decide +kernel) (by decide +kernel)
set_option maxRecDepth 20000 in
theorem gX10_judge_X10_holds : GoodIn wsX10_judge (wsV RX10 224 RX10 yX10_holds wsX10_holds) := goodIn_app (goodIn_of _ (by decide +kernel)) ggX10_judge_X10_holds
theorem dX10_judge_0 : decode cX10_judge 0 = .ok (.aload_n 0, 1) := by decide +kernel
theorem dX10_judge_1 : decode cX10_judge 1 = .ok (.iload_n 1, 1) := by decide +kernel
theorem dX10_judge_2 : decode cX10_judge 2 = .ok (.invokevirtual 211, 3) := by decide +kernel
theorem dX10_judge_5 : decode cX10_judge 5 = .ok (.ifCond .eq 11, 3) := by decide +kernel
theorem dX10_judge_8 : decode cX10_judge 8 = .ok (.aload_n 0, 1) := by decide +kernel
theorem dX10_judge_9 : decode cX10_judge 9 = .ok (.getfield 59, 3) := by decide +kernel
theorem dX10_judge_12 : decode cX10_judge 12 = .ok (.iload_n 1, 1) := by decide +kernel
theorem dX10_judge_13 : decode cX10_judge 13 = .ok (.iconst 3, 1) := by decide +kernel
theorem dX10_judge_14 : decode cX10_judge 14 = .ok (.iastore, 1) := by decide +kernel
theorem dX10_judge_15 : decode cX10_judge 15 = .ok (.return_, 1) := by decide +kernel
theorem dX10_judge_16 : decode cX10_judge 16 = .ok (.iconst 1, 1) := by decide +kernel
theorem dX10_judge_17 : decode cX10_judge 17 = .ok (.istore_n 2, 1) := by decide +kernel
theorem dX10_judge_18 : decode cX10_judge 18 = .ok (.aload_n 0, 1) := by decide +kernel
theorem dX10_judge_19 : decode cX10_judge 19 = .ok (.getfield 62, 3) := by decide +kernel
theorem dX10_judge_22 : decode cX10_judge 22 = .ok (.iload_n 1, 1) := by decide +kernel
theorem dX10_judge_23 : decode cX10_judge 23 = .ok (.iconst (-1), 1) := by decide +kernel
theorem dX10_judge_24 : decode cX10_judge 24 = .ok (.iastore, 1) := by decide +kernel
theorem dX10_judge_25 : decode cX10_judge 25 = .ok (.aload_n 0, 1) := by decide +kernel
theorem dX10_judge_26 : decode cX10_judge 26 = .ok (.iload_n 1, 1) := by decide +kernel
theorem dX10_judge_27 : decode cX10_judge 27 = .ok (.invokevirtual 201, 3) := by decide +kernel
theorem dX10_judge_30 : decode cX10_judge 30 = .ok (.istore_n 3, 1) := by decide +kernel
theorem dX10_judge_31 : decode cX10_judge 31 = .ok (.iload_n 3, 1) := by decide +kernel
theorem dX10_judge_32 : decode cX10_judge 32 = .ok (.iconst (-1), 1) := by decide +kernel
theorem dX10_judge_33 : decode cX10_judge 33 = .ok (.if_icmp .eq 109, 3) := by decide +kernel
theorem dX10_judge_36 : decode cX10_judge 36 = .ok (.aload_n 0, 1) := by decide +kernel
theorem dX10_judge_37 : decode cX10_judge 37 = .ok (.iload_n 3, 1) := by decide +kernel
theorem dX10_judge_38 : decode cX10_judge 38 = .ok (.ldc2_w 124, 3) := by decide +kernel
theorem dX10_judge_41 : decode cX10_judge 41 = .ok (.invokevirtual 168, 3) := by decide +kernel
theorem dX10_judge_44 : decode cX10_judge 44 = .ok (.ifCond .eq 11, 3) := by decide +kernel
theorem dX10_judge_47 : decode cX10_judge 47 = .ok (.aload_n 0, 1) := by decide +kernel
theorem dX10_judge_48 : decode cX10_judge 48 = .ok (.iload_n 3, 1) := by decide +kernel
theorem dX10_judge_49 : decode cX10_judge 49 = .ok (.invokevirtual 214, 3) := by decide +kernel
theorem dX10_judge_52 : decode cX10_judge 52 = .ok (.goto 28, 3) := by decide +kernel
theorem dX10_judge_55 : decode cX10_judge 55 = .ok (.aload_n 0, 1) := by decide +kernel
theorem dX10_judge_56 : decode cX10_judge 56 = .ok (.iload_n 3, 1) := by decide +kernel
theorem dX10_judge_57 : decode cX10_judge 57 = .ok (.ldc2_w 130, 3) := by decide +kernel
theorem dX10_judge_60 : decode cX10_judge 60 = .ok (.invokevirtual 168, 3) := by decide +kernel
theorem dX10_judge_63 : decode cX10_judge 63 = .ok (.ifCond .eq 12, 3) := by decide +kernel
theorem dX10_judge_66 : decode cX10_judge 66 = .ok (.aload_n 0, 1) := by decide +kernel
theorem dX10_judge_67 : decode cX10_judge 67 = .ok (.iload_n 3, 1) := by decide +kernel
theorem dX10_judge_68 : decode cX10_judge 68 = .ok (.iload_n 1, 1) := by decide +kernel
theorem dX10_judge_69 : decode cX10_judge 69 = .ok (.invokevirtual 217, 3) := by decide +kernel
theorem dX10_judge_72 : decode cX10_judge 72 = .ok (.goto 8, 3) := by decide +kernel
theorem dX10_judge_75 : decode cX10_judge 75 = .ok (.aload_n 0, 1) := by decide +kernel
theorem dX10_judge_76 : decode cX10_judge 76 = .ok (.iload_n 3, 1) := by decide +kernel
theorem dX10_judge_77 : decode cX10_judge 77 = .ok (.invokevirtual 221, 3) := by decide +kernel
theorem dX10_judge_80 : decode cX10_judge 80 = .ok (.istore 4, 2) := by decide +kernel
theorem dX10_judge_82 : decode cX10_judge 82 = .ok (.iload 4, 2) := by decide +kernel
theorem dX10_judge_84 : decode cX10_judge 84 = .ok (.iconst 2, 1) := by decide +kernel
theorem dX10_judge_85 : decode cX10_judge 85 = .ok (.if_icmp .ne 23, 3) := by decide +kernel
theorem dX10_judge_88 : decode cX10_judge 88 = .ok (.aload_n 0, 1) := by decide +kernel
theorem dX10_judge_89 : decode cX10_judge 89 = .ok (.getfield 62, 3) := by decide +kernel
theorem dX10_judge_92 : decode cX10_judge 92 = .ok (.iload_n 1, 1) := by decide +kernel
theorem dX10_judge_93 : decode cX10_judge 93 = .ok (.iaload, 1) := by decide +kernel
theorem dX10_judge_94 : decode cX10_judge 94 = .ok (.iconst (-1), 1) := by decide +kernel
theorem dX10_judge_95 : decode cX10_judge 95 = .ok (.if_icmp .ne 13, 3) := by decide +kernel
theorem dX10_judge_98 : decode cX10_judge 98 = .ok (.aload_n 0, 1) := by decide +kernel
theorem dX10_judge_99 : decode cX10_judge 99 = .ok (.getfield 62, 3) := by decide +kernel
theorem dX10_judge_102 : decode cX10_judge 102 = .ok (.iload_n 1, 1) := by decide +kernel
theorem dX10_judge_103 : decode cX10_judge 103 = .ok (.aload_n 0, 1) := by decide +kernel
theorem dX10_judge_104 : decode cX10_judge 104 = .ok (.getfield 188, 3) := by decide +kernel
theorem dX10_judge_107 : decode cX10_judge 107 = .ok (.iastore, 1) := by decide +kernel
theorem dX10_judge_108 : decode cX10_judge 108 = .ok (.iload 4, 2) := by decide +kernel
theorem dX10_judge_110 : decode cX10_judge 110 = .ok (.ifCond .eq 7, 3) := by decide +kernel
theorem dX10_judge_113 : decode cX10_judge 113 = .ok (.iload_n 2, 1) := by decide +kernel
theorem dX10_judge_114 : decode cX10_judge 114 = .ok (.ifCond .ne 7, 3) := by decide +kernel
theorem dX10_judge_117 : decode cX10_judge 117 = .ok (.iconst 0, 1) := by decide +kernel
theorem dX10_judge_118 : decode cX10_judge 118 = .ok (.goto 14, 3) := by decide +kernel
theorem dX10_judge_121 : decode cX10_judge 121 = .ok (.iload 4, 2) := by decide +kernel
theorem dX10_judge_123 : decode cX10_judge 123 = .ok (.iconst 2, 1) := by decide +kernel
theorem dX10_judge_124 : decode cX10_judge 124 = .ok (.if_icmp .ne 7, 3) := by decide +kernel
theorem dX10_judge_127 : decode cX10_judge 127 = .ok (.iconst 2, 1) := by decide +kernel
theorem dX10_judge_128 : decode cX10_judge 128 = .ok (.goto 4, 3) := by decide +kernel
theorem dX10_judge_131 : decode cX10_judge 131 = .ok (.iload_n 2, 1) := by decide +kernel
theorem dX10_judge_132 : decode cX10_judge 132 = .ok (.istore_n 2, 1) := by decide +kernel
theorem dX10_judge_133 : decode cX10_judge 133 = .ok (.aload_n 0, 1) := by decide +kernel
theorem dX10_judge_134 : decode cX10_judge 134 = .ok (.iload_n 3, 1) := by decide +kernel
theorem dX10_judge_135 : decode cX10_judge 135 = .ok (.invokevirtual 204, 3) := by decide +kernel
theorem dX10_judge_138 : decode cX10_judge 138 = .ok (.istore_n 3, 1) := by decide +kernel
theorem dX10_judge_139 : decode cX10_judge 139 = .ok (.goto (-108), 3) := by decide +kernel
theorem dX10_judge_142 : decode cX10_judge 142 = .ok (.aload_n 0, 1) := by decide +kernel
theorem dX10_judge_143 : decode cX10_judge 143 = .ok (.getfield 59, 3) := by decide +kernel
theorem dX10_judge_146 : decode cX10_judge 146 = .ok (.iload_n 1, 1) := by decide +kernel
theorem dX10_judge_147 : decode cX10_judge 147 = .ok (.iload_n 2, 1) := by decide +kernel
theorem dX10_judge_148 : decode cX10_judge 148 = .ok (.iastore, 1) := by decide +kernel
theorem dX10_judge_149 : decode cX10_judge 149 = .ok (.iload_n 2, 1) := by decide +kernel
theorem dX10_judge_150 : decode cX10_judge 150 = .ok (.iconst 1, 1) := by decide +kernel
theorem dX10_judge_151 : decode cX10_judge 151 = .ok (.if_icmp .ne 39, 3) := by decide +kernel
theorem dX10_judge_154 : decode cX10_judge 154 = .ok (.aload_n 0, 1) := by decide +kernel
theorem dX10_judge_155 : decode cX10_judge 155 = .ok (.aload_n 0, 1) := by decide +kernel
theorem dX10_judge_156 : decode cX10_judge 156 = .ok (.iload_n 1, 1) := by decide +kernel
theorem dX10_judge_157 : decode cX10_judge 157 = .ok (.invokevirtual 198, 3) := by decide +kernel
theorem dX10_judge_160 : decode cX10_judge 160 = .ok (.invokevirtual 224, 3) := by decide +kernel
theorem dX10_judge_163 : decode cX10_judge 163 = .ok (.ifCond .ne 27, 3) := by decide +kernel
theorem dX10_judge_166 : decode cX10_judge 166 = .ok (.aload_n 0, 1) := by decide +kernel
theorem dX10_judge_167 : decode cX10_judge 167 = .ok (.getfield 65, 3) := by decide +kernel
theorem dX10_judge_170 : decode cX10_judge 170 = .ok (.aload_n 0, 1) := by decide +kernel
theorem dX10_judge_171 : decode cX10_judge 171 = .ok (.getfield 179, 3) := by decide +kernel
theorem dX10_judge_174 : decode cX10_judge 174 = .ok (.aload_n 0, 1) := by decide +kernel
theorem dX10_judge_175 : decode cX10_judge 175 = .ok (.iload_n 1, 1) := by decide +kernel
theorem dX10_judge_176 : decode cX10_judge 176 = .ok (.invokevirtual 198, 3) := by decide +kernel
theorem dX10_judge_179 : decode cX10_judge 179 = .ok (.iastore, 1) := by decide +kernel
theorem dX10_judge_180 : decode cX10_judge 180 = .ok (.aload_n 0, 1) := by decide +kernel
theorem dX10_judge_181 : decode cX10_judge 181 = .ok (.dup, 1) := by decide +kernel
theorem dX10_judge_182 : decode cX10_judge 182 = .ok (.getfield 179, 3) := by decide +kernel
theorem dX10_judge_185 : decode cX10_judge 185 = .ok (.iconst 1, 1) := by decide +kernel
theorem dX10_judge_186 : decode cX10_judge 186 = .ok (.iadd, 1) := by decide +kernel
theorem dX10_judge_187 : decode cX10_judge 187 = .ok (.putfield 179, 3) := by decide +kernel
theorem dX10_judge_190 : decode cX10_judge 190 = .ok (.return_, 1) := by decide +kernel
theorem dX10_holds_0 : decode cX10_holds 0 = .ok (.iconst 0, 1) := by decide +kernel
theorem dX10_holds_1 : decode cX10_holds 1 = .ok (.istore_n 2, 1) := by decide +kernel
theorem dX10_holds_2 : decode cX10_holds 2 = .ok (.iconst 0, 1) := by decide +kernel
theorem dX10_holds_3 : decode cX10_holds 3 = .ok (.istore_n 3, 1) := by decide +kernel
theorem dX10_holds_4 : decode cX10_holds 4 = .ok (.iload_n 3, 1) := by decide +kernel
theorem dX10_holds_5 : decode cX10_holds 5 = .ok (.aload_n 0, 1) := by decide +kernel
theorem dX10_holds_6 : decode cX10_holds 6 = .ok (.getfield 179, 3) := by decide +kernel
theorem dX10_holds_9 : decode cX10_holds 9 = .ok (.if_icmp .ge 29, 3) := by decide +kernel
theorem dX10_holds_12 : decode cX10_holds 12 = .ok (.iload_n 2, 1) := by decide +kernel
theorem dX10_holds_13 : decode cX10_holds 13 = .ok (.ifCond .ne 13, 3) := by decide +kernel
theorem dX10_holds_16 : decode cX10_holds 16 = .ok (.aload_n 0, 1) := by decide +kernel
theorem dX10_holds_17 : decode cX10_holds 17 = .ok (.getfield 65, 3) := by decide +kernel
theorem dX10_holds_20 : decode cX10_holds 20 = .ok (.iload_n 3, 1) := by decide +kernel
theorem dX10_holds_21 : decode cX10_holds 21 = .ok (.iaload, 1) := by decide +kernel
theorem dX10_holds_22 : decode cX10_holds 22 = .ok (.iload_n 1, 1) := by decide +kernel
theorem dX10_holds_23 : decode cX10_holds 23 = .ok (.if_icmp .ne 7, 3) := by decide +kernel
theorem dX10_holds_26 : decode cX10_holds 26 = .ok (.iconst 1, 1) := by decide +kernel
theorem dX10_holds_27 : decode cX10_holds 27 = .ok (.goto 4, 3) := by decide +kernel
theorem dX10_holds_30 : decode cX10_holds 30 = .ok (.iconst 0, 1) := by decide +kernel
theorem dX10_holds_31 : decode cX10_holds 31 = .ok (.istore_n 2, 1) := by decide +kernel
theorem dX10_holds_32 : decode cX10_holds 32 = .ok (.iinc 3 1, 3) := by decide +kernel
theorem dX10_holds_35 : decode cX10_holds 35 = .ok (.goto (-31), 3) := by decide +kernel
theorem dX10_holds_38 : decode cX10_holds 38 = .ok (.iload_n 2, 1) := by decide +kernel
theorem dX10_holds_39 : decode cX10_holds 39 = .ok (.ireturn, 1) := by decide +kernel
theorem dX10_edition_0 : decode cX10_edition 0 = .ok (.aload_n 0, 1) := by decide +kernel
theorem dX10_edition_1 : decode cX10_edition 1 = .ok (.iconst 0, 1) := by decide +kernel
theorem dX10_edition_2 : decode cX10_edition 2 = .ok (.putfield 68, 3) := by decide +kernel
theorem dX10_edition_5 : decode cX10_edition 5 = .ok (.iconst (-1), 1) := by decide +kernel
theorem dX10_edition_6 : decode cX10_edition 6 = .ok (.istore_n 3, 1) := by decide +kernel
theorem dX10_edition_7 : decode cX10_edition 7 = .ok (.iconst 0, 1) := by decide +kernel
theorem dX10_edition_8 : decode cX10_edition 8 = .ok (.istore 4, 2) := by decide +kernel
theorem dX10_edition_10 : decode cX10_edition 10 = .ok (.iload 4, 2) := by decide +kernel
theorem dX10_edition_12 : decode cX10_edition 12 = .ok (.aload_n 0, 1) := by decide +kernel
theorem dX10_edition_13 : decode cX10_edition 13 = .ok (.getfield 165, 3) := by decide +kernel
theorem dX10_edition_16 : decode cX10_edition 16 = .ok (.if_icmp .ge 29, 3) := by decide +kernel
theorem dX10_edition_19 : decode cX10_edition 19 = .ok (.aload_n 0, 1) := by decide +kernel
theorem dX10_edition_20 : decode cX10_edition 20 = .ok (.getfield 35, 3) := by decide +kernel
theorem dX10_edition_23 : decode cX10_edition 23 = .ok (.iload 4, 2) := by decide +kernel
theorem dX10_edition_25 : decode cX10_edition 25 = .ok (.iaload, 1) := by decide +kernel
theorem dX10_edition_26 : decode cX10_edition 26 = .ok (.i2l, 1) := by decide +kernel
theorem dX10_edition_27 : decode cX10_edition 27 = .ok (.lload_n 1, 1) := by decide +kernel
theorem dX10_edition_28 : decode cX10_edition 28 = .ok (.lcmp, 1) := by decide +kernel
theorem dX10_edition_29 : decode cX10_edition 29 = .ok (.ifCond .gt 8, 3) := by decide +kernel
theorem dX10_edition_32 : decode cX10_edition 32 = .ok (.iload 4, 2) := by decide +kernel
theorem dX10_edition_34 : decode cX10_edition 34 = .ok (.goto 4, 3) := by decide +kernel
theorem dX10_edition_37 : decode cX10_edition 37 = .ok (.iload_n 3, 1) := by decide +kernel
theorem dX10_edition_38 : decode cX10_edition 38 = .ok (.istore_n 3, 1) := by decide +kernel
theorem dX10_edition_39 : decode cX10_edition 39 = .ok (.iinc 4 1, 3) := by decide +kernel
theorem dX10_edition_42 : decode cX10_edition 42 = .ok (.goto (-32), 3) := by decide +kernel
theorem dX10_edition_45 : decode cX10_edition 45 = .ok (.iload_n 3, 1) := by decide +kernel
theorem dX10_edition_46 : decode cX10_edition 46 = .ok (.ireturn, 1) := by decide +kernel
set_option maxRecDepth 20000 in
theorem ggX10_run_X10_forget : GoodIn wsX10_run wsX10_forget := goodIn_r _ [9, 1, 4, 10, 114, 115, 116, 117, 118, 119, 120, 121, 122, 123, 124, 125, 126, 127, 128, 129, 130, 131, 132, 133, 134, 135, 136, 137, 138, 139, 140, 141, 142] (by decide +kernel) (by decide +kernel)
set_option maxRecDepth 20000 in
theorem gX10_run_X10_forget : GoodIn wsX10_run (wsV RX10 176 RX10 yX10_forget wsX10_forget) := goodIn_app (goodIn_of _ (by decide +kernel)) ggX10_run_X10_forget
set_option maxRecDepth 20000 in
theorem ggX10_run_X10_edition : GoodIn wsX10_run wsX10_edition := goodIn_r _ [14, 15, 16, 17, 114, 115, 116, 117, 118, 119, 120, 121, 122, 123, 124, 125, 126, 127, 128, 129, 130, 131, 132, 133, 134, 135, 136, 137, 138, 139, 140, 141, 142] (by decide +kernel) (by decide +kernel)
set_option maxRecDepth 20000 in
theorem gX10_run_X10_edition : GoodIn wsX10_run (wsV RX10 227 RX10 yX10_edition wsX10_edition) := goodIn_app (goodIn_of _ (by decide +kernel)) ggX10_run_X10_edition
set_option maxRecDepth 20000 in
theorem ggX10_run_X10_judge : GoodIn wsX10_run wsX10_judge := goodIn_r _ [21, 10, 22, 23, 24, 25, 26, 4, 27, 28, 29, 8, 30, 2, 3, 31, 32, 33, 34, 35, 36, 37, 38, 39, 40, 41, 42, 43, 44, 45, 46, 47, 48, 49, 50, 51, 52, 53, 54, 55, 56, 57, 58, 59, 60, 61, 62, 63, 64, 65, 66, 67, 68, 69, 70, 71, 72, 73, 74, 75, 76, 77, 78, 79, 80, 81, 82, 83, 84, 85, 86, 87, 88, 89, 90, 91, 92, 93, 94, 95, 96, 97, 98, 99, 100, 101, 114, 115, 116, 117, 118, 119, 120, 121, 122, 123, 124, 125, 126, 127, 128, 129, 130, 131, 132, 133, 134, 135, 136, 137, 138, 139, 140, 141, 142] (by decide +kernel) (by decide +kernel)
set_option maxRecDepth 20000 in
theorem gX10_run_X10_judge : GoodIn wsX10_run (wsV RX10 231 RX10 yX10_judge wsX10_judge) := goodIn_app (goodIn_of _ (by decide +kernel)) ggX10_run_X10_judge
set_option maxRecDepth 20000 in
theorem ggX10_run_X10_open : GoodIn wsX10_run wsX10_open := goodIn_r _ [105, 15, 22, 106, 107, 108, 8, 109, 2, 110, 111, 112, 113, 10, 66, 67, 68, 69, 40, 53, 54, 55, 56, 46, 47, 48, 57, 58, 59, 98, 99, 100, 101, 4, 26, 114, 115, 116, 117, 118, 119, 120, 121, 122, 123, 124, 125, 126, 127, 128, 129, 130, 131, 132, 133, 134, 135, 136, 137, 138, 139, 140, 141, 142] (by decide +kernel) (by decide +kernel)
set_option maxRecDepth 20000 in
theorem gX10_run_X10_open : GoodIn wsX10_run (wsV RX10 235 RX10 yX10_open wsX10_open) := goodIn_app (goodIn_of _ (by decide +kernel)) ggX10_run_X10_open
theorem dX10_run_0 : decode cX10_run 0 = .ok (.aload_n 0, 1) := by decide +kernel
theorem dX10_run_1 : decode cX10_run 1 = .ok (.invokevirtual 176, 3) := by decide +kernel
theorem dX10_run_4 : decode cX10_run 4 = .ok (.aload_n 0, 1) := by decide +kernel
theorem dX10_run_5 : decode cX10_run 5 = .ok (.aload_n 0, 1) := by decide +kernel
theorem dX10_run_6 : decode cX10_run 6 = .ok (.lload_n 1, 1) := by decide +kernel
theorem dX10_run_7 : decode cX10_run 7 = .ok (.invokevirtual 227, 3) := by decide +kernel
theorem dX10_run_10 : decode cX10_run 10 = .ok (.putfield 55, 3) := by decide +kernel
theorem dX10_run_13 : decode cX10_run 13 = .ok (.iconst 0, 1) := by decide +kernel
theorem dX10_run_14 : decode cX10_run 14 = .ok (.istore_n 3, 1) := by decide +kernel
theorem dX10_run_15 : decode cX10_run 15 = .ok (.iload_n 3, 1) := by decide +kernel
theorem dX10_run_16 : decode cX10_run 16 = .ok (.aload_n 0, 1) := by decide +kernel
theorem dX10_run_17 : decode cX10_run 17 = .ok (.getfield 162, 3) := by decide +kernel
theorem dX10_run_20 : decode cX10_run 20 = .ok (.if_icmp .ge 27, 3) := by decide +kernel
theorem dX10_run_23 : decode cX10_run 23 = .ok (.aload_n 0, 1) := by decide +kernel
theorem dX10_run_24 : decode cX10_run 24 = .ok (.getfield 32, 3) := by decide +kernel
theorem dX10_run_27 : decode cX10_run 27 = .ok (.iload_n 3, 1) := by decide +kernel
theorem dX10_run_28 : decode cX10_run 28 = .ok (.iaload, 1) := by decide +kernel
theorem dX10_run_29 : decode cX10_run 29 = .ok (.aload_n 0, 1) := by decide +kernel
theorem dX10_run_30 : decode cX10_run 30 = .ok (.getfield 55, 3) := by decide +kernel
theorem dX10_run_33 : decode cX10_run 33 = .ok (.if_icmp .ne 8, 3) := by decide +kernel
theorem dX10_run_36 : decode cX10_run 36 = .ok (.aload_n 0, 1) := by decide +kernel
theorem dX10_run_37 : decode cX10_run 37 = .ok (.iload_n 3, 1) := by decide +kernel
theorem dX10_run_38 : decode cX10_run 38 = .ok (.invokevirtual 231, 3) := by decide +kernel
theorem dX10_run_41 : decode cX10_run 41 = .ok (.iinc 3 1, 3) := by decide +kernel
theorem dX10_run_44 : decode cX10_run 44 = .ok (.goto (-29), 3) := by decide +kernel
theorem dX10_run_47 : decode cX10_run 47 = .ok (.aload_n 0, 1) := by decide +kernel
theorem dX10_run_48 : decode cX10_run 48 = .ok (.iconst 0, 1) := by decide +kernel
theorem dX10_run_49 : decode cX10_run 49 = .ok (.iconst 0, 1) := by decide +kernel
theorem dX10_run_50 : decode cX10_run 50 = .ok (.invokevirtual 235, 3) := by decide +kernel
theorem dX10_run_53 : decode cX10_run 53 = .ok (.istore_n 3, 1) := by decide +kernel
theorem dX10_run_54 : decode cX10_run 54 = .ok (.iload_n 3, 1) := by decide +kernel
theorem dX10_run_55 : decode cX10_run 55 = .ok (.iconst (-1), 1) := by decide +kernel
theorem dX10_run_56 : decode cX10_run 56 = .ok (.if_icmp .ne 10, 3) := by decide +kernel
theorem dX10_run_59 : decode cX10_run 59 = .ok (.aload_n 0, 1) := by decide +kernel
theorem dX10_run_60 : decode cX10_run 60 = .ok (.getfield 179, 3) := by decide +kernel
theorem dX10_run_63 : decode cX10_run 63 = .ok (.goto 6, 3) := by decide +kernel
theorem dX10_run_66 : decode cX10_run 66 = .ok (.iconst (-1), 1) := by decide +kernel
theorem dX10_run_67 : decode cX10_run 67 = .ok (.iload_n 3, 1) := by decide +kernel
theorem dX10_run_68 : decode cX10_run 68 = .ok (.isub, 1) := by decide +kernel
theorem dX10_run_69 : decode cX10_run 69 = .ok (.ireturn, 1) := by decide +kernel
set_option maxRecDepth 20000 in
theorem ggX10_walk_X10_run : GoodIn wsX10_walk wsX10_run := goodIn_r _ [5, 6, 7, 8, 9, 10, 11, 12, 4, 13, 14, 15, 16, 17, 18, 19, 20, 21, 22, 23, 24, 25, 26, 27, 28, 29, 30, 31, 32, 33, 34, 35, 36, 37, 38, 39, 40, 41, 42, 43, 44, 45, 46, 47, 48, 49, 50, 51, 52, 53, 54, 55, 56, 57, 58, 59, 60, 61, 62, 63, 64, 65, 66, 67, 68, 69, 70, 71, 72, 73, 74, 75, 76, 77, 78, 79, 80, 81, 82, 83, 84, 85, 86, 87, 88, 89, 90, 91, 92, 93, 94, 95, 96, 97, 98, 99, 100, 101, 102, 103, 104, 105, 106, 107, 108, 109, 110, 111, 112, 113, 114, 115, 116, 117, 118, 119, 120, 121, 122, 123, 124, 125, 126, 127, 128, 129, 130, 131, 132, 133, 134, 135, 136, 137, 138, 139, 140, 141, 142, 143, 144, 145, 146] (by decide +kernel) (by decide +kernel)
set_option maxRecDepth 20000 in
theorem gX10_walk_X10_run : GoodIn wsX10_walk (wsV RX10 238 RX10 yX10_run wsX10_run) := goodIn_app (goodIn_of _ (by decide +kernel)) ggX10_walk_X10_run
