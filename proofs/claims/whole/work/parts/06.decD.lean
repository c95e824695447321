theorem dX10_init_0 : decode cX10_init 0 = .ok (.aload_n 0, 1) := by decide +kernel
theorem dX10_init_1 : decode cX10_init 1 = .ok (.invokespecial 1, 3) := by decide +kernel
theorem dX10_init_4 : decode cX10_init 4 = .ok (.aload_n 0, 1) := by decide +kernel
theorem dX10_init_5 : decode cX10_init 5 = .ok (.bipush 14, 2) := by decide +kernel
theorem dX10_init_7 : decode cX10_init 7 = .ok (.newarray .int, 2) := by decide +kernel
theorem dX10_init_9 : decode cX10_init 9 = .ok (.putfield 7, 3) := by decide +kernel
theorem dX10_init_12 : decode cX10_init 12 = .ok (.aload_n 0, 1) := by decide +kernel
theorem dX10_init_13 : decode cX10_init 13 = .ok (.bipush 14, 2) := by decide +kernel
theorem dX10_init_15 : decode cX10_init 15 = .ok (.newarray .int, 2) := by decide +kernel
theorem dX10_init_17 : decode cX10_init 17 = .ok (.putfield 13, 3) := by decide +kernel
theorem dX10_init_20 : decode cX10_init 20 = .ok (.aload_n 0, 1) := by decide +kernel
theorem dX10_init_21 : decode cX10_init 21 = .ok (.bipush 14, 2) := by decide +kernel
theorem dX10_init_23 : decode cX10_init 23 = .ok (.newarray .int, 2) := by decide +kernel
theorem dX10_init_25 : decode cX10_init 25 = .ok (.putfield 16, 3) := by decide +kernel
theorem dX10_init_28 : decode cX10_init 28 = .ok (.aload_n 0, 1) := by decide +kernel
theorem dX10_init_29 : decode cX10_init 29 = .ok (.bipush 6, 2) := by decide +kernel
theorem dX10_init_31 : decode cX10_init 31 = .ok (.newarray .int, 2) := by decide +kernel
theorem dX10_init_33 : decode cX10_init 33 = .ok (.putfield 19, 3) := by decide +kernel
theorem dX10_init_36 : decode cX10_init 36 = .ok (.aload_n 0, 1) := by decide +kernel
theorem dX10_init_37 : decode cX10_init 37 = .ok (.bipush 6, 2) := by decide +kernel
theorem dX10_init_39 : decode cX10_init 39 = .ok (.newarray .int, 2) := by decide +kernel
theorem dX10_init_41 : decode cX10_init 41 = .ok (.putfield 22, 3) := by decide +kernel
theorem dX10_init_44 : decode cX10_init 44 = .ok (.aload_n 0, 1) := by decide +kernel
theorem dX10_init_45 : decode cX10_init 45 = .ok (.bipush 6, 2) := by decide +kernel
theorem dX10_init_47 : decode cX10_init 47 = .ok (.newarray .int, 2) := by decide +kernel
theorem dX10_init_49 : decode cX10_init 49 = .ok (.putfield 25, 3) := by decide +kernel
theorem dX10_init_52 : decode cX10_init 52 = .ok (.aload_n 0, 1) := by decide +kernel
theorem dX10_init_53 : decode cX10_init 53 = .ok (.bipush 6, 2) := by decide +kernel
theorem dX10_init_55 : decode cX10_init 55 = .ok (.newarray .int, 2) := by decide +kernel
theorem dX10_init_57 : decode cX10_init 57 = .ok (.putfield 28, 3) := by decide +kernel
theorem dX10_init_60 : decode cX10_init 60 = .ok (.aload_n 0, 1) := by decide +kernel
theorem dX10_init_61 : decode cX10_init 61 = .ok (.bipush 6, 2) := by decide +kernel
theorem dX10_init_63 : decode cX10_init 63 = .ok (.newarray .int, 2) := by decide +kernel
theorem dX10_init_65 : decode cX10_init 65 = .ok (.putfield 31, 3) := by decide +kernel
theorem dX10_init_68 : decode cX10_init 68 = .ok (.aload_n 0, 1) := by decide +kernel
theorem dX10_init_69 : decode cX10_init 69 = .ok (.sipush 400, 3) := by decide +kernel
theorem dX10_init_72 : decode cX10_init 72 = .ok (.newarray .int, 2) := by decide +kernel
theorem dX10_init_74 : decode cX10_init 74 = .ok (.putfield 34, 3) := by decide +kernel
theorem dX10_init_77 : decode cX10_init 77 = .ok (.aload_n 0, 1) := by decide +kernel
theorem dX10_init_78 : decode cX10_init 78 = .ok (.iconst (-1), 1) := by decide +kernel
theorem dX10_init_79 : decode cX10_init 79 = .ok (.putfield 37, 3) := by decide +kernel
theorem dX10_init_82 : decode cX10_init 82 = .ok (.aload_n 0, 1) := by decide +kernel
theorem dX10_init_83 : decode cX10_init 83 = .ok (.bipush 14, 2) := by decide +kernel
theorem dX10_init_85 : decode cX10_init 85 = .ok (.newarray .int, 2) := by decide +kernel
theorem dX10_init_87 : decode cX10_init 87 = .ok (.putfield 41, 3) := by decide +kernel
theorem dX10_init_90 : decode cX10_init 90 = .ok (.aload_n 0, 1) := by decide +kernel
theorem dX10_init_91 : decode cX10_init 91 = .ok (.bipush 14, 2) := by decide +kernel
theorem dX10_init_93 : decode cX10_init 93 = .ok (.newarray .int, 2) := by decide +kernel
theorem dX10_init_95 : decode cX10_init 95 = .ok (.putfield 44, 3) := by decide +kernel
theorem dX10_init_98 : decode cX10_init 98 = .ok (.aload_n 0, 1) := by decide +kernel
theorem dX10_init_99 : decode cX10_init 99 = .ok (.bipush 14, 2) := by decide +kernel
theorem dX10_init_101 : decode cX10_init 101 = .ok (.newarray .int, 2) := by decide +kernel
theorem dX10_init_103 : decode cX10_init 103 = .ok (.putfield 47, 3) := by decide +kernel
theorem dX10_init_106 : decode cX10_init 106 = .ok (.aload_n 0, 1) := by decide +kernel
theorem dX10_init_107 : decode cX10_init 107 = .ok (.bipush 6, 2) := by decide +kernel
theorem dX10_init_109 : decode cX10_init 109 = .ok (.newarray .int, 2) := by decide +kernel
theorem dX10_init_111 : decode cX10_init 111 = .ok (.putfield 50, 3) := by decide +kernel
theorem dX10_init_114 : decode cX10_init 114 = .ok (.aload_n 0, 1) := by decide +kernel
theorem dX10_init_115 : decode cX10_init 115 = .ok (.bipush 6, 2) := by decide +kernel
theorem dX10_init_117 : decode cX10_init 117 = .ok (.newarray .int, 2) := by decide +kernel
theorem dX10_init_119 : decode cX10_init 119 = .ok (.putfield 53, 3) := by decide +kernel
theorem dX10_init_122 : decode cX10_init 122 = .ok (.aload_n 0, 1) := by decide +kernel
theorem dX10_init_123 : decode cX10_init 123 = .ok (.bipush 6, 2) := by decide +kernel
theorem dX10_init_125 : decode cX10_init 125 = .ok (.newarray .int, 2) := by decide +kernel
theorem dX10_init_127 : decode cX10_init 127 = .ok (.putfield 56, 3) := by decide +kernel
theorem dX10_init_130 : decode cX10_init 130 = .ok (.aload_n 0, 1) := by decide +kernel
theorem dX10_init_131 : decode cX10_init 131 = .ok (.bipush 6, 2) := by decide +kernel
theorem dX10_init_133 : decode cX10_init 133 = .ok (.newarray .int, 2) := by decide +kernel
theorem dX10_init_135 : decode cX10_init 135 = .ok (.putfield 59, 3) := by decide +kernel
theorem dX10_init_138 : decode cX10_init 138 = .ok (.aload_n 0, 1) := by decide +kernel
theorem dX10_init_139 : decode cX10_init 139 = .ok (.bipush 6, 2) := by decide +kernel
theorem dX10_init_141 : decode cX10_init 141 = .ok (.newarray .int, 2) := by decide +kernel
theorem dX10_init_143 : decode cX10_init 143 = .ok (.putfield 62, 3) := by decide +kernel
theorem dX10_init_146 : decode cX10_init 146 = .ok (.aload_n 0, 1) := by decide +kernel
theorem dX10_init_147 : decode cX10_init 147 = .ok (.bipush 10, 2) := by decide +kernel
theorem dX10_init_149 : decode cX10_init 149 = .ok (.newarray .int, 2) := by decide +kernel
theorem dX10_init_151 : decode cX10_init 151 = .ok (.putfield 65, 3) := by decide +kernel
theorem dX10_init_154 : decode cX10_init 154 = .ok (.aload_n 0, 1) := by decide +kernel
theorem dX10_init_155 : decode cX10_init 155 = .ok (.bipush 10, 2) := by decide +kernel
theorem dX10_init_157 : decode cX10_init 157 = .ok (.newarray .int, 2) := by decide +kernel
theorem dX10_init_159 : decode cX10_init 159 = .ok (.putfield 68, 3) := by decide +kernel
theorem dX10_init_162 : decode cX10_init 162 = .ok (.aload_n 0, 1) := by decide +kernel
theorem dX10_init_163 : decode cX10_init 163 = .ok (.bipush 10, 2) := by decide +kernel
theorem dX10_init_165 : decode cX10_init 165 = .ok (.newarray .int, 2) := by decide +kernel
theorem dX10_init_167 : decode cX10_init 167 = .ok (.putfield 71, 3) := by decide +kernel
theorem dX10_init_170 : decode cX10_init 170 = .ok (.aload_n 0, 1) := by decide +kernel
theorem dX10_init_171 : decode cX10_init 171 = .ok (.bipush 6, 2) := by decide +kernel
theorem dX10_init_173 : decode cX10_init 173 = .ok (.newarray .int, 2) := by decide +kernel
theorem dX10_init_175 : decode cX10_init 175 = .ok (.putfield 74, 3) := by decide +kernel
theorem dX10_init_178 : decode cX10_init 178 = .ok (.aload_n 0, 1) := by decide +kernel
theorem dX10_init_179 : decode cX10_init 179 = .ok (.bipush 6, 2) := by decide +kernel
theorem dX10_init_181 : decode cX10_init 181 = .ok (.newarray .int, 2) := by decide +kernel
theorem dX10_init_183 : decode cX10_init 183 = .ok (.putfield 77, 3) := by decide +kernel
theorem dX10_init_186 : decode cX10_init 186 = .ok (.aload_n 0, 1) := by decide +kernel
theorem dX10_init_187 : decode cX10_init 187 = .ok (.sipush 640, 3) := by decide +kernel
theorem dX10_init_190 : decode cX10_init 190 = .ok (.newarray .int, 2) := by decide +kernel
theorem dX10_init_192 : decode cX10_init 192 = .ok (.putfield 80, 3) := by decide +kernel
theorem dX10_init_195 : decode cX10_init 195 = .ok (.aload_n 0, 1) := by decide +kernel
theorem dX10_init_196 : decode cX10_init 196 = .ok (.sipush 2000, 3) := by decide +kernel
theorem dX10_init_199 : decode cX10_init 199 = .ok (.newarray .int, 2) := by decide +kernel
theorem dX10_init_201 : decode cX10_init 201 = .ok (.putfield 83, 3) := by decide +kernel
theorem dX10_init_204 : decode cX10_init 204 = .ok (.aload_n 0, 1) := by decide +kernel
theorem dX10_init_205 : decode cX10_init 205 = .ok (.sipush 2000, 3) := by decide +kernel
theorem dX10_init_208 : decode cX10_init 208 = .ok (.newarray .int, 2) := by decide +kernel
theorem dX10_init_210 : decode cX10_init 210 = .ok (.putfield 86, 3) := by decide +kernel
theorem dX10_init_213 : decode cX10_init 213 = .ok (.aload_n 0, 1) := by decide +kernel
theorem dX10_init_214 : decode cX10_init 214 = .ok (.sipush 2000, 3) := by decide +kernel
theorem dX10_init_217 : decode cX10_init 217 = .ok (.newarray .int, 2) := by decide +kernel
theorem dX10_init_219 : decode cX10_init 219 = .ok (.putfield 89, 3) := by decide +kernel
theorem dX10_init_222 : decode cX10_init 222 = .ok (.aload_n 0, 1) := by decide +kernel
theorem dX10_init_223 : decode cX10_init 223 = .ok (.sipush 2000, 3) := by decide +kernel
theorem dX10_init_226 : decode cX10_init 226 = .ok (.newarray .long, 2) := by decide +kernel
theorem dX10_init_228 : decode cX10_init 228 = .ok (.putfield 92, 3) := by decide +kernel
theorem dX10_init_231 : decode cX10_init 231 = .ok (.aload_n 0, 1) := by decide +kernel
theorem dX10_init_232 : decode cX10_init 232 = .ok (.bipush 8, 2) := by decide +kernel
theorem dX10_init_234 : decode cX10_init 234 = .ok (.newarray .int, 2) := by decide +kernel
theorem dX10_init_236 : decode cX10_init 236 = .ok (.putfield 96, 3) := by decide +kernel
theorem dX10_init_239 : decode cX10_init 239 = .ok (.aload_n 0, 1) := by decide +kernel
theorem dX10_init_240 : decode cX10_init 240 = .ok (.bipush 8, 2) := by decide +kernel
theorem dX10_init_242 : decode cX10_init 242 = .ok (.newarray .int, 2) := by decide +kernel
theorem dX10_init_244 : decode cX10_init 244 = .ok (.putfield 99, 3) := by decide +kernel
theorem dX10_init_247 : decode cX10_init 247 = .ok (.aload_n 0, 1) := by decide +kernel
theorem dX10_init_248 : decode cX10_init 248 = .ok (.bipush 30, 2) := by decide +kernel
theorem dX10_init_250 : decode cX10_init 250 = .ok (.newarray .int, 2) := by decide +kernel
theorem dX10_init_252 : decode cX10_init 252 = .ok (.putfield 102, 3) := by decide +kernel
theorem dX10_init_255 : decode cX10_init 255 = .ok (.aload_n 0, 1) := by decide +kernel
theorem dX10_init_256 : decode cX10_init 256 = .ok (.bipush 30, 2) := by decide +kernel
theorem dX10_init_258 : decode cX10_init 258 = .ok (.newarray .int, 2) := by decide +kernel
theorem dX10_init_260 : decode cX10_init 260 = .ok (.putfield 105, 3) := by decide +kernel
theorem dX10_init_263 : decode cX10_init 263 = .ok (.aload_n 0, 1) := by decide +kernel
theorem dX10_init_264 : decode cX10_init 264 = .ok (.bipush 30, 2) := by decide +kernel
theorem dX10_init_266 : decode cX10_init 266 = .ok (.newarray .int, 2) := by decide +kernel
theorem dX10_init_268 : decode cX10_init 268 = .ok (.putfield 108, 3) := by decide +kernel
theorem dX10_init_271 : decode cX10_init 271 = .ok (.aload_n 0, 1) := by decide +kernel
theorem dX10_init_272 : decode cX10_init 272 = .ok (.bipush 30, 2) := by decide +kernel
theorem dX10_init_274 : decode cX10_init 274 = .ok (.newarray .int, 2) := by decide +kernel
theorem dX10_init_276 : decode cX10_init 276 = .ok (.putfield 111, 3) := by decide +kernel
theorem dX10_init_279 : decode cX10_init 279 = .ok (.aload_n 0, 1) := by decide +kernel
theorem dX10_init_280 : decode cX10_init 280 = .ok (.bipush 40, 2) := by decide +kernel
theorem dX10_init_282 : decode cX10_init 282 = .ok (.newarray .int, 2) := by decide +kernel
theorem dX10_init_284 : decode cX10_init 284 = .ok (.putfield 114, 3) := by decide +kernel
theorem dX10_init_287 : decode cX10_init 287 = .ok (.aload_n 0, 1) := by decide +kernel
theorem dX10_init_288 : decode cX10_init 288 = .ok (.iconst 2, 1) := by decide +kernel
theorem dX10_init_289 : decode cX10_init 289 = .ok (.newarray .boolean, 2) := by decide +kernel
theorem dX10_init_291 : decode cX10_init 291 = .ok (.putfield 117, 3) := by decide +kernel
theorem dX10_init_294 : decode cX10_init 294 = .ok (.aload_n 0, 1) := by decide +kernel
theorem dX10_init_295 : decode cX10_init 295 = .ok (.iconst 0, 1) := by decide +kernel
theorem dX10_init_296 : decode cX10_init 296 = .ok (.putfield 121, 3) := by decide +kernel
theorem dX10_init_299 : decode cX10_init 299 = .ok (.return_, 1) := by decide +kernel
theorem dX10_in_0 : decode cX10_in 0 = .ok (.lload_n 0, 1) := by decide +kernel
theorem dX10_in_1 : decode cX10_in 1 = .ok (.lload_n 2, 1) := by decide +kernel
theorem dX10_in_2 : decode cX10_in 2 = .ok (.lcmp, 1) := by decide +kernel
theorem dX10_in_3 : decode cX10_in 3 = .ok (.ifCond .lt 14, 3) := by decide +kernel
theorem dX10_in_6 : decode cX10_in 6 = .ok (.lload_n 0, 1) := by decide +kernel
theorem dX10_in_7 : decode cX10_in 7 = .ok (.lload 4, 2) := by decide +kernel
theorem dX10_in_9 : decode cX10_in 9 = .ok (.lcmp, 1) := by decide +kernel
theorem dX10_in_10 : decode cX10_in 10 = .ok (.ifCond .gt 7, 3) := by decide +kernel
theorem dX10_in_13 : decode cX10_in 13 = .ok (.iconst 1, 1) := by decide +kernel
theorem dX10_in_14 : decode cX10_in 14 = .ok (.goto 4, 3) := by decide +kernel
theorem dX10_in_17 : decode cX10_in 17 = .ok (.iconst 0, 1) := by decide +kernel
theorem dX10_in_18 : decode cX10_in 18 = .ok (.ireturn, 1) := by decide +kernel
theorem dX10_has_0 : decode cX10_has 0 = .ok (.iload_n 0, 1) := by decide +kernel
theorem dX10_has_1 : decode cX10_has 1 = .ok (.iload_n 1, 1) := by decide +kernel
theorem dX10_has_2 : decode cX10_has 2 = .ok (.ishr, 1) := by decide +kernel
theorem dX10_has_3 : decode cX10_has 3 = .ok (.iconst 1, 1) := by decide +kernel
theorem dX10_has_4 : decode cX10_has 4 = .ok (.iand, 1) := by decide +kernel
theorem dX10_has_5 : decode cX10_has 5 = .ok (.iconst 1, 1) := by decide +kernel
theorem dX10_has_6 : decode cX10_has 6 = .ok (.if_icmp .ne 7, 3) := by decide +kernel
theorem dX10_has_9 : decode cX10_has 9 = .ok (.iconst 1, 1) := by decide +kernel
theorem dX10_has_10 : decode cX10_has 10 = .ok (.goto 4, 3) := by decide +kernel
theorem dX10_has_13 : decode cX10_has 13 = .ok (.iconst 0, 1) := by decide +kernel
theorem dX10_has_14 : decode cX10_has 14 = .ok (.ireturn, 1) := by decide +kernel
theorem dX10_isPlace_0 : decode cX10_isPlace 0 = .ok (.iload_n 1, 1) := by decide +kernel
theorem dX10_isPlace_1 : decode cX10_isPlace 1 = .ok (.i2l, 1) := by decide +kernel
theorem dX10_isPlace_2 : decode cX10_isPlace 2 = .ok (.lconst 0, 1) := by decide +kernel
theorem dX10_isPlace_3 : decode cX10_isPlace 3 = .ok (.aload_n 0, 1) := by decide +kernel
theorem dX10_isPlace_4 : decode cX10_isPlace 4 = .ok (.getfield 121, 3) := by decide +kernel
theorem dX10_isPlace_7 : decode cX10_isPlace 7 = .ok (.iconst 1, 1) := by decide +kernel
theorem dX10_isPlace_8 : decode cX10_isPlace 8 = .ok (.isub, 1) := by decide +kernel
theorem dX10_isPlace_9 : decode cX10_isPlace 9 = .ok (.i2l, 1) := by decide +kernel
theorem dX10_isPlace_10 : decode cX10_isPlace 10 = .ok (.invokestatic 124, 3) := by decide +kernel
theorem dX10_isPlace_13 : decode cX10_isPlace 13 = .ok (.ireturn, 1) := by decide +kernel
theorem dX10_isWay_0 : decode cX10_isWay 0 = .ok (.iload_n 1, 1) := by decide +kernel
theorem dX10_isWay_1 : decode cX10_isWay 1 = .ok (.i2l, 1) := by decide +kernel
theorem dX10_isWay_2 : decode cX10_isWay 2 = .ok (.lconst 0, 1) := by decide +kernel
theorem dX10_isWay_3 : decode cX10_isWay 3 = .ok (.aload_n 0, 1) := by decide +kernel
theorem dX10_isWay_4 : decode cX10_isWay 4 = .ok (.getfield 128, 3) := by decide +kernel
theorem dX10_isWay_7 : decode cX10_isWay 7 = .ok (.iconst 1, 1) := by decide +kernel
theorem dX10_isWay_8 : decode cX10_isWay 8 = .ok (.isub, 1) := by decide +kernel
theorem dX10_isWay_9 : decode cX10_isWay 9 = .ok (.i2l, 1) := by decide +kernel
theorem dX10_isWay_10 : decode cX10_isWay 10 = .ok (.invokestatic 124, 3) := by decide +kernel
theorem dX10_isWay_13 : decode cX10_isWay 13 = .ok (.ireturn, 1) := by decide +kernel
theorem dX10_isPerson_0 : decode cX10_isPerson 0 = .ok (.iload_n 1, 1) := by decide +kernel
theorem dX10_isPerson_1 : decode cX10_isPerson 1 = .ok (.i2l, 1) := by decide +kernel
theorem dX10_isPerson_2 : decode cX10_isPerson 2 = .ok (.lconst 0, 1) := by decide +kernel
theorem dX10_isPerson_3 : decode cX10_isPerson 3 = .ok (.aload_n 0, 1) := by decide +kernel
theorem dX10_isPerson_4 : decode cX10_isPerson 4 = .ok (.getfield 131, 3) := by decide +kernel
theorem dX10_isPerson_7 : decode cX10_isPerson 7 = .ok (.iconst 1, 1) := by decide +kernel
theorem dX10_isPerson_8 : decode cX10_isPerson 8 = .ok (.isub, 1) := by decide +kernel
theorem dX10_isPerson_9 : decode cX10_isPerson 9 = .ok (.i2l, 1) := by decide +kernel
theorem dX10_isPerson_10 : decode cX10_isPerson 10 = .ok (.invokestatic 124, 3) := by decide +kernel
theorem dX10_isPerson_13 : decode cX10_isPerson 13 = .ok (.ireturn, 1) := by decide +kernel
theorem dX10_feed_0 : decode cX10_feed 0 = .ok (.iload_n 1, 1) := by decide +kernel
theorem dX10_feed_1 : decode cX10_feed 1 = .ok (.i2l, 1) := by decide +kernel
theorem dX10_feed_2 : decode cX10_feed 2 = .ok (.lconst 1, 1) := by decide +kernel
theorem dX10_feed_3 : decode cX10_feed 3 = .ok (.ldc2_w 134, 3) := by decide +kernel
theorem dX10_feed_6 : decode cX10_feed 6 = .ok (.invokestatic 124, 3) := by decide +kernel
theorem dX10_feed_9 : decode cX10_feed 9 = .ok (.ifCond .ne 6, 3) := by decide +kernel
theorem dX10_feed_12 : decode cX10_feed 12 = .ok (.ldc 136, 2) := by decide +kernel
theorem dX10_feed_14 : decode cX10_feed 14 = .ok (.ireturn, 1) := by decide +kernel
theorem dX10_feed_15 : decode cX10_feed 15 = .ok (.aload_n 0, 1) := by decide +kernel
theorem dX10_feed_16 : decode cX10_feed 16 = .ok (.getfield 137, 3) := by decide +kernel
theorem dX10_feed_19 : decode cX10_feed 19 = .ok (.iload_n 1, 1) := by decide +kernel
theorem dX10_feed_20 : decode cX10_feed 20 = .ok (.iadd, 1) := by decide +kernel
theorem dX10_feed_21 : decode cX10_feed 21 = .ok (.sipush 400, 3) := by decide +kernel
theorem dX10_feed_24 : decode cX10_feed 24 = .ok (.if_icmp .le 6, 3) := by decide +kernel
theorem dX10_feed_27 : decode cX10_feed 27 = .ok (.ldc 140, 2) := by decide +kernel
theorem dX10_feed_29 : decode cX10_feed 29 = .ok (.ireturn, 1) := by decide +kernel
theorem dX10_feed_30 : decode cX10_feed 30 = .ok (.iload_n 1, 1) := by decide +kernel
theorem dX10_feed_31 : decode cX10_feed 31 = .ok (.iconst 1, 1) := by decide +kernel
theorem dX10_feed_32 : decode cX10_feed 32 = .ok (.isub, 1) := by decide +kernel
theorem dX10_feed_33 : decode cX10_feed 33 = .ok (.istore 4, 2) := by decide +kernel
theorem dX10_feed_35 : decode cX10_feed 35 = .ok (.iload 4, 2) := by decide +kernel
theorem dX10_feed_37 : decode cX10_feed 37 = .ok (.ifCond .lt 40, 3) := by decide +kernel
theorem dX10_feed_40 : decode cX10_feed 40 = .ok (.aload_n 0, 1) := by decide +kernel
theorem dX10_feed_41 : decode cX10_feed 41 = .ok (.getfield 34, 3) := by decide +kernel
theorem dX10_feed_44 : decode cX10_feed 44 = .ok (.aload_n 0, 1) := by decide +kernel
theorem dX10_feed_45 : decode cX10_feed 45 = .ok (.getfield 137, 3) := by decide +kernel
theorem dX10_feed_48 : decode cX10_feed 48 = .ok (.lload_n 2, 1) := by decide +kernel
theorem dX10_feed_49 : decode cX10_feed 49 = .ok (.bipush 8, 2) := by decide +kernel
theorem dX10_feed_51 : decode cX10_feed 51 = .ok (.iload 4, 2) := by decide +kernel
theorem dX10_feed_53 : decode cX10_feed 53 = .ok (.imul, 1) := by decide +kernel
theorem dX10_feed_54 : decode cX10_feed 54 = .ok (.lshr, 1) := by decide +kernel
theorem dX10_feed_55 : decode cX10_feed 55 = .ok (.ldc2_w 141, 3) := by decide +kernel
theorem dX10_feed_58 : decode cX10_feed 58 = .ok (.land, 1) := by decide +kernel
theorem dX10_feed_59 : decode cX10_feed 59 = .ok (.l2i, 1) := by decide +kernel
theorem dX10_feed_60 : decode cX10_feed 60 = .ok (.iastore, 1) := by decide +kernel
theorem dX10_feed_61 : decode cX10_feed 61 = .ok (.aload_n 0, 1) := by decide +kernel
theorem dX10_feed_62 : decode cX10_feed 62 = .ok (.dup, 1) := by decide +kernel
theorem dX10_feed_63 : decode cX10_feed 63 = .ok (.getfield 137, 3) := by decide +kernel
theorem dX10_feed_66 : decode cX10_feed 66 = .ok (.iconst 1, 1) := by decide +kernel
theorem dX10_feed_67 : decode cX10_feed 67 = .ok (.iadd, 1) := by decide +kernel
theorem dX10_feed_68 : decode cX10_feed 68 = .ok (.putfield 137, 3) := by decide +kernel
theorem dX10_feed_71 : decode cX10_feed 71 = .ok (.iinc 4 (-1), 3) := by decide +kernel
theorem dX10_feed_74 : decode cX10_feed 74 = .ok (.goto (-39), 3) := by decide +kernel
theorem dX10_feed_77 : decode cX10_feed 77 = .ok (.aload_n 0, 1) := by decide +kernel
theorem dX10_feed_78 : decode cX10_feed 78 = .ok (.getfield 137, 3) := by decide +kernel
theorem dX10_feed_81 : decode cX10_feed 81 = .ok (.ireturn, 1) := by decide +kernel
theorem dX10_here_0 : decode cX10_here 0 = .ok (.aload_n 0, 1) := by decide +kernel
theorem dX10_here_1 : decode cX10_here 1 = .ok (.getfield 143, 3) := by decide +kernel
theorem dX10_here_4 : decode cX10_here 4 = .ok (.aload_n 0, 1) := by decide +kernel
theorem dX10_here_5 : decode cX10_here 5 = .ok (.getfield 137, 3) := by decide +kernel
theorem dX10_here_8 : decode cX10_here 8 = .ok (.if_icmp .ge 30, 3) := by decide +kernel
theorem dX10_here_11 : decode cX10_here 11 = .ok (.aload_n 0, 1) := by decide +kernel
theorem dX10_here_12 : decode cX10_here 12 = .ok (.getfield 34, 3) := by decide +kernel
theorem dX10_here_15 : decode cX10_here 15 = .ok (.aload_n 0, 1) := by decide +kernel
theorem dX10_here_16 : decode cX10_here 16 = .ok (.getfield 143, 3) := by decide +kernel
theorem dX10_here_19 : decode cX10_here 19 = .ok (.iaload, 1) := by decide +kernel
theorem dX10_here_20 : decode cX10_here 20 = .ok (.bipush 32, 2) := by decide +kernel
theorem dX10_here_22 : decode cX10_here 22 = .ok (.if_icmp .ne 16, 3) := by decide +kernel
theorem dX10_here_25 : decode cX10_here 25 = .ok (.aload_n 0, 1) := by decide +kernel
theorem dX10_here_26 : decode cX10_here 26 = .ok (.dup, 1) := by decide +kernel
theorem dX10_here_27 : decode cX10_here 27 = .ok (.getfield 143, 3) := by decide +kernel
theorem dX10_here_30 : decode cX10_here 30 = .ok (.iconst 1, 1) := by decide +kernel
theorem dX10_here_31 : decode cX10_here 31 = .ok (.iadd, 1) := by decide +kernel
theorem dX10_here_32 : decode cX10_here 32 = .ok (.putfield 143, 3) := by decide +kernel
theorem dX10_here_35 : decode cX10_here 35 = .ok (.goto (-35), 3) := by decide +kernel
theorem dX10_here_38 : decode cX10_here 38 = .ok (.aload_n 0, 1) := by decide +kernel
theorem dX10_here_39 : decode cX10_here 39 = .ok (.getfield 143, 3) := by decide +kernel
theorem dX10_here_42 : decode cX10_here 42 = .ok (.aload_n 0, 1) := by decide +kernel
theorem dX10_here_43 : decode cX10_here 43 = .ok (.getfield 137, 3) := by decide +kernel
theorem dX10_here_46 : decode cX10_here 46 = .ok (.if_icmp .ge 15, 3) := by decide +kernel
theorem dX10_here_49 : decode cX10_here 49 = .ok (.aload_n 0, 1) := by decide +kernel
theorem dX10_here_50 : decode cX10_here 50 = .ok (.getfield 34, 3) := by decide +kernel
theorem dX10_here_53 : decode cX10_here 53 = .ok (.aload_n 0, 1) := by decide +kernel
theorem dX10_here_54 : decode cX10_here 54 = .ok (.getfield 143, 3) := by decide +kernel
theorem dX10_here_57 : decode cX10_here 57 = .ok (.iaload, 1) := by decide +kernel
theorem dX10_here_58 : decode cX10_here 58 = .ok (.goto 4, 3) := by decide +kernel
theorem dX10_here_61 : decode cX10_here 61 = .ok (.iconst (-1), 1) := by decide +kernel
theorem dX10_here_62 : decode cX10_here 62 = .ok (.ireturn, 1) := by decide +kernel
theorem dX10_fails_0 : decode cX10_fails 0 = .ok (.aload_n 0, 1) := by decide +kernel
theorem dX10_fails_1 : decode cX10_fails 1 = .ok (.iload_n 2, 1) := by decide +kernel
theorem dX10_fails_2 : decode cX10_fails 2 = .ok (.putfield 37, 3) := by decide +kernel
theorem dX10_fails_5 : decode cX10_fails 5 = .ok (.iload_n 1, 1) := by decide +kernel
theorem dX10_fails_6 : decode cX10_fails 6 = .ok (.ireturn, 1) := by decide +kernel
theorem dX10_readWord_0 : decode cX10_readWord 0 = .ok (.aload_n 0, 1) := by decide +kernel
theorem dX10_readWord_1 : decode cX10_readWord 1 = .ok (.invokevirtual 146, 3) := by decide +kernel
theorem dX10_readWord_4 : decode cX10_readWord 4 = .ok (.istore_n 1, 1) := by decide +kernel
theorem dX10_readWord_5 : decode cX10_readWord 5 = .ok (.aload_n 0, 1) := by decide +kernel
theorem dX10_readWord_6 : decode cX10_readWord 6 = .ok (.lconst 0, 1) := by decide +kernel
theorem dX10_readWord_7 : decode cX10_readWord 7 = .ok (.putfield 150, 3) := by decide +kernel
theorem dX10_readWord_10 : decode cX10_readWord 10 = .ok (.aload_n 0, 1) := by decide +kernel
theorem dX10_readWord_11 : decode cX10_readWord 11 = .ok (.aload_n 0, 1) := by decide +kernel
theorem dX10_readWord_12 : decode cX10_readWord 12 = .ok (.getfield 143, 3) := by decide +kernel
theorem dX10_readWord_15 : decode cX10_readWord 15 = .ok (.putfield 154, 3) := by decide +kernel
theorem dX10_readWord_18 : decode cX10_readWord 18 = .ok (.aload_n 0, 1) := by decide +kernel
theorem dX10_readWord_19 : decode cX10_readWord 19 = .ok (.getfield 154, 3) := by decide +kernel
theorem dX10_readWord_22 : decode cX10_readWord 22 = .ok (.aload_n 0, 1) := by decide +kernel
theorem dX10_readWord_23 : decode cX10_readWord 23 = .ok (.getfield 137, 3) := by decide +kernel
theorem dX10_readWord_26 : decode cX10_readWord 26 = .ok (.if_icmp .ge 82, 3) := by decide +kernel
theorem dX10_readWord_29 : decode cX10_readWord 29 = .ok (.aload_n 0, 1) := by decide +kernel
theorem dX10_readWord_30 : decode cX10_readWord 30 = .ok (.getfield 34, 3) := by decide +kernel
theorem dX10_readWord_33 : decode cX10_readWord 33 = .ok (.aload_n 0, 1) := by decide +kernel
theorem dX10_readWord_34 : decode cX10_readWord 34 = .ok (.getfield 154, 3) := by decide +kernel
theorem dX10_readWord_37 : decode cX10_readWord 37 = .ok (.iaload, 1) := by decide +kernel
theorem dX10_readWord_38 : decode cX10_readWord 38 = .ok (.i2l, 1) := by decide +kernel
theorem dX10_readWord_39 : decode cX10_readWord 39 = .ok (.ldc2_w 157, 3) := by decide +kernel
theorem dX10_readWord_42 : decode cX10_readWord 42 = .ok (.ldc2_w 159, 3) := by decide +kernel
theorem dX10_readWord_45 : decode cX10_readWord 45 = .ok (.invokestatic 124, 3) := by decide +kernel
theorem dX10_readWord_48 : decode cX10_readWord 48 = .ok (.ifCond .eq 60, 3) := by decide +kernel
theorem dX10_readWord_51 : decode cX10_readWord 51 = .ok (.aload_n 0, 1) := by decide +kernel
theorem dX10_readWord_52 : decode cX10_readWord 52 = .ok (.aload_n 0, 1) := by decide +kernel
theorem dX10_readWord_53 : decode cX10_readWord 53 = .ok (.getfield 150, 3) := by decide +kernel
theorem dX10_readWord_56 : decode cX10_readWord 56 = .ok (.ldc2_w 161, 3) := by decide +kernel
theorem dX10_readWord_59 : decode cX10_readWord 59 = .ok (.lcmp, 1) := by decide +kernel
theorem dX10_readWord_60 : decode cX10_readWord 60 = .ok (.ifCond .le 9, 3) := by decide +kernel
theorem dX10_readWord_63 : decode cX10_readWord 63 = .ok (.ldc2_w 163, 3) := by decide +kernel
theorem dX10_readWord_66 : decode cX10_readWord 66 = .ok (.goto 26, 3) := by decide +kernel
theorem dX10_readWord_69 : decode cX10_readWord 69 = .ok (.ldc2_w 165, 3) := by decide +kernel
theorem dX10_readWord_72 : decode cX10_readWord 72 = .ok (.aload_n 0, 1) := by decide +kernel
theorem dX10_readWord_73 : decode cX10_readWord 73 = .ok (.getfield 150, 3) := by decide +kernel
theorem dX10_readWord_76 : decode cX10_readWord 76 = .ok (.lmul, 1) := by decide +kernel
theorem dX10_readWord_77 : decode cX10_readWord 77 = .ok (.aload_n 0, 1) := by decide +kernel
theorem dX10_readWord_78 : decode cX10_readWord 78 = .ok (.getfield 34, 3) := by decide +kernel
theorem dX10_readWord_81 : decode cX10_readWord 81 = .ok (.aload_n 0, 1) := by decide +kernel
theorem dX10_readWord_82 : decode cX10_readWord 82 = .ok (.getfield 154, 3) := by decide +kernel
theorem dX10_readWord_85 : decode cX10_readWord 85 = .ok (.iaload, 1) := by decide +kernel
theorem dX10_readWord_86 : decode cX10_readWord 86 = .ok (.i2l, 1) := by decide +kernel
theorem dX10_readWord_87 : decode cX10_readWord 87 = .ok (.ladd, 1) := by decide +kernel
theorem dX10_readWord_88 : decode cX10_readWord 88 = .ok (.ldc2_w 167, 3) := by decide +kernel
theorem dX10_readWord_91 : decode cX10_readWord 91 = .ok (.lsub, 1) := by decide +kernel
theorem dX10_readWord_92 : decode cX10_readWord 92 = .ok (.putfield 150, 3) := by decide +kernel
theorem dX10_readWord_95 : decode cX10_readWord 95 = .ok (.aload_n 0, 1) := by decide +kernel
theorem dX10_readWord_96 : decode cX10_readWord 96 = .ok (.dup, 1) := by decide +kernel
theorem dX10_readWord_97 : decode cX10_readWord 97 = .ok (.getfield 154, 3) := by decide +kernel
theorem dX10_readWord_100 : decode cX10_readWord 100 = .ok (.iconst 1, 1) := by decide +kernel
theorem dX10_readWord_101 : decode cX10_readWord 101 = .ok (.iadd, 1) := by decide +kernel
theorem dX10_readWord_102 : decode cX10_readWord 102 = .ok (.putfield 154, 3) := by decide +kernel
theorem dX10_readWord_105 : decode cX10_readWord 105 = .ok (.goto (-87), 3) := by decide +kernel
theorem dX10_readWord_108 : decode cX10_readWord 108 = .ok (.return_, 1) := by decide +kernel
theorem dX10_code_0 : decode cX10_code 0 = .ok (.ldc2_w 165, 3) := by decide +kernel
theorem dX10_code_3 : decode cX10_code 3 = .ok (.ldc2_w 165, 3) := by decide +kernel
theorem dX10_code_6 : decode cX10_code 6 = .ok (.iload_n 0, 1) := by decide +kernel
theorem dX10_code_7 : decode cX10_code 7 = .ok (.i2l, 1) := by decide +kernel
theorem dX10_code_8 : decode cX10_code 8 = .ok (.ldc2_w 167, 3) := by decide +kernel
theorem dX10_code_11 : decode cX10_code 11 = .ok (.lsub, 1) := by decide +kernel
theorem dX10_code_12 : decode cX10_code 12 = .ok (.lmul, 1) := by decide +kernel
theorem dX10_code_13 : decode cX10_code 13 = .ok (.iload_n 1, 1) := by decide +kernel
theorem dX10_code_14 : decode cX10_code 14 = .ok (.i2l, 1) := by decide +kernel
theorem dX10_code_15 : decode cX10_code 15 = .ok (.ladd, 1) := by decide +kernel
theorem dX10_code_16 : decode cX10_code 16 = .ok (.ldc2_w 167, 3) := by decide +kernel
theorem dX10_code_19 : decode cX10_code 19 = .ok (.lsub, 1) := by decide +kernel
theorem dX10_code_20 : decode cX10_code 20 = .ok (.lmul, 1) := by decide +kernel
theorem dX10_code_21 : decode cX10_code 21 = .ok (.iload_n 2, 1) := by decide +kernel
theorem dX10_code_22 : decode cX10_code 22 = .ok (.i2l, 1) := by decide +kernel
theorem dX10_code_23 : decode cX10_code 23 = .ok (.ladd, 1) := by decide +kernel
theorem dX10_code_24 : decode cX10_code 24 = .ok (.ldc2_w 167, 3) := by decide +kernel
theorem dX10_code_27 : decode cX10_code 27 = .ok (.lsub, 1) := by decide +kernel
theorem dX10_code_28 : decode cX10_code 28 = .ok (.lreturn, 1) := by decide +kernel
theorem dX10_longer_0 : decode cX10_longer 0 = .ok (.iload_n 3, 1) := by decide +kernel
theorem dX10_longer_1 : decode cX10_longer 1 = .ok (.ifCond .ne 18, 3) := by decide +kernel
theorem dX10_longer_4 : decode cX10_longer 4 = .ok (.ldc2_w 165, 3) := by decide +kernel
theorem dX10_longer_7 : decode cX10_longer 7 = .ok (.lload_n 0, 1) := by decide +kernel
theorem dX10_longer_8 : decode cX10_longer 8 = .ok (.lmul, 1) := by decide +kernel
theorem dX10_longer_9 : decode cX10_longer 9 = .ok (.iload_n 2, 1) := by decide +kernel
theorem dX10_longer_10 : decode cX10_longer 10 = .ok (.i2l, 1) := by decide +kernel
theorem dX10_longer_11 : decode cX10_longer 11 = .ok (.ladd, 1) := by decide +kernel
theorem dX10_longer_12 : decode cX10_longer 12 = .ok (.ldc2_w 167, 3) := by decide +kernel
theorem dX10_longer_15 : decode cX10_longer 15 = .ok (.lsub, 1) := by decide +kernel
theorem dX10_longer_16 : decode cX10_longer 16 = .ok (.goto 26, 3) := by decide +kernel
theorem dX10_longer_19 : decode cX10_longer 19 = .ok (.ldc2_w 165, 3) := by decide +kernel
theorem dX10_longer_22 : decode cX10_longer 22 = .ok (.ldc2_w 165, 3) := by decide +kernel
theorem dX10_longer_25 : decode cX10_longer 25 = .ok (.lload_n 0, 1) := by decide +kernel
theorem dX10_longer_26 : decode cX10_longer 26 = .ok (.lmul, 1) := by decide +kernel
theorem dX10_longer_27 : decode cX10_longer 27 = .ok (.iload_n 2, 1) := by decide +kernel
theorem dX10_longer_28 : decode cX10_longer 28 = .ok (.i2l, 1) := by decide +kernel
theorem dX10_longer_29 : decode cX10_longer 29 = .ok (.ladd, 1) := by decide +kernel
theorem dX10_longer_30 : decode cX10_longer 30 = .ok (.ldc2_w 167, 3) := by decide +kernel
theorem dX10_longer_33 : decode cX10_longer 33 = .ok (.lsub, 1) := by decide +kernel
theorem dX10_longer_34 : decode cX10_longer 34 = .ok (.lmul, 1) := by decide +kernel
theorem dX10_longer_35 : decode cX10_longer 35 = .ok (.iload_n 3, 1) := by decide +kernel
theorem dX10_longer_36 : decode cX10_longer 36 = .ok (.i2l, 1) := by decide +kernel
theorem dX10_longer_37 : decode cX10_longer 37 = .ok (.ladd, 1) := by decide +kernel
theorem dX10_longer_38 : decode cX10_longer 38 = .ok (.ldc2_w 167, 3) := by decide +kernel
theorem dX10_longer_41 : decode cX10_longer 41 = .ok (.lsub, 1) := by decide +kernel
theorem dX10_longer_42 : decode cX10_longer 42 = .ok (.lreturn, 1) := by decide +kernel
theorem dX10_takeNumber_0 : decode cX10_takeNumber 0 = .ok (.aload_n 0, 1) := by decide +kernel
theorem dX10_takeNumber_1 : decode cX10_takeNumber 1 = .ok (.invokevirtual 146, 3) := by decide +kernel
theorem dX10_takeNumber_4 : decode cX10_takeNumber 4 = .ok (.istore_n 3, 1) := by decide +kernel
theorem dX10_takeNumber_5 : decode cX10_takeNumber 5 = .ok (.iload_n 3, 1) := by decide +kernel
theorem dX10_takeNumber_6 : decode cX10_takeNumber 6 = .ok (.i2l, 1) := by decide +kernel
theorem dX10_takeNumber_7 : decode cX10_takeNumber 7 = .ok (.ldc2_w 169, 3) := by decide +kernel
theorem dX10_takeNumber_10 : decode cX10_takeNumber 10 = .ok (.ldc2_w 171, 3) := by decide +kernel
theorem dX10_takeNumber_13 : decode cX10_takeNumber 13 = .ok (.invokestatic 124, 3) := by decide +kernel
theorem dX10_takeNumber_16 : decode cX10_takeNumber 16 = .ok (.ifCond .ne 13, 3) := by decide +kernel
theorem dX10_takeNumber_19 : decode cX10_takeNumber 19 = .ok (.aload_n 0, 1) := by decide +kernel
theorem dX10_takeNumber_20 : decode cX10_takeNumber 20 = .ok (.iconst 1, 1) := by decide +kernel
theorem dX10_takeNumber_21 : decode cX10_takeNumber 21 = .ok (.aload_n 0, 1) := by decide +kernel
theorem dX10_takeNumber_22 : decode cX10_takeNumber 22 = .ok (.getfield 143, 3) := by decide +kernel
theorem dX10_takeNumber_25 : decode cX10_takeNumber 25 = .ok (.invokevirtual 173, 3) := by decide +kernel
theorem dX10_takeNumber_28 : decode cX10_takeNumber 28 = .ok (.ireturn, 1) := by decide +kernel
theorem dX10_takeNumber_29 : decode cX10_takeNumber 29 = .ok (.aload_n 0, 1) := by decide +kernel
theorem dX10_takeNumber_30 : decode cX10_takeNumber 30 = .ok (.aload_n 0, 1) := by decide +kernel
theorem dX10_takeNumber_31 : decode cX10_takeNumber 31 = .ok (.getfield 143, 3) := by decide +kernel
theorem dX10_takeNumber_34 : decode cX10_takeNumber 34 = .ok (.putfield 177, 3) := by decide +kernel
theorem dX10_takeNumber_37 : decode cX10_takeNumber 37 = .ok (.aload_n 0, 1) := by decide +kernel
theorem dX10_takeNumber_38 : decode cX10_takeNumber 38 = .ok (.iconst 0, 1) := by decide +kernel
theorem dX10_takeNumber_39 : decode cX10_takeNumber 39 = .ok (.putfield 180, 3) := by decide +kernel
theorem dX10_takeNumber_42 : decode cX10_takeNumber 42 = .ok (.aload_n 0, 1) := by decide +kernel
theorem dX10_takeNumber_43 : decode cX10_takeNumber 43 = .ok (.getfield 143, 3) := by decide +kernel
theorem dX10_takeNumber_46 : decode cX10_takeNumber 46 = .ok (.aload_n 0, 1) := by decide +kernel
theorem dX10_takeNumber_47 : decode cX10_takeNumber 47 = .ok (.getfield 137, 3) := by decide +kernel
theorem dX10_takeNumber_50 : decode cX10_takeNumber 50 = .ok (.if_icmp .ge 79, 3) := by decide +kernel
theorem dX10_takeNumber_53 : decode cX10_takeNumber 53 = .ok (.aload_n 0, 1) := by decide +kernel
theorem dX10_takeNumber_54 : decode cX10_takeNumber 54 = .ok (.getfield 34, 3) := by decide +kernel
theorem dX10_takeNumber_57 : decode cX10_takeNumber 57 = .ok (.aload_n 0, 1) := by decide +kernel
theorem dX10_takeNumber_58 : decode cX10_takeNumber 58 = .ok (.getfield 143, 3) := by decide +kernel
theorem dX10_takeNumber_61 : decode cX10_takeNumber 61 = .ok (.iaload, 1) := by decide +kernel
theorem dX10_takeNumber_62 : decode cX10_takeNumber 62 = .ok (.i2l, 1) := by decide +kernel
theorem dX10_takeNumber_63 : decode cX10_takeNumber 63 = .ok (.ldc2_w 169, 3) := by decide +kernel
theorem dX10_takeNumber_66 : decode cX10_takeNumber 66 = .ok (.ldc2_w 171, 3) := by decide +kernel
theorem dX10_takeNumber_69 : decode cX10_takeNumber 69 = .ok (.invokestatic 124, 3) := by decide +kernel
theorem dX10_takeNumber_72 : decode cX10_takeNumber 72 = .ok (.ifCond .eq 57, 3) := by decide +kernel
theorem dX10_takeNumber_75 : decode cX10_takeNumber 75 = .ok (.aload_n 0, 1) := by decide +kernel
theorem dX10_takeNumber_76 : decode cX10_takeNumber 76 = .ok (.aload_n 0, 1) := by decide +kernel
theorem dX10_takeNumber_77 : decode cX10_takeNumber 77 = .ok (.getfield 180, 3) := by decide +kernel
theorem dX10_takeNumber_80 : decode cX10_takeNumber 80 = .ok (.sipush 10000, 3) := by decide +kernel
theorem dX10_takeNumber_83 : decode cX10_takeNumber 83 = .ok (.if_icmp .le 10, 3) := by decide +kernel
theorem dX10_takeNumber_86 : decode cX10_takeNumber 86 = .ok (.aload_n 0, 1) := by decide +kernel
theorem dX10_takeNumber_87 : decode cX10_takeNumber 87 = .ok (.getfield 180, 3) := by decide +kernel
theorem dX10_takeNumber_90 : decode cX10_takeNumber 90 = .ok (.goto 23, 3) := by decide +kernel
theorem dX10_takeNumber_93 : decode cX10_takeNumber 93 = .ok (.bipush 10, 2) := by decide +kernel
theorem dX10_takeNumber_95 : decode cX10_takeNumber 95 = .ok (.aload_n 0, 1) := by decide +kernel
theorem dX10_takeNumber_96 : decode cX10_takeNumber 96 = .ok (.getfield 180, 3) := by decide +kernel
theorem dX10_takeNumber_99 : decode cX10_takeNumber 99 = .ok (.imul, 1) := by decide +kernel
theorem dX10_takeNumber_100 : decode cX10_takeNumber 100 = .ok (.aload_n 0, 1) := by decide +kernel
theorem dX10_takeNumber_101 : decode cX10_takeNumber 101 = .ok (.getfield 34, 3) := by decide +kernel
theorem dX10_takeNumber_104 : decode cX10_takeNumber 104 = .ok (.aload_n 0, 1) := by decide +kernel
theorem dX10_takeNumber_105 : decode cX10_takeNumber 105 = .ok (.getfield 143, 3) := by decide +kernel
theorem dX10_takeNumber_108 : decode cX10_takeNumber 108 = .ok (.iaload, 1) := by decide +kernel
theorem dX10_takeNumber_109 : decode cX10_takeNumber 109 = .ok (.iadd, 1) := by decide +kernel
theorem dX10_takeNumber_110 : decode cX10_takeNumber 110 = .ok (.bipush 48, 2) := by decide +kernel
theorem dX10_takeNumber_112 : decode cX10_takeNumber 112 = .ok (.isub, 1) := by decide +kernel
theorem dX10_takeNumber_113 : decode cX10_takeNumber 113 = .ok (.putfield 180, 3) := by decide +kernel
theorem dX10_takeNumber_116 : decode cX10_takeNumber 116 = .ok (.aload_n 0, 1) := by decide +kernel
theorem dX10_takeNumber_117 : decode cX10_takeNumber 117 = .ok (.dup, 1) := by decide +kernel
theorem dX10_takeNumber_118 : decode cX10_takeNumber 118 = .ok (.getfield 143, 3) := by decide +kernel
theorem dX10_takeNumber_121 : decode cX10_takeNumber 121 = .ok (.iconst 1, 1) := by decide +kernel
theorem dX10_takeNumber_122 : decode cX10_takeNumber 122 = .ok (.iadd, 1) := by decide +kernel
theorem dX10_takeNumber_123 : decode cX10_takeNumber 123 = .ok (.putfield 143, 3) := by decide +kernel
theorem dX10_takeNumber_126 : decode cX10_takeNumber 126 = .ok (.goto (-84), 3) := by decide +kernel
theorem dX10_takeNumber_129 : decode cX10_takeNumber 129 = .ok (.aload_n 0, 1) := by decide +kernel
theorem dX10_takeNumber_130 : decode cX10_takeNumber 130 = .ok (.getfield 143, 3) := by decide +kernel
theorem dX10_takeNumber_133 : decode cX10_takeNumber 133 = .ok (.aload_n 0, 1) := by decide +kernel
theorem dX10_takeNumber_134 : decode cX10_takeNumber 134 = .ok (.getfield 177, 3) := by decide +kernel
theorem dX10_takeNumber_137 : decode cX10_takeNumber 137 = .ok (.isub, 1) := by decide +kernel
theorem dX10_takeNumber_138 : decode cX10_takeNumber 138 = .ok (.iconst 3, 1) := by decide +kernel
theorem dX10_takeNumber_139 : decode cX10_takeNumber 139 = .ok (.if_icmp .gt 18, 3) := by decide +kernel
theorem dX10_takeNumber_142 : decode cX10_takeNumber 142 = .ok (.aload_n 0, 1) := by decide +kernel
theorem dX10_takeNumber_143 : decode cX10_takeNumber 143 = .ok (.getfield 180, 3) := by decide +kernel
theorem dX10_takeNumber_146 : decode cX10_takeNumber 146 = .ok (.i2l, 1) := by decide +kernel
theorem dX10_takeNumber_147 : decode cX10_takeNumber 147 = .ok (.iload_n 1, 1) := by decide +kernel
theorem dX10_takeNumber_148 : decode cX10_takeNumber 148 = .ok (.i2l, 1) := by decide +kernel
theorem dX10_takeNumber_149 : decode cX10_takeNumber 149 = .ok (.iload_n 2, 1) := by decide +kernel
theorem dX10_takeNumber_150 : decode cX10_takeNumber 150 = .ok (.i2l, 1) := by decide +kernel
theorem dX10_takeNumber_151 : decode cX10_takeNumber 151 = .ok (.invokestatic 124, 3) := by decide +kernel
theorem dX10_takeNumber_154 : decode cX10_takeNumber 154 = .ok (.ifCond .ne 15, 3) := by decide +kernel
theorem dX10_takeNumber_157 : decode cX10_takeNumber 157 = .ok (.aload_n 0, 1) := by decide +kernel
theorem dX10_takeNumber_158 : decode cX10_takeNumber 158 = .ok (.iconst 2, 1) := by decide +kernel
theorem dX10_takeNumber_159 : decode cX10_takeNumber 159 = .ok (.aload_n 0, 1) := by decide +kernel
theorem dX10_takeNumber_160 : decode cX10_takeNumber 160 = .ok (.getfield 177, 3) := by decide +kernel
theorem dX10_takeNumber_163 : decode cX10_takeNumber 163 = .ok (.invokevirtual 173, 3) := by decide +kernel
theorem dX10_takeNumber_166 : decode cX10_takeNumber 166 = .ok (.goto 4, 3) := by decide +kernel
theorem dX10_takeNumber_169 : decode cX10_takeNumber 169 = .ok (.iconst 0, 1) := by decide +kernel
theorem dX10_takeNumber_170 : decode cX10_takeNumber 170 = .ok (.ireturn, 1) := by decide +kernel
theorem dX10_into_0 : decode cX10_into 0 = .ok (.aload_n 0, 1) := by decide +kernel
theorem dX10_into_1 : decode cX10_into 1 = .ok (.iload_n 3, 1) := by decide +kernel
theorem dX10_into_2 : decode cX10_into 2 = .ok (.iload 4, 2) := by decide +kernel
theorem dX10_into_4 : decode cX10_into 4 = .ok (.invokevirtual 183, 3) := by decide +kernel
theorem dX10_into_7 : decode cX10_into 7 = .ok (.istore 5, 2) := by decide +kernel
theorem dX10_into_9 : decode cX10_into 9 = .ok (.aload_n 1, 1) := by decide +kernel
theorem dX10_into_10 : decode cX10_into 10 = .ok (.iload_n 2, 1) := by decide +kernel
theorem dX10_into_11 : decode cX10_into 11 = .ok (.aload_n 0, 1) := by decide +kernel
theorem dX10_into_12 : decode cX10_into 12 = .ok (.getfield 180, 3) := by decide +kernel
theorem dX10_into_15 : decode cX10_into 15 = .ok (.iastore, 1) := by decide +kernel
theorem dX10_into_16 : decode cX10_into 16 = .ok (.iload 5, 2) := by decide +kernel
theorem dX10_into_18 : decode cX10_into 18 = .ok (.ireturn, 1) := by decide +kernel
theorem dX10_takeWay_0 : decode cX10_takeWay 0 = .ok (.aload_n 0, 1) := by decide +kernel
theorem dX10_takeWay_1 : decode cX10_takeWay 1 = .ok (.getfield 186, 3) := by decide +kernel
theorem dX10_takeWay_4 : decode cX10_takeWay 4 = .ok (.istore_n 1, 1) := by decide +kernel
theorem dX10_takeWay_5 : decode cX10_takeWay 5 = .ok (.aload_n 0, 1) := by decide +kernel
theorem dX10_takeWay_6 : decode cX10_takeWay 6 = .ok (.aload_n 0, 1) := by decide +kernel
theorem dX10_takeWay_7 : decode cX10_takeWay 7 = .ok (.getfield 41, 3) := by decide +kernel
theorem dX10_takeWay_10 : decode cX10_takeWay 10 = .ok (.iload_n 1, 1) := by decide +kernel
theorem dX10_takeWay_11 : decode cX10_takeWay 11 = .ok (.iconst 0, 1) := by decide +kernel
theorem dX10_takeWay_12 : decode cX10_takeWay 12 = .ok (.aload_n 0, 1) := by decide +kernel
theorem dX10_takeWay_13 : decode cX10_takeWay 13 = .ok (.getfield 189, 3) := by decide +kernel
theorem dX10_takeWay_16 : decode cX10_takeWay 16 = .ok (.iconst 1, 1) := by decide +kernel
theorem dX10_takeWay_17 : decode cX10_takeWay 17 = .ok (.isub, 1) := by decide +kernel
theorem dX10_takeWay_18 : decode cX10_takeWay 18 = .ok (.invokevirtual 192, 3) := by decide +kernel
theorem dX10_takeWay_21 : decode cX10_takeWay 21 = .ok (.istore_n 2, 1) := by decide +kernel
theorem dX10_takeWay_22 : decode cX10_takeWay 22 = .ok (.iload_n 2, 1) := by decide +kernel
theorem dX10_takeWay_23 : decode cX10_takeWay 23 = .ok (.ifCond .le 7, 3) := by decide +kernel
theorem dX10_takeWay_26 : decode cX10_takeWay 26 = .ok (.iload_n 2, 1) := by decide +kernel
theorem dX10_takeWay_27 : decode cX10_takeWay 27 = .ok (.goto 19, 3) := by decide +kernel
theorem dX10_takeWay_30 : decode cX10_takeWay 30 = .ok (.aload_n 0, 1) := by decide +kernel
theorem dX10_takeWay_31 : decode cX10_takeWay 31 = .ok (.aload_n 0, 1) := by decide +kernel
theorem dX10_takeWay_32 : decode cX10_takeWay 32 = .ok (.getfield 44, 3) := by decide +kernel
theorem dX10_takeWay_35 : decode cX10_takeWay 35 = .ok (.iload_n 1, 1) := by decide +kernel
theorem dX10_takeWay_36 : decode cX10_takeWay 36 = .ok (.iconst 0, 1) := by decide +kernel
theorem dX10_takeWay_37 : decode cX10_takeWay 37 = .ok (.aload_n 0, 1) := by decide +kernel
theorem dX10_takeWay_38 : decode cX10_takeWay 38 = .ok (.getfield 189, 3) := by decide +kernel
theorem dX10_takeWay_41 : decode cX10_takeWay 41 = .ok (.iconst 1, 1) := by decide +kernel
theorem dX10_takeWay_42 : decode cX10_takeWay 42 = .ok (.isub, 1) := by decide +kernel
theorem dX10_takeWay_43 : decode cX10_takeWay 43 = .ok (.invokevirtual 192, 3) := by decide +kernel
theorem dX10_takeWay_46 : decode cX10_takeWay 46 = .ok (.istore_n 2, 1) := by decide +kernel
theorem dX10_takeWay_47 : decode cX10_takeWay 47 = .ok (.iload_n 2, 1) := by decide +kernel
theorem dX10_takeWay_48 : decode cX10_takeWay 48 = .ok (.ifCond .le 5, 3) := by decide +kernel
theorem dX10_takeWay_51 : decode cX10_takeWay 51 = .ok (.iload_n 2, 1) := by decide +kernel
theorem dX10_takeWay_52 : decode cX10_takeWay 52 = .ok (.ireturn, 1) := by decide +kernel
theorem dX10_takeWay_53 : decode cX10_takeWay 53 = .ok (.aload_n 0, 1) := by decide +kernel
theorem dX10_takeWay_54 : decode cX10_takeWay 54 = .ok (.getfield 41, 3) := by decide +kernel
theorem dX10_takeWay_57 : decode cX10_takeWay 57 = .ok (.iload_n 1, 1) := by decide +kernel
theorem dX10_takeWay_58 : decode cX10_takeWay 58 = .ok (.iaload, 1) := by decide +kernel
theorem dX10_takeWay_59 : decode cX10_takeWay 59 = .ok (.aload_n 0, 1) := by decide +kernel
theorem dX10_takeWay_60 : decode cX10_takeWay 60 = .ok (.getfield 44, 3) := by decide +kernel
theorem dX10_takeWay_63 : decode cX10_takeWay 63 = .ok (.iload_n 1, 1) := by decide +kernel
theorem dX10_takeWay_64 : decode cX10_takeWay 64 = .ok (.iaload, 1) := by decide +kernel
theorem dX10_takeWay_65 : decode cX10_takeWay 65 = .ok (.if_icmp .ne 7, 3) := by decide +kernel
theorem dX10_takeWay_68 : decode cX10_takeWay 68 = .ok (.iconst 1, 1) := by decide +kernel
theorem dX10_takeWay_69 : decode cX10_takeWay 69 = .ok (.goto 4, 3) := by decide +kernel
theorem dX10_takeWay_72 : decode cX10_takeWay 72 = .ok (.iconst 0, 1) := by decide +kernel
theorem dX10_takeWay_73 : decode cX10_takeWay 73 = .ok (.istore_n 3, 1) := by decide +kernel
theorem dX10_takeWay_74 : decode cX10_takeWay 74 = .ok (.iconst 0, 1) := by decide +kernel
theorem dX10_takeWay_75 : decode cX10_takeWay 75 = .ok (.istore 4, 2) := by decide +kernel
theorem dX10_takeWay_77 : decode cX10_takeWay 77 = .ok (.iload 4, 2) := by decide +kernel
theorem dX10_takeWay_79 : decode cX10_takeWay 79 = .ok (.iload_n 1, 1) := by decide +kernel
theorem dX10_takeWay_80 : decode cX10_takeWay 80 = .ok (.if_icmp .ge 83, 3) := by decide +kernel
theorem dX10_takeWay_83 : decode cX10_takeWay 83 = .ok (.iload_n 3, 1) := by decide +kernel
theorem dX10_takeWay_84 : decode cX10_takeWay 84 = .ok (.ifCond .ne 67, 3) := by decide +kernel
theorem dX10_takeWay_87 : decode cX10_takeWay 87 = .ok (.aload_n 0, 1) := by decide +kernel
theorem dX10_takeWay_88 : decode cX10_takeWay 88 = .ok (.getfield 41, 3) := by decide +kernel
theorem dX10_takeWay_91 : decode cX10_takeWay 91 = .ok (.iload 4, 2) := by decide +kernel
theorem dX10_takeWay_93 : decode cX10_takeWay 93 = .ok (.iaload, 1) := by decide +kernel
theorem dX10_takeWay_94 : decode cX10_takeWay 94 = .ok (.aload_n 0, 1) := by decide +kernel
theorem dX10_takeWay_95 : decode cX10_takeWay 95 = .ok (.getfield 41, 3) := by decide +kernel
theorem dX10_takeWay_98 : decode cX10_takeWay 98 = .ok (.iload_n 1, 1) := by decide +kernel
theorem dX10_takeWay_99 : decode cX10_takeWay 99 = .ok (.iaload, 1) := by decide +kernel
theorem dX10_takeWay_100 : decode cX10_takeWay 100 = .ok (.if_icmp .ne 19, 3) := by decide +kernel
theorem dX10_takeWay_103 : decode cX10_takeWay 103 = .ok (.aload_n 0, 1) := by decide +kernel
theorem dX10_takeWay_104 : decode cX10_takeWay 104 = .ok (.getfield 44, 3) := by decide +kernel
theorem dX10_takeWay_107 : decode cX10_takeWay 107 = .ok (.iload 4, 2) := by decide +kernel
theorem dX10_takeWay_109 : decode cX10_takeWay 109 = .ok (.iaload, 1) := by decide +kernel
theorem dX10_takeWay_110 : decode cX10_takeWay 110 = .ok (.aload_n 0, 1) := by decide +kernel
theorem dX10_takeWay_111 : decode cX10_takeWay 111 = .ok (.getfield 44, 3) := by decide +kernel
theorem dX10_takeWay_114 : decode cX10_takeWay 114 = .ok (.iload_n 1, 1) := by decide +kernel
theorem dX10_takeWay_115 : decode cX10_takeWay 115 = .ok (.iaload, 1) := by decide +kernel
theorem dX10_takeWay_116 : decode cX10_takeWay 116 = .ok (.if_icmp .eq 35, 3) := by decide +kernel
theorem dX10_takeWay_119 : decode cX10_takeWay 119 = .ok (.aload_n 0, 1) := by decide +kernel
theorem dX10_takeWay_120 : decode cX10_takeWay 120 = .ok (.getfield 41, 3) := by decide +kernel
theorem dX10_takeWay_123 : decode cX10_takeWay 123 = .ok (.iload 4, 2) := by decide +kernel
theorem dX10_takeWay_125 : decode cX10_takeWay 125 = .ok (.iaload, 1) := by decide +kernel
theorem dX10_takeWay_126 : decode cX10_takeWay 126 = .ok (.aload_n 0, 1) := by decide +kernel
theorem dX10_takeWay_127 : decode cX10_takeWay 127 = .ok (.getfield 44, 3) := by decide +kernel
theorem dX10_takeWay_130 : decode cX10_takeWay 130 = .ok (.iload_n 1, 1) := by decide +kernel
theorem dX10_takeWay_131 : decode cX10_takeWay 131 = .ok (.iaload, 1) := by decide +kernel
theorem dX10_takeWay_132 : decode cX10_takeWay 132 = .ok (.if_icmp .ne 23, 3) := by decide +kernel
theorem dX10_takeWay_135 : decode cX10_takeWay 135 = .ok (.aload_n 0, 1) := by decide +kernel
theorem dX10_takeWay_136 : decode cX10_takeWay 136 = .ok (.getfield 44, 3) := by decide +kernel
theorem dX10_takeWay_139 : decode cX10_takeWay 139 = .ok (.iload 4, 2) := by decide +kernel
theorem dX10_takeWay_141 : decode cX10_takeWay 141 = .ok (.iaload, 1) := by decide +kernel
theorem dX10_takeWay_142 : decode cX10_takeWay 142 = .ok (.aload_n 0, 1) := by decide +kernel
theorem dX10_takeWay_143 : decode cX10_takeWay 143 = .ok (.getfield 41, 3) := by decide +kernel
theorem dX10_takeWay_146 : decode cX10_takeWay 146 = .ok (.iload_n 1, 1) := by decide +kernel
theorem dX10_takeWay_147 : decode cX10_takeWay 147 = .ok (.iaload, 1) := by decide +kernel
theorem dX10_takeWay_148 : decode cX10_takeWay 148 = .ok (.if_icmp .ne 7, 3) := by decide +kernel
theorem dX10_takeWay_151 : decode cX10_takeWay 151 = .ok (.iconst 1, 1) := by decide +kernel
theorem dX10_takeWay_152 : decode cX10_takeWay 152 = .ok (.goto 4, 3) := by decide +kernel
theorem dX10_takeWay_155 : decode cX10_takeWay 155 = .ok (.iconst 0, 1) := by decide +kernel
theorem dX10_takeWay_156 : decode cX10_takeWay 156 = .ok (.istore_n 3, 1) := by decide +kernel
theorem dX10_takeWay_157 : decode cX10_takeWay 157 = .ok (.iinc 4 1, 3) := by decide +kernel
theorem dX10_takeWay_160 : decode cX10_takeWay 160 = .ok (.goto (-83), 3) := by decide +kernel
theorem dX10_takeWay_163 : decode cX10_takeWay 163 = .ok (.aload_n 0, 1) := by decide +kernel
theorem dX10_takeWay_164 : decode cX10_takeWay 164 = .ok (.dup, 1) := by decide +kernel
theorem dX10_takeWay_165 : decode cX10_takeWay 165 = .ok (.getfield 186, 3) := by decide +kernel
theorem dX10_takeWay_168 : decode cX10_takeWay 168 = .ok (.iconst 1, 1) := by decide +kernel
theorem dX10_takeWay_169 : decode cX10_takeWay 169 = .ok (.iadd, 1) := by decide +kernel
theorem dX10_takeWay_170 : decode cX10_takeWay 170 = .ok (.putfield 186, 3) := by decide +kernel
theorem dX10_takeWay_173 : decode cX10_takeWay 173 = .ok (.iload_n 3, 1) := by decide +kernel
theorem dX10_takeWay_174 : decode cX10_takeWay 174 = .ok (.ifCond .eq 15, 3) := by decide +kernel
theorem dX10_takeWay_177 : decode cX10_takeWay 177 = .ok (.aload_n 0, 1) := by decide +kernel
theorem dX10_takeWay_178 : decode cX10_takeWay 178 = .ok (.iconst 4, 1) := by decide +kernel
theorem dX10_takeWay_179 : decode cX10_takeWay 179 = .ok (.aload_n 0, 1) := by decide +kernel
theorem dX10_takeWay_180 : decode cX10_takeWay 180 = .ok (.getfield 177, 3) := by decide +kernel
theorem dX10_takeWay_183 : decode cX10_takeWay 183 = .ok (.invokevirtual 173, 3) := by decide +kernel
theorem dX10_takeWay_186 : decode cX10_takeWay 186 = .ok (.goto 15, 3) := by decide +kernel
theorem dX10_takeWay_189 : decode cX10_takeWay 189 = .ok (.aload_n 0, 1) := by decide +kernel
theorem dX10_takeWay_190 : decode cX10_takeWay 190 = .ok (.aload_n 0, 1) := by decide +kernel
theorem dX10_takeWay_191 : decode cX10_takeWay 191 = .ok (.getfield 47, 3) := by decide +kernel
theorem dX10_takeWay_194 : decode cX10_takeWay 194 = .ok (.iload_n 1, 1) := by decide +kernel
theorem dX10_takeWay_195 : decode cX10_takeWay 195 = .ok (.iconst 1, 1) := by decide +kernel
theorem dX10_takeWay_196 : decode cX10_takeWay 196 = .ok (.bipush 99, 2) := by decide +kernel
theorem dX10_takeWay_198 : decode cX10_takeWay 198 = .ok (.invokevirtual 192, 3) := by decide +kernel
theorem dX10_takeWay_201 : decode cX10_takeWay 201 = .ok (.ireturn, 1) := by decide +kernel
theorem dX10_takeHabit_0 : decode cX10_takeHabit 0 = .ok (.aload_n 0, 1) := by decide +kernel
theorem dX10_takeHabit_1 : decode cX10_takeHabit 1 = .ok (.invokevirtual 196, 3) := by decide +kernel
theorem dX10_takeHabit_4 : decode cX10_takeHabit 4 = .ok (.aload_n 0, 1) := by decide +kernel
theorem dX10_takeHabit_5 : decode cX10_takeHabit 5 = .ok (.getfield 150, 3) := by decide +kernel
theorem dX10_takeHabit_8 : decode cX10_takeHabit 8 = .ok (.bipush 115, 2) := by decide +kernel
theorem dX10_takeHabit_10 : decode cX10_takeHabit 10 = .ok (.bipush 105, 2) := by decide +kernel
theorem dX10_takeHabit_12 : decode cX10_takeHabit 12 = .ok (.bipush 108, 2) := by decide +kernel
theorem dX10_takeHabit_14 : decode cX10_takeHabit 14 = .ok (.invokestatic 199, 3) := by decide +kernel
theorem dX10_takeHabit_17 : decode cX10_takeHabit 17 = .ok (.bipush 101, 2) := by decide +kernel
theorem dX10_takeHabit_19 : decode cX10_takeHabit 19 = .ok (.bipush 110, 2) := by decide +kernel
theorem dX10_takeHabit_21 : decode cX10_takeHabit 21 = .ok (.invokestatic 203, 3) := by decide +kernel
theorem dX10_takeHabit_24 : decode cX10_takeHabit 24 = .ok (.bipush 116, 2) := by decide +kernel
theorem dX10_takeHabit_26 : decode cX10_takeHabit 26 = .ok (.iconst 0, 1) := by decide +kernel
theorem dX10_takeHabit_27 : decode cX10_takeHabit 27 = .ok (.invokestatic 203, 3) := by decide +kernel
theorem dX10_takeHabit_30 : decode cX10_takeHabit 30 = .ok (.lcmp, 1) := by decide +kernel
theorem dX10_takeHabit_31 : decode cX10_takeHabit 31 = .ok (.ifCond .ne 7, 3) := by decide +kernel
theorem dX10_takeHabit_34 : decode cX10_takeHabit 34 = .ok (.iconst 0, 1) := by decide +kernel
theorem dX10_takeHabit_35 : decode cX10_takeHabit 35 = .ok (.goto 94, 3) := by decide +kernel
theorem dX10_takeHabit_38 : decode cX10_takeHabit 38 = .ok (.aload_n 0, 1) := by decide +kernel
theorem dX10_takeHabit_39 : decode cX10_takeHabit 39 = .ok (.getfield 150, 3) := by decide +kernel
theorem dX10_takeHabit_42 : decode cX10_takeHabit 42 = .ok (.bipush 102, 2) := by decide +kernel
theorem dX10_takeHabit_44 : decode cX10_takeHabit 44 = .ok (.bipush 105, 2) := by decide +kernel
theorem dX10_takeHabit_46 : decode cX10_takeHabit 46 = .ok (.bipush 114, 2) := by decide +kernel
theorem dX10_takeHabit_48 : decode cX10_takeHabit 48 = .ok (.invokestatic 199, 3) := by decide +kernel
theorem dX10_takeHabit_51 : decode cX10_takeHabit 51 = .ok (.bipush 115, 2) := by decide +kernel
theorem dX10_takeHabit_53 : decode cX10_takeHabit 53 = .ok (.bipush 116, 2) := by decide +kernel
theorem dX10_takeHabit_55 : decode cX10_takeHabit 55 = .ok (.invokestatic 203, 3) := by decide +kernel
theorem dX10_takeHabit_58 : decode cX10_takeHabit 58 = .ok (.lcmp, 1) := by decide +kernel
theorem dX10_takeHabit_59 : decode cX10_takeHabit 59 = .ok (.ifCond .ne 7, 3) := by decide +kernel
theorem dX10_takeHabit_62 : decode cX10_takeHabit 62 = .ok (.iconst 1, 1) := by decide +kernel
theorem dX10_takeHabit_63 : decode cX10_takeHabit 63 = .ok (.goto 66, 3) := by decide +kernel
theorem dX10_takeHabit_66 : decode cX10_takeHabit 66 = .ok (.aload_n 0, 1) := by decide +kernel
theorem dX10_takeHabit_67 : decode cX10_takeHabit 67 = .ok (.getfield 150, 3) := by decide +kernel
theorem dX10_takeHabit_70 : decode cX10_takeHabit 70 = .ok (.bipush 101, 2) := by decide +kernel
theorem dX10_takeHabit_72 : decode cX10_takeHabit 72 = .ok (.bipush 114, 2) := by decide +kernel
theorem dX10_takeHabit_74 : decode cX10_takeHabit 74 = .ok (.bipush 114, 2) := by decide +kernel
theorem dX10_takeHabit_76 : decode cX10_takeHabit 76 = .ok (.invokestatic 199, 3) := by decide +kernel
theorem dX10_takeHabit_79 : decode cX10_takeHabit 79 = .ok (.bipush 97, 2) := by decide +kernel
theorem dX10_takeHabit_81 : decode cX10_takeHabit 81 = .ok (.bipush 110, 2) := by decide +kernel
theorem dX10_takeHabit_83 : decode cX10_takeHabit 83 = .ok (.invokestatic 203, 3) := by decide +kernel
theorem dX10_takeHabit_86 : decode cX10_takeHabit 86 = .ok (.bipush 100, 2) := by decide +kernel
theorem dX10_takeHabit_88 : decode cX10_takeHabit 88 = .ok (.iconst 0, 1) := by decide +kernel
theorem dX10_takeHabit_89 : decode cX10_takeHabit 89 = .ok (.invokestatic 203, 3) := by decide +kernel
theorem dX10_takeHabit_92 : decode cX10_takeHabit 92 = .ok (.lcmp, 1) := by decide +kernel
theorem dX10_takeHabit_93 : decode cX10_takeHabit 93 = .ok (.ifCond .ne 7, 3) := by decide +kernel
theorem dX10_takeHabit_96 : decode cX10_takeHabit 96 = .ok (.iconst 2, 1) := by decide +kernel
theorem dX10_takeHabit_97 : decode cX10_takeHabit 97 = .ok (.goto 32, 3) := by decide +kernel
theorem dX10_takeHabit_100 : decode cX10_takeHabit 100 = .ok (.aload_n 0, 1) := by decide +kernel
theorem dX10_takeHabit_101 : decode cX10_takeHabit 101 = .ok (.getfield 150, 3) := by decide +kernel
theorem dX10_takeHabit_104 : decode cX10_takeHabit 104 = .ok (.bipush 119, 2) := by decide +kernel
theorem dX10_takeHabit_106 : decode cX10_takeHabit 106 = .ok (.bipush 104, 2) := by decide +kernel
theorem dX10_takeHabit_108 : decode cX10_takeHabit 108 = .ok (.bipush 111, 2) := by decide +kernel
theorem dX10_takeHabit_110 : decode cX10_takeHabit 110 = .ok (.invokestatic 199, 3) := by decide +kernel
theorem dX10_takeHabit_113 : decode cX10_takeHabit 113 = .ok (.bipush 108, 2) := by decide +kernel
theorem dX10_takeHabit_115 : decode cX10_takeHabit 115 = .ok (.bipush 101, 2) := by decide +kernel
theorem dX10_takeHabit_117 : decode cX10_takeHabit 117 = .ok (.invokestatic 203, 3) := by decide +kernel
theorem dX10_takeHabit_120 : decode cX10_takeHabit 120 = .ok (.lcmp, 1) := by decide +kernel
theorem dX10_takeHabit_121 : decode cX10_takeHabit 121 = .ok (.ifCond .ne 7, 3) := by decide +kernel
theorem dX10_takeHabit_124 : decode cX10_takeHabit 124 = .ok (.iconst 3, 1) := by decide +kernel
theorem dX10_takeHabit_125 : decode cX10_takeHabit 125 = .ok (.goto 4, 3) := by decide +kernel
theorem dX10_takeHabit_128 : decode cX10_takeHabit 128 = .ok (.iconst (-1), 1) := by decide +kernel
theorem dX10_takeHabit_129 : decode cX10_takeHabit 129 = .ok (.istore_n 1, 1) := by decide +kernel
theorem dX10_takeHabit_130 : decode cX10_takeHabit 130 = .ok (.iload_n 1, 1) := by decide +kernel
theorem dX10_takeHabit_131 : decode cX10_takeHabit 131 = .ok (.ifCond .ge 13, 3) := by decide +kernel
theorem dX10_takeHabit_134 : decode cX10_takeHabit 134 = .ok (.aload_n 0, 1) := by decide +kernel
theorem dX10_takeHabit_135 : decode cX10_takeHabit 135 = .ok (.iconst 1, 1) := by decide +kernel
theorem dX10_takeHabit_136 : decode cX10_takeHabit 136 = .ok (.aload_n 0, 1) := by decide +kernel
theorem dX10_takeHabit_137 : decode cX10_takeHabit 137 = .ok (.getfield 143, 3) := by decide +kernel
theorem dX10_takeHabit_140 : decode cX10_takeHabit 140 = .ok (.invokevirtual 173, 3) := by decide +kernel
theorem dX10_takeHabit_143 : decode cX10_takeHabit 143 = .ok (.ireturn, 1) := by decide +kernel
theorem dX10_takeHabit_144 : decode cX10_takeHabit 144 = .ok (.aload_n 0, 1) := by decide +kernel
theorem dX10_takeHabit_145 : decode cX10_takeHabit 145 = .ok (.getfield 59, 3) := by decide +kernel
theorem dX10_takeHabit_148 : decode cX10_takeHabit 148 = .ok (.aload_n 0, 1) := by decide +kernel
theorem dX10_takeHabit_149 : decode cX10_takeHabit 149 = .ok (.getfield 207, 3) := by decide +kernel
theorem dX10_takeHabit_152 : decode cX10_takeHabit 152 = .ok (.iload_n 1, 1) := by decide +kernel
theorem dX10_takeHabit_153 : decode cX10_takeHabit 153 = .ok (.iastore, 1) := by decide +kernel
theorem dX10_takeHabit_154 : decode cX10_takeHabit 154 = .ok (.aload_n 0, 1) := by decide +kernel
theorem dX10_takeHabit_155 : decode cX10_takeHabit 155 = .ok (.aload_n 0, 1) := by decide +kernel
theorem dX10_takeHabit_156 : decode cX10_takeHabit 156 = .ok (.getfield 154, 3) := by decide +kernel
theorem dX10_takeHabit_159 : decode cX10_takeHabit 159 = .ok (.putfield 143, 3) := by decide +kernel
theorem dX10_takeHabit_162 : decode cX10_takeHabit 162 = .ok (.iconst 0, 1) := by decide +kernel
theorem dX10_takeHabit_163 : decode cX10_takeHabit 163 = .ok (.ireturn, 1) := by decide +kernel
theorem dX10_takeKnows_0 : decode cX10_takeKnows 0 = .ok (.iconst 1, 1) := by decide +kernel
theorem dX10_takeKnows_1 : decode cX10_takeKnows 1 = .ok (.istore_n 1, 1) := by decide +kernel
theorem dX10_takeKnows_2 : decode cX10_takeKnows 2 = .ok (.iload_n 1, 1) := by decide +kernel
theorem dX10_takeKnows_3 : decode cX10_takeKnows 3 = .ok (.ifCond .eq 104, 3) := by decide +kernel
theorem dX10_takeKnows_6 : decode cX10_takeKnows 6 = .ok (.aload_n 0, 1) := by decide +kernel
theorem dX10_takeKnows_7 : decode cX10_takeKnows 7 = .ok (.iconst 0, 1) := by decide +kernel
theorem dX10_takeKnows_8 : decode cX10_takeKnows 8 = .ok (.aload_n 0, 1) := by decide +kernel
theorem dX10_takeKnows_9 : decode cX10_takeKnows 9 = .ok (.getfield 186, 3) := by decide +kernel
theorem dX10_takeKnows_12 : decode cX10_takeKnows 12 = .ok (.iconst 1, 1) := by decide +kernel
theorem dX10_takeKnows_13 : decode cX10_takeKnows 13 = .ok (.isub, 1) := by decide +kernel
theorem dX10_takeKnows_14 : decode cX10_takeKnows 14 = .ok (.invokevirtual 183, 3) := by decide +kernel
theorem dX10_takeKnows_17 : decode cX10_takeKnows 17 = .ok (.istore_n 2, 1) := by decide +kernel
theorem dX10_takeKnows_18 : decode cX10_takeKnows 18 = .ok (.iload_n 2, 1) := by decide +kernel
theorem dX10_takeKnows_19 : decode cX10_takeKnows 19 = .ok (.ifCond .le 5, 3) := by decide +kernel
theorem dX10_takeKnows_22 : decode cX10_takeKnows 22 = .ok (.iload_n 2, 1) := by decide +kernel
theorem dX10_takeKnows_23 : decode cX10_takeKnows 23 = .ok (.ireturn, 1) := by decide +kernel
theorem dX10_takeKnows_24 : decode cX10_takeKnows 24 = .ok (.aload_n 0, 1) := by decide +kernel
theorem dX10_takeKnows_25 : decode cX10_takeKnows 25 = .ok (.getfield 62, 3) := by decide +kernel
theorem dX10_takeKnows_28 : decode cX10_takeKnows 28 = .ok (.aload_n 0, 1) := by decide +kernel
theorem dX10_takeKnows_29 : decode cX10_takeKnows 29 = .ok (.getfield 207, 3) := by decide +kernel
theorem dX10_takeKnows_32 : decode cX10_takeKnows 32 = .ok (.iaload, 1) := by decide +kernel
theorem dX10_takeKnows_33 : decode cX10_takeKnows 33 = .ok (.aload_n 0, 1) := by decide +kernel
theorem dX10_takeKnows_34 : decode cX10_takeKnows 34 = .ok (.getfield 180, 3) := by decide +kernel
theorem dX10_takeKnows_37 : decode cX10_takeKnows 37 = .ok (.invokestatic 210, 3) := by decide +kernel
theorem dX10_takeKnows_40 : decode cX10_takeKnows 40 = .ok (.ifCond .eq 13, 3) := by decide +kernel
theorem dX10_takeKnows_43 : decode cX10_takeKnows 43 = .ok (.aload_n 0, 1) := by decide +kernel
theorem dX10_takeKnows_44 : decode cX10_takeKnows 44 = .ok (.iconst 4, 1) := by decide +kernel
theorem dX10_takeKnows_45 : decode cX10_takeKnows 45 = .ok (.aload_n 0, 1) := by decide +kernel
theorem dX10_takeKnows_46 : decode cX10_takeKnows 46 = .ok (.getfield 177, 3) := by decide +kernel
theorem dX10_takeKnows_49 : decode cX10_takeKnows 49 = .ok (.invokevirtual 173, 3) := by decide +kernel
theorem dX10_takeKnows_52 : decode cX10_takeKnows 52 = .ok (.ireturn, 1) := by decide +kernel
theorem dX10_takeKnows_53 : decode cX10_takeKnows 53 = .ok (.aload_n 0, 1) := by decide +kernel
theorem dX10_takeKnows_54 : decode cX10_takeKnows 54 = .ok (.getfield 62, 3) := by decide +kernel
theorem dX10_takeKnows_57 : decode cX10_takeKnows 57 = .ok (.aload_n 0, 1) := by decide +kernel
theorem dX10_takeKnows_58 : decode cX10_takeKnows 58 = .ok (.getfield 207, 3) := by decide +kernel
theorem dX10_takeKnows_61 : decode cX10_takeKnows 61 = .ok (.dup2, 1) := by decide +kernel
theorem dX10_takeKnows_62 : decode cX10_takeKnows 62 = .ok (.iaload, 1) := by decide +kernel
theorem dX10_takeKnows_63 : decode cX10_takeKnows 63 = .ok (.iconst 1, 1) := by decide +kernel
theorem dX10_takeKnows_64 : decode cX10_takeKnows 64 = .ok (.aload_n 0, 1) := by decide +kernel
theorem dX10_takeKnows_65 : decode cX10_takeKnows 65 = .ok (.getfield 180, 3) := by decide +kernel
theorem dX10_takeKnows_68 : decode cX10_takeKnows 68 = .ok (.ishl, 1) := by decide +kernel
theorem dX10_takeKnows_69 : decode cX10_takeKnows 69 = .ok (.ior, 1) := by decide +kernel
theorem dX10_takeKnows_70 : decode cX10_takeKnows 70 = .ok (.iastore, 1) := by decide +kernel
theorem dX10_takeKnows_71 : decode cX10_takeKnows 71 = .ok (.aload_n 0, 1) := by decide +kernel
theorem dX10_takeKnows_72 : decode cX10_takeKnows 72 = .ok (.invokevirtual 146, 3) := by decide +kernel
theorem dX10_takeKnows_75 : decode cX10_takeKnows 75 = .ok (.bipush 44, 2) := by decide +kernel
theorem dX10_takeKnows_77 : decode cX10_takeKnows 77 = .ok (.if_icmp .ne 7, 3) := by decide +kernel
theorem dX10_takeKnows_80 : decode cX10_takeKnows 80 = .ok (.iconst 1, 1) := by decide +kernel
theorem dX10_takeKnows_81 : decode cX10_takeKnows 81 = .ok (.goto 4, 3) := by decide +kernel
theorem dX10_takeKnows_84 : decode cX10_takeKnows 84 = .ok (.iconst 0, 1) := by decide +kernel
theorem dX10_takeKnows_85 : decode cX10_takeKnows 85 = .ok (.istore_n 1, 1) := by decide +kernel
theorem dX10_takeKnows_86 : decode cX10_takeKnows 86 = .ok (.aload_n 0, 1) := by decide +kernel
theorem dX10_takeKnows_87 : decode cX10_takeKnows 87 = .ok (.dup, 1) := by decide +kernel
theorem dX10_takeKnows_88 : decode cX10_takeKnows 88 = .ok (.getfield 143, 3) := by decide +kernel
theorem dX10_takeKnows_91 : decode cX10_takeKnows 91 = .ok (.iload_n 1, 1) := by decide +kernel
theorem dX10_takeKnows_92 : decode cX10_takeKnows 92 = .ok (.ifCond .eq 7, 3) := by decide +kernel
theorem dX10_takeKnows_95 : decode cX10_takeKnows 95 = .ok (.iconst 1, 1) := by decide +kernel
theorem dX10_takeKnows_96 : decode cX10_takeKnows 96 = .ok (.goto 4, 3) := by decide +kernel
theorem dX10_takeKnows_99 : decode cX10_takeKnows 99 = .ok (.iconst 0, 1) := by decide +kernel
theorem dX10_takeKnows_100 : decode cX10_takeKnows 100 = .ok (.iadd, 1) := by decide +kernel
theorem dX10_takeKnows_101 : decode cX10_takeKnows 101 = .ok (.putfield 143, 3) := by decide +kernel
theorem dX10_takeKnows_104 : decode cX10_takeKnows 104 = .ok (.goto (-102), 3) := by decide +kernel
theorem dX10_takeKnows_107 : decode cX10_takeKnows 107 = .ok (.iconst 0, 1) := by decide +kernel
theorem dX10_takeKnows_108 : decode cX10_takeKnows 108 = .ok (.ireturn, 1) := by decide +kernel
theorem dX10_takePerson_0 : decode cX10_takePerson 0 = .ok (.aload_n 0, 1) := by decide +kernel
theorem dX10_takePerson_1 : decode cX10_takePerson 1 = .ok (.getfield 207, 3) := by decide +kernel
theorem dX10_takePerson_4 : decode cX10_takePerson 4 = .ok (.istore_n 1, 1) := by decide +kernel
theorem dX10_takePerson_5 : decode cX10_takePerson 5 = .ok (.aload_n 0, 1) := by decide +kernel
theorem dX10_takePerson_6 : decode cX10_takePerson 6 = .ok (.getfield 62, 3) := by decide +kernel
theorem dX10_takePerson_9 : decode cX10_takePerson 9 = .ok (.iload_n 1, 1) := by decide +kernel
theorem dX10_takePerson_10 : decode cX10_takePerson 10 = .ok (.iconst 0, 1) := by decide +kernel
theorem dX10_takePerson_11 : decode cX10_takePerson 11 = .ok (.iastore, 1) := by decide +kernel
theorem dX10_takePerson_12 : decode cX10_takePerson 12 = .ok (.aload_n 0, 1) := by decide +kernel
theorem dX10_takePerson_13 : decode cX10_takePerson 13 = .ok (.aload_n 0, 1) := by decide +kernel
theorem dX10_takePerson_14 : decode cX10_takePerson 14 = .ok (.getfield 50, 3) := by decide +kernel
theorem dX10_takePerson_17 : decode cX10_takePerson 17 = .ok (.iload_n 1, 1) := by decide +kernel
theorem dX10_takePerson_18 : decode cX10_takePerson 18 = .ok (.iconst 0, 1) := by decide +kernel
theorem dX10_takePerson_19 : decode cX10_takePerson 19 = .ok (.aload_n 0, 1) := by decide +kernel
theorem dX10_takePerson_20 : decode cX10_takePerson 20 = .ok (.getfield 189, 3) := by decide +kernel
theorem dX10_takePerson_23 : decode cX10_takePerson 23 = .ok (.iconst 1, 1) := by decide +kernel
theorem dX10_takePerson_24 : decode cX10_takePerson 24 = .ok (.isub, 1) := by decide +kernel
theorem dX10_takePerson_25 : decode cX10_takePerson 25 = .ok (.invokevirtual 192, 3) := by decide +kernel
theorem dX10_takePerson_28 : decode cX10_takePerson 28 = .ok (.istore_n 2, 1) := by decide +kernel
theorem dX10_takePerson_29 : decode cX10_takePerson 29 = .ok (.iload_n 2, 1) := by decide +kernel
theorem dX10_takePerson_30 : decode cX10_takePerson 30 = .ok (.ifCond .le 7, 3) := by decide +kernel
theorem dX10_takePerson_33 : decode cX10_takePerson 33 = .ok (.iload_n 2, 1) := by decide +kernel
theorem dX10_takePerson_34 : decode cX10_takePerson 34 = .ok (.goto 19, 3) := by decide +kernel
theorem dX10_takePerson_37 : decode cX10_takePerson 37 = .ok (.aload_n 0, 1) := by decide +kernel
theorem dX10_takePerson_38 : decode cX10_takePerson 38 = .ok (.aload_n 0, 1) := by decide +kernel
theorem dX10_takePerson_39 : decode cX10_takePerson 39 = .ok (.getfield 53, 3) := by decide +kernel
theorem dX10_takePerson_42 : decode cX10_takePerson 42 = .ok (.iload_n 1, 1) := by decide +kernel
theorem dX10_takePerson_43 : decode cX10_takePerson 43 = .ok (.iconst 0, 1) := by decide +kernel
theorem dX10_takePerson_44 : decode cX10_takePerson 44 = .ok (.aload_n 0, 1) := by decide +kernel
theorem dX10_takePerson_45 : decode cX10_takePerson 45 = .ok (.getfield 189, 3) := by decide +kernel
theorem dX10_takePerson_48 : decode cX10_takePerson 48 = .ok (.iconst 1, 1) := by decide +kernel
theorem dX10_takePerson_49 : decode cX10_takePerson 49 = .ok (.isub, 1) := by decide +kernel
theorem dX10_takePerson_50 : decode cX10_takePerson 50 = .ok (.invokevirtual 192, 3) := by decide +kernel
theorem dX10_takePerson_53 : decode cX10_takePerson 53 = .ok (.istore_n 2, 1) := by decide +kernel
theorem dX10_takePerson_54 : decode cX10_takePerson 54 = .ok (.iload_n 2, 1) := by decide +kernel
theorem dX10_takePerson_55 : decode cX10_takePerson 55 = .ok (.ifCond .le 7, 3) := by decide +kernel
theorem dX10_takePerson_58 : decode cX10_takePerson 58 = .ok (.iload_n 2, 1) := by decide +kernel
theorem dX10_takePerson_59 : decode cX10_takePerson 59 = .ok (.goto 15, 3) := by decide +kernel
theorem dX10_takePerson_62 : decode cX10_takePerson 62 = .ok (.aload_n 0, 1) := by decide +kernel
theorem dX10_takePerson_63 : decode cX10_takePerson 63 = .ok (.aload_n 0, 1) := by decide +kernel
theorem dX10_takePerson_64 : decode cX10_takePerson 64 = .ok (.getfield 56, 3) := by decide +kernel
theorem dX10_takePerson_67 : decode cX10_takePerson 67 = .ok (.iload_n 1, 1) := by decide +kernel
theorem dX10_takePerson_68 : decode cX10_takePerson 68 = .ok (.iconst 0, 1) := by decide +kernel
theorem dX10_takePerson_69 : decode cX10_takePerson 69 = .ok (.bipush 99, 2) := by decide +kernel
theorem dX10_takePerson_71 : decode cX10_takePerson 71 = .ok (.invokevirtual 192, 3) := by decide +kernel
theorem dX10_takePerson_74 : decode cX10_takePerson 74 = .ok (.istore_n 2, 1) := by decide +kernel
theorem dX10_takePerson_75 : decode cX10_takePerson 75 = .ok (.iload_n 2, 1) := by decide +kernel
theorem dX10_takePerson_76 : decode cX10_takePerson 76 = .ok (.ifCond .le 7, 3) := by decide +kernel
theorem dX10_takePerson_79 : decode cX10_takePerson 79 = .ok (.iload_n 2, 1) := by decide +kernel
theorem dX10_takePerson_80 : decode cX10_takePerson 80 = .ok (.goto 7, 3) := by decide +kernel
theorem dX10_takePerson_83 : decode cX10_takePerson 83 = .ok (.aload_n 0, 1) := by decide +kernel
theorem dX10_takePerson_84 : decode cX10_takePerson 84 = .ok (.invokevirtual 214, 3) := by decide +kernel
theorem dX10_takePerson_87 : decode cX10_takePerson 87 = .ok (.istore_n 2, 1) := by decide +kernel
theorem dX10_takePerson_88 : decode cX10_takePerson 88 = .ok (.iload_n 2, 1) := by decide +kernel
theorem dX10_takePerson_89 : decode cX10_takePerson 89 = .ok (.ifCond .ne 44, 3) := by decide +kernel
theorem dX10_takePerson_92 : decode cX10_takePerson 92 = .ok (.aload_n 0, 1) := by decide +kernel
theorem dX10_takePerson_93 : decode cX10_takePerson 93 = .ok (.invokevirtual 196, 3) := by decide +kernel
theorem dX10_takePerson_96 : decode cX10_takePerson 96 = .ok (.aload_n 0, 1) := by decide +kernel
theorem dX10_takePerson_97 : decode cX10_takePerson 97 = .ok (.getfield 150, 3) := by decide +kernel
theorem dX10_takePerson_100 : decode cX10_takePerson 100 = .ok (.bipush 107, 2) := by decide +kernel
theorem dX10_takePerson_102 : decode cX10_takePerson 102 = .ok (.bipush 110, 2) := by decide +kernel
theorem dX10_takePerson_104 : decode cX10_takePerson 104 = .ok (.bipush 111, 2) := by decide +kernel
theorem dX10_takePerson_106 : decode cX10_takePerson 106 = .ok (.invokestatic 199, 3) := by decide +kernel
theorem dX10_takePerson_109 : decode cX10_takePerson 109 = .ok (.bipush 119, 2) := by decide +kernel
theorem dX10_takePerson_111 : decode cX10_takePerson 111 = .ok (.bipush 115, 2) := by decide +kernel
theorem dX10_takePerson_113 : decode cX10_takePerson 113 = .ok (.invokestatic 203, 3) := by decide +kernel
theorem dX10_takePerson_116 : decode cX10_takePerson 116 = .ok (.lcmp, 1) := by decide +kernel
theorem dX10_takePerson_117 : decode cX10_takePerson 117 = .ok (.ifCond .ne 16, 3) := by decide +kernel
theorem dX10_takePerson_120 : decode cX10_takePerson 120 = .ok (.aload_n 0, 1) := by decide +kernel
theorem dX10_takePerson_121 : decode cX10_takePerson 121 = .ok (.aload_n 0, 1) := by decide +kernel
theorem dX10_takePerson_122 : decode cX10_takePerson 122 = .ok (.getfield 154, 3) := by decide +kernel
theorem dX10_takePerson_125 : decode cX10_takePerson 125 = .ok (.putfield 143, 3) := by decide +kernel
theorem dX10_takePerson_128 : decode cX10_takePerson 128 = .ok (.aload_n 0, 1) := by decide +kernel
theorem dX10_takePerson_129 : decode cX10_takePerson 129 = .ok (.invokevirtual 217, 3) := by decide +kernel
theorem dX10_takePerson_132 : decode cX10_takePerson 132 = .ok (.istore_n 2, 1) := by decide +kernel
theorem dX10_takePerson_133 : decode cX10_takePerson 133 = .ok (.aload_n 0, 1) := by decide +kernel
theorem dX10_takePerson_134 : decode cX10_takePerson 134 = .ok (.dup, 1) := by decide +kernel
theorem dX10_takePerson_135 : decode cX10_takePerson 135 = .ok (.getfield 207, 3) := by decide +kernel
theorem dX10_takePerson_138 : decode cX10_takePerson 138 = .ok (.iconst 1, 1) := by decide +kernel
theorem dX10_takePerson_139 : decode cX10_takePerson 139 = .ok (.iadd, 1) := by decide +kernel
theorem dX10_takePerson_140 : decode cX10_takePerson 140 = .ok (.putfield 207, 3) := by decide +kernel
theorem dX10_takePerson_143 : decode cX10_takePerson 143 = .ok (.iload_n 2, 1) := by decide +kernel
theorem dX10_takePerson_144 : decode cX10_takePerson 144 = .ok (.ireturn, 1) := by decide +kernel
theorem dX10_takeClause_0 : decode cX10_takeClause 0 = .ok (.aload_n 0, 1) := by decide +kernel
theorem dX10_takeClause_1 : decode cX10_takeClause 1 = .ok (.invokevirtual 196, 3) := by decide +kernel
theorem dX10_takeClause_4 : decode cX10_takeClause 4 = .ok (.aload_n 0, 1) := by decide +kernel
theorem dX10_takeClause_5 : decode cX10_takeClause 5 = .ok (.getfield 150, 3) := by decide +kernel
theorem dX10_takeClause_8 : decode cX10_takeClause 8 = .ok (.bipush 112, 2) := by decide +kernel
theorem dX10_takeClause_10 : decode cX10_takeClause 10 = .ok (.bipush 108, 2) := by decide +kernel
theorem dX10_takeClause_12 : decode cX10_takeClause 12 = .ok (.bipush 97, 2) := by decide +kernel
theorem dX10_takeClause_14 : decode cX10_takeClause 14 = .ok (.invokestatic 199, 3) := by decide +kernel
theorem dX10_takeClause_17 : decode cX10_takeClause 17 = .ok (.bipush 99, 2) := by decide +kernel
theorem dX10_takeClause_19 : decode cX10_takeClause 19 = .ok (.bipush 101, 2) := by decide +kernel
theorem dX10_takeClause_21 : decode cX10_takeClause 21 = .ok (.invokestatic 203, 3) := by decide +kernel
theorem dX10_takeClause_24 : decode cX10_takeClause 24 = .ok (.bipush 115, 2) := by decide +kernel
theorem dX10_takeClause_26 : decode cX10_takeClause 26 = .ok (.iconst 0, 1) := by decide +kernel
theorem dX10_takeClause_27 : decode cX10_takeClause 27 = .ok (.invokestatic 203, 3) := by decide +kernel
theorem dX10_takeClause_30 : decode cX10_takeClause 30 = .ok (.lcmp, 1) := by decide +kernel
theorem dX10_takeClause_31 : decode cX10_takeClause 31 = .ok (.ifCond .ne 7, 3) := by decide +kernel
theorem dX10_takeClause_34 : decode cX10_takeClause 34 = .ok (.iconst 0, 1) := by decide +kernel
theorem dX10_takeClause_35 : decode cX10_takeClause 35 = .ok (.goto 59, 3) := by decide +kernel
theorem dX10_takeClause_38 : decode cX10_takeClause 38 = .ok (.aload_n 0, 1) := by decide +kernel
theorem dX10_takeClause_39 : decode cX10_takeClause 39 = .ok (.getfield 150, 3) := by decide +kernel
theorem dX10_takeClause_42 : decode cX10_takeClause 42 = .ok (.bipush 119, 2) := by decide +kernel
theorem dX10_takeClause_44 : decode cX10_takeClause 44 = .ok (.bipush 97, 2) := by decide +kernel
theorem dX10_takeClause_46 : decode cX10_takeClause 46 = .ok (.bipush 121, 2) := by decide +kernel
theorem dX10_takeClause_48 : decode cX10_takeClause 48 = .ok (.invokestatic 199, 3) := by decide +kernel
theorem dX10_takeClause_51 : decode cX10_takeClause 51 = .ok (.lcmp, 1) := by decide +kernel
theorem dX10_takeClause_52 : decode cX10_takeClause 52 = .ok (.ifCond .ne 7, 3) := by decide +kernel
theorem dX10_takeClause_55 : decode cX10_takeClause 55 = .ok (.iconst 1, 1) := by decide +kernel
theorem dX10_takeClause_56 : decode cX10_takeClause 56 = .ok (.goto 38, 3) := by decide +kernel
theorem dX10_takeClause_59 : decode cX10_takeClause 59 = .ok (.aload_n 0, 1) := by decide +kernel
theorem dX10_takeClause_60 : decode cX10_takeClause 60 = .ok (.getfield 150, 3) := by decide +kernel
theorem dX10_takeClause_63 : decode cX10_takeClause 63 = .ok (.bipush 112, 2) := by decide +kernel
theorem dX10_takeClause_65 : decode cX10_takeClause 65 = .ok (.bipush 101, 2) := by decide +kernel
theorem dX10_takeClause_67 : decode cX10_takeClause 67 = .ok (.bipush 114, 2) := by decide +kernel
theorem dX10_takeClause_69 : decode cX10_takeClause 69 = .ok (.invokestatic 199, 3) := by decide +kernel
theorem dX10_takeClause_72 : decode cX10_takeClause 72 = .ok (.bipush 115, 2) := by decide +kernel
theorem dX10_takeClause_74 : decode cX10_takeClause 74 = .ok (.bipush 111, 2) := by decide +kernel
theorem dX10_takeClause_76 : decode cX10_takeClause 76 = .ok (.invokestatic 203, 3) := by decide +kernel
theorem dX10_takeClause_79 : decode cX10_takeClause 79 = .ok (.bipush 110, 2) := by decide +kernel
theorem dX10_takeClause_81 : decode cX10_takeClause 81 = .ok (.iconst 0, 1) := by decide +kernel
theorem dX10_takeClause_82 : decode cX10_takeClause 82 = .ok (.invokestatic 203, 3) := by decide +kernel
theorem dX10_takeClause_85 : decode cX10_takeClause 85 = .ok (.lcmp, 1) := by decide +kernel
theorem dX10_takeClause_86 : decode cX10_takeClause 86 = .ok (.ifCond .ne 7, 3) := by decide +kernel
theorem dX10_takeClause_89 : decode cX10_takeClause 89 = .ok (.iconst 2, 1) := by decide +kernel
theorem dX10_takeClause_90 : decode cX10_takeClause 90 = .ok (.goto 4, 3) := by decide +kernel
theorem dX10_takeClause_93 : decode cX10_takeClause 93 = .ok (.iconst (-1), 1) := by decide +kernel
theorem dX10_takeClause_94 : decode cX10_takeClause 94 = .ok (.istore_n 1, 1) := by decide +kernel
theorem dX10_takeClause_95 : decode cX10_takeClause 95 = .ok (.iload_n 1, 1) := by decide +kernel
theorem dX10_takeClause_96 : decode cX10_takeClause 96 = .ok (.ifCond .lt 14, 3) := by decide +kernel
theorem dX10_takeClause_99 : decode cX10_takeClause 99 = .ok (.iload_n 1, 1) := by decide +kernel
theorem dX10_takeClause_100 : decode cX10_takeClause 100 = .ok (.ifCond .le 20, 3) := by decide +kernel
theorem dX10_takeClause_103 : decode cX10_takeClause 103 = .ok (.aload_n 0, 1) := by decide +kernel
theorem dX10_takeClause_104 : decode cX10_takeClause 104 = .ok (.getfield 189, 3) := by decide +kernel
theorem dX10_takeClause_107 : decode cX10_takeClause 107 = .ok (.ifCond .ne 13, 3) := by decide +kernel
theorem dX10_takeClause_110 : decode cX10_takeClause 110 = .ok (.aload_n 0, 1) := by decide +kernel
theorem dX10_takeClause_111 : decode cX10_takeClause 111 = .ok (.iconst 1, 1) := by decide +kernel
theorem dX10_takeClause_112 : decode cX10_takeClause 112 = .ok (.aload_n 0, 1) := by decide +kernel
theorem dX10_takeClause_113 : decode cX10_takeClause 113 = .ok (.getfield 143, 3) := by decide +kernel
theorem dX10_takeClause_116 : decode cX10_takeClause 116 = .ok (.invokevirtual 173, 3) := by decide +kernel
theorem dX10_takeClause_119 : decode cX10_takeClause 119 = .ok (.ireturn, 1) := by decide +kernel
theorem dX10_takeClause_120 : decode cX10_takeClause 120 = .ok (.iload_n 1, 1) := by decide +kernel
theorem dX10_takeClause_121 : decode cX10_takeClause 121 = .ok (.ifCond .ne 13, 3) := by decide +kernel
theorem dX10_takeClause_124 : decode cX10_takeClause 124 = .ok (.aload_n 0, 1) := by decide +kernel
theorem dX10_takeClause_125 : decode cX10_takeClause 125 = .ok (.getfield 189, 3) := by decide +kernel
theorem dX10_takeClause_128 : decode cX10_takeClause 128 = .ok (.ifCond .le 42, 3) := by decide +kernel
theorem dX10_takeClause_131 : decode cX10_takeClause 131 = .ok (.goto 29, 3) := by decide +kernel
theorem dX10_takeClause_134 : decode cX10_takeClause 134 = .ok (.iload_n 1, 1) := by decide +kernel
theorem dX10_takeClause_135 : decode cX10_takeClause 135 = .ok (.iconst 1, 1) := by decide +kernel
theorem dX10_takeClause_136 : decode cX10_takeClause 136 = .ok (.if_icmp .ne 15, 3) := by decide +kernel
theorem dX10_takeClause_139 : decode cX10_takeClause 139 = .ok (.aload_n 0, 1) := by decide +kernel
theorem dX10_takeClause_140 : decode cX10_takeClause 140 = .ok (.getfield 186, 3) := by decide +kernel
theorem dX10_takeClause_143 : decode cX10_takeClause 143 = .ok (.bipush 14, 2) := by decide +kernel
theorem dX10_takeClause_145 : decode cX10_takeClause 145 = .ok (.if_icmp .ne 25, 3) := by decide +kernel
theorem dX10_takeClause_148 : decode cX10_takeClause 148 = .ok (.goto 12, 3) := by decide +kernel
theorem dX10_takeClause_151 : decode cX10_takeClause 151 = .ok (.aload_n 0, 1) := by decide +kernel
theorem dX10_takeClause_152 : decode cX10_takeClause 152 = .ok (.getfield 207, 3) := by decide +kernel
theorem dX10_takeClause_155 : decode cX10_takeClause 155 = .ok (.bipush 6, 2) := by decide +kernel
theorem dX10_takeClause_157 : decode cX10_takeClause 157 = .ok (.if_icmp .ne 13, 3) := by decide +kernel
theorem dX10_takeClause_160 : decode cX10_takeClause 160 = .ok (.aload_n 0, 1) := by decide +kernel
theorem dX10_takeClause_161 : decode cX10_takeClause 161 = .ok (.iconst 3, 1) := by decide +kernel
theorem dX10_takeClause_162 : decode cX10_takeClause 162 = .ok (.aload_n 0, 1) := by decide +kernel
theorem dX10_takeClause_163 : decode cX10_takeClause 163 = .ok (.getfield 143, 3) := by decide +kernel
theorem dX10_takeClause_166 : decode cX10_takeClause 166 = .ok (.invokevirtual 173, 3) := by decide +kernel
theorem dX10_takeClause_169 : decode cX10_takeClause 169 = .ok (.ireturn, 1) := by decide +kernel
theorem dX10_takeClause_170 : decode cX10_takeClause 170 = .ok (.aload_n 0, 1) := by decide +kernel
theorem dX10_takeClause_171 : decode cX10_takeClause 171 = .ok (.aload_n 0, 1) := by decide +kernel
theorem dX10_takeClause_172 : decode cX10_takeClause 172 = .ok (.getfield 154, 3) := by decide +kernel
theorem dX10_takeClause_175 : decode cX10_takeClause 175 = .ok (.putfield 143, 3) := by decide +kernel
theorem dX10_takeClause_178 : decode cX10_takeClause 178 = .ok (.iconst 0, 1) := by decide +kernel
theorem dX10_takeClause_179 : decode cX10_takeClause 179 = .ok (.istore_n 2, 1) := by decide +kernel
theorem dX10_takeClause_180 : decode cX10_takeClause 180 = .ok (.iload_n 1, 1) := by decide +kernel
theorem dX10_takeClause_181 : decode cX10_takeClause 181 = .ok (.ifCond .ne 22, 3) := by decide +kernel
theorem dX10_takeClause_184 : decode cX10_takeClause 184 = .ok (.aload_n 0, 1) := by decide +kernel
theorem dX10_takeClause_185 : decode cX10_takeClause 185 = .ok (.iconst 1, 1) := by decide +kernel
theorem dX10_takeClause_186 : decode cX10_takeClause 186 = .ok (.bipush 10, 2) := by decide +kernel
theorem dX10_takeClause_188 : decode cX10_takeClause 188 = .ok (.invokevirtual 183, 3) := by decide +kernel
theorem dX10_takeClause_191 : decode cX10_takeClause 191 = .ok (.istore_n 2, 1) := by decide +kernel
theorem dX10_takeClause_192 : decode cX10_takeClause 192 = .ok (.aload_n 0, 1) := by decide +kernel
theorem dX10_takeClause_193 : decode cX10_takeClause 193 = .ok (.aload_n 0, 1) := by decide +kernel
theorem dX10_takeClause_194 : decode cX10_takeClause 194 = .ok (.getfield 180, 3) := by decide +kernel
theorem dX10_takeClause_197 : decode cX10_takeClause 197 = .ok (.putfield 189, 3) := by decide +kernel
theorem dX10_takeClause_200 : decode cX10_takeClause 200 = .ok (.goto 20, 3) := by decide +kernel
theorem dX10_takeClause_203 : decode cX10_takeClause 203 = .ok (.iload_n 1, 1) := by decide +kernel
theorem dX10_takeClause_204 : decode cX10_takeClause 204 = .ok (.iconst 1, 1) := by decide +kernel
theorem dX10_takeClause_205 : decode cX10_takeClause 205 = .ok (.if_icmp .ne 10, 3) := by decide +kernel
theorem dX10_takeClause_208 : decode cX10_takeClause 208 = .ok (.aload_n 0, 1) := by decide +kernel
theorem dX10_takeClause_209 : decode cX10_takeClause 209 = .ok (.invokevirtual 220, 3) := by decide +kernel
theorem dX10_takeClause_212 : decode cX10_takeClause 212 = .ok (.goto 7, 3) := by decide +kernel
theorem dX10_takeClause_215 : decode cX10_takeClause 215 = .ok (.aload_n 0, 1) := by decide +kernel
theorem dX10_takeClause_216 : decode cX10_takeClause 216 = .ok (.invokevirtual 223, 3) := by decide +kernel
theorem dX10_takeClause_219 : decode cX10_takeClause 219 = .ok (.istore_n 2, 1) := by decide +kernel
theorem dX10_takeClause_220 : decode cX10_takeClause 220 = .ok (.iload_n 2, 1) := by decide +kernel
theorem dX10_takeClause_221 : decode cX10_takeClause 221 = .ok (.ifCond .ne 22, 3) := by decide +kernel
theorem dX10_takeClause_224 : decode cX10_takeClause 224 = .ok (.aload_n 0, 1) := by decide +kernel
theorem dX10_takeClause_225 : decode cX10_takeClause 225 = .ok (.invokevirtual 146, 3) := by decide +kernel
theorem dX10_takeClause_228 : decode cX10_takeClause 228 = .ok (.bipush 59, 2) := by decide +kernel
theorem dX10_takeClause_230 : decode cX10_takeClause 230 = .ok (.if_icmp .eq 13, 3) := by decide +kernel
theorem dX10_takeClause_233 : decode cX10_takeClause 233 = .ok (.aload_n 0, 1) := by decide +kernel
theorem dX10_takeClause_234 : decode cX10_takeClause 234 = .ok (.iconst 1, 1) := by decide +kernel
theorem dX10_takeClause_235 : decode cX10_takeClause 235 = .ok (.aload_n 0, 1) := by decide +kernel
theorem dX10_takeClause_236 : decode cX10_takeClause 236 = .ok (.getfield 143, 3) := by decide +kernel
theorem dX10_takeClause_239 : decode cX10_takeClause 239 = .ok (.invokevirtual 173, 3) := by decide +kernel
theorem dX10_takeClause_242 : decode cX10_takeClause 242 = .ok (.ireturn, 1) := by decide +kernel
theorem dX10_takeClause_243 : decode cX10_takeClause 243 = .ok (.aload_n 0, 1) := by decide +kernel
theorem dX10_takeClause_244 : decode cX10_takeClause 244 = .ok (.dup, 1) := by decide +kernel
theorem dX10_takeClause_245 : decode cX10_takeClause 245 = .ok (.getfield 143, 3) := by decide +kernel
theorem dX10_takeClause_248 : decode cX10_takeClause 248 = .ok (.iconst 1, 1) := by decide +kernel
theorem dX10_takeClause_249 : decode cX10_takeClause 249 = .ok (.iadd, 1) := by decide +kernel
theorem dX10_takeClause_250 : decode cX10_takeClause 250 = .ok (.putfield 143, 3) := by decide +kernel
theorem dX10_takeClause_253 : decode cX10_takeClause 253 = .ok (.iload_n 2, 1) := by decide +kernel
theorem dX10_takeClause_254 : decode cX10_takeClause 254 = .ok (.ireturn, 1) := by decide +kernel
theorem dX10_land_0 : decode cX10_land 0 = .ok (.aload_n 0, 1) := by decide +kernel
theorem dX10_land_1 : decode cX10_land 1 = .ok (.iconst (-1), 1) := by decide +kernel
theorem dX10_land_2 : decode cX10_land 2 = .ok (.putfield 37, 3) := by decide +kernel
theorem dX10_land_5 : decode cX10_land 5 = .ok (.aload_n 0, 1) := by decide +kernel
theorem dX10_land_6 : decode cX10_land 6 = .ok (.iconst 0, 1) := by decide +kernel
theorem dX10_land_7 : decode cX10_land 7 = .ok (.putfield 143, 3) := by decide +kernel
theorem dX10_land_10 : decode cX10_land 10 = .ok (.aload_n 0, 1) := by decide +kernel
theorem dX10_land_11 : decode cX10_land 11 = .ok (.iconst 0, 1) := by decide +kernel
theorem dX10_land_12 : decode cX10_land 12 = .ok (.putfield 189, 3) := by decide +kernel
theorem dX10_land_15 : decode cX10_land 15 = .ok (.aload_n 0, 1) := by decide +kernel
theorem dX10_land_16 : decode cX10_land 16 = .ok (.iconst 0, 1) := by decide +kernel
theorem dX10_land_17 : decode cX10_land 17 = .ok (.putfield 186, 3) := by decide +kernel
theorem dX10_land_20 : decode cX10_land 20 = .ok (.aload_n 0, 1) := by decide +kernel
theorem dX10_land_21 : decode cX10_land 21 = .ok (.iconst 0, 1) := by decide +kernel
theorem dX10_land_22 : decode cX10_land 22 = .ok (.putfield 207, 3) := by decide +kernel
theorem dX10_land_25 : decode cX10_land 25 = .ok (.iconst 0, 1) := by decide +kernel
theorem dX10_land_26 : decode cX10_land 26 = .ok (.istore_n 1, 1) := by decide +kernel
theorem dX10_land_27 : decode cX10_land 27 = .ok (.iload_n 1, 1) := by decide +kernel
theorem dX10_land_28 : decode cX10_land 28 = .ok (.ifCond .ne 18, 3) := by decide +kernel
theorem dX10_land_31 : decode cX10_land 31 = .ok (.aload_n 0, 1) := by decide +kernel
theorem dX10_land_32 : decode cX10_land 32 = .ok (.invokevirtual 146, 3) := by decide +kernel
theorem dX10_land_35 : decode cX10_land 35 = .ok (.ifCond .lt 11, 3) := by decide +kernel
theorem dX10_land_38 : decode cX10_land 38 = .ok (.aload_n 0, 1) := by decide +kernel
theorem dX10_land_39 : decode cX10_land 39 = .ok (.invokevirtual 226, 3) := by decide +kernel
theorem dX10_land_42 : decode cX10_land 42 = .ok (.istore_n 1, 1) := by decide +kernel
theorem dX10_land_43 : decode cX10_land 43 = .ok (.goto (-16), 3) := by decide +kernel
theorem dX10_land_46 : decode cX10_land 46 = .ok (.aload_n 0, 1) := by decide +kernel
theorem dX10_land_47 : decode cX10_land 47 = .ok (.iconst 0, 1) := by decide +kernel
theorem dX10_land_48 : decode cX10_land 48 = .ok (.putfield 137, 3) := by decide +kernel
theorem dX10_land_51 : decode cX10_land 51 = .ok (.iload_n 1, 1) := by decide +kernel
theorem dX10_land_52 : decode cX10_land 52 = .ok (.ifCond .le 8, 3) := by decide +kernel
theorem dX10_land_55 : decode cX10_land 55 = .ok (.bipush (-10), 2) := by decide +kernel
theorem dX10_land_57 : decode cX10_land 57 = .ok (.iload_n 1, 1) := by decide +kernel
theorem dX10_land_58 : decode cX10_land 58 = .ok (.isub, 1) := by decide +kernel
theorem dX10_land_59 : decode cX10_land 59 = .ok (.ireturn, 1) := by decide +kernel
theorem dX10_land_60 : decode cX10_land 60 = .ok (.aload_n 0, 1) := by decide +kernel
theorem dX10_land_61 : decode cX10_land 61 = .ok (.aload_n 0, 1) := by decide +kernel
theorem dX10_land_62 : decode cX10_land 62 = .ok (.getfield 189, 3) := by decide +kernel
theorem dX10_land_65 : decode cX10_land 65 = .ok (.putfield 121, 3) := by decide +kernel
theorem dX10_land_68 : decode cX10_land 68 = .ok (.aload_n 0, 1) := by decide +kernel
theorem dX10_land_69 : decode cX10_land 69 = .ok (.aload_n 0, 1) := by decide +kernel
theorem dX10_land_70 : decode cX10_land 70 = .ok (.getfield 186, 3) := by decide +kernel
theorem dX10_land_73 : decode cX10_land 73 = .ok (.putfield 128, 3) := by decide +kernel
theorem dX10_land_76 : decode cX10_land 76 = .ok (.aload_n 0, 1) := by decide +kernel
theorem dX10_land_77 : decode cX10_land 77 = .ok (.aload_n 0, 1) := by decide +kernel
theorem dX10_land_78 : decode cX10_land 78 = .ok (.getfield 207, 3) := by decide +kernel
theorem dX10_land_81 : decode cX10_land 81 = .ok (.putfield 131, 3) := by decide +kernel
theorem dX10_land_84 : decode cX10_land 84 = .ok (.iconst 0, 1) := by decide +kernel
theorem dX10_land_85 : decode cX10_land 85 = .ok (.istore_n 2, 1) := by decide +kernel
theorem dX10_land_86 : decode cX10_land 86 = .ok (.iload_n 2, 1) := by decide +kernel
theorem dX10_land_87 : decode cX10_land 87 = .ok (.bipush 14, 2) := by decide +kernel
theorem dX10_land_89 : decode cX10_land 89 = .ok (.if_icmp .ge 45, 3) := by decide +kernel
theorem dX10_land_92 : decode cX10_land 92 = .ok (.aload_n 0, 1) := by decide +kernel
theorem dX10_land_93 : decode cX10_land 93 = .ok (.getfield 7, 3) := by decide +kernel
theorem dX10_land_96 : decode cX10_land 96 = .ok (.iload_n 2, 1) := by decide +kernel
theorem dX10_land_97 : decode cX10_land 97 = .ok (.aload_n 0, 1) := by decide +kernel
theorem dX10_land_98 : decode cX10_land 98 = .ok (.getfield 41, 3) := by decide +kernel
theorem dX10_land_101 : decode cX10_land 101 = .ok (.iload_n 2, 1) := by decide +kernel
theorem dX10_land_102 : decode cX10_land 102 = .ok (.iaload, 1) := by decide +kernel
theorem dX10_land_103 : decode cX10_land 103 = .ok (.iastore, 1) := by decide +kernel
theorem dX10_land_104 : decode cX10_land 104 = .ok (.aload_n 0, 1) := by decide +kernel
theorem dX10_land_105 : decode cX10_land 105 = .ok (.getfield 13, 3) := by decide +kernel
theorem dX10_land_108 : decode cX10_land 108 = .ok (.iload_n 2, 1) := by decide +kernel
theorem dX10_land_109 : decode cX10_land 109 = .ok (.aload_n 0, 1) := by decide +kernel
theorem dX10_land_110 : decode cX10_land 110 = .ok (.getfield 44, 3) := by decide +kernel
theorem dX10_land_113 : decode cX10_land 113 = .ok (.iload_n 2, 1) := by decide +kernel
theorem dX10_land_114 : decode cX10_land 114 = .ok (.iaload, 1) := by decide +kernel
theorem dX10_land_115 : decode cX10_land 115 = .ok (.iastore, 1) := by decide +kernel
theorem dX10_land_116 : decode cX10_land 116 = .ok (.aload_n 0, 1) := by decide +kernel
theorem dX10_land_117 : decode cX10_land 117 = .ok (.getfield 16, 3) := by decide +kernel
theorem dX10_land_120 : decode cX10_land 120 = .ok (.iload_n 2, 1) := by decide +kernel
theorem dX10_land_121 : decode cX10_land 121 = .ok (.aload_n 0, 1) := by decide +kernel
theorem dX10_land_122 : decode cX10_land 122 = .ok (.getfield 47, 3) := by decide +kernel
theorem dX10_land_125 : decode cX10_land 125 = .ok (.iload_n 2, 1) := by decide +kernel
theorem dX10_land_126 : decode cX10_land 126 = .ok (.iaload, 1) := by decide +kernel
theorem dX10_land_127 : decode cX10_land 127 = .ok (.iastore, 1) := by decide +kernel
theorem dX10_land_128 : decode cX10_land 128 = .ok (.iinc 2 1, 3) := by decide +kernel
theorem dX10_land_131 : decode cX10_land 131 = .ok (.goto (-45), 3) := by decide +kernel
theorem dX10_land_134 : decode cX10_land 134 = .ok (.iconst 0, 1) := by decide +kernel
theorem dX10_land_135 : decode cX10_land 135 = .ok (.istore_n 2, 1) := by decide +kernel
theorem dX10_land_136 : decode cX10_land 136 = .ok (.iload_n 2, 1) := by decide +kernel
theorem dX10_land_137 : decode cX10_land 137 = .ok (.bipush 6, 2) := by decide +kernel
theorem dX10_land_139 : decode cX10_land 139 = .ok (.if_icmp .ge 69, 3) := by decide +kernel
theorem dX10_land_142 : decode cX10_land 142 = .ok (.aload_n 0, 1) := by decide +kernel
theorem dX10_land_143 : decode cX10_land 143 = .ok (.getfield 19, 3) := by decide +kernel
theorem dX10_land_146 : decode cX10_land 146 = .ok (.iload_n 2, 1) := by decide +kernel
theorem dX10_land_147 : decode cX10_land 147 = .ok (.aload_n 0, 1) := by decide +kernel
theorem dX10_land_148 : decode cX10_land 148 = .ok (.getfield 50, 3) := by decide +kernel
theorem dX10_land_151 : decode cX10_land 151 = .ok (.iload_n 2, 1) := by decide +kernel
theorem dX10_land_152 : decode cX10_land 152 = .ok (.iaload, 1) := by decide +kernel
theorem dX10_land_153 : decode cX10_land 153 = .ok (.iastore, 1) := by decide +kernel
theorem dX10_land_154 : decode cX10_land 154 = .ok (.aload_n 0, 1) := by decide +kernel
theorem dX10_land_155 : decode cX10_land 155 = .ok (.getfield 22, 3) := by decide +kernel
theorem dX10_land_158 : decode cX10_land 158 = .ok (.iload_n 2, 1) := by decide +kernel
theorem dX10_land_159 : decode cX10_land 159 = .ok (.aload_n 0, 1) := by decide +kernel
theorem dX10_land_160 : decode cX10_land 160 = .ok (.getfield 53, 3) := by decide +kernel
theorem dX10_land_163 : decode cX10_land 163 = .ok (.iload_n 2, 1) := by decide +kernel
theorem dX10_land_164 : decode cX10_land 164 = .ok (.iaload, 1) := by decide +kernel
theorem dX10_land_165 : decode cX10_land 165 = .ok (.iastore, 1) := by decide +kernel
theorem dX10_land_166 : decode cX10_land 166 = .ok (.aload_n 0, 1) := by decide +kernel
theorem dX10_land_167 : decode cX10_land 167 = .ok (.getfield 25, 3) := by decide +kernel
theorem dX10_land_170 : decode cX10_land 170 = .ok (.iload_n 2, 1) := by decide +kernel
theorem dX10_land_171 : decode cX10_land 171 = .ok (.aload_n 0, 1) := by decide +kernel
theorem dX10_land_172 : decode cX10_land 172 = .ok (.getfield 56, 3) := by decide +kernel
theorem dX10_land_175 : decode cX10_land 175 = .ok (.iload_n 2, 1) := by decide +kernel
theorem dX10_land_176 : decode cX10_land 176 = .ok (.iaload, 1) := by decide +kernel
theorem dX10_land_177 : decode cX10_land 177 = .ok (.iastore, 1) := by decide +kernel
theorem dX10_land_178 : decode cX10_land 178 = .ok (.aload_n 0, 1) := by decide +kernel
theorem dX10_land_179 : decode cX10_land 179 = .ok (.getfield 28, 3) := by decide +kernel
theorem dX10_land_182 : decode cX10_land 182 = .ok (.iload_n 2, 1) := by decide +kernel
theorem dX10_land_183 : decode cX10_land 183 = .ok (.aload_n 0, 1) := by decide +kernel
theorem dX10_land_184 : decode cX10_land 184 = .ok (.getfield 59, 3) := by decide +kernel
theorem dX10_land_187 : decode cX10_land 187 = .ok (.iload_n 2, 1) := by decide +kernel
theorem dX10_land_188 : decode cX10_land 188 = .ok (.iaload, 1) := by decide +kernel
theorem dX10_land_189 : decode cX10_land 189 = .ok (.iastore, 1) := by decide +kernel
theorem dX10_land_190 : decode cX10_land 190 = .ok (.aload_n 0, 1) := by decide +kernel
theorem dX10_land_191 : decode cX10_land 191 = .ok (.getfield 31, 3) := by decide +kernel
theorem dX10_land_194 : decode cX10_land 194 = .ok (.iload_n 2, 1) := by decide +kernel
theorem dX10_land_195 : decode cX10_land 195 = .ok (.aload_n 0, 1) := by decide +kernel
theorem dX10_land_196 : decode cX10_land 196 = .ok (.getfield 62, 3) := by decide +kernel
theorem dX10_land_199 : decode cX10_land 199 = .ok (.iload_n 2, 1) := by decide +kernel
theorem dX10_land_200 : decode cX10_land 200 = .ok (.iaload, 1) := by decide +kernel
theorem dX10_land_201 : decode cX10_land 201 = .ok (.iastore, 1) := by decide +kernel
theorem dX10_land_202 : decode cX10_land 202 = .ok (.iinc 2 1, 3) := by decide +kernel
theorem dX10_land_205 : decode cX10_land 205 = .ok (.goto (-69), 3) := by decide +kernel
theorem dX10_land_208 : decode cX10_land 208 = .ok (.aload_n 0, 1) := by decide +kernel
theorem dX10_land_209 : decode cX10_land 209 = .ok (.iconst 0, 1) := by decide +kernel
theorem dX10_land_210 : decode cX10_land 210 = .ok (.putfield 229, 3) := by decide +kernel
theorem dX10_land_213 : decode cX10_land 213 = .ok (.aload_n 0, 1) := by decide +kernel
theorem dX10_land_214 : decode cX10_land 214 = .ok (.iconst 0, 1) := by decide +kernel
theorem dX10_land_215 : decode cX10_land 215 = .ok (.putfield 232, 3) := by decide +kernel
theorem dX10_land_218 : decode cX10_land 218 = .ok (.aload_n 0, 1) := by decide +kernel
theorem dX10_land_219 : decode cX10_land 219 = .ok (.getfield 117, 3) := by decide +kernel
theorem dX10_land_222 : decode cX10_land 222 = .ok (.iconst 0, 1) := by decide +kernel
theorem dX10_land_223 : decode cX10_land 223 = .ok (.iconst 0, 1) := by decide +kernel
theorem dX10_land_224 : decode cX10_land 224 = .ok (.bastore, 1) := by decide +kernel
theorem dX10_land_225 : decode cX10_land 225 = .ok (.aload_n 0, 1) := by decide +kernel
theorem dX10_land_226 : decode cX10_land 226 = .ok (.getfield 117, 3) := by decide +kernel
theorem dX10_land_229 : decode cX10_land 229 = .ok (.iconst 1, 1) := by decide +kernel
theorem dX10_land_230 : decode cX10_land 230 = .ok (.iconst 0, 1) := by decide +kernel
theorem dX10_land_231 : decode cX10_land 231 = .ok (.bastore, 1) := by decide +kernel
theorem dX10_land_232 : decode cX10_land 232 = .ok (.aload_n 0, 1) := by decide +kernel
theorem dX10_land_233 : decode cX10_land 233 = .ok (.getfield 121, 3) := by decide +kernel
theorem dX10_land_236 : decode cX10_land 236 = .ok (.ireturn, 1) := by decide +kernel
theorem dX10_fault_0 : decode cX10_fault 0 = .ok (.aload_n 0, 1) := by decide +kernel
theorem dX10_fault_1 : decode cX10_fault 1 = .ok (.getfield 37, 3) := by decide +kernel
theorem dX10_fault_4 : decode cX10_fault 4 = .ok (.ireturn, 1) := by decide +kernel
theorem dX10_told_0 : decode cX10_told 0 = .ok (.iload_n 1, 1) := by decide +kernel
theorem dX10_told_1 : decode cX10_told 1 = .ok (.tableswitch 78 0 6 #[43, 48, 53, 58, 63, 68, 73], 43) := by decide +kernel
theorem dX10_told_44 : decode cX10_told 44 = .ok (.aload_n 0, 1) := by decide +kernel
theorem dX10_told_45 : decode cX10_told 45 = .ok (.getfield 121, 3) := by decide +kernel
theorem dX10_told_48 : decode cX10_told 48 = .ok (.ireturn, 1) := by decide +kernel
theorem dX10_told_49 : decode cX10_told 49 = .ok (.aload_n 0, 1) := by decide +kernel
theorem dX10_told_50 : decode cX10_told 50 = .ok (.getfield 128, 3) := by decide +kernel
theorem dX10_told_53 : decode cX10_told 53 = .ok (.ireturn, 1) := by decide +kernel
theorem dX10_told_54 : decode cX10_told 54 = .ok (.aload_n 0, 1) := by decide +kernel
theorem dX10_told_55 : decode cX10_told 55 = .ok (.getfield 131, 3) := by decide +kernel
theorem dX10_told_58 : decode cX10_told 58 = .ok (.ireturn, 1) := by decide +kernel
theorem dX10_told_59 : decode cX10_told 59 = .ok (.aload_n 0, 1) := by decide +kernel
theorem dX10_told_60 : decode cX10_told 60 = .ok (.getfield 137, 3) := by decide +kernel
theorem dX10_told_63 : decode cX10_told 63 = .ok (.ireturn, 1) := by decide +kernel
theorem dX10_told_64 : decode cX10_told 64 = .ok (.aload_n 0, 1) := by decide +kernel
theorem dX10_told_65 : decode cX10_told 65 = .ok (.getfield 235, 3) := by decide +kernel
theorem dX10_told_68 : decode cX10_told 68 = .ok (.ireturn, 1) := by decide +kernel
theorem dX10_told_69 : decode cX10_told 69 = .ok (.aload_n 0, 1) := by decide +kernel
theorem dX10_told_70 : decode cX10_told 70 = .ok (.getfield 229, 3) := by decide +kernel
theorem dX10_told_73 : decode cX10_told 73 = .ok (.ireturn, 1) := by decide +kernel
theorem dX10_told_74 : decode cX10_told 74 = .ok (.aload_n 0, 1) := by decide +kernel
theorem dX10_told_75 : decode cX10_told 75 = .ok (.getfield 232, 3) := by decide +kernel
theorem dX10_told_78 : decode cX10_told 78 = .ok (.ireturn, 1) := by decide +kernel
theorem dX10_told_79 : decode cX10_told 79 = .ok (.ldc 136, 2) := by decide +kernel
theorem dX10_told_81 : decode cX10_told 81 = .ok (.ireturn, 1) := by decide +kernel
theorem dX10_way_0 : decode cX10_way 0 = .ok (.aload_n 0, 1) := by decide +kernel
theorem dX10_way_1 : decode cX10_way 1 = .ok (.iload_n 1, 1) := by decide +kernel
theorem dX10_way_2 : decode cX10_way 2 = .ok (.invokevirtual 238, 3) := by decide +kernel
theorem dX10_way_5 : decode cX10_way 5 = .ok (.ifCond .ne 6, 3) := by decide +kernel
theorem dX10_way_8 : decode cX10_way 8 = .ok (.ldc 242, 2) := by decide +kernel
theorem dX10_way_10 : decode cX10_way 10 = .ok (.ireturn, 1) := by decide +kernel
theorem dX10_way_11 : decode cX10_way 11 = .ok (.iload_n 2, 1) := by decide +kernel
theorem dX10_way_12 : decode cX10_way 12 = .ok (.ifCond .ne 12, 3) := by decide +kernel
theorem dX10_way_15 : decode cX10_way 15 = .ok (.aload_n 0, 1) := by decide +kernel
theorem dX10_way_16 : decode cX10_way 16 = .ok (.getfield 7, 3) := by decide +kernel
theorem dX10_way_19 : decode cX10_way 19 = .ok (.iload_n 1, 1) := by decide +kernel
theorem dX10_way_20 : decode cX10_way 20 = .ok (.iaload, 1) := by decide +kernel
theorem dX10_way_21 : decode cX10_way 21 = .ok (.goto 33, 3) := by decide +kernel
theorem dX10_way_24 : decode cX10_way 24 = .ok (.iload_n 2, 1) := by decide +kernel
theorem dX10_way_25 : decode cX10_way 25 = .ok (.iconst 1, 1) := by decide +kernel
theorem dX10_way_26 : decode cX10_way 26 = .ok (.if_icmp .ne 12, 3) := by decide +kernel
theorem dX10_way_29 : decode cX10_way 29 = .ok (.aload_n 0, 1) := by decide +kernel
theorem dX10_way_30 : decode cX10_way 30 = .ok (.getfield 13, 3) := by decide +kernel
theorem dX10_way_33 : decode cX10_way 33 = .ok (.iload_n 1, 1) := by decide +kernel
theorem dX10_way_34 : decode cX10_way 34 = .ok (.iaload, 1) := by decide +kernel
theorem dX10_way_35 : decode cX10_way 35 = .ok (.goto 19, 3) := by decide +kernel
theorem dX10_way_38 : decode cX10_way 38 = .ok (.iload_n 2, 1) := by decide +kernel
theorem dX10_way_39 : decode cX10_way 39 = .ok (.iconst 2, 1) := by decide +kernel
theorem dX10_way_40 : decode cX10_way 40 = .ok (.if_icmp .ne 12, 3) := by decide +kernel
theorem dX10_way_43 : decode cX10_way 43 = .ok (.aload_n 0, 1) := by decide +kernel
theorem dX10_way_44 : decode cX10_way 44 = .ok (.getfield 16, 3) := by decide +kernel
theorem dX10_way_47 : decode cX10_way 47 = .ok (.iload_n 1, 1) := by decide +kernel
theorem dX10_way_48 : decode cX10_way 48 = .ok (.iaload, 1) := by decide +kernel
theorem dX10_way_49 : decode cX10_way 49 = .ok (.goto 5, 3) := by decide +kernel
theorem dX10_way_52 : decode cX10_way 52 = .ok (.ldc 136, 2) := by decide +kernel
theorem dX10_way_54 : decode cX10_way 54 = .ok (.ireturn, 1) := by decide +kernel
theorem dX10_person_0 : decode cX10_person 0 = .ok (.aload_n 0, 1) := by decide +kernel
theorem dX10_person_1 : decode cX10_person 1 = .ok (.iload_n 1, 1) := by decide +kernel
theorem dX10_person_2 : decode cX10_person 2 = .ok (.invokevirtual 243, 3) := by decide +kernel
theorem dX10_person_5 : decode cX10_person 5 = .ok (.ifCond .ne 6, 3) := by decide +kernel
theorem dX10_person_8 : decode cX10_person 8 = .ok (.ldc 242, 2) := by decide +kernel
theorem dX10_person_10 : decode cX10_person 10 = .ok (.ireturn, 1) := by decide +kernel
theorem dX10_person_11 : decode cX10_person 11 = .ok (.iload_n 2, 1) := by decide +kernel
theorem dX10_person_12 : decode cX10_person 12 = .ok (.tableswitch 71 0 4 #[36, 43, 50, 57, 64], 36) := by decide +kernel
theorem dX10_person_48 : decode cX10_person 48 = .ok (.aload_n 0, 1) := by decide +kernel
theorem dX10_person_49 : decode cX10_person 49 = .ok (.getfield 19, 3) := by decide +kernel
theorem dX10_person_52 : decode cX10_person 52 = .ok (.iload_n 1, 1) := by decide +kernel
theorem dX10_person_53 : decode cX10_person 53 = .ok (.iaload, 1) := by decide +kernel
theorem dX10_person_54 : decode cX10_person 54 = .ok (.ireturn, 1) := by decide +kernel
theorem dX10_person_55 : decode cX10_person 55 = .ok (.aload_n 0, 1) := by decide +kernel
theorem dX10_person_56 : decode cX10_person 56 = .ok (.getfield 22, 3) := by decide +kernel
theorem dX10_person_59 : decode cX10_person 59 = .ok (.iload_n 1, 1) := by decide +kernel
theorem dX10_person_60 : decode cX10_person 60 = .ok (.iaload, 1) := by decide +kernel
theorem dX10_person_61 : decode cX10_person 61 = .ok (.ireturn, 1) := by decide +kernel
theorem dX10_person_62 : decode cX10_person 62 = .ok (.aload_n 0, 1) := by decide +kernel
theorem dX10_person_63 : decode cX10_person 63 = .ok (.getfield 25, 3) := by decide +kernel
theorem dX10_person_66 : decode cX10_person 66 = .ok (.iload_n 1, 1) := by decide +kernel
theorem dX10_person_67 : decode cX10_person 67 = .ok (.iaload, 1) := by decide +kernel
theorem dX10_person_68 : decode cX10_person 68 = .ok (.ireturn, 1) := by decide +kernel
theorem dX10_person_69 : decode cX10_person 69 = .ok (.aload_n 0, 1) := by decide +kernel
theorem dX10_person_70 : decode cX10_person 70 = .ok (.getfield 28, 3) := by decide +kernel
theorem dX10_person_73 : decode cX10_person 73 = .ok (.iload_n 1, 1) := by decide +kernel
theorem dX10_person_74 : decode cX10_person 74 = .ok (.iaload, 1) := by decide +kernel
theorem dX10_person_75 : decode cX10_person 75 = .ok (.ireturn, 1) := by decide +kernel
theorem dX10_person_76 : decode cX10_person 76 = .ok (.aload_n 0, 1) := by decide +kernel
theorem dX10_person_77 : decode cX10_person 77 = .ok (.getfield 31, 3) := by decide +kernel
theorem dX10_person_80 : decode cX10_person 80 = .ok (.iload_n 1, 1) := by decide +kernel
theorem dX10_person_81 : decode cX10_person 81 = .ok (.iaload, 1) := by decide +kernel
theorem dX10_person_82 : decode cX10_person 82 = .ok (.ireturn, 1) := by decide +kernel
theorem dX10_person_83 : decode cX10_person 83 = .ok (.ldc 136, 2) := by decide +kernel
theorem dX10_person_85 : decode cX10_person 85 = .ok (.ireturn, 1) := by decide +kernel
theorem dX10_law_0 : decode cX10_law 0 = .ok (.iload_n 1, 1) := by decide +kernel
theorem dX10_law_1 : decode cX10_law 1 = .ok (.i2l, 1) := by decide +kernel
theorem dX10_law_2 : decode cX10_law 2 = .ok (.lconst 0, 1) := by decide +kernel
theorem dX10_law_3 : decode cX10_law 3 = .ok (.ldc2_w 246, 3) := by decide +kernel
theorem dX10_law_6 : decode cX10_law 6 = .ok (.invokestatic 124, 3) := by decide +kernel
theorem dX10_law_9 : decode cX10_law 9 = .ok (.ifCond .ne 6, 3) := by decide +kernel
theorem dX10_law_12 : decode cX10_law 12 = .ok (.ldc 136, 2) := by decide +kernel
theorem dX10_law_14 : decode cX10_law 14 = .ok (.ireturn, 1) := by decide +kernel
theorem dX10_law_15 : decode cX10_law 15 = .ok (.aload_n 0, 1) := by decide +kernel
theorem dX10_law_16 : decode cX10_law 16 = .ok (.getfield 235, 3) := by decide +kernel
theorem dX10_law_19 : decode cX10_law 19 = .ok (.istore_n 2, 1) := by decide +kernel
theorem dX10_law_20 : decode cX10_law 20 = .ok (.aload_n 0, 1) := by decide +kernel
theorem dX10_law_21 : decode cX10_law 21 = .ok (.iload_n 1, 1) := by decide +kernel
theorem dX10_law_22 : decode cX10_law 22 = .ok (.putfield 235, 3) := by decide +kernel
theorem dX10_law_25 : decode cX10_law 25 = .ok (.iload_n 2, 1) := by decide +kernel
theorem dX10_law_26 : decode cX10_law 26 = .ok (.ireturn, 1) := by decide +kernel
theorem dX10_learn_0 : decode cX10_learn 0 = .ok (.aload_n 0, 1) := by decide +kernel
theorem dX10_learn_1 : decode cX10_learn 1 = .ok (.iload_n 1, 1) := by decide +kernel
theorem dX10_learn_2 : decode cX10_learn 2 = .ok (.invokevirtual 243, 3) := by decide +kernel
theorem dX10_learn_5 : decode cX10_learn 5 = .ok (.ifCond .eq 11, 3) := by decide +kernel
theorem dX10_learn_8 : decode cX10_learn 8 = .ok (.aload_n 0, 1) := by decide +kernel
theorem dX10_learn_9 : decode cX10_learn 9 = .ok (.iload_n 2, 1) := by decide +kernel
theorem dX10_learn_10 : decode cX10_learn 10 = .ok (.invokevirtual 238, 3) := by decide +kernel
theorem dX10_learn_13 : decode cX10_learn 13 = .ok (.ifCond .ne 6, 3) := by decide +kernel
theorem dX10_learn_16 : decode cX10_learn 16 = .ok (.ldc 242, 2) := by decide +kernel
theorem dX10_learn_18 : decode cX10_learn 18 = .ok (.ireturn, 1) := by decide +kernel
theorem dX10_learn_19 : decode cX10_learn 19 = .ok (.aload_n 0, 1) := by decide +kernel
theorem dX10_learn_20 : decode cX10_learn 20 = .ok (.getfield 31, 3) := by decide +kernel
theorem dX10_learn_23 : decode cX10_learn 23 = .ok (.iload_n 1, 1) := by decide +kernel
theorem dX10_learn_24 : decode cX10_learn 24 = .ok (.iaload, 1) := by decide +kernel
theorem dX10_learn_25 : decode cX10_learn 25 = .ok (.iload_n 2, 1) := by decide +kernel
theorem dX10_learn_26 : decode cX10_learn 26 = .ok (.ishr, 1) := by decide +kernel
theorem dX10_learn_27 : decode cX10_learn 27 = .ok (.iconst 1, 1) := by decide +kernel
theorem dX10_learn_28 : decode cX10_learn 28 = .ok (.iand, 1) := by decide +kernel
theorem dX10_learn_29 : decode cX10_learn 29 = .ok (.istore 4, 2) := by decide +kernel
theorem dX10_learn_31 : decode cX10_learn 31 = .ok (.aload_n 0, 1) := by decide +kernel
theorem dX10_learn_32 : decode cX10_learn 32 = .ok (.getfield 31, 3) := by decide +kernel
theorem dX10_learn_35 : decode cX10_learn 35 = .ok (.iload_n 1, 1) := by decide +kernel
theorem dX10_learn_36 : decode cX10_learn 36 = .ok (.iload_n 3, 1) := by decide +kernel
theorem dX10_learn_37 : decode cX10_learn 37 = .ok (.ifCond .eq 16, 3) := by decide +kernel
theorem dX10_learn_40 : decode cX10_learn 40 = .ok (.aload_n 0, 1) := by decide +kernel
theorem dX10_learn_41 : decode cX10_learn 41 = .ok (.getfield 31, 3) := by decide +kernel
theorem dX10_learn_44 : decode cX10_learn 44 = .ok (.iload_n 1, 1) := by decide +kernel
theorem dX10_learn_45 : decode cX10_learn 45 = .ok (.iaload, 1) := by decide +kernel
theorem dX10_learn_46 : decode cX10_learn 46 = .ok (.iconst 1, 1) := by decide +kernel
theorem dX10_learn_47 : decode cX10_learn 47 = .ok (.iload_n 2, 1) := by decide +kernel
theorem dX10_learn_48 : decode cX10_learn 48 = .ok (.ishl, 1) := by decide +kernel
theorem dX10_learn_49 : decode cX10_learn 49 = .ok (.ior, 1) := by decide +kernel
theorem dX10_learn_50 : decode cX10_learn 50 = .ok (.goto 15, 3) := by decide +kernel
theorem dX10_learn_53 : decode cX10_learn 53 = .ok (.aload_n 0, 1) := by decide +kernel
theorem dX10_learn_54 : decode cX10_learn 54 = .ok (.getfield 31, 3) := by decide +kernel
theorem dX10_learn_57 : decode cX10_learn 57 = .ok (.iload_n 1, 1) := by decide +kernel
theorem dX10_learn_58 : decode cX10_learn 58 = .ok (.iaload, 1) := by decide +kernel
theorem dX10_learn_59 : decode cX10_learn 59 = .ok (.iconst 1, 1) := by decide +kernel
theorem dX10_learn_60 : decode cX10_learn 60 = .ok (.iload_n 2, 1) := by decide +kernel
theorem dX10_learn_61 : decode cX10_learn 61 = .ok (.ishl, 1) := by decide +kernel
theorem dX10_learn_62 : decode cX10_learn 62 = .ok (.iconst (-1), 1) := by decide +kernel
theorem dX10_learn_63 : decode cX10_learn 63 = .ok (.ixor, 1) := by decide +kernel
theorem dX10_learn_64 : decode cX10_learn 64 = .ok (.iand, 1) := by decide +kernel
theorem dX10_learn_65 : decode cX10_learn 65 = .ok (.iastore, 1) := by decide +kernel
theorem dX10_learn_66 : decode cX10_learn 66 = .ok (.iload 4, 2) := by decide +kernel
theorem dX10_learn_68 : decode cX10_learn 68 = .ok (.ireturn, 1) := by decide +kernel
theorem dX10_habit_0 : decode cX10_habit 0 = .ok (.aload_n 0, 1) := by decide +kernel
theorem dX10_habit_1 : decode cX10_habit 1 = .ok (.iload_n 1, 1) := by decide +kernel
theorem dX10_habit_2 : decode cX10_habit 2 = .ok (.invokevirtual 243, 3) := by decide +kernel
theorem dX10_habit_5 : decode cX10_habit 5 = .ok (.ifCond .ne 6, 3) := by decide +kernel
theorem dX10_habit_8 : decode cX10_habit 8 = .ok (.ldc 242, 2) := by decide +kernel
theorem dX10_habit_10 : decode cX10_habit 10 = .ok (.ireturn, 1) := by decide +kernel
theorem dX10_habit_11 : decode cX10_habit 11 = .ok (.iload_n 2, 1) := by decide +kernel
theorem dX10_habit_12 : decode cX10_habit 12 = .ok (.i2l, 1) := by decide +kernel
theorem dX10_habit_13 : decode cX10_habit 13 = .ok (.lconst 0, 1) := by decide +kernel
theorem dX10_habit_14 : decode cX10_habit 14 = .ok (.ldc2_w 246, 3) := by decide +kernel
theorem dX10_habit_17 : decode cX10_habit 17 = .ok (.invokestatic 124, 3) := by decide +kernel
theorem dX10_habit_20 : decode cX10_habit 20 = .ok (.ifCond .ne 6, 3) := by decide +kernel
theorem dX10_habit_23 : decode cX10_habit 23 = .ok (.ldc 136, 2) := by decide +kernel
theorem dX10_habit_25 : decode cX10_habit 25 = .ok (.ireturn, 1) := by decide +kernel
theorem dX10_habit_26 : decode cX10_habit 26 = .ok (.aload_n 0, 1) := by decide +kernel
theorem dX10_habit_27 : decode cX10_habit 27 = .ok (.getfield 28, 3) := by decide +kernel
theorem dX10_habit_30 : decode cX10_habit 30 = .ok (.iload_n 1, 1) := by decide +kernel
theorem dX10_habit_31 : decode cX10_habit 31 = .ok (.iaload, 1) := by decide +kernel
theorem dX10_habit_32 : decode cX10_habit 32 = .ok (.istore_n 3, 1) := by decide +kernel
theorem dX10_habit_33 : decode cX10_habit 33 = .ok (.aload_n 0, 1) := by decide +kernel
theorem dX10_habit_34 : decode cX10_habit 34 = .ok (.getfield 28, 3) := by decide +kernel
theorem dX10_habit_37 : decode cX10_habit 37 = .ok (.iload_n 1, 1) := by decide +kernel
theorem dX10_habit_38 : decode cX10_habit 38 = .ok (.iload_n 2, 1) := by decide +kernel
theorem dX10_habit_39 : decode cX10_habit 39 = .ok (.iastore, 1) := by decide +kernel
theorem dX10_habit_40 : decode cX10_habit 40 = .ok (.iload_n 3, 1) := by decide +kernel
theorem dX10_habit_41 : decode cX10_habit 41 = .ok (.ireturn, 1) := by decide +kernel
theorem dX10_findNeeds_0 : decode cX10_findNeeds 0 = .ok (.iconst 0, 1) := by decide +kernel
theorem dX10_findNeeds_1 : decode cX10_findNeeds 1 = .ok (.istore_n 3, 1) := by decide +kernel
theorem dX10_findNeeds_2 : decode cX10_findNeeds 2 = .ok (.iload_n 3, 1) := by decide +kernel
theorem dX10_findNeeds_3 : decode cX10_findNeeds 3 = .ok (.bipush 10, 2) := by decide +kernel
theorem dX10_findNeeds_5 : decode cX10_findNeeds 5 = .ok (.if_icmp .ge 26, 3) := by decide +kernel
theorem dX10_findNeeds_8 : decode cX10_findNeeds 8 = .ok (.aload_n 0, 1) := by decide +kernel
theorem dX10_findNeeds_9 : decode cX10_findNeeds 9 = .ok (.getfield 65, 3) := by decide +kernel
theorem dX10_findNeeds_12 : decode cX10_findNeeds 12 = .ok (.iload_n 3, 1) := by decide +kernel
theorem dX10_findNeeds_13 : decode cX10_findNeeds 13 = .ok (.iload_n 3, 1) := by decide +kernel
theorem dX10_findNeeds_14 : decode cX10_findNeeds 14 = .ok (.iload_n 2, 1) := by decide +kernel
theorem dX10_findNeeds_15 : decode cX10_findNeeds 15 = .ok (.if_icmp .ne 7, 3) := by decide +kernel
theorem dX10_findNeeds_18 : decode cX10_findNeeds 18 = .ok (.iconst 0, 1) := by decide +kernel
theorem dX10_findNeeds_19 : decode cX10_findNeeds 19 = .ok (.goto 5, 3) := by decide +kernel
theorem dX10_findNeeds_22 : decode cX10_findNeeds 22 = .ok (.ldc 248, 2) := by decide +kernel
theorem dX10_findNeeds_24 : decode cX10_findNeeds 24 = .ok (.iastore, 1) := by decide +kernel
theorem dX10_findNeeds_25 : decode cX10_findNeeds 25 = .ok (.iinc 3 1, 3) := by decide +kernel
theorem dX10_findNeeds_28 : decode cX10_findNeeds 28 = .ok (.goto (-26), 3) := by decide +kernel
theorem dX10_findNeeds_31 : decode cX10_findNeeds 31 = .ok (.iconst 1, 1) := by decide +kernel
theorem dX10_findNeeds_32 : decode cX10_findNeeds 32 = .ok (.istore_n 3, 1) := by decide +kernel
theorem dX10_findNeeds_33 : decode cX10_findNeeds 33 = .ok (.iload_n 3, 1) := by decide +kernel
theorem dX10_findNeeds_34 : decode cX10_findNeeds 34 = .ok (.ifCond .eq 225, 3) := by decide +kernel
theorem dX10_findNeeds_37 : decode cX10_findNeeds 37 = .ok (.iconst 0, 1) := by decide +kernel
theorem dX10_findNeeds_38 : decode cX10_findNeeds 38 = .ok (.istore_n 3, 1) := by decide +kernel
theorem dX10_findNeeds_39 : decode cX10_findNeeds 39 = .ok (.iconst 0, 1) := by decide +kernel
theorem dX10_findNeeds_40 : decode cX10_findNeeds 40 = .ok (.istore 4, 2) := by decide +kernel
theorem dX10_findNeeds_42 : decode cX10_findNeeds 42 = .ok (.iload 4, 2) := by decide +kernel
theorem dX10_findNeeds_44 : decode cX10_findNeeds 44 = .ok (.aload_n 0, 1) := by decide +kernel
theorem dX10_findNeeds_45 : decode cX10_findNeeds 45 = .ok (.getfield 128, 3) := by decide +kernel
theorem dX10_findNeeds_48 : decode cX10_findNeeds 48 = .ok (.if_icmp .ge 208, 3) := by decide +kernel
theorem dX10_findNeeds_51 : decode cX10_findNeeds 51 = .ok (.iload_n 1, 1) := by decide +kernel
theorem dX10_findNeeds_52 : decode cX10_findNeeds 52 = .ok (.iload 4, 2) := by decide +kernel
theorem dX10_findNeeds_54 : decode cX10_findNeeds 54 = .ok (.invokestatic 210, 3) := by decide +kernel
theorem dX10_findNeeds_57 : decode cX10_findNeeds 57 = .ok (.ifCond .eq 193, 3) := by decide +kernel
theorem dX10_findNeeds_60 : decode cX10_findNeeds 60 = .ok (.aload_n 0, 1) := by decide +kernel
theorem dX10_findNeeds_61 : decode cX10_findNeeds 61 = .ok (.getfield 65, 3) := by decide +kernel
theorem dX10_findNeeds_64 : decode cX10_findNeeds 64 = .ok (.aload_n 0, 1) := by decide +kernel
theorem dX10_findNeeds_65 : decode cX10_findNeeds 65 = .ok (.getfield 13, 3) := by decide +kernel
theorem dX10_findNeeds_68 : decode cX10_findNeeds 68 = .ok (.iload 4, 2) := by decide +kernel
theorem dX10_findNeeds_70 : decode cX10_findNeeds 70 = .ok (.iaload, 1) := by decide +kernel
theorem dX10_findNeeds_71 : decode cX10_findNeeds 71 = .ok (.iaload, 1) := by decide +kernel
theorem dX10_findNeeds_72 : decode cX10_findNeeds 72 = .ok (.bipush 16, 2) := by decide +kernel
theorem dX10_findNeeds_74 : decode cX10_findNeeds 74 = .ok (.aload_n 0, 1) := by decide +kernel
theorem dX10_findNeeds_75 : decode cX10_findNeeds 75 = .ok (.getfield 16, 3) := by decide +kernel
theorem dX10_findNeeds_78 : decode cX10_findNeeds 78 = .ok (.iload 4, 2) := by decide +kernel
theorem dX10_findNeeds_80 : decode cX10_findNeeds 80 = .ok (.iaload, 1) := by decide +kernel
theorem dX10_findNeeds_81 : decode cX10_findNeeds 81 = .ok (.imul, 1) := by decide +kernel
theorem dX10_findNeeds_82 : decode cX10_findNeeds 82 = .ok (.iadd, 1) := by decide +kernel
theorem dX10_findNeeds_83 : decode cX10_findNeeds 83 = .ok (.iconst 1, 1) := by decide +kernel
theorem dX10_findNeeds_84 : decode cX10_findNeeds 84 = .ok (.iadd, 1) := by decide +kernel
theorem dX10_findNeeds_85 : decode cX10_findNeeds 85 = .ok (.istore 5, 2) := by decide +kernel
theorem dX10_findNeeds_87 : decode cX10_findNeeds 87 = .ok (.aload_n 0, 1) := by decide +kernel
theorem dX10_findNeeds_88 : decode cX10_findNeeds 88 = .ok (.getfield 65, 3) := by decide +kernel
theorem dX10_findNeeds_91 : decode cX10_findNeeds 91 = .ok (.aload_n 0, 1) := by decide +kernel
theorem dX10_findNeeds_92 : decode cX10_findNeeds 92 = .ok (.getfield 7, 3) := by decide +kernel
theorem dX10_findNeeds_95 : decode cX10_findNeeds 95 = .ok (.iload 4, 2) := by decide +kernel
theorem dX10_findNeeds_97 : decode cX10_findNeeds 97 = .ok (.iaload, 1) := by decide +kernel
theorem dX10_findNeeds_98 : decode cX10_findNeeds 98 = .ok (.iaload, 1) := by decide +kernel
theorem dX10_findNeeds_99 : decode cX10_findNeeds 99 = .ok (.bipush 16, 2) := by decide +kernel
theorem dX10_findNeeds_101 : decode cX10_findNeeds 101 = .ok (.aload_n 0, 1) := by decide +kernel
theorem dX10_findNeeds_102 : decode cX10_findNeeds 102 = .ok (.getfield 16, 3) := by decide +kernel
theorem dX10_findNeeds_105 : decode cX10_findNeeds 105 = .ok (.iload 4, 2) := by decide +kernel
theorem dX10_findNeeds_107 : decode cX10_findNeeds 107 = .ok (.iaload, 1) := by decide +kernel
theorem dX10_findNeeds_108 : decode cX10_findNeeds 108 = .ok (.imul, 1) := by decide +kernel
theorem dX10_findNeeds_109 : decode cX10_findNeeds 109 = .ok (.iadd, 1) := by decide +kernel
theorem dX10_findNeeds_110 : decode cX10_findNeeds 110 = .ok (.iconst 1, 1) := by decide +kernel
theorem dX10_findNeeds_111 : decode cX10_findNeeds 111 = .ok (.iadd, 1) := by decide +kernel
theorem dX10_findNeeds_112 : decode cX10_findNeeds 112 = .ok (.istore 6, 2) := by decide +kernel
theorem dX10_findNeeds_114 : decode cX10_findNeeds 114 = .ok (.iload_n 3, 1) := by decide +kernel
theorem dX10_findNeeds_115 : decode cX10_findNeeds 115 = .ok (.ifCond .ne 37, 3) := by decide +kernel
theorem dX10_findNeeds_118 : decode cX10_findNeeds 118 = .ok (.iload 5, 2) := by decide +kernel
theorem dX10_findNeeds_120 : decode cX10_findNeeds 120 = .ok (.aload_n 0, 1) := by decide +kernel
theorem dX10_findNeeds_121 : decode cX10_findNeeds 121 = .ok (.getfield 65, 3) := by decide +kernel
theorem dX10_findNeeds_124 : decode cX10_findNeeds 124 = .ok (.aload_n 0, 1) := by decide +kernel
theorem dX10_findNeeds_125 : decode cX10_findNeeds 125 = .ok (.getfield 7, 3) := by decide +kernel
theorem dX10_findNeeds_128 : decode cX10_findNeeds 128 = .ok (.iload 4, 2) := by decide +kernel
theorem dX10_findNeeds_130 : decode cX10_findNeeds 130 = .ok (.iaload, 1) := by decide +kernel
theorem dX10_findNeeds_131 : decode cX10_findNeeds 131 = .ok (.iaload, 1) := by decide +kernel
theorem dX10_findNeeds_132 : decode cX10_findNeeds 132 = .ok (.if_icmp .lt 20, 3) := by decide +kernel
theorem dX10_findNeeds_135 : decode cX10_findNeeds 135 = .ok (.iload 6, 2) := by decide +kernel
theorem dX10_findNeeds_137 : decode cX10_findNeeds 137 = .ok (.aload_n 0, 1) := by decide +kernel
theorem dX10_findNeeds_138 : decode cX10_findNeeds 138 = .ok (.getfield 65, 3) := by decide +kernel
theorem dX10_findNeeds_141 : decode cX10_findNeeds 141 = .ok (.aload_n 0, 1) := by decide +kernel
theorem dX10_findNeeds_142 : decode cX10_findNeeds 142 = .ok (.getfield 13, 3) := by decide +kernel
theorem dX10_findNeeds_145 : decode cX10_findNeeds 145 = .ok (.iload 4, 2) := by decide +kernel
theorem dX10_findNeeds_147 : decode cX10_findNeeds 147 = .ok (.iaload, 1) := by decide +kernel
theorem dX10_findNeeds_148 : decode cX10_findNeeds 148 = .ok (.iaload, 1) := by decide +kernel
theorem dX10_findNeeds_149 : decode cX10_findNeeds 149 = .ok (.if_icmp .ge 7, 3) := by decide +kernel
theorem dX10_findNeeds_152 : decode cX10_findNeeds 152 = .ok (.iconst 1, 1) := by decide +kernel
theorem dX10_findNeeds_153 : decode cX10_findNeeds 153 = .ok (.goto 4, 3) := by decide +kernel
theorem dX10_findNeeds_156 : decode cX10_findNeeds 156 = .ok (.iconst 0, 1) := by decide +kernel
theorem dX10_findNeeds_157 : decode cX10_findNeeds 157 = .ok (.istore_n 3, 1) := by decide +kernel
theorem dX10_findNeeds_158 : decode cX10_findNeeds 158 = .ok (.aload_n 0, 1) := by decide +kernel
theorem dX10_findNeeds_159 : decode cX10_findNeeds 159 = .ok (.getfield 65, 3) := by decide +kernel
theorem dX10_findNeeds_162 : decode cX10_findNeeds 162 = .ok (.aload_n 0, 1) := by decide +kernel
theorem dX10_findNeeds_163 : decode cX10_findNeeds 163 = .ok (.getfield 7, 3) := by decide +kernel
theorem dX10_findNeeds_166 : decode cX10_findNeeds 166 = .ok (.iload 4, 2) := by decide +kernel
theorem dX10_findNeeds_168 : decode cX10_findNeeds 168 = .ok (.iaload, 1) := by decide +kernel
theorem dX10_findNeeds_169 : decode cX10_findNeeds 169 = .ok (.iload 5, 2) := by decide +kernel
theorem dX10_findNeeds_171 : decode cX10_findNeeds 171 = .ok (.aload_n 0, 1) := by decide +kernel
theorem dX10_findNeeds_172 : decode cX10_findNeeds 172 = .ok (.getfield 65, 3) := by decide +kernel
theorem dX10_findNeeds_175 : decode cX10_findNeeds 175 = .ok (.aload_n 0, 1) := by decide +kernel
theorem dX10_findNeeds_176 : decode cX10_findNeeds 176 = .ok (.getfield 7, 3) := by decide +kernel
theorem dX10_findNeeds_179 : decode cX10_findNeeds 179 = .ok (.iload 4, 2) := by decide +kernel
theorem dX10_findNeeds_181 : decode cX10_findNeeds 181 = .ok (.iaload, 1) := by decide +kernel
theorem dX10_findNeeds_182 : decode cX10_findNeeds 182 = .ok (.iaload, 1) := by decide +kernel
theorem dX10_findNeeds_183 : decode cX10_findNeeds 183 = .ok (.if_icmp .ge 8, 3) := by decide +kernel
theorem dX10_findNeeds_186 : decode cX10_findNeeds 186 = .ok (.iload 5, 2) := by decide +kernel
theorem dX10_findNeeds_188 : decode cX10_findNeeds 188 = .ok (.goto 15, 3) := by decide +kernel
theorem dX10_findNeeds_191 : decode cX10_findNeeds 191 = .ok (.aload_n 0, 1) := by decide +kernel
theorem dX10_findNeeds_192 : decode cX10_findNeeds 192 = .ok (.getfield 65, 3) := by decide +kernel
theorem dX10_findNeeds_195 : decode cX10_findNeeds 195 = .ok (.aload_n 0, 1) := by decide +kernel
theorem dX10_findNeeds_196 : decode cX10_findNeeds 196 = .ok (.getfield 7, 3) := by decide +kernel
theorem dX10_findNeeds_199 : decode cX10_findNeeds 199 = .ok (.iload 4, 2) := by decide +kernel
theorem dX10_findNeeds_201 : decode cX10_findNeeds 201 = .ok (.iaload, 1) := by decide +kernel
theorem dX10_findNeeds_202 : decode cX10_findNeeds 202 = .ok (.iaload, 1) := by decide +kernel
theorem dX10_findNeeds_203 : decode cX10_findNeeds 203 = .ok (.iastore, 1) := by decide +kernel
theorem dX10_findNeeds_204 : decode cX10_findNeeds 204 = .ok (.aload_n 0, 1) := by decide +kernel
theorem dX10_findNeeds_205 : decode cX10_findNeeds 205 = .ok (.getfield 65, 3) := by decide +kernel
theorem dX10_findNeeds_208 : decode cX10_findNeeds 208 = .ok (.aload_n 0, 1) := by decide +kernel
theorem dX10_findNeeds_209 : decode cX10_findNeeds 209 = .ok (.getfield 13, 3) := by decide +kernel
theorem dX10_findNeeds_212 : decode cX10_findNeeds 212 = .ok (.iload 4, 2) := by decide +kernel
theorem dX10_findNeeds_214 : decode cX10_findNeeds 214 = .ok (.iaload, 1) := by decide +kernel
theorem dX10_findNeeds_215 : decode cX10_findNeeds 215 = .ok (.iload 6, 2) := by decide +kernel
theorem dX10_findNeeds_217 : decode cX10_findNeeds 217 = .ok (.aload_n 0, 1) := by decide +kernel
theorem dX10_findNeeds_218 : decode cX10_findNeeds 218 = .ok (.getfield 65, 3) := by decide +kernel
theorem dX10_findNeeds_221 : decode cX10_findNeeds 221 = .ok (.aload_n 0, 1) := by decide +kernel
theorem dX10_findNeeds_222 : decode cX10_findNeeds 222 = .ok (.getfield 13, 3) := by decide +kernel
theorem dX10_findNeeds_225 : decode cX10_findNeeds 225 = .ok (.iload 4, 2) := by decide +kernel
theorem dX10_findNeeds_227 : decode cX10_findNeeds 227 = .ok (.iaload, 1) := by decide +kernel
theorem dX10_findNeeds_228 : decode cX10_findNeeds 228 = .ok (.iaload, 1) := by decide +kernel
theorem dX10_findNeeds_229 : decode cX10_findNeeds 229 = .ok (.if_icmp .ge 8, 3) := by decide +kernel
theorem dX10_findNeeds_232 : decode cX10_findNeeds 232 = .ok (.iload 6, 2) := by decide +kernel
theorem dX10_findNeeds_234 : decode cX10_findNeeds 234 = .ok (.goto 15, 3) := by decide +kernel
theorem dX10_findNeeds_237 : decode cX10_findNeeds 237 = .ok (.aload_n 0, 1) := by decide +kernel
theorem dX10_findNeeds_238 : decode cX10_findNeeds 238 = .ok (.getfield 65, 3) := by decide +kernel
theorem dX10_findNeeds_241 : decode cX10_findNeeds 241 = .ok (.aload_n 0, 1) := by decide +kernel
theorem dX10_findNeeds_242 : decode cX10_findNeeds 242 = .ok (.getfield 13, 3) := by decide +kernel
theorem dX10_findNeeds_245 : decode cX10_findNeeds 245 = .ok (.iload 4, 2) := by decide +kernel
theorem dX10_findNeeds_247 : decode cX10_findNeeds 247 = .ok (.iaload, 1) := by decide +kernel
theorem dX10_findNeeds_248 : decode cX10_findNeeds 248 = .ok (.iaload, 1) := by decide +kernel
theorem dX10_findNeeds_249 : decode cX10_findNeeds 249 = .ok (.iastore, 1) := by decide +kernel
theorem dX10_findNeeds_250 : decode cX10_findNeeds 250 = .ok (.iinc 4 1, 3) := by decide +kernel
theorem dX10_findNeeds_253 : decode cX10_findNeeds 253 = .ok (.goto (-211), 3) := by decide +kernel
theorem dX10_findNeeds_256 : decode cX10_findNeeds 256 = .ok (.goto (-223), 3) := by decide +kernel
theorem dX10_findNeeds_259 : decode cX10_findNeeds 259 = .ok (.return_, 1) := by decide +kernel
theorem dX10_findRoute_0 : decode cX10_findRoute 0 = .ok (.aload_n 0, 1) := by decide +kernel
theorem dX10_findRoute_1 : decode cX10_findRoute 1 = .ok (.iload_n 1, 1) := by decide +kernel
theorem dX10_findRoute_2 : decode cX10_findRoute 2 = .ok (.iload_n 3, 1) := by decide +kernel
theorem dX10_findRoute_3 : decode cX10_findRoute 3 = .ok (.invokevirtual 249, 3) := by decide +kernel
theorem dX10_findRoute_6 : decode cX10_findRoute 6 = .ok (.aload_n 0, 1) := by decide +kernel
theorem dX10_findRoute_7 : decode cX10_findRoute 7 = .ok (.iconst (-1), 1) := by decide +kernel
theorem dX10_findRoute_8 : decode cX10_findRoute 8 = .ok (.putfield 253, 3) := by decide +kernel
theorem dX10_findRoute_11 : decode cX10_findRoute 11 = .ok (.aload_n 0, 1) := by decide +kernel
theorem dX10_findRoute_12 : decode cX10_findRoute 12 = .ok (.getfield 65, 3) := by decide +kernel
theorem dX10_findRoute_15 : decode cX10_findRoute 15 = .ok (.iload_n 2, 1) := by decide +kernel
theorem dX10_findRoute_16 : decode cX10_findRoute 16 = .ok (.iaload, 1) := by decide +kernel
theorem dX10_findRoute_17 : decode cX10_findRoute 17 = .ok (.ldc 248, 2) := by decide +kernel
theorem dX10_findRoute_19 : decode cX10_findRoute 19 = .ok (.if_icmp .lt 5, 3) := by decide +kernel
theorem dX10_findRoute_22 : decode cX10_findRoute 22 = .ok (.iconst (-1), 1) := by decide +kernel
theorem dX10_findRoute_23 : decode cX10_findRoute 23 = .ok (.ireturn, 1) := by decide +kernel
theorem dX10_findRoute_24 : decode cX10_findRoute 24 = .ok (.aload_n 0, 1) := by decide +kernel
theorem dX10_findRoute_25 : decode cX10_findRoute 25 = .ok (.iconst 0, 1) := by decide +kernel
theorem dX10_findRoute_26 : decode cX10_findRoute 26 = .ok (.putfield 253, 3) := by decide +kernel
theorem dX10_findRoute_29 : decode cX10_findRoute 29 = .ok (.iload_n 2, 1) := by decide +kernel
theorem dX10_findRoute_30 : decode cX10_findRoute 30 = .ok (.istore 4, 2) := by decide +kernel
theorem dX10_findRoute_32 : decode cX10_findRoute 32 = .ok (.iconst 0, 1) := by decide +kernel
theorem dX10_findRoute_33 : decode cX10_findRoute 33 = .ok (.istore 5, 2) := by decide +kernel
theorem dX10_findRoute_35 : decode cX10_findRoute 35 = .ok (.iload 4, 2) := by decide +kernel
theorem dX10_findRoute_37 : decode cX10_findRoute 37 = .ok (.iload_n 3, 1) := by decide +kernel
theorem dX10_findRoute_38 : decode cX10_findRoute 38 = .ok (.if_icmp .eq 212, 3) := by decide +kernel
theorem dX10_findRoute_41 : decode cX10_findRoute 41 = .ok (.bipush 10, 2) := by decide +kernel
theorem dX10_findRoute_43 : decode cX10_findRoute 43 = .ok (.istore 6, 2) := by decide +kernel
theorem dX10_findRoute_45 : decode cX10_findRoute 45 = .ok (.iconst 0, 1) := by decide +kernel
theorem dX10_findRoute_46 : decode cX10_findRoute 46 = .ok (.istore 7, 2) := by decide +kernel
theorem dX10_findRoute_48 : decode cX10_findRoute 48 = .ok (.iconst 0, 1) := by decide +kernel
theorem dX10_findRoute_49 : decode cX10_findRoute 49 = .ok (.istore 8, 2) := by decide +kernel
theorem dX10_findRoute_51 : decode cX10_findRoute 51 = .ok (.iload 8, 2) := by decide +kernel
theorem dX10_findRoute_53 : decode cX10_findRoute 53 = .ok (.aload_n 0, 1) := by decide +kernel
theorem dX10_findRoute_54 : decode cX10_findRoute 54 = .ok (.getfield 128, 3) := by decide +kernel
theorem dX10_findRoute_57 : decode cX10_findRoute 57 = .ok (.if_icmp .ge 147, 3) := by decide +kernel
theorem dX10_findRoute_60 : decode cX10_findRoute 60 = .ok (.aload_n 0, 1) := by decide +kernel
theorem dX10_findRoute_61 : decode cX10_findRoute 61 = .ok (.getfield 7, 3) := by decide +kernel
theorem dX10_findRoute_64 : decode cX10_findRoute 64 = .ok (.iload 8, 2) := by decide +kernel
theorem dX10_findRoute_66 : decode cX10_findRoute 66 = .ok (.iaload, 1) := by decide +kernel
theorem dX10_findRoute_67 : decode cX10_findRoute 67 = .ok (.iload 4, 2) := by decide +kernel
theorem dX10_findRoute_69 : decode cX10_findRoute 69 = .ok (.if_icmp .ne 13, 3) := by decide +kernel
theorem dX10_findRoute_72 : decode cX10_findRoute 72 = .ok (.aload_n 0, 1) := by decide +kernel
theorem dX10_findRoute_73 : decode cX10_findRoute 73 = .ok (.getfield 13, 3) := by decide +kernel
theorem dX10_findRoute_76 : decode cX10_findRoute 76 = .ok (.iload 8, 2) := by decide +kernel
theorem dX10_findRoute_78 : decode cX10_findRoute 78 = .ok (.iaload, 1) := by decide +kernel
theorem dX10_findRoute_79 : decode cX10_findRoute 79 = .ok (.goto 26, 3) := by decide +kernel
theorem dX10_findRoute_82 : decode cX10_findRoute 82 = .ok (.aload_n 0, 1) := by decide +kernel
theorem dX10_findRoute_83 : decode cX10_findRoute 83 = .ok (.getfield 13, 3) := by decide +kernel
theorem dX10_findRoute_86 : decode cX10_findRoute 86 = .ok (.iload 8, 2) := by decide +kernel
theorem dX10_findRoute_88 : decode cX10_findRoute 88 = .ok (.iaload, 1) := by decide +kernel
theorem dX10_findRoute_89 : decode cX10_findRoute 89 = .ok (.iload 4, 2) := by decide +kernel
theorem dX10_findRoute_91 : decode cX10_findRoute 91 = .ok (.if_icmp .ne 13, 3) := by decide +kernel
theorem dX10_findRoute_94 : decode cX10_findRoute 94 = .ok (.aload_n 0, 1) := by decide +kernel
theorem dX10_findRoute_95 : decode cX10_findRoute 95 = .ok (.getfield 7, 3) := by decide +kernel
theorem dX10_findRoute_98 : decode cX10_findRoute 98 = .ok (.iload 8, 2) := by decide +kernel
theorem dX10_findRoute_100 : decode cX10_findRoute 100 = .ok (.iaload, 1) := by decide +kernel
theorem dX10_findRoute_101 : decode cX10_findRoute 101 = .ok (.goto 4, 3) := by decide +kernel
theorem dX10_findRoute_104 : decode cX10_findRoute 104 = .ok (.iconst (-1), 1) := by decide +kernel
theorem dX10_findRoute_105 : decode cX10_findRoute 105 = .ok (.istore 9, 2) := by decide +kernel
theorem dX10_findRoute_107 : decode cX10_findRoute 107 = .ok (.iload 9, 2) := by decide +kernel
theorem dX10_findRoute_109 : decode cX10_findRoute 109 = .ok (.ifCond .lt 53, 3) := by decide +kernel
theorem dX10_findRoute_112 : decode cX10_findRoute 112 = .ok (.iload_n 1, 1) := by decide +kernel
theorem dX10_findRoute_113 : decode cX10_findRoute 113 = .ok (.iload 8, 2) := by decide +kernel
theorem dX10_findRoute_115 : decode cX10_findRoute 115 = .ok (.invokestatic 210, 3) := by decide +kernel
theorem dX10_findRoute_118 : decode cX10_findRoute 118 = .ok (.ifCond .eq 44, 3) := by decide +kernel
theorem dX10_findRoute_121 : decode cX10_findRoute 121 = .ok (.aload_n 0, 1) := by decide +kernel
theorem dX10_findRoute_122 : decode cX10_findRoute 122 = .ok (.getfield 65, 3) := by decide +kernel
theorem dX10_findRoute_125 : decode cX10_findRoute 125 = .ok (.iload 9, 2) := by decide +kernel
theorem dX10_findRoute_127 : decode cX10_findRoute 127 = .ok (.iaload, 1) := by decide +kernel
theorem dX10_findRoute_128 : decode cX10_findRoute 128 = .ok (.bipush 16, 2) := by decide +kernel
theorem dX10_findRoute_130 : decode cX10_findRoute 130 = .ok (.aload_n 0, 1) := by decide +kernel
theorem dX10_findRoute_131 : decode cX10_findRoute 131 = .ok (.getfield 16, 3) := by decide +kernel
theorem dX10_findRoute_134 : decode cX10_findRoute 134 = .ok (.iload 8, 2) := by decide +kernel
theorem dX10_findRoute_136 : decode cX10_findRoute 136 = .ok (.iaload, 1) := by decide +kernel
theorem dX10_findRoute_137 : decode cX10_findRoute 137 = .ok (.imul, 1) := by decide +kernel
theorem dX10_findRoute_138 : decode cX10_findRoute 138 = .ok (.iadd, 1) := by decide +kernel
theorem dX10_findRoute_139 : decode cX10_findRoute 139 = .ok (.iconst 1, 1) := by decide +kernel
theorem dX10_findRoute_140 : decode cX10_findRoute 140 = .ok (.iadd, 1) := by decide +kernel
theorem dX10_findRoute_141 : decode cX10_findRoute 141 = .ok (.aload_n 0, 1) := by decide +kernel
theorem dX10_findRoute_142 : decode cX10_findRoute 142 = .ok (.getfield 65, 3) := by decide +kernel
theorem dX10_findRoute_145 : decode cX10_findRoute 145 = .ok (.iload 4, 2) := by decide +kernel
theorem dX10_findRoute_147 : decode cX10_findRoute 147 = .ok (.iaload, 1) := by decide +kernel
theorem dX10_findRoute_148 : decode cX10_findRoute 148 = .ok (.if_icmp .ne 14, 3) := by decide +kernel
theorem dX10_findRoute_151 : decode cX10_findRoute 151 = .ok (.iload 9, 2) := by decide +kernel
theorem dX10_findRoute_153 : decode cX10_findRoute 153 = .ok (.iload 6, 2) := by decide +kernel
theorem dX10_findRoute_155 : decode cX10_findRoute 155 = .ok (.if_icmp .ge 7, 3) := by decide +kernel
theorem dX10_findRoute_158 : decode cX10_findRoute 158 = .ok (.iconst 1, 1) := by decide +kernel
theorem dX10_findRoute_159 : decode cX10_findRoute 159 = .ok (.goto 4, 3) := by decide +kernel
theorem dX10_findRoute_162 : decode cX10_findRoute 162 = .ok (.iconst 0, 1) := by decide +kernel
theorem dX10_findRoute_163 : decode cX10_findRoute 163 = .ok (.istore 10, 2) := by decide +kernel
theorem dX10_findRoute_165 : decode cX10_findRoute 165 = .ok (.iload 10, 2) := by decide +kernel
theorem dX10_findRoute_167 : decode cX10_findRoute 167 = .ok (.ifCond .eq 8, 3) := by decide +kernel
theorem dX10_findRoute_170 : decode cX10_findRoute 170 = .ok (.iload 9, 2) := by decide +kernel
theorem dX10_findRoute_172 : decode cX10_findRoute 172 = .ok (.goto 5, 3) := by decide +kernel
theorem dX10_findRoute_175 : decode cX10_findRoute 175 = .ok (.iload 6, 2) := by decide +kernel
theorem dX10_findRoute_177 : decode cX10_findRoute 177 = .ok (.istore 6, 2) := by decide +kernel
theorem dX10_findRoute_179 : decode cX10_findRoute 179 = .ok (.iload 10, 2) := by decide +kernel
theorem dX10_findRoute_181 : decode cX10_findRoute 181 = .ok (.ifCond .eq 13, 3) := by decide +kernel
theorem dX10_findRoute_184 : decode cX10_findRoute 184 = .ok (.aload_n 0, 1) := by decide +kernel
theorem dX10_findRoute_185 : decode cX10_findRoute 185 = .ok (.getfield 16, 3) := by decide +kernel
theorem dX10_findRoute_188 : decode cX10_findRoute 188 = .ok (.iload 8, 2) := by decide +kernel
theorem dX10_findRoute_190 : decode cX10_findRoute 190 = .ok (.iaload, 1) := by decide +kernel
theorem dX10_findRoute_191 : decode cX10_findRoute 191 = .ok (.goto 5, 3) := by decide +kernel
theorem dX10_findRoute_194 : decode cX10_findRoute 194 = .ok (.iload 7, 2) := by decide +kernel
theorem dX10_findRoute_196 : decode cX10_findRoute 196 = .ok (.istore 7, 2) := by decide +kernel
theorem dX10_findRoute_198 : decode cX10_findRoute 198 = .ok (.iinc 8 1, 3) := by decide +kernel
theorem dX10_findRoute_201 : decode cX10_findRoute 201 = .ok (.goto (-150), 3) := by decide +kernel
theorem dX10_findRoute_204 : decode cX10_findRoute 204 = .ok (.iload 5, 2) := by decide +kernel
theorem dX10_findRoute_206 : decode cX10_findRoute 206 = .ok (.iload 7, 2) := by decide +kernel
theorem dX10_findRoute_208 : decode cX10_findRoute 208 = .ok (.iadd, 1) := by decide +kernel
theorem dX10_findRoute_209 : decode cX10_findRoute 209 = .ok (.istore 5, 2) := by decide +kernel
theorem dX10_findRoute_211 : decode cX10_findRoute 211 = .ok (.iload 6, 2) := by decide +kernel
theorem dX10_findRoute_213 : decode cX10_findRoute 213 = .ok (.istore 4, 2) := by decide +kernel
theorem dX10_findRoute_215 : decode cX10_findRoute 215 = .ok (.aload_n 0, 1) := by decide +kernel
theorem dX10_findRoute_216 : decode cX10_findRoute 216 = .ok (.getfield 68, 3) := by decide +kernel
theorem dX10_findRoute_219 : decode cX10_findRoute 219 = .ok (.aload_n 0, 1) := by decide +kernel
theorem dX10_findRoute_220 : decode cX10_findRoute 220 = .ok (.getfield 253, 3) := by decide +kernel
theorem dX10_findRoute_223 : decode cX10_findRoute 223 = .ok (.iload 4, 2) := by decide +kernel
theorem dX10_findRoute_225 : decode cX10_findRoute 225 = .ok (.iastore, 1) := by decide +kernel
theorem dX10_findRoute_226 : decode cX10_findRoute 226 = .ok (.aload_n 0, 1) := by decide +kernel
theorem dX10_findRoute_227 : decode cX10_findRoute 227 = .ok (.getfield 71, 3) := by decide +kernel
theorem dX10_findRoute_230 : decode cX10_findRoute 230 = .ok (.aload_n 0, 1) := by decide +kernel
theorem dX10_findRoute_231 : decode cX10_findRoute 231 = .ok (.getfield 253, 3) := by decide +kernel
theorem dX10_findRoute_234 : decode cX10_findRoute 234 = .ok (.iload 5, 2) := by decide +kernel
theorem dX10_findRoute_236 : decode cX10_findRoute 236 = .ok (.iastore, 1) := by decide +kernel
theorem dX10_findRoute_237 : decode cX10_findRoute 237 = .ok (.aload_n 0, 1) := by decide +kernel
theorem dX10_findRoute_238 : decode cX10_findRoute 238 = .ok (.dup, 1) := by decide +kernel
theorem dX10_findRoute_239 : decode cX10_findRoute 239 = .ok (.getfield 253, 3) := by decide +kernel
theorem dX10_findRoute_242 : decode cX10_findRoute 242 = .ok (.iconst 1, 1) := by decide +kernel
theorem dX10_findRoute_243 : decode cX10_findRoute 243 = .ok (.iadd, 1) := by decide +kernel
theorem dX10_findRoute_244 : decode cX10_findRoute 244 = .ok (.putfield 253, 3) := by decide +kernel
theorem dX10_findRoute_247 : decode cX10_findRoute 247 = .ok (.goto (-212), 3) := by decide +kernel
theorem dX10_findRoute_250 : decode cX10_findRoute 250 = .ok (.aload_n 0, 1) := by decide +kernel
theorem dX10_findRoute_251 : decode cX10_findRoute 251 = .ok (.getfield 253, 3) := by decide +kernel
theorem dX10_findRoute_254 : decode cX10_findRoute 254 = .ok (.ireturn, 1) := by decide +kernel
theorem dX10_far_0 : decode cX10_far 0 = .ok (.aload_n 0, 1) := by decide +kernel
theorem dX10_far_1 : decode cX10_far 1 = .ok (.iload_n 1, 1) := by decide +kernel
theorem dX10_far_2 : decode cX10_far 2 = .ok (.invokevirtual 256, 3) := by decide +kernel
theorem dX10_far_5 : decode cX10_far 5 = .ok (.ifCond .eq 11, 3) := by decide +kernel
theorem dX10_far_8 : decode cX10_far 8 = .ok (.aload_n 0, 1) := by decide +kernel
theorem dX10_far_9 : decode cX10_far 9 = .ok (.iload_n 2, 1) := by decide +kernel
theorem dX10_far_10 : decode cX10_far 10 = .ok (.invokevirtual 256, 3) := by decide +kernel
theorem dX10_far_13 : decode cX10_far 13 = .ok (.ifCond .ne 6, 3) := by decide +kernel
theorem dX10_far_16 : decode cX10_far 16 = .ok (.ldc 242, 2) := by decide +kernel
theorem dX10_far_18 : decode cX10_far 18 = .ok (.ireturn, 1) := by decide +kernel
theorem dX10_far_19 : decode cX10_far 19 = .ok (.aload_n 0, 1) := by decide +kernel
theorem dX10_far_20 : decode cX10_far 20 = .ok (.iconst 1, 1) := by decide +kernel
theorem dX10_far_21 : decode cX10_far 21 = .ok (.aload_n 0, 1) := by decide +kernel
theorem dX10_far_22 : decode cX10_far 22 = .ok (.getfield 128, 3) := by decide +kernel
theorem dX10_far_25 : decode cX10_far 25 = .ok (.ishl, 1) := by decide +kernel
theorem dX10_far_26 : decode cX10_far 26 = .ok (.iconst 1, 1) := by decide +kernel
theorem dX10_far_27 : decode cX10_far 27 = .ok (.isub, 1) := by decide +kernel
theorem dX10_far_28 : decode cX10_far 28 = .ok (.iload_n 2, 1) := by decide +kernel
theorem dX10_far_29 : decode cX10_far 29 = .ok (.invokevirtual 249, 3) := by decide +kernel
theorem dX10_far_32 : decode cX10_far 32 = .ok (.aload_n 0, 1) := by decide +kernel
theorem dX10_far_33 : decode cX10_far 33 = .ok (.getfield 65, 3) := by decide +kernel
theorem dX10_far_36 : decode cX10_far 36 = .ok (.iload_n 1, 1) := by decide +kernel
theorem dX10_far_37 : decode cX10_far 37 = .ok (.iaload, 1) := by decide +kernel
theorem dX10_far_38 : decode cX10_far 38 = .ok (.ldc 248, 2) := by decide +kernel
theorem dX10_far_40 : decode cX10_far 40 = .ok (.if_icmp .lt 7, 3) := by decide +kernel
theorem dX10_far_43 : decode cX10_far 43 = .ok (.iconst (-1), 1) := by decide +kernel
theorem dX10_far_44 : decode cX10_far 44 = .ok (.goto 12, 3) := by decide +kernel
theorem dX10_far_47 : decode cX10_far 47 = .ok (.aload_n 0, 1) := by decide +kernel
theorem dX10_far_48 : decode cX10_far 48 = .ok (.getfield 65, 3) := by decide +kernel
theorem dX10_far_51 : decode cX10_far 51 = .ok (.iload_n 1, 1) := by decide +kernel
theorem dX10_far_52 : decode cX10_far 52 = .ok (.iaload, 1) := by decide +kernel
theorem dX10_far_53 : decode cX10_far 53 = .ok (.bipush 16, 2) := by decide +kernel
theorem dX10_far_55 : decode cX10_far 55 = .ok (.idiv, 1) := by decide +kernel
theorem dX10_far_56 : decode cX10_far 56 = .ok (.ireturn, 1) := by decide +kernel
theorem dX10_isAsked_0 : decode cX10_isAsked 0 = .ok (.aload_n 0, 1) := by decide +kernel
theorem dX10_isAsked_1 : decode cX10_isAsked 1 = .ok (.iload_n 1, 1) := by decide +kernel
theorem dX10_isAsked_2 : decode cX10_isAsked 2 = .ok (.invokevirtual 243, 3) := by decide +kernel
theorem dX10_isAsked_5 : decode cX10_isAsked 5 = .ok (.ifCond .eq 23, 3) := by decide +kernel
theorem dX10_isAsked_8 : decode cX10_isAsked 8 = .ok (.aload_n 0, 1) := by decide +kernel
theorem dX10_isAsked_9 : decode cX10_isAsked 9 = .ok (.iload_n 2, 1) := by decide +kernel
theorem dX10_isAsked_10 : decode cX10_isAsked 10 = .ok (.invokevirtual 256, 3) := by decide +kernel
theorem dX10_isAsked_13 : decode cX10_isAsked 13 = .ok (.ifCond .eq 15, 3) := by decide +kernel
theorem dX10_isAsked_16 : decode cX10_isAsked 16 = .ok (.aload_n 0, 1) := by decide +kernel
theorem dX10_isAsked_17 : decode cX10_isAsked 17 = .ok (.iload_n 3, 1) := by decide +kernel
theorem dX10_isAsked_18 : decode cX10_isAsked 18 = .ok (.invokevirtual 256, 3) := by decide +kernel
theorem dX10_isAsked_21 : decode cX10_isAsked 21 = .ok (.ifCond .eq 7, 3) := by decide +kernel
theorem dX10_isAsked_24 : decode cX10_isAsked 24 = .ok (.iconst 1, 1) := by decide +kernel
theorem dX10_isAsked_25 : decode cX10_isAsked 25 = .ok (.goto 4, 3) := by decide +kernel
theorem dX10_isAsked_28 : decode cX10_isAsked 28 = .ok (.iconst 0, 1) := by decide +kernel
theorem dX10_isAsked_29 : decode cX10_isAsked 29 = .ok (.ireturn, 1) := by decide +kernel
theorem dX10_route_0 : decode cX10_route 0 = .ok (.aload_n 0, 1) := by decide +kernel
theorem dX10_route_1 : decode cX10_route 1 = .ok (.iload_n 1, 1) := by decide +kernel
theorem dX10_route_2 : decode cX10_route 2 = .ok (.iload_n 2, 1) := by decide +kernel
theorem dX10_route_3 : decode cX10_route 3 = .ok (.iload_n 3, 1) := by decide +kernel
theorem dX10_route_4 : decode cX10_route 4 = .ok (.invokevirtual 259, 3) := by decide +kernel
theorem dX10_route_7 : decode cX10_route 7 = .ok (.ifCond .ne 6, 3) := by decide +kernel
theorem dX10_route_10 : decode cX10_route 10 = .ok (.ldc 242, 2) := by decide +kernel
theorem dX10_route_12 : decode cX10_route 12 = .ok (.ireturn, 1) := by decide +kernel
theorem dX10_route_13 : decode cX10_route 13 = .ok (.aload_n 0, 1) := by decide +kernel
theorem dX10_route_14 : decode cX10_route 14 = .ok (.aload_n 0, 1) := by decide +kernel
theorem dX10_route_15 : decode cX10_route 15 = .ok (.getfield 31, 3) := by decide +kernel
theorem dX10_route_18 : decode cX10_route 18 = .ok (.iload_n 1, 1) := by decide +kernel
theorem dX10_route_19 : decode cX10_route 19 = .ok (.iaload, 1) := by decide +kernel
theorem dX10_route_20 : decode cX10_route 20 = .ok (.iload_n 2, 1) := by decide +kernel
theorem dX10_route_21 : decode cX10_route 21 = .ok (.iload_n 3, 1) := by decide +kernel
theorem dX10_route_22 : decode cX10_route 22 = .ok (.invokevirtual 263, 3) := by decide +kernel
theorem dX10_route_25 : decode cX10_route 25 = .ok (.istore 5, 2) := by decide +kernel
theorem dX10_route_27 : decode cX10_route 27 = .ok (.iload 5, 2) := by decide +kernel
theorem dX10_route_29 : decode cX10_route 29 = .ok (.ifCond .lt 9, 3) := by decide +kernel
theorem dX10_route_32 : decode cX10_route 32 = .ok (.iload 4, 2) := by decide +kernel
theorem dX10_route_34 : decode cX10_route 34 = .ok (.iconst (-1), 1) := by decide +kernel
theorem dX10_route_35 : decode cX10_route 35 = .ok (.if_icmp .ne 6, 3) := by decide +kernel
theorem dX10_route_38 : decode cX10_route 38 = .ok (.iload 5, 2) := by decide +kernel
theorem dX10_route_40 : decode cX10_route 40 = .ok (.ireturn, 1) := by decide +kernel
theorem dX10_route_41 : decode cX10_route 41 = .ok (.iload 4, 2) := by decide +kernel
theorem dX10_route_43 : decode cX10_route 43 = .ok (.bipush (-2), 2) := by decide +kernel
theorem dX10_route_45 : decode cX10_route 45 = .ok (.if_icmp .ne 24, 3) := by decide +kernel
theorem dX10_route_48 : decode cX10_route 48 = .ok (.iload 5, 2) := by decide +kernel
theorem dX10_route_50 : decode cX10_route 50 = .ok (.ifCond .ne 7, 3) := by decide +kernel
theorem dX10_route_53 : decode cX10_route 53 = .ok (.iconst 0, 1) := by decide +kernel
theorem dX10_route_54 : decode cX10_route 54 = .ok (.goto 41, 3) := by decide +kernel
theorem dX10_route_57 : decode cX10_route 57 = .ok (.aload_n 0, 1) := by decide +kernel
theorem dX10_route_58 : decode cX10_route 58 = .ok (.getfield 71, 3) := by decide +kernel
theorem dX10_route_61 : decode cX10_route 61 = .ok (.iload 5, 2) := by decide +kernel
theorem dX10_route_63 : decode cX10_route 63 = .ok (.iconst 1, 1) := by decide +kernel
theorem dX10_route_64 : decode cX10_route 64 = .ok (.isub, 1) := by decide +kernel
theorem dX10_route_65 : decode cX10_route 65 = .ok (.iaload, 1) := by decide +kernel
theorem dX10_route_66 : decode cX10_route 66 = .ok (.goto 29, 3) := by decide +kernel
theorem dX10_route_69 : decode cX10_route 69 = .ok (.iload 4, 2) := by decide +kernel
theorem dX10_route_71 : decode cX10_route 71 = .ok (.i2l, 1) := by decide +kernel
theorem dX10_route_72 : decode cX10_route 72 = .ok (.lconst 0, 1) := by decide +kernel
theorem dX10_route_73 : decode cX10_route 73 = .ok (.iload 5, 2) := by decide +kernel
theorem dX10_route_75 : decode cX10_route 75 = .ok (.iconst 1, 1) := by decide +kernel
theorem dX10_route_76 : decode cX10_route 76 = .ok (.isub, 1) := by decide +kernel
theorem dX10_route_77 : decode cX10_route 77 = .ok (.i2l, 1) := by decide +kernel
theorem dX10_route_78 : decode cX10_route 78 = .ok (.invokestatic 124, 3) := by decide +kernel
theorem dX10_route_81 : decode cX10_route 81 = .ok (.ifCond .eq 13, 3) := by decide +kernel
theorem dX10_route_84 : decode cX10_route 84 = .ok (.aload_n 0, 1) := by decide +kernel
theorem dX10_route_85 : decode cX10_route 85 = .ok (.getfield 68, 3) := by decide +kernel
theorem dX10_route_88 : decode cX10_route 88 = .ok (.iload 4, 2) := by decide +kernel
theorem dX10_route_90 : decode cX10_route 90 = .ok (.iaload, 1) := by decide +kernel
theorem dX10_route_91 : decode cX10_route 91 = .ok (.goto 4, 3) := by decide +kernel
theorem dX10_route_94 : decode cX10_route 94 = .ok (.iconst (-1), 1) := by decide +kernel
theorem dX10_route_95 : decode cX10_route 95 = .ok (.ireturn, 1) := by decide +kernel
theorem dX10_endOf_0 : decode cX10_endOf 0 = .ok (.iload_n 2, 1) := by decide +kernel
theorem dX10_endOf_1 : decode cX10_endOf 1 = .ok (.ifCond .ne 7, 3) := by decide +kernel
theorem dX10_endOf_4 : decode cX10_endOf 4 = .ok (.iload_n 1, 1) := by decide +kernel
theorem dX10_endOf_5 : decode cX10_endOf 5 = .ok (.goto 11, 3) := by decide +kernel
theorem dX10_endOf_8 : decode cX10_endOf 8 = .ok (.aload_n 0, 1) := by decide +kernel
theorem dX10_endOf_9 : decode cX10_endOf 9 = .ok (.getfield 68, 3) := by decide +kernel
theorem dX10_endOf_12 : decode cX10_endOf 12 = .ok (.iload_n 2, 1) := by decide +kernel
theorem dX10_endOf_13 : decode cX10_endOf 13 = .ok (.iconst 1, 1) := by decide +kernel
theorem dX10_endOf_14 : decode cX10_endOf 14 = .ok (.isub, 1) := by decide +kernel
theorem dX10_endOf_15 : decode cX10_endOf 15 = .ok (.iaload, 1) := by decide +kernel
theorem dX10_endOf_16 : decode cX10_endOf 16 = .ok (.ireturn, 1) := by decide +kernel
theorem dX10_longOf_0 : decode cX10_longOf 0 = .ok (.iload_n 1, 1) := by decide +kernel
theorem dX10_longOf_1 : decode cX10_longOf 1 = .ok (.ifCond .ne 7, 3) := by decide +kernel
theorem dX10_longOf_4 : decode cX10_longOf 4 = .ok (.iconst 0, 1) := by decide +kernel
theorem dX10_longOf_5 : decode cX10_longOf 5 = .ok (.goto 11, 3) := by decide +kernel
theorem dX10_longOf_8 : decode cX10_longOf 8 = .ok (.aload_n 0, 1) := by decide +kernel
theorem dX10_longOf_9 : decode cX10_longOf 9 = .ok (.getfield 71, 3) := by decide +kernel
theorem dX10_longOf_12 : decode cX10_longOf 12 = .ok (.iload_n 1, 1) := by decide +kernel
theorem dX10_longOf_13 : decode cX10_longOf 13 = .ok (.iconst 1, 1) := by decide +kernel
theorem dX10_longOf_14 : decode cX10_longOf 14 = .ok (.isub, 1) := by decide +kernel
theorem dX10_longOf_15 : decode cX10_longOf 15 = .ok (.iaload, 1) := by decide +kernel
theorem dX10_longOf_16 : decode cX10_longOf 16 = .ok (.ireturn, 1) := by decide +kernel
theorem dX10_outOf_0 : decode cX10_outOf 0 = .ok (.aload_n 0, 1) := by decide +kernel
theorem dX10_outOf_1 : decode cX10_outOf 1 = .ok (.getfield 235, 3) := by decide +kernel
theorem dX10_outOf_4 : decode cX10_outOf 4 = .ok (.iconst 1, 1) := by decide +kernel
theorem dX10_outOf_5 : decode cX10_outOf 5 = .ok (.if_icmp .ne 15, 3) := by decide +kernel
theorem dX10_outOf_8 : decode cX10_outOf 8 = .ok (.iload_n 1, 1) := by decide +kernel
theorem dX10_outOf_9 : decode cX10_outOf 9 = .ok (.ifCond .le 7, 3) := by decide +kernel
theorem dX10_outOf_12 : decode cX10_outOf 12 = .ok (.iconst 1, 1) := by decide +kernel
theorem dX10_outOf_13 : decode cX10_outOf 13 = .ok (.goto 24, 3) := by decide +kernel
theorem dX10_outOf_16 : decode cX10_outOf 16 = .ok (.iconst 0, 1) := by decide +kernel
theorem dX10_outOf_17 : decode cX10_outOf 17 = .ok (.goto 20, 3) := by decide +kernel
theorem dX10_outOf_20 : decode cX10_outOf 20 = .ok (.aload_n 0, 1) := by decide +kernel
theorem dX10_outOf_21 : decode cX10_outOf 21 = .ok (.getfield 235, 3) := by decide +kernel
theorem dX10_outOf_24 : decode cX10_outOf 24 = .ok (.iconst 3, 1) := by decide +kernel
theorem dX10_outOf_25 : decode cX10_outOf 25 = .ok (.if_icmp .ne 11, 3) := by decide +kernel
theorem dX10_outOf_28 : decode cX10_outOf 28 = .ok (.iload_n 1, 1) := by decide +kernel
theorem dX10_outOf_29 : decode cX10_outOf 29 = .ok (.iconst 1, 1) := by decide +kernel
theorem dX10_outOf_30 : decode cX10_outOf 30 = .ok (.iadd, 1) := by decide +kernel
theorem dX10_outOf_31 : decode cX10_outOf 31 = .ok (.iconst 2, 1) := by decide +kernel
theorem dX10_outOf_32 : decode cX10_outOf 32 = .ok (.idiv, 1) := by decide +kernel
theorem dX10_outOf_33 : decode cX10_outOf 33 = .ok (.goto 4, 3) := by decide +kernel
theorem dX10_outOf_36 : decode cX10_outOf 36 = .ok (.iload_n 1, 1) := by decide +kernel
theorem dX10_outOf_37 : decode cX10_outOf 37 = .ok (.ireturn, 1) := by decide +kernel
theorem dX10_walked_0 : decode cX10_walked 0 = .ok (.aload_n 0, 1) := by decide +kernel
theorem dX10_walked_1 : decode cX10_walked 1 = .ok (.getfield 235, 3) := by decide +kernel
theorem dX10_walked_4 : decode cX10_walked 4 = .ok (.iconst 2, 1) := by decide +kernel
theorem dX10_walked_5 : decode cX10_walked 5 = .ok (.if_icmp .ne 13, 3) := by decide +kernel
theorem dX10_walked_8 : decode cX10_walked 8 = .ok (.iconst 2, 1) := by decide +kernel
theorem dX10_walked_9 : decode cX10_walked 9 = .ok (.aload_n 0, 1) := by decide +kernel
theorem dX10_walked_10 : decode cX10_walked 10 = .ok (.iload_n 1, 1) := by decide +kernel
theorem dX10_walked_11 : decode cX10_walked 11 = .ok (.invokevirtual 267, 3) := by decide +kernel
theorem dX10_walked_14 : decode cX10_walked 14 = .ok (.imul, 1) := by decide +kernel
theorem dX10_walked_15 : decode cX10_walked 15 = .ok (.goto 12, 3) := by decide +kernel
theorem dX10_walked_18 : decode cX10_walked 18 = .ok (.aload_n 0, 1) := by decide +kernel
theorem dX10_walked_19 : decode cX10_walked 19 = .ok (.aload_n 0, 1) := by decide +kernel
theorem dX10_walked_20 : decode cX10_walked 20 = .ok (.iload_n 1, 1) := by decide +kernel
theorem dX10_walked_21 : decode cX10_walked 21 = .ok (.invokevirtual 271, 3) := by decide +kernel
theorem dX10_walked_24 : decode cX10_walked 24 = .ok (.invokevirtual 267, 3) := by decide +kernel
theorem dX10_walked_27 : decode cX10_walked 27 = .ok (.ireturn, 1) := by decide +kernel
theorem dX10_stands_0 : decode cX10_stands 0 = .ok (.aload_n 0, 1) := by decide +kernel
theorem dX10_stands_1 : decode cX10_stands 1 = .ok (.getfield 235, 3) := by decide +kernel
theorem dX10_stands_4 : decode cX10_stands 4 = .ok (.iconst 2, 1) := by decide +kernel
theorem dX10_stands_5 : decode cX10_stands 5 = .ok (.if_icmp .ne 7, 3) := by decide +kernel
theorem dX10_stands_8 : decode cX10_stands 8 = .ok (.iload_n 1, 1) := by decide +kernel
theorem dX10_stands_9 : decode cX10_stands 9 = .ok (.goto 13, 3) := by decide +kernel
theorem dX10_stands_12 : decode cX10_stands 12 = .ok (.aload_n 0, 1) := by decide +kernel
theorem dX10_stands_13 : decode cX10_stands 13 = .ok (.iload_n 1, 1) := by decide +kernel
theorem dX10_stands_14 : decode cX10_stands 14 = .ok (.aload_n 0, 1) := by decide +kernel
theorem dX10_stands_15 : decode cX10_stands 15 = .ok (.iload_n 2, 1) := by decide +kernel
theorem dX10_stands_16 : decode cX10_stands 16 = .ok (.invokevirtual 271, 3) := by decide +kernel
theorem dX10_stands_19 : decode cX10_stands 19 = .ok (.invokevirtual 274, 3) := by decide +kernel
theorem dX10_stands_22 : decode cX10_stands 22 = .ok (.ireturn, 1) := by decide +kernel
theorem dX10_saidBy_0 : decode cX10_saidBy 0 = .ok (.aload_n 0, 1) := by decide +kernel
theorem dX10_saidBy_1 : decode cX10_saidBy 1 = .ok (.aload_n 0, 1) := by decide +kernel
theorem dX10_saidBy_2 : decode cX10_saidBy 2 = .ok (.getfield 31, 3) := by decide +kernel
theorem dX10_saidBy_5 : decode cX10_saidBy 5 = .ok (.iload_n 1, 1) := by decide +kernel
theorem dX10_saidBy_6 : decode cX10_saidBy 6 = .ok (.iaload, 1) := by decide +kernel
theorem dX10_saidBy_7 : decode cX10_saidBy 7 = .ok (.iload_n 2, 1) := by decide +kernel
theorem dX10_saidBy_8 : decode cX10_saidBy 8 = .ok (.iload_n 3, 1) := by decide +kernel
theorem dX10_saidBy_9 : decode cX10_saidBy 9 = .ok (.invokevirtual 263, 3) := by decide +kernel
theorem dX10_saidBy_12 : decode cX10_saidBy 12 = .ok (.istore 4, 2) := by decide +kernel
theorem dX10_saidBy_14 : decode cX10_saidBy 14 = .ok (.iload 4, 2) := by decide +kernel
theorem dX10_saidBy_16 : decode cX10_saidBy 16 = .ok (.iconst 1, 1) := by decide +kernel
theorem dX10_saidBy_17 : decode cX10_saidBy 17 = .ok (.if_icmp .lt 12, 3) := by decide +kernel
theorem dX10_saidBy_20 : decode cX10_saidBy 20 = .ok (.aload_n 0, 1) := by decide +kernel
theorem dX10_saidBy_21 : decode cX10_saidBy 21 = .ok (.getfield 28, 3) := by decide +kernel
theorem dX10_saidBy_24 : decode cX10_saidBy 24 = .ok (.iload_n 1, 1) := by decide +kernel
theorem dX10_saidBy_25 : decode cX10_saidBy 25 = .ok (.iaload, 1) := by decide +kernel
theorem dX10_saidBy_26 : decode cX10_saidBy 26 = .ok (.ifCond .ne 5, 3) := by decide +kernel
theorem dX10_saidBy_29 : decode cX10_saidBy 29 = .ok (.iconst 0, 1) := by decide +kernel
