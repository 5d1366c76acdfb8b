theorem dX8_goesWord_0 : decode cX8_goesWord 0 = .ok (.iconst 0, 1) := by decide +kernel
theorem dX8_goesWord_1 : decode cX8_goesWord 1 = .ok (.istore_n 2, 1) := by decide +kernel
theorem dX8_goesWord_2 : decode cX8_goesWord 2 = .ok (.iload_n 2, 1) := by decide +kernel
theorem dX8_goesWord_3 : decode cX8_goesWord 3 = .ok (.aload_n 0, 1) := by decide +kernel
theorem dX8_goesWord_4 : decode cX8_goesWord 4 = .ok (.getfield 138, 3) := by decide +kernel
theorem dX8_goesWord_7 : decode cX8_goesWord 7 = .ok (.if_icmp .ge 53, 3) := by decide +kernel
theorem dX8_goesWord_10 : decode cX8_goesWord 10 = .ok (.aload_n 0, 1) := by decide +kernel
theorem dX8_goesWord_11 : decode cX8_goesWord 11 = .ok (.getfield 44, 3) := by decide +kernel
theorem dX8_goesWord_14 : decode cX8_goesWord 14 = .ok (.iload_n 2, 1) := by decide +kernel
theorem dX8_goesWord_15 : decode cX8_goesWord 15 = .ok (.aload_n 0, 1) := by decide +kernel
theorem dX8_goesWord_16 : decode cX8_goesWord 16 = .ok (.iload_n 1, 1) := by decide +kernel
theorem dX8_goesWord_17 : decode cX8_goesWord 17 = .ok (.iload_n 2, 1) := by decide +kernel
theorem dX8_goesWord_18 : decode cX8_goesWord 18 = .ok (.iconst 0, 1) := by decide +kernel
theorem dX8_goesWord_19 : decode cX8_goesWord 19 = .ok (.invokevirtual 166, 3) := by decide +kernel
theorem dX8_goesWord_22 : decode cX8_goesWord 22 = .ok (.iastore, 1) := by decide +kernel
theorem dX8_goesWord_23 : decode cX8_goesWord 23 = .ok (.aload_n 0, 1) := by decide +kernel
theorem dX8_goesWord_24 : decode cX8_goesWord 24 = .ok (.getfield 47, 3) := by decide +kernel
theorem dX8_goesWord_27 : decode cX8_goesWord 27 = .ok (.iload_n 2, 1) := by decide +kernel
theorem dX8_goesWord_28 : decode cX8_goesWord 28 = .ok (.aload_n 0, 1) := by decide +kernel
theorem dX8_goesWord_29 : decode cX8_goesWord 29 = .ok (.getfield 32, 3) := by decide +kernel
theorem dX8_goesWord_32 : decode cX8_goesWord 32 = .ok (.iconst 4, 1) := by decide +kernel
theorem dX8_goesWord_33 : decode cX8_goesWord 33 = .ok (.iload_n 1, 1) := by decide +kernel
theorem dX8_goesWord_34 : decode cX8_goesWord 34 = .ok (.imul, 1) := by decide +kernel
theorem dX8_goesWord_35 : decode cX8_goesWord 35 = .ok (.iconst 3, 1) := by decide +kernel
theorem dX8_goesWord_36 : decode cX8_goesWord 36 = .ok (.iadd, 1) := by decide +kernel
theorem dX8_goesWord_37 : decode cX8_goesWord 37 = .ok (.iaload, 1) := by decide +kernel
theorem dX8_goesWord_38 : decode cX8_goesWord 38 = .ok (.iconst 1, 1) := by decide +kernel
theorem dX8_goesWord_39 : decode cX8_goesWord 39 = .ok (.if_icmp .ne 7, 3) := by decide +kernel
theorem dX8_goesWord_42 : decode cX8_goesWord 42 = .ok (.iconst 0, 1) := by decide +kernel
theorem dX8_goesWord_43 : decode cX8_goesWord 43 = .ok (.goto 10, 3) := by decide +kernel
theorem dX8_goesWord_46 : decode cX8_goesWord 46 = .ok (.aload_n 0, 1) := by decide +kernel
theorem dX8_goesWord_47 : decode cX8_goesWord 47 = .ok (.iload_n 1, 1) := by decide +kernel
theorem dX8_goesWord_48 : decode cX8_goesWord 48 = .ok (.iload_n 2, 1) := by decide +kernel
theorem dX8_goesWord_49 : decode cX8_goesWord 49 = .ok (.iconst 1, 1) := by decide +kernel
theorem dX8_goesWord_50 : decode cX8_goesWord 50 = .ok (.invokevirtual 166, 3) := by decide +kernel
theorem dX8_goesWord_53 : decode cX8_goesWord 53 = .ok (.iastore, 1) := by decide +kernel
theorem dX8_goesWord_54 : decode cX8_goesWord 54 = .ok (.iinc 2 1, 3) := by decide +kernel
theorem dX8_goesWord_57 : decode cX8_goesWord 57 = .ok (.goto (-55), 3) := by decide +kernel
theorem dX8_goesWord_60 : decode cX8_goesWord 60 = .ok (.iconst 0, 1) := by decide +kernel
theorem dX8_goesWord_61 : decode cX8_goesWord 61 = .ok (.istore_n 2, 1) := by decide +kernel
theorem dX8_goesWord_62 : decode cX8_goesWord 62 = .ok (.iload_n 2, 1) := by decide +kernel
theorem dX8_goesWord_63 : decode cX8_goesWord 63 = .ok (.aload_n 0, 1) := by decide +kernel
theorem dX8_goesWord_64 : decode cX8_goesWord 64 = .ok (.getfield 138, 3) := by decide +kernel
theorem dX8_goesWord_67 : decode cX8_goesWord 67 = .ok (.if_icmp .ge 105, 3) := by decide +kernel
theorem dX8_goesWord_70 : decode cX8_goesWord 70 = .ok (.aload_n 0, 1) := by decide +kernel
theorem dX8_goesWord_71 : decode cX8_goesWord 71 = .ok (.getfield 41, 3) := by decide +kernel
theorem dX8_goesWord_74 : decode cX8_goesWord 74 = .ok (.iload_n 2, 1) := by decide +kernel
theorem dX8_goesWord_75 : decode cX8_goesWord 75 = .ok (.aload_n 0, 1) := by decide +kernel
theorem dX8_goesWord_76 : decode cX8_goesWord 76 = .ok (.getfield 44, 3) := by decide +kernel
theorem dX8_goesWord_79 : decode cX8_goesWord 79 = .ok (.iload_n 2, 1) := by decide +kernel
theorem dX8_goesWord_80 : decode cX8_goesWord 80 = .ok (.iaload, 1) := by decide +kernel
theorem dX8_goesWord_81 : decode cX8_goesWord 81 = .ok (.iastore, 1) := by decide +kernel
theorem dX8_goesWord_82 : decode cX8_goesWord 82 = .ok (.iconst 0, 1) := by decide +kernel
theorem dX8_goesWord_83 : decode cX8_goesWord 83 = .ok (.istore_n 3, 1) := by decide +kernel
theorem dX8_goesWord_84 : decode cX8_goesWord 84 = .ok (.iload_n 3, 1) := by decide +kernel
theorem dX8_goesWord_85 : decode cX8_goesWord 85 = .ok (.aload_n 0, 1) := by decide +kernel
theorem dX8_goesWord_86 : decode cX8_goesWord 86 = .ok (.getfield 138, 3) := by decide +kernel
theorem dX8_goesWord_89 : decode cX8_goesWord 89 = .ok (.if_icmp .ge 47, 3) := by decide +kernel
theorem dX8_goesWord_92 : decode cX8_goesWord 92 = .ok (.aload_n 0, 1) := by decide +kernel
theorem dX8_goesWord_93 : decode cX8_goesWord 93 = .ok (.getfield 41, 3) := by decide +kernel
theorem dX8_goesWord_96 : decode cX8_goesWord 96 = .ok (.iload_n 2, 1) := by decide +kernel
theorem dX8_goesWord_97 : decode cX8_goesWord 97 = .ok (.dup2, 1) := by decide +kernel
theorem dX8_goesWord_98 : decode cX8_goesWord 98 = .ok (.iaload, 1) := by decide +kernel
theorem dX8_goesWord_99 : decode cX8_goesWord 99 = .ok (.iload_n 3, 1) := by decide +kernel
theorem dX8_goesWord_100 : decode cX8_goesWord 100 = .ok (.iload_n 2, 1) := by decide +kernel
theorem dX8_goesWord_101 : decode cX8_goesWord 101 = .ok (.if_icmp .ne 7, 3) := by decide +kernel
theorem dX8_goesWord_104 : decode cX8_goesWord 104 = .ok (.iconst 0, 1) := by decide +kernel
theorem dX8_goesWord_105 : decode cX8_goesWord 105 = .ok (.goto 23, 3) := by decide +kernel
theorem dX8_goesWord_108 : decode cX8_goesWord 108 = .ok (.aload_n 0, 1) := by decide +kernel
theorem dX8_goesWord_109 : decode cX8_goesWord 109 = .ok (.getfield 29, 3) := by decide +kernel
theorem dX8_goesWord_112 : decode cX8_goesWord 112 = .ok (.iconst 3, 1) := by decide +kernel
theorem dX8_goesWord_113 : decode cX8_goesWord 113 = .ok (.iload_n 2, 1) := by decide +kernel
theorem dX8_goesWord_114 : decode cX8_goesWord 114 = .ok (.imul, 1) := by decide +kernel
theorem dX8_goesWord_115 : decode cX8_goesWord 115 = .ok (.iload_n 3, 1) := by decide +kernel
theorem dX8_goesWord_116 : decode cX8_goesWord 116 = .ok (.iadd, 1) := by decide +kernel
theorem dX8_goesWord_117 : decode cX8_goesWord 117 = .ok (.iaload, 1) := by decide +kernel
theorem dX8_goesWord_118 : decode cX8_goesWord 118 = .ok (.aload_n 0, 1) := by decide +kernel
theorem dX8_goesWord_119 : decode cX8_goesWord 119 = .ok (.getfield 44, 3) := by decide +kernel
theorem dX8_goesWord_122 : decode cX8_goesWord 122 = .ok (.iload_n 3, 1) := by decide +kernel
theorem dX8_goesWord_123 : decode cX8_goesWord 123 = .ok (.iaload, 1) := by decide +kernel
theorem dX8_goesWord_124 : decode cX8_goesWord 124 = .ok (.imul, 1) := by decide +kernel
theorem dX8_goesWord_125 : decode cX8_goesWord 125 = .ok (.bipush 10, 2) := by decide +kernel
theorem dX8_goesWord_127 : decode cX8_goesWord 127 = .ok (.idiv, 1) := by decide +kernel
theorem dX8_goesWord_128 : decode cX8_goesWord 128 = .ok (.iadd, 1) := by decide +kernel
theorem dX8_goesWord_129 : decode cX8_goesWord 129 = .ok (.iastore, 1) := by decide +kernel
theorem dX8_goesWord_130 : decode cX8_goesWord 130 = .ok (.iinc 3 1, 3) := by decide +kernel
theorem dX8_goesWord_133 : decode cX8_goesWord 133 = .ok (.goto (-49), 3) := by decide +kernel
theorem dX8_goesWord_136 : decode cX8_goesWord 136 = .ok (.aload_n 0, 1) := by decide +kernel
theorem dX8_goesWord_137 : decode cX8_goesWord 137 = .ok (.getfield 41, 3) := by decide +kernel
theorem dX8_goesWord_140 : decode cX8_goesWord 140 = .ok (.iload_n 2, 1) := by decide +kernel
theorem dX8_goesWord_141 : decode cX8_goesWord 141 = .ok (.aload_n 0, 1) := by decide +kernel
theorem dX8_goesWord_142 : decode cX8_goesWord 142 = .ok (.getfield 41, 3) := by decide +kernel
theorem dX8_goesWord_145 : decode cX8_goesWord 145 = .ok (.iload_n 2, 1) := by decide +kernel
theorem dX8_goesWord_146 : decode cX8_goesWord 146 = .ok (.iaload, 1) := by decide +kernel
theorem dX8_goesWord_147 : decode cX8_goesWord 147 = .ok (.sipush 1000, 3) := by decide +kernel
theorem dX8_goesWord_150 : decode cX8_goesWord 150 = .ok (.if_icmp .le 9, 3) := by decide +kernel
theorem dX8_goesWord_153 : decode cX8_goesWord 153 = .ok (.sipush 1000, 3) := by decide +kernel
theorem dX8_goesWord_156 : decode cX8_goesWord 156 = .ok (.goto 9, 3) := by decide +kernel
theorem dX8_goesWord_159 : decode cX8_goesWord 159 = .ok (.aload_n 0, 1) := by decide +kernel
theorem dX8_goesWord_160 : decode cX8_goesWord 160 = .ok (.getfield 41, 3) := by decide +kernel
theorem dX8_goesWord_163 : decode cX8_goesWord 163 = .ok (.iload_n 2, 1) := by decide +kernel
theorem dX8_goesWord_164 : decode cX8_goesWord 164 = .ok (.iaload, 1) := by decide +kernel
theorem dX8_goesWord_165 : decode cX8_goesWord 165 = .ok (.iastore, 1) := by decide +kernel
theorem dX8_goesWord_166 : decode cX8_goesWord 166 = .ok (.iinc 2 1, 3) := by decide +kernel
theorem dX8_goesWord_169 : decode cX8_goesWord 169 = .ok (.goto (-107), 3) := by decide +kernel
theorem dX8_goesWord_172 : decode cX8_goesWord 172 = .ok (.iconst 0, 1) := by decide +kernel
theorem dX8_goesWord_173 : decode cX8_goesWord 173 = .ok (.istore_n 2, 1) := by decide +kernel
theorem dX8_goesWord_174 : decode cX8_goesWord 174 = .ok (.iload_n 2, 1) := by decide +kernel
theorem dX8_goesWord_175 : decode cX8_goesWord 175 = .ok (.aload_n 0, 1) := by decide +kernel
theorem dX8_goesWord_176 : decode cX8_goesWord 176 = .ok (.getfield 138, 3) := by decide +kernel
theorem dX8_goesWord_179 : decode cX8_goesWord 179 = .ok (.if_icmp .ge 285, 3) := by decide +kernel
theorem dX8_goesWord_182 : decode cX8_goesWord 182 = .ok (.bipush 69, 2) := by decide +kernel
theorem dX8_goesWord_184 : decode cX8_goesWord 184 = .ok (.istore_n 3, 1) := by decide +kernel
theorem dX8_goesWord_185 : decode cX8_goesWord 185 = .ok (.iload_n 3, 1) := by decide +kernel
theorem dX8_goesWord_186 : decode cX8_goesWord 186 = .ok (.bipush 10, 2) := by decide +kernel
theorem dX8_goesWord_188 : decode cX8_goesWord 188 = .ok (.if_icmp .le 33, 3) := by decide +kernel
theorem dX8_goesWord_191 : decode cX8_goesWord 191 = .ok (.aload_n 0, 1) := by decide +kernel
theorem dX8_goesWord_192 : decode cX8_goesWord 192 = .ok (.getfield 7, 3) := by decide +kernel
theorem dX8_goesWord_195 : decode cX8_goesWord 195 = .ok (.iload_n 1, 1) := by decide +kernel
theorem dX8_goesWord_196 : decode cX8_goesWord 196 = .ok (.iload_n 2, 1) := by decide +kernel
theorem dX8_goesWord_197 : decode cX8_goesWord 197 = .ok (.iload_n 3, 1) := by decide +kernel
theorem dX8_goesWord_198 : decode cX8_goesWord 198 = .ok (.invokestatic 162, 3) := by decide +kernel
theorem dX8_goesWord_201 : decode cX8_goesWord 201 = .ok (.aload_n 0, 1) := by decide +kernel
theorem dX8_goesWord_202 : decode cX8_goesWord 202 = .ok (.getfield 7, 3) := by decide +kernel
theorem dX8_goesWord_205 : decode cX8_goesWord 205 = .ok (.iload_n 1, 1) := by decide +kernel
theorem dX8_goesWord_206 : decode cX8_goesWord 206 = .ok (.iload_n 2, 1) := by decide +kernel
theorem dX8_goesWord_207 : decode cX8_goesWord 207 = .ok (.iload_n 3, 1) := by decide +kernel
theorem dX8_goesWord_208 : decode cX8_goesWord 208 = .ok (.iconst 1, 1) := by decide +kernel
theorem dX8_goesWord_209 : decode cX8_goesWord 209 = .ok (.isub, 1) := by decide +kernel
theorem dX8_goesWord_210 : decode cX8_goesWord 210 = .ok (.invokestatic 162, 3) := by decide +kernel
theorem dX8_goesWord_213 : decode cX8_goesWord 213 = .ok (.iaload, 1) := by decide +kernel
theorem dX8_goesWord_214 : decode cX8_goesWord 214 = .ok (.iastore, 1) := by decide +kernel
theorem dX8_goesWord_215 : decode cX8_goesWord 215 = .ok (.iinc 3 (-1), 3) := by decide +kernel
theorem dX8_goesWord_218 : decode cX8_goesWord 218 = .ok (.goto (-33), 3) := by decide +kernel
theorem dX8_goesWord_221 : decode cX8_goesWord 221 = .ok (.aload_n 0, 1) := by decide +kernel
theorem dX8_goesWord_222 : decode cX8_goesWord 222 = .ok (.getfield 7, 3) := by decide +kernel
theorem dX8_goesWord_225 : decode cX8_goesWord 225 = .ok (.iload_n 1, 1) := by decide +kernel
theorem dX8_goesWord_226 : decode cX8_goesWord 226 = .ok (.iload_n 2, 1) := by decide +kernel
theorem dX8_goesWord_227 : decode cX8_goesWord 227 = .ok (.bipush 10, 2) := by decide +kernel
theorem dX8_goesWord_229 : decode cX8_goesWord 229 = .ok (.invokestatic 162, 3) := by decide +kernel
theorem dX8_goesWord_232 : decode cX8_goesWord 232 = .ok (.iconst 0, 1) := by decide +kernel
theorem dX8_goesWord_233 : decode cX8_goesWord 233 = .ok (.iastore, 1) := by decide +kernel
theorem dX8_goesWord_234 : decode cX8_goesWord 234 = .ok (.aload_n 0, 1) := by decide +kernel
theorem dX8_goesWord_235 : decode cX8_goesWord 235 = .ok (.getfield 7, 3) := by decide +kernel
theorem dX8_goesWord_238 : decode cX8_goesWord 238 = .ok (.iconst 0, 1) := by decide +kernel
theorem dX8_goesWord_239 : decode cX8_goesWord 239 = .ok (.iaload, 1) := by decide +kernel
theorem dX8_goesWord_240 : decode cX8_goesWord 240 = .ok (.iconst 2, 1) := by decide +kernel
theorem dX8_goesWord_241 : decode cX8_goesWord 241 = .ok (.if_icmp .ge 7, 3) := by decide +kernel
theorem dX8_goesWord_244 : decode cX8_goesWord 244 = .ok (.iconst 0, 1) := by decide +kernel
theorem dX8_goesWord_245 : decode cX8_goesWord 245 = .ok (.goto 31, 3) := by decide +kernel
theorem dX8_goesWord_248 : decode cX8_goesWord 248 = .ok (.aload_n 0, 1) := by decide +kernel
theorem dX8_goesWord_249 : decode cX8_goesWord 249 = .ok (.getfield 7, 3) := by decide +kernel
theorem dX8_goesWord_252 : decode cX8_goesWord 252 = .ok (.sipush 950, 3) := by decide +kernel
theorem dX8_goesWord_255 : decode cX8_goesWord 255 = .ok (.sipush 300, 3) := by decide +kernel
theorem dX8_goesWord_258 : decode cX8_goesWord 258 = .ok (.iload_n 1, 1) := by decide +kernel
theorem dX8_goesWord_259 : decode cX8_goesWord 259 = .ok (.imul, 1) := by decide +kernel
theorem dX8_goesWord_260 : decode cX8_goesWord 260 = .ok (.iadd, 1) := by decide +kernel
theorem dX8_goesWord_261 : decode cX8_goesWord 261 = .ok (.bipush 100, 2) := by decide +kernel
theorem dX8_goesWord_263 : decode cX8_goesWord 263 = .ok (.iload_n 2, 1) := by decide +kernel
theorem dX8_goesWord_264 : decode cX8_goesWord 264 = .ok (.imul, 1) := by decide +kernel
theorem dX8_goesWord_265 : decode cX8_goesWord 265 = .ok (.iadd, 1) := by decide +kernel
theorem dX8_goesWord_266 : decode cX8_goesWord 266 = .ok (.aload_n 0, 1) := by decide +kernel
theorem dX8_goesWord_267 : decode cX8_goesWord 267 = .ok (.getfield 7, 3) := by decide +kernel
theorem dX8_goesWord_270 : decode cX8_goesWord 270 = .ok (.iconst 0, 1) := by decide +kernel
theorem dX8_goesWord_271 : decode cX8_goesWord 271 = .ok (.iaload, 1) := by decide +kernel
theorem dX8_goesWord_272 : decode cX8_goesWord 272 = .ok (.iadd, 1) := by decide +kernel
theorem dX8_goesWord_273 : decode cX8_goesWord 273 = .ok (.iconst 2, 1) := by decide +kernel
theorem dX8_goesWord_274 : decode cX8_goesWord 274 = .ok (.isub, 1) := by decide +kernel
theorem dX8_goesWord_275 : decode cX8_goesWord 275 = .ok (.iaload, 1) := by decide +kernel
theorem dX8_goesWord_276 : decode cX8_goesWord 276 = .ok (.istore_n 3, 1) := by decide +kernel
theorem dX8_goesWord_277 : decode cX8_goesWord 277 = .ok (.bipush 10, 2) := by decide +kernel
theorem dX8_goesWord_279 : decode cX8_goesWord 279 = .ok (.istore 4, 2) := by decide +kernel
theorem dX8_goesWord_281 : decode cX8_goesWord 281 = .ok (.iload 4, 2) := by decide +kernel
theorem dX8_goesWord_283 : decode cX8_goesWord 283 = .ok (.bipush 70, 2) := by decide +kernel
theorem dX8_goesWord_285 : decode cX8_goesWord 285 = .ok (.if_icmp .ge 173, 3) := by decide +kernel
theorem dX8_goesWord_288 : decode cX8_goesWord 288 = .ok (.iload_n 1, 1) := by decide +kernel
theorem dX8_goesWord_289 : decode cX8_goesWord 289 = .ok (.iload_n 2, 1) := by decide +kernel
theorem dX8_goesWord_290 : decode cX8_goesWord 290 = .ok (.iload 4, 2) := by decide +kernel
theorem dX8_goesWord_292 : decode cX8_goesWord 292 = .ok (.invokestatic 162, 3) := by decide +kernel
theorem dX8_goesWord_295 : decode cX8_goesWord 295 = .ok (.istore 5, 2) := by decide +kernel
theorem dX8_goesWord_297 : decode cX8_goesWord 297 = .ok (.iload 4, 2) := by decide +kernel
theorem dX8_goesWord_299 : decode cX8_goesWord 299 = .ok (.bipush 13, 2) := by decide +kernel
theorem dX8_goesWord_301 : decode cX8_goesWord 301 = .ok (.bipush 19, 2) := by decide +kernel
theorem dX8_goesWord_303 : decode cX8_goesWord 303 = .ok (.invokestatic 60, 3) := by decide +kernel
theorem dX8_goesWord_306 : decode cX8_goesWord 306 = .ok (.ifCond .eq 58, 3) := by decide +kernel
theorem dX8_goesWord_309 : decode cX8_goesWord 309 = .ok (.aload_n 0, 1) := by decide +kernel
theorem dX8_goesWord_310 : decode cX8_goesWord 310 = .ok (.getfield 7, 3) := by decide +kernel
theorem dX8_goesWord_313 : decode cX8_goesWord 313 = .ok (.iload 5, 2) := by decide +kernel
theorem dX8_goesWord_315 : decode cX8_goesWord 315 = .ok (.dup2, 1) := by decide +kernel
theorem dX8_goesWord_316 : decode cX8_goesWord 316 = .ok (.iaload, 1) := by decide +kernel
theorem dX8_goesWord_317 : decode cX8_goesWord 317 = .ok (.aload_n 0, 1) := by decide +kernel
theorem dX8_goesWord_318 : decode cX8_goesWord 318 = .ok (.getfield 26, 3) := by decide +kernel
theorem dX8_goesWord_321 : decode cX8_goesWord 321 = .ok (.iconst 0, 1) := by decide +kernel
theorem dX8_goesWord_322 : decode cX8_goesWord 322 = .ok (.iaload, 1) := by decide +kernel
theorem dX8_goesWord_323 : decode cX8_goesWord 323 = .ok (.i2l, 1) := by decide +kernel
theorem dX8_goesWord_324 : decode cX8_goesWord 324 = .ok (.aload_n 0, 1) := by decide +kernel
theorem dX8_goesWord_325 : decode cX8_goesWord 325 = .ok (.getfield 41, 3) := by decide +kernel
theorem dX8_goesWord_328 : decode cX8_goesWord 328 = .ok (.iload_n 2, 1) := by decide +kernel
theorem dX8_goesWord_329 : decode cX8_goesWord 329 = .ok (.iaload, 1) := by decide +kernel
theorem dX8_goesWord_330 : decode cX8_goesWord 330 = .ok (.i2l, 1) := by decide +kernel
theorem dX8_goesWord_331 : decode cX8_goesWord 331 = .ok (.lmul, 1) := by decide +kernel
theorem dX8_goesWord_332 : decode cX8_goesWord 332 = .ok (.sipush 1000, 3) := by decide +kernel
theorem dX8_goesWord_335 : decode cX8_goesWord 335 = .ok (.aload_n 0, 1) := by decide +kernel
theorem dX8_goesWord_336 : decode cX8_goesWord 336 = .ok (.getfield 7, 3) := by decide +kernel
theorem dX8_goesWord_339 : decode cX8_goesWord 339 = .ok (.iload 5, 2) := by decide +kernel
theorem dX8_goesWord_341 : decode cX8_goesWord 341 = .ok (.iaload, 1) := by decide +kernel
theorem dX8_goesWord_342 : decode cX8_goesWord 342 = .ok (.isub, 1) := by decide +kernel
theorem dX8_goesWord_343 : decode cX8_goesWord 343 = .ok (.i2l, 1) := by decide +kernel
theorem dX8_goesWord_344 : decode cX8_goesWord 344 = .ok (.lmul, 1) := by decide +kernel
theorem dX8_goesWord_345 : decode cX8_goesWord 345 = .ok (.sipush 1000, 3) := by decide +kernel
theorem dX8_goesWord_348 : decode cX8_goesWord 348 = .ok (.aload_n 0, 1) := by decide +kernel
theorem dX8_goesWord_349 : decode cX8_goesWord 349 = .ok (.getfield 47, 3) := by decide +kernel
theorem dX8_goesWord_352 : decode cX8_goesWord 352 = .ok (.iload_n 2, 1) := by decide +kernel
theorem dX8_goesWord_353 : decode cX8_goesWord 353 = .ok (.iaload, 1) := by decide +kernel
theorem dX8_goesWord_354 : decode cX8_goesWord 354 = .ok (.isub, 1) := by decide +kernel
theorem dX8_goesWord_355 : decode cX8_goesWord 355 = .ok (.i2l, 1) := by decide +kernel
theorem dX8_goesWord_356 : decode cX8_goesWord 356 = .ok (.lmul, 1) := by decide +kernel
theorem dX8_goesWord_357 : decode cX8_goesWord 357 = .ok (.ldc2_w 182, 3) := by decide +kernel
theorem dX8_goesWord_360 : decode cX8_goesWord 360 = .ok (.ldiv, 1) := by decide +kernel
theorem dX8_goesWord_361 : decode cX8_goesWord 361 = .ok (.l2i, 1) := by decide +kernel
theorem dX8_goesWord_362 : decode cX8_goesWord 362 = .ok (.iadd, 1) := by decide +kernel
theorem dX8_goesWord_363 : decode cX8_goesWord 363 = .ok (.iastore, 1) := by decide +kernel
theorem dX8_goesWord_364 : decode cX8_goesWord 364 = .ok (.iload 4, 2) := by decide +kernel
theorem dX8_goesWord_366 : decode cX8_goesWord 366 = .ok (.bipush 20, 2) := by decide +kernel
theorem dX8_goesWord_368 : decode cX8_goesWord 368 = .ok (.if_icmp .ge 38, 3) := by decide +kernel
theorem dX8_goesWord_371 : decode cX8_goesWord 371 = .ok (.aload_n 0, 1) := by decide +kernel
theorem dX8_goesWord_372 : decode cX8_goesWord 372 = .ok (.getfield 7, 3) := by decide +kernel
theorem dX8_goesWord_375 : decode cX8_goesWord 375 = .ok (.iload 5, 2) := by decide +kernel
theorem dX8_goesWord_377 : decode cX8_goesWord 377 = .ok (.dup2, 1) := by decide +kernel
theorem dX8_goesWord_378 : decode cX8_goesWord 378 = .ok (.iaload, 1) := by decide +kernel
theorem dX8_goesWord_379 : decode cX8_goesWord 379 = .ok (.aload_n 0, 1) := by decide +kernel
theorem dX8_goesWord_380 : decode cX8_goesWord 380 = .ok (.getfield 26, 3) := by decide +kernel
theorem dX8_goesWord_383 : decode cX8_goesWord 383 = .ok (.iconst 2, 1) := by decide +kernel
theorem dX8_goesWord_384 : decode cX8_goesWord 384 = .ok (.iaload, 1) := by decide +kernel
theorem dX8_goesWord_385 : decode cX8_goesWord 385 = .ok (.aload_n 0, 1) := by decide +kernel
theorem dX8_goesWord_386 : decode cX8_goesWord 386 = .ok (.getfield 47, 3) := by decide +kernel
theorem dX8_goesWord_389 : decode cX8_goesWord 389 = .ok (.iload_n 2, 1) := by decide +kernel
theorem dX8_goesWord_390 : decode cX8_goesWord 390 = .ok (.iaload, 1) := by decide +kernel
theorem dX8_goesWord_391 : decode cX8_goesWord 391 = .ok (.imul, 1) := by decide +kernel
theorem dX8_goesWord_392 : decode cX8_goesWord 392 = .ok (.aload_n 0, 1) := by decide +kernel
theorem dX8_goesWord_393 : decode cX8_goesWord 393 = .ok (.getfield 7, 3) := by decide +kernel
theorem dX8_goesWord_396 : decode cX8_goesWord 396 = .ok (.iload 5, 2) := by decide +kernel
theorem dX8_goesWord_398 : decode cX8_goesWord 398 = .ok (.iaload, 1) := by decide +kernel
theorem dX8_goesWord_399 : decode cX8_goesWord 399 = .ok (.imul, 1) := by decide +kernel
theorem dX8_goesWord_400 : decode cX8_goesWord 400 = .ok (.sipush 10000, 3) := by decide +kernel
theorem dX8_goesWord_403 : decode cX8_goesWord 403 = .ok (.idiv, 1) := by decide +kernel
theorem dX8_goesWord_404 : decode cX8_goesWord 404 = .ok (.isub, 1) := by decide +kernel
theorem dX8_goesWord_405 : decode cX8_goesWord 405 = .ok (.iastore, 1) := by decide +kernel
theorem dX8_goesWord_406 : decode cX8_goesWord 406 = .ok (.iload 4, 2) := by decide +kernel
theorem dX8_goesWord_408 : decode cX8_goesWord 408 = .ok (.bipush 35, 2) := by decide +kernel
theorem dX8_goesWord_410 : decode cX8_goesWord 410 = .ok (.bipush 50, 2) := by decide +kernel
theorem dX8_goesWord_412 : decode cX8_goesWord 412 = .ok (.invokestatic 60, 3) := by decide +kernel
theorem dX8_goesWord_415 : decode cX8_goesWord 415 = .ok (.ifCond .eq 37, 3) := by decide +kernel
theorem dX8_goesWord_418 : decode cX8_goesWord 418 = .ok (.aload_n 0, 1) := by decide +kernel
theorem dX8_goesWord_419 : decode cX8_goesWord 419 = .ok (.getfield 7, 3) := by decide +kernel
theorem dX8_goesWord_422 : decode cX8_goesWord 422 = .ok (.iload 5, 2) := by decide +kernel
theorem dX8_goesWord_424 : decode cX8_goesWord 424 = .ok (.dup2, 1) := by decide +kernel
theorem dX8_goesWord_425 : decode cX8_goesWord 425 = .ok (.iaload, 1) := by decide +kernel
theorem dX8_goesWord_426 : decode cX8_goesWord 426 = .ok (.aload_n 0, 1) := by decide +kernel
theorem dX8_goesWord_427 : decode cX8_goesWord 427 = .ok (.getfield 26, 3) := by decide +kernel
theorem dX8_goesWord_430 : decode cX8_goesWord 430 = .ok (.iconst 1, 1) := by decide +kernel
theorem dX8_goesWord_431 : decode cX8_goesWord 431 = .ok (.iaload, 1) := by decide +kernel
theorem dX8_goesWord_432 : decode cX8_goesWord 432 = .ok (.iload_n 3, 1) := by decide +kernel
theorem dX8_goesWord_433 : decode cX8_goesWord 433 = .ok (.imul, 1) := by decide +kernel
theorem dX8_goesWord_434 : decode cX8_goesWord 434 = .ok (.sipush 1000, 3) := by decide +kernel
theorem dX8_goesWord_437 : decode cX8_goesWord 437 = .ok (.aload_n 0, 1) := by decide +kernel
theorem dX8_goesWord_438 : decode cX8_goesWord 438 = .ok (.getfield 7, 3) := by decide +kernel
theorem dX8_goesWord_441 : decode cX8_goesWord 441 = .ok (.iload 5, 2) := by decide +kernel
theorem dX8_goesWord_443 : decode cX8_goesWord 443 = .ok (.iaload, 1) := by decide +kernel
theorem dX8_goesWord_444 : decode cX8_goesWord 444 = .ok (.isub, 1) := by decide +kernel
theorem dX8_goesWord_445 : decode cX8_goesWord 445 = .ok (.imul, 1) := by decide +kernel
theorem dX8_goesWord_446 : decode cX8_goesWord 446 = .ok (.sipush 10000, 3) := by decide +kernel
theorem dX8_goesWord_449 : decode cX8_goesWord 449 = .ok (.idiv, 1) := by decide +kernel
theorem dX8_goesWord_450 : decode cX8_goesWord 450 = .ok (.iadd, 1) := by decide +kernel
theorem dX8_goesWord_451 : decode cX8_goesWord 451 = .ok (.iastore, 1) := by decide +kernel
theorem dX8_goesWord_452 : decode cX8_goesWord 452 = .ok (.iinc 4 1, 3) := by decide +kernel
theorem dX8_goesWord_455 : decode cX8_goesWord 455 = .ok (.goto (-174), 3) := by decide +kernel
theorem dX8_goesWord_458 : decode cX8_goesWord 458 = .ok (.iinc 2 1, 3) := by decide +kernel
theorem dX8_goesWord_461 : decode cX8_goesWord 461 = .ok (.goto (-287), 3) := by decide +kernel
theorem dX8_goesWord_464 : decode cX8_goesWord 464 = .ok (.return_, 1) := by decide +kernel
theorem dX8_goesBy_0 : decode cX8_goesBy 0 = .ok (.iconst 0, 1) := by decide +kernel
theorem dX8_goesBy_1 : decode cX8_goesBy 1 = .ok (.istore_n 1, 1) := by decide +kernel
theorem dX8_goesBy_2 : decode cX8_goesBy 2 = .ok (.iload_n 1, 1) := by decide +kernel
theorem dX8_goesBy_3 : decode cX8_goesBy 3 = .ok (.aload_n 0, 1) := by decide +kernel
theorem dX8_goesBy_4 : decode cX8_goesBy 4 = .ok (.getfield 141, 3) := by decide +kernel
theorem dX8_goesBy_7 : decode cX8_goesBy 7 = .ok (.if_icmp .ge 22, 3) := by decide +kernel
theorem dX8_goesBy_10 : decode cX8_goesBy 10 = .ok (.aload_n 0, 1) := by decide +kernel
theorem dX8_goesBy_11 : decode cX8_goesBy 11 = .ok (.iload_n 1, 1) := by decide +kernel
theorem dX8_goesBy_12 : decode cX8_goesBy 12 = .ok (.invokevirtual 159, 3) := by decide +kernel
theorem dX8_goesBy_15 : decode cX8_goesBy 15 = .ok (.ifCond .eq 8, 3) := by decide +kernel
theorem dX8_goesBy_18 : decode cX8_goesBy 18 = .ok (.aload_n 0, 1) := by decide +kernel
theorem dX8_goesBy_19 : decode cX8_goesBy 19 = .ok (.iload_n 1, 1) := by decide +kernel
theorem dX8_goesBy_20 : decode cX8_goesBy 20 = .ok (.invokevirtual 184, 3) := by decide +kernel
theorem dX8_goesBy_23 : decode cX8_goesBy 23 = .ok (.iinc 1 1, 3) := by decide +kernel
theorem dX8_goesBy_26 : decode cX8_goesBy 26 = .ok (.goto (-24), 3) := by decide +kernel
theorem dX8_goesBy_29 : decode cX8_goesBy 29 = .ok (.aload_n 0, 1) := by decide +kernel
theorem dX8_goesBy_30 : decode cX8_goesBy 30 = .ok (.getfield 7, 3) := by decide +kernel
theorem dX8_goesBy_33 : decode cX8_goesBy 33 = .ok (.iconst 0, 1) := by decide +kernel
theorem dX8_goesBy_34 : decode cX8_goesBy 34 = .ok (.dup2, 1) := by decide +kernel
theorem dX8_goesBy_35 : decode cX8_goesBy 35 = .ok (.iaload, 1) := by decide +kernel
theorem dX8_goesBy_36 : decode cX8_goesBy 36 = .ok (.iconst 1, 1) := by decide +kernel
theorem dX8_goesBy_37 : decode cX8_goesBy 37 = .ok (.iadd, 1) := by decide +kernel
theorem dX8_goesBy_38 : decode cX8_goesBy 38 = .ok (.iastore, 1) := by decide +kernel
theorem dX8_goesBy_39 : decode cX8_goesBy 39 = .ok (.aload_n 0, 1) := by decide +kernel
theorem dX8_goesBy_40 : decode cX8_goesBy 40 = .ok (.invokevirtual 179, 3) := by decide +kernel
theorem dX8_goesBy_43 : decode cX8_goesBy 43 = .ok (.return_, 1) := by decide +kernel
theorem dX8_go_0 : decode cX8_go 0 = .ok (.aload_n 0, 1) := by decide +kernel
theorem dX8_go_1 : decode cX8_go 1 = .ok (.iconst 0, 1) := by decide +kernel
theorem dX8_go_2 : decode cX8_go 2 = .ok (.putfield 56, 3) := by decide +kernel
theorem dX8_go_5 : decode cX8_go 5 = .ok (.iload_n 1, 1) := by decide +kernel
theorem dX8_go_6 : decode cX8_go 6 = .ok (.iconst 1, 1) := by decide +kernel
theorem dX8_go_7 : decode cX8_go 7 = .ok (.bipush 99, 2) := by decide +kernel
theorem dX8_go_9 : decode cX8_go 9 = .ok (.invokestatic 60, 3) := by decide +kernel
theorem dX8_go_12 : decode cX8_go 12 = .ok (.ifCond .ne 5, 3) := by decide +kernel
theorem dX8_go_15 : decode cX8_go 15 = .ok (.iconst (-1), 1) := by decide +kernel
theorem dX8_go_16 : decode cX8_go 16 = .ok (.ireturn, 1) := by decide +kernel
theorem dX8_go_17 : decode cX8_go 17 = .ok (.aload_n 0, 1) := by decide +kernel
theorem dX8_go_18 : decode cX8_go 18 = .ok (.getfield 7, 3) := by decide +kernel
theorem dX8_go_21 : decode cX8_go 21 = .ok (.iconst 0, 1) := by decide +kernel
theorem dX8_go_22 : decode cX8_go 22 = .ok (.iaload, 1) := by decide +kernel
theorem dX8_go_23 : decode cX8_go 23 = .ok (.bipush 99, 2) := by decide +kernel
theorem dX8_go_25 : decode cX8_go 25 = .ok (.if_icmp .ne 6, 3) := by decide +kernel
theorem dX8_go_28 : decode cX8_go 28 = .ok (.bipush (-2), 2) := by decide +kernel
theorem dX8_go_30 : decode cX8_go 30 = .ok (.ireturn, 1) := by decide +kernel
theorem dX8_go_31 : decode cX8_go 31 = .ok (.iconst 0, 1) := by decide +kernel
theorem dX8_go_32 : decode cX8_go 32 = .ok (.istore_n 2, 1) := by decide +kernel
theorem dX8_go_33 : decode cX8_go 33 = .ok (.iload_n 2, 1) := by decide +kernel
theorem dX8_go_34 : decode cX8_go 34 = .ok (.iload_n 1, 1) := by decide +kernel
theorem dX8_go_35 : decode cX8_go 35 = .ok (.if_icmp .ge 24, 3) := by decide +kernel
theorem dX8_go_38 : decode cX8_go 38 = .ok (.aload_n 0, 1) := by decide +kernel
theorem dX8_go_39 : decode cX8_go 39 = .ok (.getfield 7, 3) := by decide +kernel
theorem dX8_go_42 : decode cX8_go 42 = .ok (.iconst 0, 1) := by decide +kernel
theorem dX8_go_43 : decode cX8_go 43 = .ok (.iaload, 1) := by decide +kernel
theorem dX8_go_44 : decode cX8_go 44 = .ok (.bipush 99, 2) := by decide +kernel
theorem dX8_go_46 : decode cX8_go 46 = .ok (.if_icmp .ge 13, 3) := by decide +kernel
theorem dX8_go_49 : decode cX8_go 49 = .ok (.aload_n 0, 1) := by decide +kernel
theorem dX8_go_50 : decode cX8_go 50 = .ok (.invokevirtual 187, 3) := by decide +kernel
theorem dX8_go_53 : decode cX8_go 53 = .ok (.iinc 2 1, 3) := by decide +kernel
theorem dX8_go_56 : decode cX8_go 56 = .ok (.goto (-23), 3) := by decide +kernel
theorem dX8_go_59 : decode cX8_go 59 = .ok (.iload_n 2, 1) := by decide +kernel
theorem dX8_go_60 : decode cX8_go 60 = .ok (.ireturn, 1) := by decide +kernel
theorem dX8_anew_0 : decode cX8_anew 0 = .ok (.aload_n 0, 1) := by decide +kernel
theorem dX8_anew_1 : decode cX8_anew 1 = .ok (.iconst 0, 1) := by decide +kernel
theorem dX8_anew_2 : decode cX8_anew 2 = .ok (.putfield 56, 3) := by decide +kernel
theorem dX8_anew_5 : decode cX8_anew 5 = .ok (.aload_n 0, 1) := by decide +kernel
theorem dX8_anew_6 : decode cX8_anew 6 = .ok (.getfield 7, 3) := by decide +kernel
theorem dX8_anew_9 : decode cX8_anew 9 = .ok (.iconst 0, 1) := by decide +kernel
theorem dX8_anew_10 : decode cX8_anew 10 = .ok (.iaload, 1) := by decide +kernel
theorem dX8_anew_11 : decode cX8_anew 11 = .ok (.istore_n 1, 1) := by decide +kernel
theorem dX8_anew_12 : decode cX8_anew 12 = .ok (.aload_n 0, 1) := by decide +kernel
theorem dX8_anew_13 : decode cX8_anew 13 = .ok (.getfield 7, 3) := by decide +kernel
theorem dX8_anew_16 : decode cX8_anew 16 = .ok (.iconst 2, 1) := by decide +kernel
theorem dX8_anew_17 : decode cX8_anew 17 = .ok (.iconst 0, 1) := by decide +kernel
theorem dX8_anew_18 : decode cX8_anew 18 = .ok (.iastore, 1) := by decide +kernel
theorem dX8_anew_19 : decode cX8_anew 19 = .ok (.aload_n 0, 1) := by decide +kernel
theorem dX8_anew_20 : decode cX8_anew 20 = .ok (.invokevirtual 150, 3) := by decide +kernel
theorem dX8_anew_23 : decode cX8_anew 23 = .ok (.iload_n 1, 1) := by decide +kernel
theorem dX8_anew_24 : decode cX8_anew 24 = .ok (.ireturn, 1) := by decide +kernel
theorem dX8_share_0 : decode cX8_share 0 = .ok (.aload_n 0, 1) := by decide +kernel
theorem dX8_share_1 : decode cX8_share 1 = .ok (.iconst 0, 1) := by decide +kernel
theorem dX8_share_2 : decode cX8_share 2 = .ok (.putfield 56, 3) := by decide +kernel
theorem dX8_share_5 : decode cX8_share 5 = .ok (.aload_n 0, 1) := by decide +kernel
theorem dX8_share_6 : decode cX8_share 6 = .ok (.iload_n 1, 1) := by decide +kernel
theorem dX8_share_7 : decode cX8_share 7 = .ok (.invokevirtual 156, 3) := by decide +kernel
theorem dX8_share_10 : decode cX8_share 10 = .ok (.ifCond .eq 32, 3) := by decide +kernel
theorem dX8_share_13 : decode cX8_share 13 = .ok (.aload_n 0, 1) := by decide +kernel
theorem dX8_share_14 : decode cX8_share 14 = .ok (.iload_n 2, 1) := by decide +kernel
theorem dX8_share_15 : decode cX8_share 15 = .ok (.invokevirtual 153, 3) := by decide +kernel
theorem dX8_share_18 : decode cX8_share 18 = .ok (.ifCond .eq 24, 3) := by decide +kernel
theorem dX8_share_21 : decode cX8_share 21 = .ok (.iload_n 3, 1) := by decide +kernel
theorem dX8_share_22 : decode cX8_share 22 = .ok (.invokestatic 190, 3) := by decide +kernel
theorem dX8_share_25 : decode cX8_share 25 = .ok (.ifCond .eq 17, 3) := by decide +kernel
theorem dX8_share_28 : decode cX8_share 28 = .ok (.aload_n 0, 1) := by decide +kernel
theorem dX8_share_29 : decode cX8_share 29 = .ok (.getfield 7, 3) := by decide +kernel
theorem dX8_share_32 : decode cX8_share 32 = .ok (.iload_n 1, 1) := by decide +kernel
theorem dX8_share_33 : decode cX8_share 33 = .ok (.iload_n 2, 1) := by decide +kernel
theorem dX8_share_34 : decode cX8_share 34 = .ok (.iload_n 3, 1) := by decide +kernel
theorem dX8_share_35 : decode cX8_share 35 = .ok (.invokestatic 162, 3) := by decide +kernel
theorem dX8_share_38 : decode cX8_share 38 = .ok (.iaload, 1) := by decide +kernel
theorem dX8_share_39 : decode cX8_share 39 = .ok (.goto 4, 3) := by decide +kernel
theorem dX8_share_42 : decode cX8_share 42 = .ok (.iconst (-1), 1) := by decide +kernel
theorem dX8_share_43 : decode cX8_share 43 = .ok (.ireturn, 1) := by decide +kernel
theorem dX8_has_0 : decode cX8_has 0 = .ok (.aload_n 0, 1) := by decide +kernel
theorem dX8_has_1 : decode cX8_has 1 = .ok (.iconst 0, 1) := by decide +kernel
theorem dX8_has_2 : decode cX8_has 2 = .ok (.putfield 56, 3) := by decide +kernel
theorem dX8_has_5 : decode cX8_has 5 = .ok (.aload_n 0, 1) := by decide +kernel
theorem dX8_has_6 : decode cX8_has 6 = .ok (.iload_n 1, 1) := by decide +kernel
theorem dX8_has_7 : decode cX8_has 7 = .ok (.invokevirtual 156, 3) := by decide +kernel
theorem dX8_has_10 : decode cX8_has 10 = .ok (.ifCond .eq 32, 3) := by decide +kernel
theorem dX8_has_13 : decode cX8_has 13 = .ok (.iload_n 2, 1) := by decide +kernel
theorem dX8_has_14 : decode cX8_has 14 = .ok (.iconst (-1), 1) := by decide +kernel
theorem dX8_has_15 : decode cX8_has 15 = .ok (.if_icmp .eq 11, 3) := by decide +kernel
theorem dX8_has_18 : decode cX8_has 18 = .ok (.aload_n 0, 1) := by decide +kernel
theorem dX8_has_19 : decode cX8_has 19 = .ok (.iload_n 2, 1) := by decide +kernel
theorem dX8_has_20 : decode cX8_has 20 = .ok (.invokevirtual 153, 3) := by decide +kernel
theorem dX8_has_23 : decode cX8_has 23 = .ok (.ifCond .eq 19, 3) := by decide +kernel
theorem dX8_has_26 : decode cX8_has 26 = .ok (.iload_n 3, 1) := by decide +kernel
theorem dX8_has_27 : decode cX8_has 27 = .ok (.iconst 0, 1) := by decide +kernel
theorem dX8_has_28 : decode cX8_has 28 = .ok (.iconst 2, 1) := by decide +kernel
theorem dX8_has_29 : decode cX8_has 29 = .ok (.invokestatic 60, 3) := by decide +kernel
theorem dX8_has_32 : decode cX8_has 32 = .ok (.ifCond .eq 10, 3) := by decide +kernel
theorem dX8_has_35 : decode cX8_has 35 = .ok (.aload_n 0, 1) := by decide +kernel
theorem dX8_has_36 : decode cX8_has 36 = .ok (.getfield 138, 3) := by decide +kernel
theorem dX8_has_39 : decode cX8_has 39 = .ok (.ifCond .ne 5, 3) := by decide +kernel
theorem dX8_has_42 : decode cX8_has 42 = .ok (.iconst (-1), 1) := by decide +kernel
theorem dX8_has_43 : decode cX8_has 43 = .ok (.ireturn, 1) := by decide +kernel
theorem dX8_has_44 : decode cX8_has 44 = .ok (.iload_n 2, 1) := by decide +kernel
theorem dX8_has_45 : decode cX8_has 45 = .ok (.ifCond .ge 12, 3) := by decide +kernel
theorem dX8_has_48 : decode cX8_has 48 = .ok (.aload_n 0, 1) := by decide +kernel
theorem dX8_has_49 : decode cX8_has 49 = .ok (.iload_n 1, 1) := by decide +kernel
theorem dX8_has_50 : decode cX8_has 50 = .ok (.iload_n 3, 1) := by decide +kernel
theorem dX8_has_51 : decode cX8_has 51 = .ok (.invokevirtual 169, 3) := by decide +kernel
theorem dX8_has_54 : decode cX8_has 54 = .ok (.goto 10, 3) := by decide +kernel
theorem dX8_has_57 : decode cX8_has 57 = .ok (.aload_n 0, 1) := by decide +kernel
theorem dX8_has_58 : decode cX8_has 58 = .ok (.iload_n 1, 1) := by decide +kernel
theorem dX8_has_59 : decode cX8_has 59 = .ok (.iload_n 2, 1) := by decide +kernel
theorem dX8_has_60 : decode cX8_has 60 = .ok (.iload_n 3, 1) := by decide +kernel
theorem dX8_has_61 : decode cX8_has 61 = .ok (.invokevirtual 166, 3) := by decide +kernel
theorem dX8_has_64 : decode cX8_has 64 = .ok (.ireturn, 1) := by decide +kernel
theorem dX8_song_0 : decode cX8_song 0 = .ok (.aload_n 0, 1) := by decide +kernel
theorem dX8_song_1 : decode cX8_song 1 = .ok (.iconst 0, 1) := by decide +kernel
theorem dX8_song_2 : decode cX8_song 2 = .ok (.putfield 56, 3) := by decide +kernel
theorem dX8_song_5 : decode cX8_song 5 = .ok (.aload_n 0, 1) := by decide +kernel
theorem dX8_song_6 : decode cX8_song 6 = .ok (.iload_n 1, 1) := by decide +kernel
theorem dX8_song_7 : decode cX8_song 7 = .ok (.invokevirtual 156, 3) := by decide +kernel
theorem dX8_song_10 : decode cX8_song 10 = .ok (.ifCond .eq 21, 3) := by decide +kernel
theorem dX8_song_13 : decode cX8_song 13 = .ok (.aload_n 0, 1) := by decide +kernel
theorem dX8_song_14 : decode cX8_song 14 = .ok (.iload_n 2, 1) := by decide +kernel
theorem dX8_song_15 : decode cX8_song 15 = .ok (.invokevirtual 153, 3) := by decide +kernel
theorem dX8_song_18 : decode cX8_song 18 = .ok (.ifCond .eq 13, 3) := by decide +kernel
theorem dX8_song_21 : decode cX8_song 21 = .ok (.iload_n 3, 1) := by decide +kernel
theorem dX8_song_22 : decode cX8_song 22 = .ok (.iconst 1, 1) := by decide +kernel
theorem dX8_song_23 : decode cX8_song 23 = .ok (.bipush 99, 2) := by decide +kernel
theorem dX8_song_25 : decode cX8_song 25 = .ok (.invokestatic 60, 3) := by decide +kernel
theorem dX8_song_28 : decode cX8_song 28 = .ok (.ifCond .ne 5, 3) := by decide +kernel
theorem dX8_song_31 : decode cX8_song 31 = .ok (.iconst (-1), 1) := by decide +kernel
theorem dX8_song_32 : decode cX8_song 32 = .ok (.ireturn, 1) := by decide +kernel
theorem dX8_song_33 : decode cX8_song 33 = .ok (.aload_n 0, 1) := by decide +kernel
theorem dX8_song_34 : decode cX8_song 34 = .ok (.iload_n 1, 1) := by decide +kernel
theorem dX8_song_35 : decode cX8_song 35 = .ok (.invokevirtual 159, 3) := by decide +kernel
theorem dX8_song_38 : decode cX8_song 38 = .ok (.ifCond .ne 6, 3) := by decide +kernel
theorem dX8_song_41 : decode cX8_song 41 = .ok (.bipush (-2), 2) := by decide +kernel
theorem dX8_song_43 : decode cX8_song 43 = .ok (.ireturn, 1) := by decide +kernel
theorem dX8_song_44 : decode cX8_song 44 = .ok (.aload_n 0, 1) := by decide +kernel
theorem dX8_song_45 : decode cX8_song 45 = .ok (.getfield 7, 3) := by decide +kernel
theorem dX8_song_48 : decode cX8_song 48 = .ok (.iconst 2, 1) := by decide +kernel
theorem dX8_song_49 : decode cX8_song 49 = .ok (.iaload, 1) := by decide +kernel
theorem dX8_song_50 : decode cX8_song 50 = .ok (.bipush 10, 2) := by decide +kernel
theorem dX8_song_52 : decode cX8_song 52 = .ok (.if_icmp .ne 6, 3) := by decide +kernel
theorem dX8_song_55 : decode cX8_song 55 = .ok (.bipush (-3), 2) := by decide +kernel
theorem dX8_song_57 : decode cX8_song 57 = .ok (.ireturn, 1) := by decide +kernel
theorem dX8_song_58 : decode cX8_song 58 = .ok (.iconst 3, 1) := by decide +kernel
theorem dX8_song_59 : decode cX8_song 59 = .ok (.iconst 4, 1) := by decide +kernel
theorem dX8_song_60 : decode cX8_song 60 = .ok (.aload_n 0, 1) := by decide +kernel
theorem dX8_song_61 : decode cX8_song 61 = .ok (.getfield 7, 3) := by decide +kernel
theorem dX8_song_64 : decode cX8_song 64 = .ok (.iconst 2, 1) := by decide +kernel
theorem dX8_song_65 : decode cX8_song 65 = .ok (.iaload, 1) := by decide +kernel
theorem dX8_song_66 : decode cX8_song 66 = .ok (.imul, 1) := by decide +kernel
theorem dX8_song_67 : decode cX8_song 67 = .ok (.iadd, 1) := by decide +kernel
theorem dX8_song_68 : decode cX8_song 68 = .ok (.istore 4, 2) := by decide +kernel
theorem dX8_song_70 : decode cX8_song 70 = .ok (.aload_n 0, 1) := by decide +kernel
theorem dX8_song_71 : decode cX8_song 71 = .ok (.getfield 7, 3) := by decide +kernel
theorem dX8_song_74 : decode cX8_song 74 = .ok (.iload 4, 2) := by decide +kernel
theorem dX8_song_76 : decode cX8_song 76 = .ok (.aload_n 0, 1) := by decide +kernel
theorem dX8_song_77 : decode cX8_song 77 = .ok (.getfield 7, 3) := by decide +kernel
theorem dX8_song_80 : decode cX8_song 80 = .ok (.iconst 0, 1) := by decide +kernel
theorem dX8_song_81 : decode cX8_song 81 = .ok (.iaload, 1) := by decide +kernel
theorem dX8_song_82 : decode cX8_song 82 = .ok (.iastore, 1) := by decide +kernel
theorem dX8_song_83 : decode cX8_song 83 = .ok (.aload_n 0, 1) := by decide +kernel
theorem dX8_song_84 : decode cX8_song 84 = .ok (.getfield 7, 3) := by decide +kernel
theorem dX8_song_87 : decode cX8_song 87 = .ok (.iload 4, 2) := by decide +kernel
theorem dX8_song_89 : decode cX8_song 89 = .ok (.iconst 1, 1) := by decide +kernel
theorem dX8_song_90 : decode cX8_song 90 = .ok (.iadd, 1) := by decide +kernel
theorem dX8_song_91 : decode cX8_song 91 = .ok (.iload_n 1, 1) := by decide +kernel
theorem dX8_song_92 : decode cX8_song 92 = .ok (.iastore, 1) := by decide +kernel
theorem dX8_song_93 : decode cX8_song 93 = .ok (.aload_n 0, 1) := by decide +kernel
theorem dX8_song_94 : decode cX8_song 94 = .ok (.getfield 7, 3) := by decide +kernel
theorem dX8_song_97 : decode cX8_song 97 = .ok (.iload 4, 2) := by decide +kernel
theorem dX8_song_99 : decode cX8_song 99 = .ok (.iconst 2, 1) := by decide +kernel
theorem dX8_song_100 : decode cX8_song 100 = .ok (.iadd, 1) := by decide +kernel
theorem dX8_song_101 : decode cX8_song 101 = .ok (.iload_n 2, 1) := by decide +kernel
theorem dX8_song_102 : decode cX8_song 102 = .ok (.iastore, 1) := by decide +kernel
theorem dX8_song_103 : decode cX8_song 103 = .ok (.aload_n 0, 1) := by decide +kernel
theorem dX8_song_104 : decode cX8_song 104 = .ok (.getfield 7, 3) := by decide +kernel
theorem dX8_song_107 : decode cX8_song 107 = .ok (.iload 4, 2) := by decide +kernel
theorem dX8_song_109 : decode cX8_song 109 = .ok (.iconst 3, 1) := by decide +kernel
theorem dX8_song_110 : decode cX8_song 110 = .ok (.iadd, 1) := by decide +kernel
theorem dX8_song_111 : decode cX8_song 111 = .ok (.iload_n 3, 1) := by decide +kernel
theorem dX8_song_112 : decode cX8_song 112 = .ok (.iastore, 1) := by decide +kernel
theorem dX8_song_113 : decode cX8_song 113 = .ok (.aload_n 0, 1) := by decide +kernel
theorem dX8_song_114 : decode cX8_song 114 = .ok (.getfield 7, 3) := by decide +kernel
theorem dX8_song_117 : decode cX8_song 117 = .ok (.iconst 2, 1) := by decide +kernel
theorem dX8_song_118 : decode cX8_song 118 = .ok (.dup2, 1) := by decide +kernel
theorem dX8_song_119 : decode cX8_song 119 = .ok (.iaload, 1) := by decide +kernel
theorem dX8_song_120 : decode cX8_song 120 = .ok (.iconst 1, 1) := by decide +kernel
theorem dX8_song_121 : decode cX8_song 121 = .ok (.iadd, 1) := by decide +kernel
theorem dX8_song_122 : decode cX8_song 122 = .ok (.iastore, 1) := by decide +kernel
theorem dX8_song_123 : decode cX8_song 123 = .ok (.aload_n 0, 1) := by decide +kernel
theorem dX8_song_124 : decode cX8_song 124 = .ok (.iload_n 1, 1) := by decide +kernel
theorem dX8_song_125 : decode cX8_song 125 = .ok (.iload_n 2, 1) := by decide +kernel
theorem dX8_song_126 : decode cX8_song 126 = .ok (.iload_n 3, 1) := by decide +kernel
theorem dX8_song_127 : decode cX8_song 127 = .ok (.invokevirtual 172, 3) := by decide +kernel
theorem dX8_song_130 : decode cX8_song 130 = .ok (.aload_n 0, 1) := by decide +kernel
theorem dX8_song_131 : decode cX8_song 131 = .ok (.invokevirtual 176, 3) := by decide +kernel
theorem dX8_song_134 : decode cX8_song 134 = .ok (.aload_n 0, 1) := by decide +kernel
theorem dX8_song_135 : decode cX8_song 135 = .ok (.getfield 7, 3) := by decide +kernel
theorem dX8_song_138 : decode cX8_song 138 = .ok (.iconst 2, 1) := by decide +kernel
theorem dX8_song_139 : decode cX8_song 139 = .ok (.iaload, 1) := by decide +kernel
theorem dX8_song_140 : decode cX8_song 140 = .ok (.ireturn, 1) := by decide +kernel
theorem dX8_youngMean_0 : decode cX8_youngMean 0 = .ok (.iconst 0, 1) := by decide +kernel
theorem dX8_youngMean_1 : decode cX8_youngMean 1 = .ok (.istore_n 3, 1) := by decide +kernel
theorem dX8_youngMean_2 : decode cX8_youngMean 2 = .ok (.iconst 0, 1) := by decide +kernel
theorem dX8_youngMean_3 : decode cX8_youngMean 3 = .ok (.istore 4, 2) := by decide +kernel
theorem dX8_youngMean_5 : decode cX8_youngMean 5 = .ok (.iload 4, 2) := by decide +kernel
theorem dX8_youngMean_7 : decode cX8_youngMean 7 = .ok (.aload_n 0, 1) := by decide +kernel
theorem dX8_youngMean_8 : decode cX8_youngMean 8 = .ok (.getfield 138, 3) := by decide +kernel
theorem dX8_youngMean_11 : decode cX8_youngMean 11 = .ok (.if_icmp .ge 34, 3) := by decide +kernel
theorem dX8_youngMean_14 : decode cX8_youngMean 14 = .ok (.iload_n 3, 1) := by decide +kernel
theorem dX8_youngMean_15 : decode cX8_youngMean 15 = .ok (.aload_n 0, 1) := by decide +kernel
theorem dX8_youngMean_16 : decode cX8_youngMean 16 = .ok (.getfield 7, 3) := by decide +kernel
theorem dX8_youngMean_19 : decode cX8_youngMean 19 = .ok (.sipush 950, 3) := by decide +kernel
theorem dX8_youngMean_22 : decode cX8_youngMean 22 = .ok (.sipush 300, 3) := by decide +kernel
theorem dX8_youngMean_25 : decode cX8_youngMean 25 = .ok (.iload_n 1, 1) := by decide +kernel
theorem dX8_youngMean_26 : decode cX8_youngMean 26 = .ok (.imul, 1) := by decide +kernel
theorem dX8_youngMean_27 : decode cX8_youngMean 27 = .ok (.iadd, 1) := by decide +kernel
theorem dX8_youngMean_28 : decode cX8_youngMean 28 = .ok (.bipush 100, 2) := by decide +kernel
theorem dX8_youngMean_30 : decode cX8_youngMean 30 = .ok (.iload 4, 2) := by decide +kernel
theorem dX8_youngMean_32 : decode cX8_youngMean 32 = .ok (.imul, 1) := by decide +kernel
theorem dX8_youngMean_33 : decode cX8_youngMean 33 = .ok (.iadd, 1) := by decide +kernel
theorem dX8_youngMean_34 : decode cX8_youngMean 34 = .ok (.iload_n 2, 1) := by decide +kernel
theorem dX8_youngMean_35 : decode cX8_youngMean 35 = .ok (.iadd, 1) := by decide +kernel
theorem dX8_youngMean_36 : decode cX8_youngMean 36 = .ok (.iaload, 1) := by decide +kernel
theorem dX8_youngMean_37 : decode cX8_youngMean 37 = .ok (.iadd, 1) := by decide +kernel
theorem dX8_youngMean_38 : decode cX8_youngMean 38 = .ok (.istore_n 3, 1) := by decide +kernel
theorem dX8_youngMean_39 : decode cX8_youngMean 39 = .ok (.iinc 4 1, 3) := by decide +kernel
theorem dX8_youngMean_42 : decode cX8_youngMean 42 = .ok (.goto (-37), 3) := by decide +kernel
theorem dX8_youngMean_45 : decode cX8_youngMean 45 = .ok (.iload_n 3, 1) := by decide +kernel
theorem dX8_youngMean_46 : decode cX8_youngMean 46 = .ok (.aload_n 0, 1) := by decide +kernel
theorem dX8_youngMean_47 : decode cX8_youngMean 47 = .ok (.getfield 138, 3) := by decide +kernel
theorem dX8_youngMean_50 : decode cX8_youngMean 50 = .ok (.idiv, 1) := by decide +kernel
theorem dX8_youngMean_51 : decode cX8_youngMean 51 = .ok (.ireturn, 1) := by decide +kernel
theorem dX8_peakOf_0 : decode cX8_peakOf 0 = .ok (.aload_n 0, 1) := by decide +kernel
theorem dX8_peakOf_1 : decode cX8_peakOf 1 = .ok (.iconst 0, 1) := by decide +kernel
theorem dX8_peakOf_2 : decode cX8_peakOf 2 = .ok (.putfield 193, 3) := by decide +kernel
theorem dX8_peakOf_5 : decode cX8_peakOf 5 = .ok (.aload_n 0, 1) := by decide +kernel
theorem dX8_peakOf_6 : decode cX8_peakOf 6 = .ok (.bipush (-9), 2) := by decide +kernel
theorem dX8_peakOf_8 : decode cX8_peakOf 8 = .ok (.putfield 196, 3) := by decide +kernel
theorem dX8_peakOf_11 : decode cX8_peakOf 11 = .ok (.iconst 1, 1) := by decide +kernel
theorem dX8_peakOf_12 : decode cX8_peakOf 12 = .ok (.istore_n 2, 1) := by decide +kernel
theorem dX8_peakOf_13 : decode cX8_peakOf 13 = .ok (.iload_n 2, 1) := by decide +kernel
theorem dX8_peakOf_14 : decode cX8_peakOf 14 = .ok (.aload_n 0, 1) := by decide +kernel
theorem dX8_peakOf_15 : decode cX8_peakOf 15 = .ok (.getfield 7, 3) := by decide +kernel
theorem dX8_peakOf_18 : decode cX8_peakOf 18 = .ok (.iconst 0, 1) := by decide +kernel
theorem dX8_peakOf_19 : decode cX8_peakOf 19 = .ok (.iaload, 1) := by decide +kernel
theorem dX8_peakOf_20 : decode cX8_peakOf 20 = .ok (.if_icmp .gt 39, 3) := by decide +kernel
theorem dX8_peakOf_23 : decode cX8_peakOf 23 = .ok (.aload_n 0, 1) := by decide +kernel
theorem dX8_peakOf_24 : decode cX8_peakOf 24 = .ok (.aload_n 0, 1) := by decide +kernel
theorem dX8_peakOf_25 : decode cX8_peakOf 25 = .ok (.iload_n 1, 1) := by decide +kernel
theorem dX8_peakOf_26 : decode cX8_peakOf 26 = .ok (.iload_n 2, 1) := by decide +kernel
theorem dX8_peakOf_27 : decode cX8_peakOf 27 = .ok (.invokevirtual 199, 3) := by decide +kernel
theorem dX8_peakOf_30 : decode cX8_peakOf 30 = .ok (.aload_n 0, 1) := by decide +kernel
theorem dX8_peakOf_31 : decode cX8_peakOf 31 = .ok (.iload_n 1, 1) := by decide +kernel
theorem dX8_peakOf_32 : decode cX8_peakOf 32 = .ok (.aload_n 0, 1) := by decide +kernel
theorem dX8_peakOf_33 : decode cX8_peakOf 33 = .ok (.getfield 193, 3) := by decide +kernel
theorem dX8_peakOf_36 : decode cX8_peakOf 36 = .ok (.invokevirtual 199, 3) := by decide +kernel
theorem dX8_peakOf_39 : decode cX8_peakOf 39 = .ok (.if_icmp .le 7, 3) := by decide +kernel
theorem dX8_peakOf_42 : decode cX8_peakOf 42 = .ok (.iload_n 2, 1) := by decide +kernel
theorem dX8_peakOf_43 : decode cX8_peakOf 43 = .ok (.goto 7, 3) := by decide +kernel
theorem dX8_peakOf_46 : decode cX8_peakOf 46 = .ok (.aload_n 0, 1) := by decide +kernel
theorem dX8_peakOf_47 : decode cX8_peakOf 47 = .ok (.getfield 193, 3) := by decide +kernel
theorem dX8_peakOf_50 : decode cX8_peakOf 50 = .ok (.putfield 193, 3) := by decide +kernel
theorem dX8_peakOf_53 : decode cX8_peakOf 53 = .ok (.iinc 2 1, 3) := by decide +kernel
theorem dX8_peakOf_56 : decode cX8_peakOf 56 = .ok (.goto (-43), 3) := by decide +kernel
theorem dX8_peakOf_59 : decode cX8_peakOf 59 = .ok (.aload_n 0, 1) := by decide +kernel
theorem dX8_peakOf_60 : decode cX8_peakOf 60 = .ok (.getfield 7, 3) := by decide +kernel
theorem dX8_peakOf_63 : decode cX8_peakOf 63 = .ok (.iconst 0, 1) := by decide +kernel
theorem dX8_peakOf_64 : decode cX8_peakOf 64 = .ok (.iaload, 1) := by decide +kernel
theorem dX8_peakOf_65 : decode cX8_peakOf 65 = .ok (.istore_n 2, 1) := by decide +kernel
theorem dX8_peakOf_66 : decode cX8_peakOf 66 = .ok (.iload_n 2, 1) := by decide +kernel
theorem dX8_peakOf_67 : decode cX8_peakOf 67 = .ok (.aload_n 0, 1) := by decide +kernel
theorem dX8_peakOf_68 : decode cX8_peakOf 68 = .ok (.getfield 193, 3) := by decide +kernel
theorem dX8_peakOf_71 : decode cX8_peakOf 71 = .ok (.if_icmp .le 32, 3) := by decide +kernel
theorem dX8_peakOf_74 : decode cX8_peakOf 74 = .ok (.aload_n 0, 1) := by decide +kernel
theorem dX8_peakOf_75 : decode cX8_peakOf 75 = .ok (.aload_n 0, 1) := by decide +kernel
theorem dX8_peakOf_76 : decode cX8_peakOf 76 = .ok (.iload_n 1, 1) := by decide +kernel
theorem dX8_peakOf_77 : decode cX8_peakOf 77 = .ok (.iload_n 2, 1) := by decide +kernel
theorem dX8_peakOf_78 : decode cX8_peakOf 78 = .ok (.invokevirtual 199, 3) := by decide +kernel
theorem dX8_peakOf_81 : decode cX8_peakOf 81 = .ok (.bipush 100, 2) := by decide +kernel
theorem dX8_peakOf_83 : decode cX8_peakOf 83 = .ok (.if_icmp .ge 7, 3) := by decide +kernel
theorem dX8_peakOf_86 : decode cX8_peakOf 86 = .ok (.iload_n 2, 1) := by decide +kernel
theorem dX8_peakOf_87 : decode cX8_peakOf 87 = .ok (.goto 7, 3) := by decide +kernel
theorem dX8_peakOf_90 : decode cX8_peakOf 90 = .ok (.aload_n 0, 1) := by decide +kernel
theorem dX8_peakOf_91 : decode cX8_peakOf 91 = .ok (.getfield 196, 3) := by decide +kernel
theorem dX8_peakOf_94 : decode cX8_peakOf 94 = .ok (.putfield 196, 3) := by decide +kernel
theorem dX8_peakOf_97 : decode cX8_peakOf 97 = .ok (.iinc 2 (-1), 3) := by decide +kernel
theorem dX8_peakOf_100 : decode cX8_peakOf 100 = .ok (.goto (-34), 3) := by decide +kernel
theorem dX8_peakOf_103 : decode cX8_peakOf 103 = .ok (.aload_n 0, 1) := by decide +kernel
theorem dX8_peakOf_104 : decode cX8_peakOf 104 = .ok (.iload_n 1, 1) := by decide +kernel
theorem dX8_peakOf_105 : decode cX8_peakOf 105 = .ok (.aload_n 0, 1) := by decide +kernel
theorem dX8_peakOf_106 : decode cX8_peakOf 106 = .ok (.getfield 193, 3) := by decide +kernel
theorem dX8_peakOf_109 : decode cX8_peakOf 109 = .ok (.invokevirtual 199, 3) := by decide +kernel
theorem dX8_peakOf_112 : decode cX8_peakOf 112 = .ok (.ireturn, 1) := by decide +kernel
theorem dX8_keptAge_0 : decode cX8_keptAge 0 = .ok (.bipush 10, 2) := by decide +kernel
theorem dX8_keptAge_2 : decode cX8_keptAge 2 = .ok (.istore_n 2, 1) := by decide +kernel
theorem dX8_keptAge_3 : decode cX8_keptAge 3 = .ok (.iconst (-1), 1) := by decide +kernel
theorem dX8_keptAge_4 : decode cX8_keptAge 4 = .ok (.istore_n 3, 1) := by decide +kernel
theorem dX8_keptAge_5 : decode cX8_keptAge 5 = .ok (.bipush 10, 2) := by decide +kernel
theorem dX8_keptAge_7 : decode cX8_keptAge 7 = .ok (.istore 4, 2) := by decide +kernel
theorem dX8_keptAge_9 : decode cX8_keptAge 9 = .ok (.iload 4, 2) := by decide +kernel
theorem dX8_keptAge_11 : decode cX8_keptAge 11 = .ok (.bipush 70, 2) := by decide +kernel
theorem dX8_keptAge_13 : decode cX8_keptAge 13 = .ok (.if_icmp .ge 74, 3) := by decide +kernel
theorem dX8_keptAge_16 : decode cX8_keptAge 16 = .ok (.iconst 0, 1) := by decide +kernel
theorem dX8_keptAge_17 : decode cX8_keptAge 17 = .ok (.istore 5, 2) := by decide +kernel
theorem dX8_keptAge_19 : decode cX8_keptAge 19 = .ok (.iconst 0, 1) := by decide +kernel
theorem dX8_keptAge_20 : decode cX8_keptAge 20 = .ok (.istore 6, 2) := by decide +kernel
theorem dX8_keptAge_22 : decode cX8_keptAge 22 = .ok (.iload 6, 2) := by decide +kernel
theorem dX8_keptAge_24 : decode cX8_keptAge 24 = .ok (.aload_n 0, 1) := by decide +kernel
theorem dX8_keptAge_25 : decode cX8_keptAge 25 = .ok (.getfield 138, 3) := by decide +kernel
theorem dX8_keptAge_28 : decode cX8_keptAge 28 = .ok (.if_icmp .ge 27, 3) := by decide +kernel
theorem dX8_keptAge_31 : decode cX8_keptAge 31 = .ok (.iload 5, 2) := by decide +kernel
theorem dX8_keptAge_33 : decode cX8_keptAge 33 = .ok (.aload_n 0, 1) := by decide +kernel
theorem dX8_keptAge_34 : decode cX8_keptAge 34 = .ok (.getfield 7, 3) := by decide +kernel
theorem dX8_keptAge_37 : decode cX8_keptAge 37 = .ok (.iload_n 1, 1) := by decide +kernel
theorem dX8_keptAge_38 : decode cX8_keptAge 38 = .ok (.iload 6, 2) := by decide +kernel
theorem dX8_keptAge_40 : decode cX8_keptAge 40 = .ok (.iload 4, 2) := by decide +kernel
theorem dX8_keptAge_42 : decode cX8_keptAge 42 = .ok (.invokestatic 162, 3) := by decide +kernel
theorem dX8_keptAge_45 : decode cX8_keptAge 45 = .ok (.iaload, 1) := by decide +kernel
theorem dX8_keptAge_46 : decode cX8_keptAge 46 = .ok (.iadd, 1) := by decide +kernel
theorem dX8_keptAge_47 : decode cX8_keptAge 47 = .ok (.istore 5, 2) := by decide +kernel
theorem dX8_keptAge_49 : decode cX8_keptAge 49 = .ok (.iinc 6 1, 3) := by decide +kernel
theorem dX8_keptAge_52 : decode cX8_keptAge 52 = .ok (.goto (-30), 3) := by decide +kernel
theorem dX8_keptAge_55 : decode cX8_keptAge 55 = .ok (.iload 5, 2) := by decide +kernel
theorem dX8_keptAge_57 : decode cX8_keptAge 57 = .ok (.iload_n 3, 1) := by decide +kernel
theorem dX8_keptAge_58 : decode cX8_keptAge 58 = .ok (.if_icmp .le 8, 3) := by decide +kernel
theorem dX8_keptAge_61 : decode cX8_keptAge 61 = .ok (.iload 4, 2) := by decide +kernel
theorem dX8_keptAge_63 : decode cX8_keptAge 63 = .ok (.goto 4, 3) := by decide +kernel
theorem dX8_keptAge_66 : decode cX8_keptAge 66 = .ok (.iload_n 2, 1) := by decide +kernel
theorem dX8_keptAge_67 : decode cX8_keptAge 67 = .ok (.istore_n 2, 1) := by decide +kernel
theorem dX8_keptAge_68 : decode cX8_keptAge 68 = .ok (.iload 5, 2) := by decide +kernel
theorem dX8_keptAge_70 : decode cX8_keptAge 70 = .ok (.iload_n 3, 1) := by decide +kernel
theorem dX8_keptAge_71 : decode cX8_keptAge 71 = .ok (.if_icmp .le 8, 3) := by decide +kernel
theorem dX8_keptAge_74 : decode cX8_keptAge 74 = .ok (.iload 5, 2) := by decide +kernel
theorem dX8_keptAge_76 : decode cX8_keptAge 76 = .ok (.goto 4, 3) := by decide +kernel
theorem dX8_keptAge_79 : decode cX8_keptAge 79 = .ok (.iload_n 3, 1) := by decide +kernel
theorem dX8_keptAge_80 : decode cX8_keptAge 80 = .ok (.istore_n 3, 1) := by decide +kernel
theorem dX8_keptAge_81 : decode cX8_keptAge 81 = .ok (.iinc 4 1, 3) := by decide +kernel
theorem dX8_keptAge_84 : decode cX8_keptAge 84 = .ok (.goto (-75), 3) := by decide +kernel
theorem dX8_keptAge_87 : decode cX8_keptAge 87 = .ok (.iload_n 2, 1) := by decide +kernel
theorem dX8_keptAge_88 : decode cX8_keptAge 88 = .ok (.ireturn, 1) := by decide +kernel
theorem dX8_life_0 : decode cX8_life 0 = .ok (.aload_n 0, 1) := by decide +kernel
theorem dX8_life_1 : decode cX8_life 1 = .ok (.iconst 0, 1) := by decide +kernel
theorem dX8_life_2 : decode cX8_life 2 = .ok (.putfield 56, 3) := by decide +kernel
theorem dX8_life_5 : decode cX8_life 5 = .ok (.aload_n 0, 1) := by decide +kernel
theorem dX8_life_6 : decode cX8_life 6 = .ok (.iload_n 1, 1) := by decide +kernel
theorem dX8_life_7 : decode cX8_life 7 = .ok (.invokevirtual 156, 3) := by decide +kernel
theorem dX8_life_10 : decode cX8_life 10 = .ok (.ifCond .eq 12, 3) := by decide +kernel
theorem dX8_life_13 : decode cX8_life 13 = .ok (.iload_n 2, 1) := by decide +kernel
theorem dX8_life_14 : decode cX8_life 14 = .ok (.iconst 0, 1) := by decide +kernel
theorem dX8_life_15 : decode cX8_life 15 = .ok (.iconst 3, 1) := by decide +kernel
theorem dX8_life_16 : decode cX8_life 16 = .ok (.invokestatic 60, 3) := by decide +kernel
theorem dX8_life_19 : decode cX8_life 19 = .ok (.ifCond .ne 5, 3) := by decide +kernel
theorem dX8_life_22 : decode cX8_life 22 = .ok (.iconst (-1), 1) := by decide +kernel
theorem dX8_life_23 : decode cX8_life 23 = .ok (.ireturn, 1) := by decide +kernel
theorem dX8_life_24 : decode cX8_life 24 = .ok (.aload_n 0, 1) := by decide +kernel
theorem dX8_life_25 : decode cX8_life 25 = .ok (.iload_n 1, 1) := by decide +kernel
theorem dX8_life_26 : decode cX8_life 26 = .ok (.invokevirtual 159, 3) := by decide +kernel
theorem dX8_life_29 : decode cX8_life 29 = .ok (.ifCond .ne 6, 3) := by decide +kernel
theorem dX8_life_32 : decode cX8_life 32 = .ok (.bipush (-2), 2) := by decide +kernel
theorem dX8_life_34 : decode cX8_life 34 = .ok (.ireturn, 1) := by decide +kernel
theorem dX8_life_35 : decode cX8_life 35 = .ok (.aload_n 0, 1) := by decide +kernel
theorem dX8_life_36 : decode cX8_life 36 = .ok (.iload_n 1, 1) := by decide +kernel
theorem dX8_life_37 : decode cX8_life 37 = .ok (.invokevirtual 202, 3) := by decide +kernel
theorem dX8_life_40 : decode cX8_life 40 = .ok (.istore_n 3, 1) := by decide +kernel
theorem dX8_life_41 : decode cX8_life 41 = .ok (.iload_n 2, 1) := by decide +kernel
theorem dX8_life_42 : decode cX8_life 42 = .ok (.ifCond .ne 7, 3) := by decide +kernel
theorem dX8_life_45 : decode cX8_life 45 = .ok (.iload_n 3, 1) := by decide +kernel
theorem dX8_life_46 : decode cX8_life 46 = .ok (.goto 32, 3) := by decide +kernel
theorem dX8_life_49 : decode cX8_life 49 = .ok (.iload_n 2, 1) := by decide +kernel
theorem dX8_life_50 : decode cX8_life 50 = .ok (.iconst 1, 1) := by decide +kernel
theorem dX8_life_51 : decode cX8_life 51 = .ok (.if_icmp .ne 10, 3) := by decide +kernel
theorem dX8_life_54 : decode cX8_life 54 = .ok (.aload_n 0, 1) := by decide +kernel
theorem dX8_life_55 : decode cX8_life 55 = .ok (.getfield 193, 3) := by decide +kernel
theorem dX8_life_58 : decode cX8_life 58 = .ok (.goto 20, 3) := by decide +kernel
theorem dX8_life_61 : decode cX8_life 61 = .ok (.iload_n 2, 1) := by decide +kernel
theorem dX8_life_62 : decode cX8_life 62 = .ok (.iconst 2, 1) := by decide +kernel
theorem dX8_life_63 : decode cX8_life 63 = .ok (.if_icmp .ne 10, 3) := by decide +kernel
theorem dX8_life_66 : decode cX8_life 66 = .ok (.aload_n 0, 1) := by decide +kernel
theorem dX8_life_67 : decode cX8_life 67 = .ok (.getfield 196, 3) := by decide +kernel
theorem dX8_life_70 : decode cX8_life 70 = .ok (.goto 8, 3) := by decide +kernel
theorem dX8_life_73 : decode cX8_life 73 = .ok (.aload_n 0, 1) := by decide +kernel
theorem dX8_life_74 : decode cX8_life 74 = .ok (.iload_n 1, 1) := by decide +kernel
theorem dX8_life_75 : decode cX8_life 75 = .ok (.invokevirtual 205, 3) := by decide +kernel
theorem dX8_life_78 : decode cX8_life 78 = .ok (.ireturn, 1) := by decide +kernel
theorem dX8_printed_0 : decode cX8_printed 0 = .ok (.aload_n 0, 1) := by decide +kernel
theorem dX8_printed_1 : decode cX8_printed 1 = .ok (.iconst 0, 1) := by decide +kernel
theorem dX8_printed_2 : decode cX8_printed 2 = .ok (.putfield 56, 3) := by decide +kernel
theorem dX8_printed_5 : decode cX8_printed 5 = .ok (.aload_n 0, 1) := by decide +kernel
theorem dX8_printed_6 : decode cX8_printed 6 = .ok (.iload_n 1, 1) := by decide +kernel
theorem dX8_printed_7 : decode cX8_printed 7 = .ok (.invokevirtual 156, 3) := by decide +kernel
theorem dX8_printed_10 : decode cX8_printed 10 = .ok (.ifCond .eq 12, 3) := by decide +kernel
theorem dX8_printed_13 : decode cX8_printed 13 = .ok (.iload_n 2, 1) := by decide +kernel
theorem dX8_printed_14 : decode cX8_printed 14 = .ok (.iconst 0, 1) := by decide +kernel
theorem dX8_printed_15 : decode cX8_printed 15 = .ok (.iconst 1, 1) := by decide +kernel
theorem dX8_printed_16 : decode cX8_printed 16 = .ok (.invokestatic 60, 3) := by decide +kernel
theorem dX8_printed_19 : decode cX8_printed 19 = .ok (.ifCond .ne 5, 3) := by decide +kernel
theorem dX8_printed_22 : decode cX8_printed 22 = .ok (.iconst (-1), 1) := by decide +kernel
theorem dX8_printed_23 : decode cX8_printed 23 = .ok (.ireturn, 1) := by decide +kernel
theorem dX8_printed_24 : decode cX8_printed 24 = .ok (.iconst 0, 1) := by decide +kernel
theorem dX8_printed_25 : decode cX8_printed 25 = .ok (.istore_n 3, 1) := by decide +kernel
theorem dX8_printed_26 : decode cX8_printed 26 = .ok (.iload_n 3, 1) := by decide +kernel
theorem dX8_printed_27 : decode cX8_printed 27 = .ok (.aload_n 0, 1) := by decide +kernel
theorem dX8_printed_28 : decode cX8_printed 28 = .ok (.getfield 7, 3) := by decide +kernel
theorem dX8_printed_31 : decode cX8_printed 31 = .ok (.iconst 0, 1) := by decide +kernel
theorem dX8_printed_32 : decode cX8_printed 32 = .ok (.iaload, 1) := by decide +kernel
theorem dX8_printed_33 : decode cX8_printed 33 = .ok (.if_icmp .gt 58, 3) := by decide +kernel
theorem dX8_printed_36 : decode cX8_printed 36 = .ok (.aload_n 0, 1) := by decide +kernel
theorem dX8_printed_37 : decode cX8_printed 37 = .ok (.getfield 7, 3) := by decide +kernel
theorem dX8_printed_40 : decode cX8_printed 40 = .ok (.sipush 2450, 3) := by decide +kernel
theorem dX8_printed_43 : decode cX8_printed 43 = .ok (.bipush 100, 2) := by decide +kernel
theorem dX8_printed_45 : decode cX8_printed 45 = .ok (.iload_n 1, 1) := by decide +kernel
theorem dX8_printed_46 : decode cX8_printed 46 = .ok (.imul, 1) := by decide +kernel
theorem dX8_printed_47 : decode cX8_printed 47 = .ok (.iadd, 1) := by decide +kernel
theorem dX8_printed_48 : decode cX8_printed 48 = .ok (.iload_n 3, 1) := by decide +kernel
theorem dX8_printed_49 : decode cX8_printed 49 = .ok (.iadd, 1) := by decide +kernel
theorem dX8_printed_50 : decode cX8_printed 50 = .ok (.iaload, 1) := by decide +kernel
theorem dX8_printed_51 : decode cX8_printed 51 = .ok (.bipush 100, 2) := by decide +kernel
theorem dX8_printed_53 : decode cX8_printed 53 = .ok (.if_icmp .lt 32, 3) := by decide +kernel
theorem dX8_printed_56 : decode cX8_printed 56 = .ok (.iload_n 3, 1) := by decide +kernel
theorem dX8_printed_57 : decode cX8_printed 57 = .ok (.aload_n 0, 1) := by decide +kernel
theorem dX8_printed_58 : decode cX8_printed 58 = .ok (.getfield 26, 3) := by decide +kernel
theorem dX8_printed_61 : decode cX8_printed 61 = .ok (.iconst 4, 1) := by decide +kernel
theorem dX8_printed_62 : decode cX8_printed 62 = .ok (.iaload, 1) := by decide +kernel
theorem dX8_printed_63 : decode cX8_printed 63 = .ok (.iadd, 1) := by decide +kernel
theorem dX8_printed_64 : decode cX8_printed 64 = .ok (.iload_n 2, 1) := by decide +kernel
theorem dX8_printed_65 : decode cX8_printed 65 = .ok (.iconst 1, 1) := by decide +kernel
theorem dX8_printed_66 : decode cX8_printed 66 = .ok (.if_icmp .ne 16, 3) := by decide +kernel
theorem dX8_printed_69 : decode cX8_printed 69 = .ok (.aload_n 0, 1) := by decide +kernel
theorem dX8_printed_70 : decode cX8_printed 70 = .ok (.getfield 32, 3) := by decide +kernel
theorem dX8_printed_73 : decode cX8_printed 73 = .ok (.iconst 4, 1) := by decide +kernel
theorem dX8_printed_74 : decode cX8_printed 74 = .ok (.iload_n 1, 1) := by decide +kernel
theorem dX8_printed_75 : decode cX8_printed 75 = .ok (.imul, 1) := by decide +kernel
theorem dX8_printed_76 : decode cX8_printed 76 = .ok (.iconst 1, 1) := by decide +kernel
theorem dX8_printed_77 : decode cX8_printed 77 = .ok (.iadd, 1) := by decide +kernel
theorem dX8_printed_78 : decode cX8_printed 78 = .ok (.iaload, 1) := by decide +kernel
theorem dX8_printed_79 : decode cX8_printed 79 = .ok (.goto 4, 3) := by decide +kernel
theorem dX8_printed_82 : decode cX8_printed 82 = .ok (.iconst 0, 1) := by decide +kernel
theorem dX8_printed_83 : decode cX8_printed 83 = .ok (.isub, 1) := by decide +kernel
theorem dX8_printed_84 : decode cX8_printed 84 = .ok (.ireturn, 1) := by decide +kernel
theorem dX8_printed_85 : decode cX8_printed 85 = .ok (.iinc 3 1, 3) := by decide +kernel
theorem dX8_printed_88 : decode cX8_printed 88 = .ok (.goto (-62), 3) := by decide +kernel
theorem dX8_printed_91 : decode cX8_printed 91 = .ok (.bipush (-9), 2) := by decide +kernel
theorem dX8_printed_93 : decode cX8_printed 93 = .ok (.ireturn, 1) := by decide +kernel
theorem dX8_gcd_0 : decode cX8_gcd 0 = .ok (.lload_n 0, 1) := by decide +kernel
theorem dX8_gcd_1 : decode cX8_gcd 1 = .ok (.lconst 0, 1) := by decide +kernel
theorem dX8_gcd_2 : decode cX8_gcd 2 = .ok (.lcmp, 1) := by decide +kernel
theorem dX8_gcd_3 : decode cX8_gcd 3 = .ok (.ifCond .ge 8, 3) := by decide +kernel
theorem dX8_gcd_6 : decode cX8_gcd 6 = .ok (.lload_n 0, 1) := by decide +kernel
theorem dX8_gcd_7 : decode cX8_gcd 7 = .ok (.lneg, 1) := by decide +kernel
theorem dX8_gcd_8 : decode cX8_gcd 8 = .ok (.goto 4, 3) := by decide +kernel
theorem dX8_gcd_11 : decode cX8_gcd 11 = .ok (.lload_n 0, 1) := by decide +kernel
theorem dX8_gcd_12 : decode cX8_gcd 12 = .ok (.lstore 4, 2) := by decide +kernel
theorem dX8_gcd_14 : decode cX8_gcd 14 = .ok (.lload_n 2, 1) := by decide +kernel
theorem dX8_gcd_15 : decode cX8_gcd 15 = .ok (.lstore 6, 2) := by decide +kernel
theorem dX8_gcd_17 : decode cX8_gcd 17 = .ok (.lload 6, 2) := by decide +kernel
theorem dX8_gcd_19 : decode cX8_gcd 19 = .ok (.lconst 0, 1) := by decide +kernel
theorem dX8_gcd_20 : decode cX8_gcd 20 = .ok (.lcmp, 1) := by decide +kernel
theorem dX8_gcd_21 : decode cX8_gcd 21 = .ok (.ifCond .eq 21, 3) := by decide +kernel
theorem dX8_gcd_24 : decode cX8_gcd 24 = .ok (.lload 4, 2) := by decide +kernel
theorem dX8_gcd_26 : decode cX8_gcd 26 = .ok (.lload 6, 2) := by decide +kernel
theorem dX8_gcd_28 : decode cX8_gcd 28 = .ok (.lrem, 1) := by decide +kernel
theorem dX8_gcd_29 : decode cX8_gcd 29 = .ok (.lstore 8, 2) := by decide +kernel
theorem dX8_gcd_31 : decode cX8_gcd 31 = .ok (.lload 6, 2) := by decide +kernel
theorem dX8_gcd_33 : decode cX8_gcd 33 = .ok (.lstore 4, 2) := by decide +kernel
theorem dX8_gcd_35 : decode cX8_gcd 35 = .ok (.lload 8, 2) := by decide +kernel
theorem dX8_gcd_37 : decode cX8_gcd 37 = .ok (.lstore 6, 2) := by decide +kernel
theorem dX8_gcd_39 : decode cX8_gcd 39 = .ok (.goto (-22), 3) := by decide +kernel
theorem dX8_gcd_42 : decode cX8_gcd 42 = .ok (.lload 4, 2) := by decide +kernel
theorem dX8_gcd_44 : decode cX8_gcd 44 = .ok (.lreturn, 1) := by decide +kernel
theorem dX8_part_0 : decode cX8_part 0 = .ok (.lload_n 0, 1) := by decide +kernel
theorem dX8_part_1 : decode cX8_part 1 = .ok (.lload_n 2, 1) := by decide +kernel
theorem dX8_part_2 : decode cX8_part 2 = .ok (.invokestatic 208, 3) := by decide +kernel
theorem dX8_part_5 : decode cX8_part 5 = .ok (.lstore 5, 2) := by decide +kernel
theorem dX8_part_7 : decode cX8_part 7 = .ok (.iload 4, 2) := by decide +kernel
theorem dX8_part_9 : decode cX8_part 9 = .ok (.ifCond .ne 10, 3) := by decide +kernel
theorem dX8_part_12 : decode cX8_part 12 = .ok (.lload_n 0, 1) := by decide +kernel
theorem dX8_part_13 : decode cX8_part 13 = .ok (.lload 5, 2) := by decide +kernel
theorem dX8_part_15 : decode cX8_part 15 = .ok (.ldiv, 1) := by decide +kernel
theorem dX8_part_16 : decode cX8_part 16 = .ok (.goto 7, 3) := by decide +kernel
theorem dX8_part_19 : decode cX8_part 19 = .ok (.lload_n 2, 1) := by decide +kernel
theorem dX8_part_20 : decode cX8_part 20 = .ok (.lload 5, 2) := by decide +kernel
theorem dX8_part_22 : decode cX8_part 22 = .ok (.ldiv, 1) := by decide +kernel
theorem dX8_part_23 : decode cX8_part 23 = .ok (.lreturn, 1) := by decide +kernel
theorem dX8_weight_0 : decode cX8_weight 0 = .ok (.lconst 1, 1) := by decide +kernel
theorem dX8_weight_1 : decode cX8_weight 1 = .ok (.lstore 5, 2) := by decide +kernel
theorem dX8_weight_3 : decode cX8_weight 3 = .ok (.iconst 0, 1) := by decide +kernel
theorem dX8_weight_4 : decode cX8_weight 4 = .ok (.istore 7, 2) := by decide +kernel
theorem dX8_weight_6 : decode cX8_weight 6 = .ok (.iload 7, 2) := by decide +kernel
theorem dX8_weight_8 : decode cX8_weight 8 = .ok (.aload_n 0, 1) := by decide +kernel
theorem dX8_weight_9 : decode cX8_weight 9 = .ok (.getfield 141, 3) := by decide +kernel
theorem dX8_weight_12 : decode cX8_weight 12 = .ok (.if_icmp .ge 66, 3) := by decide +kernel
theorem dX8_weight_15 : decode cX8_weight 15 = .ok (.aload_n 0, 1) := by decide +kernel
theorem dX8_weight_16 : decode cX8_weight 16 = .ok (.getfield 7, 3) := by decide +kernel
theorem dX8_weight_19 : decode cX8_weight 19 = .ok (.iload 7, 2) := by decide +kernel
theorem dX8_weight_21 : decode cX8_weight 21 = .ok (.iload 4, 2) := by decide +kernel
theorem dX8_weight_23 : decode cX8_weight 23 = .ok (.iload_n 3, 1) := by decide +kernel
theorem dX8_weight_24 : decode cX8_weight 24 = .ok (.invokestatic 162, 3) := by decide +kernel
theorem dX8_weight_27 : decode cX8_weight 27 = .ok (.iaload, 1) := by decide +kernel
theorem dX8_weight_28 : decode cX8_weight 28 = .ok (.istore 8, 2) := by decide +kernel
theorem dX8_weight_30 : decode cX8_weight 30 = .ok (.lload 5, 2) := by decide +kernel
theorem dX8_weight_32 : decode cX8_weight 32 = .ok (.iload_n 1, 1) := by decide +kernel
theorem dX8_weight_33 : decode cX8_weight 33 = .ok (.iload 7, 2) := by decide +kernel
theorem dX8_weight_35 : decode cX8_weight 35 = .ok (.ishr, 1) := by decide +kernel
theorem dX8_weight_36 : decode cX8_weight 36 = .ok (.iconst 1, 1) := by decide +kernel
theorem dX8_weight_37 : decode cX8_weight 37 = .ok (.iand, 1) := by decide +kernel
theorem dX8_weight_38 : decode cX8_weight 38 = .ok (.iconst 1, 1) := by decide +kernel
theorem dX8_weight_39 : decode cX8_weight 39 = .ok (.if_icmp .ne 9, 3) := by decide +kernel
theorem dX8_weight_42 : decode cX8_weight 42 = .ok (.iload 8, 2) := by decide +kernel
theorem dX8_weight_44 : decode cX8_weight 44 = .ok (.i2l, 1) := by decide +kernel
theorem dX8_weight_45 : decode cX8_weight 45 = .ok (.goto 24, 3) := by decide +kernel
theorem dX8_weight_48 : decode cX8_weight 48 = .ok (.iload_n 2, 1) := by decide +kernel
theorem dX8_weight_49 : decode cX8_weight 49 = .ok (.iload 7, 2) := by decide +kernel
theorem dX8_weight_51 : decode cX8_weight 51 = .ok (.ishr, 1) := by decide +kernel
theorem dX8_weight_52 : decode cX8_weight 52 = .ok (.iconst 1, 1) := by decide +kernel
theorem dX8_weight_53 : decode cX8_weight 53 = .ok (.iand, 1) := by decide +kernel
theorem dX8_weight_54 : decode cX8_weight 54 = .ok (.iconst 1, 1) := by decide +kernel
theorem dX8_weight_55 : decode cX8_weight 55 = .ok (.if_icmp .ne 13, 3) := by decide +kernel
theorem dX8_weight_58 : decode cX8_weight 58 = .ok (.sipush 1000, 3) := by decide +kernel
theorem dX8_weight_61 : decode cX8_weight 61 = .ok (.iload 8, 2) := by decide +kernel
theorem dX8_weight_63 : decode cX8_weight 63 = .ok (.isub, 1) := by decide +kernel
theorem dX8_weight_64 : decode cX8_weight 64 = .ok (.i2l, 1) := by decide +kernel
theorem dX8_weight_65 : decode cX8_weight 65 = .ok (.goto 4, 3) := by decide +kernel
theorem dX8_weight_68 : decode cX8_weight 68 = .ok (.lconst 1, 1) := by decide +kernel
theorem dX8_weight_69 : decode cX8_weight 69 = .ok (.lmul, 1) := by decide +kernel
theorem dX8_weight_70 : decode cX8_weight 70 = .ok (.lstore 5, 2) := by decide +kernel
theorem dX8_weight_72 : decode cX8_weight 72 = .ok (.iinc 7 1, 3) := by decide +kernel
theorem dX8_weight_75 : decode cX8_weight 75 = .ok (.goto (-69), 3) := by decide +kernel
theorem dX8_weight_78 : decode cX8_weight 78 = .ok (.lload 5, 2) := by decide +kernel
theorem dX8_weight_80 : decode cX8_weight 80 = .ok (.lreturn, 1) := by decide +kernel
theorem dX8_weights_0 : decode cX8_weights 0 = .ok (.lconst 0, 1) := by decide +kernel
theorem dX8_weights_1 : decode cX8_weights 1 = .ok (.lstore 5, 2) := by decide +kernel
theorem dX8_weights_3 : decode cX8_weights 3 = .ok (.iconst 0, 1) := by decide +kernel
theorem dX8_weights_4 : decode cX8_weights 4 = .ok (.istore 7, 2) := by decide +kernel
theorem dX8_weights_6 : decode cX8_weights 6 = .ok (.iload 7, 2) := by decide +kernel
theorem dX8_weights_8 : decode cX8_weights 8 = .ok (.aload_n 0, 1) := by decide +kernel
theorem dX8_weights_9 : decode cX8_weights 9 = .ok (.getfield 138, 3) := by decide +kernel
theorem dX8_weights_12 : decode cX8_weights 12 = .ok (.if_icmp .ge 40, 3) := by decide +kernel
theorem dX8_weights_15 : decode cX8_weights 15 = .ok (.iload_n 3, 1) := by decide +kernel
theorem dX8_weights_16 : decode cX8_weights 16 = .ok (.istore 8, 2) := by decide +kernel
theorem dX8_weights_18 : decode cX8_weights 18 = .ok (.iload 8, 2) := by decide +kernel
theorem dX8_weights_20 : decode cX8_weights 20 = .ok (.iload 4, 2) := by decide +kernel
theorem dX8_weights_22 : decode cX8_weights 22 = .ok (.if_icmp .gt 24, 3) := by decide +kernel
theorem dX8_weights_25 : decode cX8_weights 25 = .ok (.lload 5, 2) := by decide +kernel
theorem dX8_weights_27 : decode cX8_weights 27 = .ok (.aload_n 0, 1) := by decide +kernel
theorem dX8_weights_28 : decode cX8_weights 28 = .ok (.iload_n 1, 1) := by decide +kernel
theorem dX8_weights_29 : decode cX8_weights 29 = .ok (.iload_n 2, 1) := by decide +kernel
theorem dX8_weights_30 : decode cX8_weights 30 = .ok (.iload 8, 2) := by decide +kernel
theorem dX8_weights_32 : decode cX8_weights 32 = .ok (.iload 7, 2) := by decide +kernel
theorem dX8_weights_34 : decode cX8_weights 34 = .ok (.invokevirtual 212, 3) := by decide +kernel
theorem dX8_weights_37 : decode cX8_weights 37 = .ok (.ladd, 1) := by decide +kernel
theorem dX8_weights_38 : decode cX8_weights 38 = .ok (.lstore 5, 2) := by decide +kernel
theorem dX8_weights_40 : decode cX8_weights 40 = .ok (.iinc 8 1, 3) := by decide +kernel
theorem dX8_weights_43 : decode cX8_weights 43 = .ok (.goto (-25), 3) := by decide +kernel
theorem dX8_weights_46 : decode cX8_weights 46 = .ok (.iinc 7 1, 3) := by decide +kernel
theorem dX8_weights_49 : decode cX8_weights 49 = .ok (.goto (-43), 3) := by decide +kernel
theorem dX8_weights_52 : decode cX8_weights 52 = .ok (.lload 5, 2) := by decide +kernel
theorem dX8_weights_54 : decode cX8_weights 54 = .ok (.lreturn, 1) := by decide +kernel
theorem dX8_old_0 : decode cX8_old 0 = .ok (.aload_n 0, 1) := by decide +kernel
theorem dX8_old_1 : decode cX8_old 1 = .ok (.iconst 0, 1) := by decide +kernel
theorem dX8_old_2 : decode cX8_old 2 = .ok (.putfield 56, 3) := by decide +kernel
theorem dX8_old_5 : decode cX8_old 5 = .ok (.iload_n 3, 1) := by decide +kernel
theorem dX8_old_6 : decode cX8_old 6 = .ok (.invokestatic 190, 3) := by decide +kernel
theorem dX8_old_9 : decode cX8_old 9 = .ok (.ifCond .eq 24, 3) := by decide +kernel
theorem dX8_old_12 : decode cX8_old 12 = .ok (.iload 4, 2) := by decide +kernel
theorem dX8_old_14 : decode cX8_old 14 = .ok (.iload_n 3, 1) := by decide +kernel
theorem dX8_old_15 : decode cX8_old 15 = .ok (.bipush 69, 2) := by decide +kernel
theorem dX8_old_17 : decode cX8_old 17 = .ok (.invokestatic 60, 3) := by decide +kernel
theorem dX8_old_20 : decode cX8_old 20 = .ok (.ifCond .eq 13, 3) := by decide +kernel
theorem dX8_old_23 : decode cX8_old 23 = .ok (.iload 5, 2) := by decide +kernel
theorem dX8_old_25 : decode cX8_old 25 = .ok (.iconst 0, 1) := by decide +kernel
theorem dX8_old_26 : decode cX8_old 26 = .ok (.iconst 1, 1) := by decide +kernel
theorem dX8_old_27 : decode cX8_old 27 = .ok (.invokestatic 60, 3) := by decide +kernel
theorem dX8_old_30 : decode cX8_old 30 = .ok (.ifCond .ne 7, 3) := by decide +kernel
theorem dX8_old_33 : decode cX8_old 33 = .ok (.ldc2_w 216, 3) := by decide +kernel
theorem dX8_old_36 : decode cX8_old 36 = .ok (.lreturn, 1) := by decide +kernel
theorem dX8_old_37 : decode cX8_old 37 = .ok (.aload_n 0, 1) := by decide +kernel
theorem dX8_old_38 : decode cX8_old 38 = .ok (.iload_n 1, 1) := by decide +kernel
theorem dX8_old_39 : decode cX8_old 39 = .ok (.iload_n 2, 1) := by decide +kernel
theorem dX8_old_40 : decode cX8_old 40 = .ok (.bipush 10, 2) := by decide +kernel
theorem dX8_old_42 : decode cX8_old 42 = .ok (.bipush 69, 2) := by decide +kernel
theorem dX8_old_44 : decode cX8_old 44 = .ok (.invokevirtual 218, 3) := by decide +kernel
theorem dX8_old_47 : decode cX8_old 47 = .ok (.lstore 6, 2) := by decide +kernel
theorem dX8_old_49 : decode cX8_old 49 = .ok (.lload 6, 2) := by decide +kernel
theorem dX8_old_51 : decode cX8_old 51 = .ok (.lconst 0, 1) := by decide +kernel
theorem dX8_old_52 : decode cX8_old 52 = .ok (.lcmp, 1) := by decide +kernel
theorem dX8_old_53 : decode cX8_old 53 = .ok (.ifCond .ne 9, 3) := by decide +kernel
theorem dX8_old_56 : decode cX8_old 56 = .ok (.ldc2_w 221, 3) := by decide +kernel
theorem dX8_old_59 : decode cX8_old 59 = .ok (.goto 19, 3) := by decide +kernel
theorem dX8_old_62 : decode cX8_old 62 = .ok (.aload_n 0, 1) := by decide +kernel
theorem dX8_old_63 : decode cX8_old 63 = .ok (.iload_n 1, 1) := by decide +kernel
theorem dX8_old_64 : decode cX8_old 64 = .ok (.iload_n 2, 1) := by decide +kernel
theorem dX8_old_65 : decode cX8_old 65 = .ok (.iload_n 3, 1) := by decide +kernel
theorem dX8_old_66 : decode cX8_old 66 = .ok (.iload 4, 2) := by decide +kernel
theorem dX8_old_68 : decode cX8_old 68 = .ok (.invokevirtual 218, 3) := by decide +kernel
theorem dX8_old_71 : decode cX8_old 71 = .ok (.lload 6, 2) := by decide +kernel
theorem dX8_old_73 : decode cX8_old 73 = .ok (.iload 5, 2) := by decide +kernel
theorem dX8_old_75 : decode cX8_old 75 = .ok (.invokestatic 223, 3) := by decide +kernel
theorem dX8_old_78 : decode cX8_old 78 = .ok (.lreturn, 1) := by decide +kernel
theorem dX8_likeliest_0 : decode cX8_likeliest 0 = .ok (.aload_n 0, 1) := by decide +kernel
theorem dX8_likeliest_1 : decode cX8_likeliest 1 = .ok (.iconst 0, 1) := by decide +kernel
theorem dX8_likeliest_2 : decode cX8_likeliest 2 = .ok (.putfield 56, 3) := by decide +kernel
theorem dX8_likeliest_5 : decode cX8_likeliest 5 = .ok (.iload_n 3, 1) := by decide +kernel
theorem dX8_likeliest_6 : decode cX8_likeliest 6 = .ok (.iconst 0, 1) := by decide +kernel
theorem dX8_likeliest_7 : decode cX8_likeliest 7 = .ok (.iconst 1, 1) := by decide +kernel
theorem dX8_likeliest_8 : decode cX8_likeliest 8 = .ok (.invokestatic 60, 3) := by decide +kernel
theorem dX8_likeliest_11 : decode cX8_likeliest 11 = .ok (.ifCond .ne 5, 3) := by decide +kernel
theorem dX8_likeliest_14 : decode cX8_likeliest 14 = .ok (.iconst (-1), 1) := by decide +kernel
theorem dX8_likeliest_15 : decode cX8_likeliest 15 = .ok (.ireturn, 1) := by decide +kernel
theorem dX8_likeliest_16 : decode cX8_likeliest 16 = .ok (.bipush (-9), 2) := by decide +kernel
theorem dX8_likeliest_18 : decode cX8_likeliest 18 = .ok (.istore 4, 2) := by decide +kernel
theorem dX8_likeliest_20 : decode cX8_likeliest 20 = .ok (.bipush (-9), 2) := by decide +kernel
theorem dX8_likeliest_22 : decode cX8_likeliest 22 = .ok (.istore 5, 2) := by decide +kernel
theorem dX8_likeliest_24 : decode cX8_likeliest 24 = .ok (.lconst 0, 1) := by decide +kernel
theorem dX8_likeliest_25 : decode cX8_likeliest 25 = .ok (.lstore 6, 2) := by decide +kernel
theorem dX8_likeliest_27 : decode cX8_likeliest 27 = .ok (.bipush 10, 2) := by decide +kernel
theorem dX8_likeliest_29 : decode cX8_likeliest 29 = .ok (.istore 8, 2) := by decide +kernel
theorem dX8_likeliest_31 : decode cX8_likeliest 31 = .ok (.iload 8, 2) := by decide +kernel
theorem dX8_likeliest_33 : decode cX8_likeliest 33 = .ok (.bipush 70, 2) := by decide +kernel
theorem dX8_likeliest_35 : decode cX8_likeliest 35 = .ok (.if_icmp .ge 59, 3) := by decide +kernel
theorem dX8_likeliest_38 : decode cX8_likeliest 38 = .ok (.iconst 0, 1) := by decide +kernel
theorem dX8_likeliest_39 : decode cX8_likeliest 39 = .ok (.istore 9, 2) := by decide +kernel
theorem dX8_likeliest_41 : decode cX8_likeliest 41 = .ok (.iload 9, 2) := by decide +kernel
theorem dX8_likeliest_43 : decode cX8_likeliest 43 = .ok (.aload_n 0, 1) := by decide +kernel
theorem dX8_likeliest_44 : decode cX8_likeliest 44 = .ok (.getfield 138, 3) := by decide +kernel
theorem dX8_likeliest_47 : decode cX8_likeliest 47 = .ok (.if_icmp .ge 41, 3) := by decide +kernel
theorem dX8_likeliest_50 : decode cX8_likeliest 50 = .ok (.aload_n 0, 1) := by decide +kernel
theorem dX8_likeliest_51 : decode cX8_likeliest 51 = .ok (.iload_n 1, 1) := by decide +kernel
theorem dX8_likeliest_52 : decode cX8_likeliest 52 = .ok (.iload_n 2, 1) := by decide +kernel
theorem dX8_likeliest_53 : decode cX8_likeliest 53 = .ok (.iload 8, 2) := by decide +kernel
theorem dX8_likeliest_55 : decode cX8_likeliest 55 = .ok (.iload 9, 2) := by decide +kernel
theorem dX8_likeliest_57 : decode cX8_likeliest 57 = .ok (.invokevirtual 212, 3) := by decide +kernel
theorem dX8_likeliest_60 : decode cX8_likeliest 60 = .ok (.lstore 10, 2) := by decide +kernel
theorem dX8_likeliest_62 : decode cX8_likeliest 62 = .ok (.lload 10, 2) := by decide +kernel
theorem dX8_likeliest_64 : decode cX8_likeliest 64 = .ok (.lload 6, 2) := by decide +kernel
theorem dX8_likeliest_66 : decode cX8_likeliest 66 = .ok (.lcmp, 1) := by decide +kernel
theorem dX8_likeliest_67 : decode cX8_likeliest 67 = .ok (.ifCond .le 15, 3) := by decide +kernel
theorem dX8_likeliest_70 : decode cX8_likeliest 70 = .ok (.lload 10, 2) := by decide +kernel
theorem dX8_likeliest_72 : decode cX8_likeliest 72 = .ok (.lstore 6, 2) := by decide +kernel
theorem dX8_likeliest_74 : decode cX8_likeliest 74 = .ok (.iload 8, 2) := by decide +kernel
theorem dX8_likeliest_76 : decode cX8_likeliest 76 = .ok (.istore 4, 2) := by decide +kernel
theorem dX8_likeliest_78 : decode cX8_likeliest 78 = .ok (.iload 9, 2) := by decide +kernel
theorem dX8_likeliest_80 : decode cX8_likeliest 80 = .ok (.istore 5, 2) := by decide +kernel
theorem dX8_likeliest_82 : decode cX8_likeliest 82 = .ok (.iinc 9 1, 3) := by decide +kernel
theorem dX8_likeliest_85 : decode cX8_likeliest 85 = .ok (.goto (-44), 3) := by decide +kernel
theorem dX8_likeliest_88 : decode cX8_likeliest 88 = .ok (.iinc 8 1, 3) := by decide +kernel
theorem dX8_likeliest_91 : decode cX8_likeliest 91 = .ok (.goto (-60), 3) := by decide +kernel
theorem dX8_likeliest_94 : decode cX8_likeliest 94 = .ok (.iload 4, 2) := by decide +kernel
theorem dX8_likeliest_96 : decode cX8_likeliest 96 = .ok (.bipush (-9), 2) := by decide +kernel
theorem dX8_likeliest_98 : decode cX8_likeliest 98 = .ok (.if_icmp .ne 8, 3) := by decide +kernel
theorem dX8_likeliest_101 : decode cX8_likeliest 101 = .ok (.bipush (-2), 2) := by decide +kernel
theorem dX8_likeliest_103 : decode cX8_likeliest 103 = .ok (.goto 14, 3) := by decide +kernel
theorem dX8_likeliest_106 : decode cX8_likeliest 106 = .ok (.iload_n 3, 1) := by decide +kernel
theorem dX8_likeliest_107 : decode cX8_likeliest 107 = .ok (.ifCond .ne 8, 3) := by decide +kernel
theorem dX8_likeliest_110 : decode cX8_likeliest 110 = .ok (.iload 4, 2) := by decide +kernel
theorem dX8_likeliest_112 : decode cX8_likeliest 112 = .ok (.goto 5, 3) := by decide +kernel
theorem dX8_likeliest_115 : decode cX8_likeliest 115 = .ok (.iload 5, 2) := by decide +kernel
theorem dX8_likeliest_117 : decode cX8_likeliest 117 = .ok (.ireturn, 1) := by decide +kernel
theorem dX8_letter_0 : decode cX8_letter 0 = .ok (.aload_n 0, 1) := by decide +kernel
theorem dX8_letter_1 : decode cX8_letter 1 = .ok (.iconst 0, 1) := by decide +kernel
theorem dX8_letter_2 : decode cX8_letter 2 = .ok (.putfield 56, 3) := by decide +kernel
theorem dX8_letter_5 : decode cX8_letter 5 = .ok (.iload_n 2, 1) := by decide +kernel
theorem dX8_letter_6 : decode cX8_letter 6 = .ok (.iconst 0, 1) := by decide +kernel
theorem dX8_letter_7 : decode cX8_letter 7 = .ok (.aload_n 0, 1) := by decide +kernel
theorem dX8_letter_8 : decode cX8_letter 8 = .ok (.getfield 7, 3) := by decide +kernel
theorem dX8_letter_11 : decode cX8_letter 11 = .ok (.iconst 0, 1) := by decide +kernel
theorem dX8_letter_12 : decode cX8_letter 12 = .ok (.iaload, 1) := by decide +kernel
theorem dX8_letter_13 : decode cX8_letter 13 = .ok (.invokestatic 60, 3) := by decide +kernel
theorem dX8_letter_16 : decode cX8_letter 16 = .ok (.ifCond .eq 19, 3) := by decide +kernel
theorem dX8_letter_19 : decode cX8_letter 19 = .ok (.iload_n 3, 1) := by decide +kernel
theorem dX8_letter_20 : decode cX8_letter 20 = .ok (.invokestatic 190, 3) := by decide +kernel
theorem dX8_letter_23 : decode cX8_letter 23 = .ok (.ifCond .eq 12, 3) := by decide +kernel
theorem dX8_letter_26 : decode cX8_letter 26 = .ok (.aload_n 0, 1) := by decide +kernel
theorem dX8_letter_27 : decode cX8_letter 27 = .ok (.iload 4, 2) := by decide +kernel
theorem dX8_letter_29 : decode cX8_letter 29 = .ok (.invokevirtual 153, 3) := by decide +kernel
theorem dX8_letter_32 : decode cX8_letter 32 = .ok (.ifCond .ne 5, 3) := by decide +kernel
theorem dX8_letter_35 : decode cX8_letter 35 = .ok (.iconst (-1), 1) := by decide +kernel
theorem dX8_letter_36 : decode cX8_letter 36 = .ok (.ireturn, 1) := by decide +kernel
theorem dX8_letter_37 : decode cX8_letter 37 = .ok (.aload_n 0, 1) := by decide +kernel
theorem dX8_letter_38 : decode cX8_letter 38 = .ok (.getfield 35, 3) := by decide +kernel
theorem dX8_letter_41 : decode cX8_letter 41 = .ok (.iconst 0, 1) := by decide +kernel
theorem dX8_letter_42 : decode cX8_letter 42 = .ok (.iload_n 1, 1) := by decide +kernel
theorem dX8_letter_43 : decode cX8_letter 43 = .ok (.iconst 1, 1) := by decide +kernel
theorem dX8_letter_44 : decode cX8_letter 44 = .ok (.aload_n 0, 1) := by decide +kernel
theorem dX8_letter_45 : decode cX8_letter 45 = .ok (.getfield 141, 3) := by decide +kernel
theorem dX8_letter_48 : decode cX8_letter 48 = .ok (.ishl, 1) := by decide +kernel
theorem dX8_letter_49 : decode cX8_letter 49 = .ok (.iconst 1, 1) := by decide +kernel
theorem dX8_letter_50 : decode cX8_letter 50 = .ok (.isub, 1) := by decide +kernel
theorem dX8_letter_51 : decode cX8_letter 51 = .ok (.iand, 1) := by decide +kernel
theorem dX8_letter_52 : decode cX8_letter 52 = .ok (.iastore, 1) := by decide +kernel
theorem dX8_letter_53 : decode cX8_letter 53 = .ok (.aload_n 0, 1) := by decide +kernel
theorem dX8_letter_54 : decode cX8_letter 54 = .ok (.getfield 35, 3) := by decide +kernel
theorem dX8_letter_57 : decode cX8_letter 57 = .ok (.iconst 1, 1) := by decide +kernel
theorem dX8_letter_58 : decode cX8_letter 58 = .ok (.iload_n 2, 1) := by decide +kernel
theorem dX8_letter_59 : decode cX8_letter 59 = .ok (.iastore, 1) := by decide +kernel
theorem dX8_letter_60 : decode cX8_letter 60 = .ok (.aload_n 0, 1) := by decide +kernel
theorem dX8_letter_61 : decode cX8_letter 61 = .ok (.getfield 35, 3) := by decide +kernel
theorem dX8_letter_64 : decode cX8_letter 64 = .ok (.iconst 2, 1) := by decide +kernel
theorem dX8_letter_65 : decode cX8_letter 65 = .ok (.iload_n 3, 1) := by decide +kernel
theorem dX8_letter_66 : decode cX8_letter 66 = .ok (.iastore, 1) := by decide +kernel
theorem dX8_letter_67 : decode cX8_letter 67 = .ok (.aload_n 0, 1) := by decide +kernel
theorem dX8_letter_68 : decode cX8_letter 68 = .ok (.getfield 35, 3) := by decide +kernel
theorem dX8_letter_71 : decode cX8_letter 71 = .ok (.iconst 3, 1) := by decide +kernel
theorem dX8_letter_72 : decode cX8_letter 72 = .ok (.iload 4, 2) := by decide +kernel
theorem dX8_letter_74 : decode cX8_letter 74 = .ok (.iastore, 1) := by decide +kernel
theorem dX8_letter_75 : decode cX8_letter 75 = .ok (.aload_n 0, 1) := by decide +kernel
theorem dX8_letter_76 : decode cX8_letter 76 = .ok (.iconst 1, 1) := by decide +kernel
theorem dX8_letter_77 : decode cX8_letter 77 = .ok (.putfield 144, 3) := by decide +kernel
theorem dX8_letter_80 : decode cX8_letter 80 = .ok (.iconst 0, 1) := by decide +kernel
theorem dX8_letter_81 : decode cX8_letter 81 = .ok (.istore 5, 2) := by decide +kernel
theorem dX8_letter_83 : decode cX8_letter 83 = .ok (.iconst 0, 1) := by decide +kernel
theorem dX8_letter_84 : decode cX8_letter 84 = .ok (.istore 6, 2) := by decide +kernel
theorem dX8_letter_86 : decode cX8_letter 86 = .ok (.iload 6, 2) := by decide +kernel
theorem dX8_letter_88 : decode cX8_letter 88 = .ok (.aload_n 0, 1) := by decide +kernel
theorem dX8_letter_89 : decode cX8_letter 89 = .ok (.getfield 141, 3) := by decide +kernel
theorem dX8_letter_92 : decode cX8_letter 92 = .ok (.if_icmp .ge 25, 3) := by decide +kernel
theorem dX8_letter_95 : decode cX8_letter 95 = .ok (.iload 5, 2) := by decide +kernel
theorem dX8_letter_97 : decode cX8_letter 97 = .ok (.aload_n 0, 1) := by decide +kernel
theorem dX8_letter_98 : decode cX8_letter 98 = .ok (.getfield 35, 3) := by decide +kernel
theorem dX8_letter_101 : decode cX8_letter 101 = .ok (.iconst 0, 1) := by decide +kernel
theorem dX8_letter_102 : decode cX8_letter 102 = .ok (.iaload, 1) := by decide +kernel
theorem dX8_letter_103 : decode cX8_letter 103 = .ok (.iload 6, 2) := by decide +kernel
theorem dX8_letter_105 : decode cX8_letter 105 = .ok (.ishr, 1) := by decide +kernel
theorem dX8_letter_106 : decode cX8_letter 106 = .ok (.iconst 1, 1) := by decide +kernel
theorem dX8_letter_107 : decode cX8_letter 107 = .ok (.iand, 1) := by decide +kernel
theorem dX8_letter_108 : decode cX8_letter 108 = .ok (.iadd, 1) := by decide +kernel
theorem dX8_letter_109 : decode cX8_letter 109 = .ok (.istore 5, 2) := by decide +kernel
theorem dX8_letter_111 : decode cX8_letter 111 = .ok (.iinc 6 1, 3) := by decide +kernel
theorem dX8_letter_114 : decode cX8_letter 114 = .ok (.goto (-28), 3) := by decide +kernel
theorem dX8_letter_117 : decode cX8_letter 117 = .ok (.iload 5, 2) := by decide +kernel
theorem dX8_letter_119 : decode cX8_letter 119 = .ok (.ireturn, 1) := by decide +kernel
theorem dX8_aside_0 : decode cX8_aside 0 = .ok (.iconst 0, 1) := by decide +kernel
theorem dX8_aside_1 : decode cX8_aside 1 = .ok (.istore_n 2, 1) := by decide +kernel
theorem dX8_aside_2 : decode cX8_aside 2 = .ok (.iload_n 2, 1) := by decide +kernel
theorem dX8_aside_3 : decode cX8_aside 3 = .ok (.sipush 2950, 3) := by decide +kernel
theorem dX8_aside_6 : decode cX8_aside 6 = .ok (.if_icmp .ge 40, 3) := by decide +kernel
theorem dX8_aside_9 : decode cX8_aside 9 = .ok (.iload_n 1, 1) := by decide +kernel
theorem dX8_aside_10 : decode cX8_aside 10 = .ok (.ifCond .eq 18, 3) := by decide +kernel
theorem dX8_aside_13 : decode cX8_aside 13 = .ok (.aload_n 0, 1) := by decide +kernel
theorem dX8_aside_14 : decode cX8_aside 14 = .ok (.getfield 13, 3) := by decide +kernel
theorem dX8_aside_17 : decode cX8_aside 17 = .ok (.iload_n 2, 1) := by decide +kernel
theorem dX8_aside_18 : decode cX8_aside 18 = .ok (.aload_n 0, 1) := by decide +kernel
theorem dX8_aside_19 : decode cX8_aside 19 = .ok (.getfield 7, 3) := by decide +kernel
theorem dX8_aside_22 : decode cX8_aside 22 = .ok (.iload_n 2, 1) := by decide +kernel
theorem dX8_aside_23 : decode cX8_aside 23 = .ok (.iaload, 1) := by decide +kernel
theorem dX8_aside_24 : decode cX8_aside 24 = .ok (.iastore, 1) := by decide +kernel
theorem dX8_aside_25 : decode cX8_aside 25 = .ok (.goto 15, 3) := by decide +kernel
theorem dX8_aside_28 : decode cX8_aside 28 = .ok (.aload_n 0, 1) := by decide +kernel
theorem dX8_aside_29 : decode cX8_aside 29 = .ok (.getfield 7, 3) := by decide +kernel
theorem dX8_aside_32 : decode cX8_aside 32 = .ok (.iload_n 2, 1) := by decide +kernel
theorem dX8_aside_33 : decode cX8_aside 33 = .ok (.aload_n 0, 1) := by decide +kernel
theorem dX8_aside_34 : decode cX8_aside 34 = .ok (.getfield 13, 3) := by decide +kernel
theorem dX8_aside_37 : decode cX8_aside 37 = .ok (.iload_n 2, 1) := by decide +kernel
theorem dX8_aside_38 : decode cX8_aside 38 = .ok (.iaload, 1) := by decide +kernel
theorem dX8_aside_39 : decode cX8_aside 39 = .ok (.iastore, 1) := by decide +kernel
theorem dX8_aside_40 : decode cX8_aside 40 = .ok (.iinc 2 1, 3) := by decide +kernel
theorem dX8_aside_43 : decode cX8_aside 43 = .ok (.goto (-41), 3) := by decide +kernel
theorem dX8_aside_46 : decode cX8_aside 46 = .ok (.return_, 1) := by decide +kernel
theorem dX8_goesTo_0 : decode cX8_goesTo 0 = .ok (.aload_n 0, 1) := by decide +kernel
theorem dX8_goesTo_1 : decode cX8_goesTo 1 = .ok (.invokevirtual 150, 3) := by decide +kernel
theorem dX8_goesTo_4 : decode cX8_goesTo 4 = .ok (.aload_n 0, 1) := by decide +kernel
theorem dX8_goesTo_5 : decode cX8_goesTo 5 = .ok (.getfield 7, 3) := by decide +kernel
theorem dX8_goesTo_8 : decode cX8_goesTo 8 = .ok (.iconst 0, 1) := by decide +kernel
theorem dX8_goesTo_9 : decode cX8_goesTo 9 = .ok (.iaload, 1) := by decide +kernel
theorem dX8_goesTo_10 : decode cX8_goesTo 10 = .ok (.iload_n 1, 1) := by decide +kernel
theorem dX8_goesTo_11 : decode cX8_goesTo 11 = .ok (.if_icmp .ge 10, 3) := by decide +kernel
theorem dX8_goesTo_14 : decode cX8_goesTo 14 = .ok (.aload_n 0, 1) := by decide +kernel
theorem dX8_goesTo_15 : decode cX8_goesTo 15 = .ok (.invokevirtual 187, 3) := by decide +kernel
theorem dX8_goesTo_18 : decode cX8_goesTo 18 = .ok (.goto (-14), 3) := by decide +kernel
theorem dX8_goesTo_21 : decode cX8_goesTo 21 = .ok (.return_, 1) := by decide +kernel
theorem dX8_isLetterTold_0 : decode cX8_isLetterTold 0 = .ok (.aload_n 0, 1) := by decide +kernel
theorem dX8_isLetterTold_1 : decode cX8_isLetterTold 1 = .ok (.getfield 144, 3) := by decide +kernel
theorem dX8_isLetterTold_4 : decode cX8_isLetterTold 4 = .ok (.ifCond .eq 22, 3) := by decide +kernel
theorem dX8_isLetterTold_7 : decode cX8_isLetterTold 7 = .ok (.aload_n 0, 1) := by decide +kernel
theorem dX8_isLetterTold_8 : decode cX8_isLetterTold 8 = .ok (.getfield 35, 3) := by decide +kernel
theorem dX8_isLetterTold_11 : decode cX8_isLetterTold 11 = .ok (.iconst 1, 1) := by decide +kernel
theorem dX8_isLetterTold_12 : decode cX8_isLetterTold 12 = .ok (.iaload, 1) := by decide +kernel
theorem dX8_isLetterTold_13 : decode cX8_isLetterTold 13 = .ok (.aload_n 0, 1) := by decide +kernel
theorem dX8_isLetterTold_14 : decode cX8_isLetterTold 14 = .ok (.getfield 7, 3) := by decide +kernel
theorem dX8_isLetterTold_17 : decode cX8_isLetterTold 17 = .ok (.iconst 0, 1) := by decide +kernel
theorem dX8_isLetterTold_18 : decode cX8_isLetterTold 18 = .ok (.iaload, 1) := by decide +kernel
theorem dX8_isLetterTold_19 : decode cX8_isLetterTold 19 = .ok (.if_icmp .gt 7, 3) := by decide +kernel
theorem dX8_isLetterTold_22 : decode cX8_isLetterTold 22 = .ok (.iconst 1, 1) := by decide +kernel
theorem dX8_isLetterTold_23 : decode cX8_isLetterTold 23 = .ok (.goto 4, 3) := by decide +kernel
theorem dX8_isLetterTold_26 : decode cX8_isLetterTold 26 = .ok (.iconst 0, 1) := by decide +kernel
theorem dX8_isLetterTold_27 : decode cX8_isLetterTold 27 = .ok (.ireturn, 1) := by decide +kernel
theorem dX8_could_0 : decode cX8_could 0 = .ok (.aload_n 0, 1) := by decide +kernel
theorem dX8_could_1 : decode cX8_could 1 = .ok (.iconst 0, 1) := by decide +kernel
theorem dX8_could_2 : decode cX8_could 2 = .ok (.putfield 56, 3) := by decide +kernel
theorem dX8_could_5 : decode cX8_could 5 = .ok (.aload_n 0, 1) := by decide +kernel
theorem dX8_could_6 : decode cX8_could 6 = .ok (.invokevirtual 227, 3) := by decide +kernel
theorem dX8_could_9 : decode cX8_could 9 = .ok (.ifCond .ne 6, 3) := by decide +kernel
theorem dX8_could_12 : decode cX8_could 12 = .ok (.bipush (-2), 2) := by decide +kernel
theorem dX8_could_14 : decode cX8_could 14 = .ok (.ireturn, 1) := by decide +kernel
theorem dX8_could_15 : decode cX8_could 15 = .ok (.aload_n 0, 1) := by decide +kernel
theorem dX8_could_16 : decode cX8_could 16 = .ok (.iconst 1, 1) := by decide +kernel
theorem dX8_could_17 : decode cX8_could 17 = .ok (.invokevirtual 230, 3) := by decide +kernel
theorem dX8_could_20 : decode cX8_could 20 = .ok (.aload_n 0, 1) := by decide +kernel
theorem dX8_could_21 : decode cX8_could 21 = .ok (.aload_n 0, 1) := by decide +kernel
theorem dX8_could_22 : decode cX8_could 22 = .ok (.getfield 35, 3) := by decide +kernel
theorem dX8_could_25 : decode cX8_could 25 = .ok (.iconst 1, 1) := by decide +kernel
theorem dX8_could_26 : decode cX8_could 26 = .ok (.iaload, 1) := by decide +kernel
theorem dX8_could_27 : decode cX8_could 27 = .ok (.invokevirtual 234, 3) := by decide +kernel
theorem dX8_could_30 : decode cX8_could 30 = .ok (.iconst 0, 1) := by decide +kernel
theorem dX8_could_31 : decode cX8_could 31 = .ok (.istore_n 1, 1) := by decide +kernel
theorem dX8_could_32 : decode cX8_could 32 = .ok (.iconst 0, 1) := by decide +kernel
theorem dX8_could_33 : decode cX8_could 33 = .ok (.istore_n 2, 1) := by decide +kernel
theorem dX8_could_34 : decode cX8_could 34 = .ok (.iload_n 2, 1) := by decide +kernel
theorem dX8_could_35 : decode cX8_could 35 = .ok (.aload_n 0, 1) := by decide +kernel
theorem dX8_could_36 : decode cX8_could 36 = .ok (.getfield 141, 3) := by decide +kernel
theorem dX8_could_39 : decode cX8_could 39 = .ok (.if_icmp .ge 57, 3) := by decide +kernel
theorem dX8_could_42 : decode cX8_could 42 = .ok (.iload_n 1, 1) := by decide +kernel
theorem dX8_could_43 : decode cX8_could 43 = .ok (.aload_n 0, 1) := by decide +kernel
theorem dX8_could_44 : decode cX8_could 44 = .ok (.getfield 35, 3) := by decide +kernel
theorem dX8_could_47 : decode cX8_could 47 = .ok (.iconst 0, 1) := by decide +kernel
theorem dX8_could_48 : decode cX8_could 48 = .ok (.iaload, 1) := by decide +kernel
theorem dX8_could_49 : decode cX8_could 49 = .ok (.iload_n 2, 1) := by decide +kernel
theorem dX8_could_50 : decode cX8_could 50 = .ok (.ishr, 1) := by decide +kernel
theorem dX8_could_51 : decode cX8_could 51 = .ok (.iconst 1, 1) := by decide +kernel
theorem dX8_could_52 : decode cX8_could 52 = .ok (.iand, 1) := by decide +kernel
theorem dX8_could_53 : decode cX8_could 53 = .ok (.iconst 1, 1) := by decide +kernel
theorem dX8_could_54 : decode cX8_could 54 = .ok (.if_icmp .ne 33, 3) := by decide +kernel
theorem dX8_could_57 : decode cX8_could 57 = .ok (.aload_n 0, 1) := by decide +kernel
theorem dX8_could_58 : decode cX8_could 58 = .ok (.getfield 7, 3) := by decide +kernel
theorem dX8_could_61 : decode cX8_could 61 = .ok (.iload_n 2, 1) := by decide +kernel
theorem dX8_could_62 : decode cX8_could 62 = .ok (.aload_n 0, 1) := by decide +kernel
theorem dX8_could_63 : decode cX8_could 63 = .ok (.getfield 35, 3) := by decide +kernel
theorem dX8_could_66 : decode cX8_could 66 = .ok (.iconst 3, 1) := by decide +kernel
theorem dX8_could_67 : decode cX8_could 67 = .ok (.iaload, 1) := by decide +kernel
theorem dX8_could_68 : decode cX8_could 68 = .ok (.aload_n 0, 1) := by decide +kernel
theorem dX8_could_69 : decode cX8_could 69 = .ok (.getfield 35, 3) := by decide +kernel
theorem dX8_could_72 : decode cX8_could 72 = .ok (.iconst 2, 1) := by decide +kernel
theorem dX8_could_73 : decode cX8_could 73 = .ok (.iaload, 1) := by decide +kernel
theorem dX8_could_74 : decode cX8_could 74 = .ok (.invokestatic 162, 3) := by decide +kernel
theorem dX8_could_77 : decode cX8_could 77 = .ok (.iaload, 1) := by decide +kernel
theorem dX8_could_78 : decode cX8_could 78 = .ok (.ifCond .ne 9, 3) := by decide +kernel
theorem dX8_could_81 : decode cX8_could 81 = .ok (.iconst 1, 1) := by decide +kernel
theorem dX8_could_82 : decode cX8_could 82 = .ok (.iload_n 2, 1) := by decide +kernel
theorem dX8_could_83 : decode cX8_could 83 = .ok (.ishl, 1) := by decide +kernel
theorem dX8_could_84 : decode cX8_could 84 = .ok (.goto 4, 3) := by decide +kernel
theorem dX8_could_87 : decode cX8_could 87 = .ok (.iconst 0, 1) := by decide +kernel
theorem dX8_could_88 : decode cX8_could 88 = .ok (.ior, 1) := by decide +kernel
theorem dX8_could_89 : decode cX8_could 89 = .ok (.istore_n 1, 1) := by decide +kernel
theorem dX8_could_90 : decode cX8_could 90 = .ok (.iinc 2 1, 3) := by decide +kernel
theorem dX8_could_93 : decode cX8_could 93 = .ok (.goto (-59), 3) := by decide +kernel
theorem dX8_could_96 : decode cX8_could 96 = .ok (.aload_n 0, 1) := by decide +kernel
theorem dX8_could_97 : decode cX8_could 97 = .ok (.iconst 0, 1) := by decide +kernel
theorem dX8_could_98 : decode cX8_could 98 = .ok (.invokevirtual 230, 3) := by decide +kernel
theorem dX8_could_101 : decode cX8_could 101 = .ok (.iload_n 1, 1) := by decide +kernel
theorem dX8_could_102 : decode cX8_could 102 = .ok (.ireturn, 1) := by decide +kernel
theorem dX8_forged_0 : decode cX8_forged 0 = .ok (.aload_n 0, 1) := by decide +kernel
theorem dX8_forged_1 : decode cX8_forged 1 = .ok (.iconst 0, 1) := by decide +kernel
theorem dX8_forged_2 : decode cX8_forged 2 = .ok (.putfield 56, 3) := by decide +kernel
theorem dX8_forged_5 : decode cX8_forged 5 = .ok (.iload_n 1, 1) := by decide +kernel
theorem dX8_forged_6 : decode cX8_forged 6 = .ok (.invokestatic 190, 3) := by decide +kernel
theorem dX8_forged_9 : decode cX8_forged 9 = .ok (.ifCond .eq 31, 3) := by decide +kernel
theorem dX8_forged_12 : decode cX8_forged 12 = .ok (.aload_n 0, 1) := by decide +kernel
theorem dX8_forged_13 : decode cX8_forged 13 = .ok (.iload_n 2, 1) := by decide +kernel
theorem dX8_forged_14 : decode cX8_forged 14 = .ok (.invokevirtual 153, 3) := by decide +kernel
theorem dX8_forged_17 : decode cX8_forged 17 = .ok (.ifCond .eq 23, 3) := by decide +kernel
theorem dX8_forged_20 : decode cX8_forged 20 = .ok (.iload_n 3, 1) := by decide +kernel
theorem dX8_forged_21 : decode cX8_forged 21 = .ok (.iconst 0, 1) := by decide +kernel
theorem dX8_forged_22 : decode cX8_forged 22 = .ok (.bipush 10, 2) := by decide +kernel
theorem dX8_forged_24 : decode cX8_forged 24 = .ok (.invokestatic 60, 3) := by decide +kernel
theorem dX8_forged_27 : decode cX8_forged 27 = .ok (.ifCond .eq 13, 3) := by decide +kernel
theorem dX8_forged_30 : decode cX8_forged 30 = .ok (.iload 4, 2) := by decide +kernel
theorem dX8_forged_32 : decode cX8_forged 32 = .ok (.iconst 0, 1) := by decide +kernel
theorem dX8_forged_33 : decode cX8_forged 33 = .ok (.iconst 1, 1) := by decide +kernel
theorem dX8_forged_34 : decode cX8_forged 34 = .ok (.invokestatic 60, 3) := by decide +kernel
theorem dX8_forged_37 : decode cX8_forged 37 = .ok (.ifCond .ne 7, 3) := by decide +kernel
theorem dX8_forged_40 : decode cX8_forged 40 = .ok (.ldc2_w 216, 3) := by decide +kernel
theorem dX8_forged_43 : decode cX8_forged 43 = .ok (.lreturn, 1) := by decide +kernel
theorem dX8_forged_44 : decode cX8_forged 44 = .ok (.aload_n 0, 1) := by decide +kernel
theorem dX8_forged_45 : decode cX8_forged 45 = .ok (.invokevirtual 227, 3) := by decide +kernel
theorem dX8_forged_48 : decode cX8_forged 48 = .ok (.ifCond .ne 7, 3) := by decide +kernel
theorem dX8_forged_51 : decode cX8_forged 51 = .ok (.ldc2_w 221, 3) := by decide +kernel
theorem dX8_forged_54 : decode cX8_forged 54 = .ok (.lreturn, 1) := by decide +kernel
theorem dX8_forged_55 : decode cX8_forged 55 = .ok (.iload_n 3, 1) := by decide +kernel
theorem dX8_forged_56 : decode cX8_forged 56 = .ok (.i2l, 1) := by decide +kernel
theorem dX8_forged_57 : decode cX8_forged 57 = .ok (.aload_n 0, 1) := by decide +kernel
theorem dX8_forged_58 : decode cX8_forged 58 = .ok (.aload_n 0, 1) := by decide +kernel
theorem dX8_forged_59 : decode cX8_forged 59 = .ok (.getfield 35, 3) := by decide +kernel
theorem dX8_forged_62 : decode cX8_forged 62 = .ok (.iconst 0, 1) := by decide +kernel
theorem dX8_forged_63 : decode cX8_forged 63 = .ok (.iaload, 1) := by decide +kernel
theorem dX8_forged_64 : decode cX8_forged 64 = .ok (.iconst 0, 1) := by decide +kernel
theorem dX8_forged_65 : decode cX8_forged 65 = .ok (.iload_n 1, 1) := by decide +kernel
theorem dX8_forged_66 : decode cX8_forged 66 = .ok (.iload_n 2, 1) := by decide +kernel
theorem dX8_forged_67 : decode cX8_forged 67 = .ok (.invokevirtual 212, 3) := by decide +kernel
theorem dX8_forged_70 : decode cX8_forged 70 = .ok (.lmul, 1) := by decide +kernel
theorem dX8_forged_71 : decode cX8_forged 71 = .ok (.lstore 5, 2) := by decide +kernel
theorem dX8_forged_73 : decode cX8_forged 73 = .ok (.aload_n 0, 1) := by decide +kernel
theorem dX8_forged_74 : decode cX8_forged 74 = .ok (.iconst 1, 1) := by decide +kernel
theorem dX8_forged_75 : decode cX8_forged 75 = .ok (.invokevirtual 230, 3) := by decide +kernel
theorem dX8_forged_78 : decode cX8_forged 78 = .ok (.aload_n 0, 1) := by decide +kernel
theorem dX8_forged_79 : decode cX8_forged 79 = .ok (.aload_n 0, 1) := by decide +kernel
theorem dX8_forged_80 : decode cX8_forged 80 = .ok (.getfield 35, 3) := by decide +kernel
theorem dX8_forged_83 : decode cX8_forged 83 = .ok (.iconst 1, 1) := by decide +kernel
theorem dX8_forged_84 : decode cX8_forged 84 = .ok (.iaload, 1) := by decide +kernel
theorem dX8_forged_85 : decode cX8_forged 85 = .ok (.invokevirtual 234, 3) := by decide +kernel
theorem dX8_forged_88 : decode cX8_forged 88 = .ok (.lload 5, 2) := by decide +kernel
theorem dX8_forged_90 : decode cX8_forged 90 = .ok (.bipush 10, 2) := by decide +kernel
theorem dX8_forged_92 : decode cX8_forged 92 = .ok (.iload_n 3, 1) := by decide +kernel
theorem dX8_forged_93 : decode cX8_forged 93 = .ok (.isub, 1) := by decide +kernel
theorem dX8_forged_94 : decode cX8_forged 94 = .ok (.i2l, 1) := by decide +kernel
theorem dX8_forged_95 : decode cX8_forged 95 = .ok (.aload_n 0, 1) := by decide +kernel
theorem dX8_forged_96 : decode cX8_forged 96 = .ok (.aload_n 0, 1) := by decide +kernel
theorem dX8_forged_97 : decode cX8_forged 97 = .ok (.getfield 35, 3) := by decide +kernel
theorem dX8_forged_100 : decode cX8_forged 100 = .ok (.iconst 0, 1) := by decide +kernel
theorem dX8_forged_101 : decode cX8_forged 101 = .ok (.iaload, 1) := by decide +kernel
theorem dX8_forged_102 : decode cX8_forged 102 = .ok (.iconst 0, 1) := by decide +kernel
theorem dX8_forged_103 : decode cX8_forged 103 = .ok (.aload_n 0, 1) := by decide +kernel
theorem dX8_forged_104 : decode cX8_forged 104 = .ok (.getfield 35, 3) := by decide +kernel
theorem dX8_forged_107 : decode cX8_forged 107 = .ok (.iconst 2, 1) := by decide +kernel
theorem dX8_forged_108 : decode cX8_forged 108 = .ok (.iaload, 1) := by decide +kernel
theorem dX8_forged_109 : decode cX8_forged 109 = .ok (.aload_n 0, 1) := by decide +kernel
theorem dX8_forged_110 : decode cX8_forged 110 = .ok (.getfield 35, 3) := by decide +kernel
theorem dX8_forged_113 : decode cX8_forged 113 = .ok (.iconst 3, 1) := by decide +kernel
theorem dX8_forged_114 : decode cX8_forged 114 = .ok (.iaload, 1) := by decide +kernel
theorem dX8_forged_115 : decode cX8_forged 115 = .ok (.invokevirtual 212, 3) := by decide +kernel
theorem dX8_forged_118 : decode cX8_forged 118 = .ok (.lmul, 1) := by decide +kernel
theorem dX8_forged_119 : decode cX8_forged 119 = .ok (.ladd, 1) := by decide +kernel
theorem dX8_forged_120 : decode cX8_forged 120 = .ok (.lstore 7, 2) := by decide +kernel
theorem dX8_forged_122 : decode cX8_forged 122 = .ok (.aload_n 0, 1) := by decide +kernel
theorem dX8_forged_123 : decode cX8_forged 123 = .ok (.iconst 0, 1) := by decide +kernel
theorem dX8_forged_124 : decode cX8_forged 124 = .ok (.invokevirtual 230, 3) := by decide +kernel
theorem dX8_forged_127 : decode cX8_forged 127 = .ok (.lload 7, 2) := by decide +kernel
theorem dX8_forged_129 : decode cX8_forged 129 = .ok (.lconst 0, 1) := by decide +kernel
theorem dX8_forged_130 : decode cX8_forged 130 = .ok (.lcmp, 1) := by decide +kernel
theorem dX8_forged_131 : decode cX8_forged 131 = .ok (.ifCond .ne 9, 3) := by decide +kernel
theorem dX8_forged_134 : decode cX8_forged 134 = .ok (.ldc2_w 221, 3) := by decide +kernel
theorem dX8_forged_137 : decode cX8_forged 137 = .ok (.goto 12, 3) := by decide +kernel
theorem dX8_forged_140 : decode cX8_forged 140 = .ok (.lload 5, 2) := by decide +kernel
theorem dX8_forged_142 : decode cX8_forged 142 = .ok (.lload 7, 2) := by decide +kernel
theorem dX8_forged_144 : decode cX8_forged 144 = .ok (.iload 4, 2) := by decide +kernel
theorem dX8_forged_146 : decode cX8_forged 146 = .ok (.invokestatic 223, 3) := by decide +kernel
theorem dX8_forged_149 : decode cX8_forged 149 = .ok (.lreturn, 1) := by decide +kernel
theorem dX8_overBy_0 : decode cX8_overBy 0 = .ok (.aload_n 0, 1) := by decide +kernel
theorem dX8_overBy_1 : decode cX8_overBy 1 = .ok (.getfield 26, 3) := by decide +kernel
theorem dX8_overBy_4 : decode cX8_overBy 4 = .ok (.iconst 1, 1) := by decide +kernel
theorem dX8_overBy_5 : decode cX8_overBy 5 = .ok (.iaload, 1) := by decide +kernel
theorem dX8_overBy_6 : decode cX8_overBy 6 = .ok (.istore_n 3, 1) := by decide +kernel
theorem dX8_overBy_7 : decode cX8_overBy 7 = .ok (.aload_n 0, 1) := by decide +kernel
theorem dX8_overBy_8 : decode cX8_overBy 8 = .ok (.iconst 1, 1) := by decide +kernel
theorem dX8_overBy_9 : decode cX8_overBy 9 = .ok (.invokevirtual 230, 3) := by decide +kernel
theorem dX8_overBy_12 : decode cX8_overBy 12 = .ok (.aload_n 0, 1) := by decide +kernel
theorem dX8_overBy_13 : decode cX8_overBy 13 = .ok (.getfield 26, 3) := by decide +kernel
theorem dX8_overBy_16 : decode cX8_overBy 16 = .ok (.iconst 1, 1) := by decide +kernel
theorem dX8_overBy_17 : decode cX8_overBy 17 = .ok (.iload_n 2, 1) := by decide +kernel
theorem dX8_overBy_18 : decode cX8_overBy 18 = .ok (.iastore, 1) := by decide +kernel
theorem dX8_overBy_19 : decode cX8_overBy 19 = .ok (.aload_n 0, 1) := by decide +kernel
theorem dX8_overBy_20 : decode cX8_overBy 20 = .ok (.bipush 99, 2) := by decide +kernel
theorem dX8_overBy_22 : decode cX8_overBy 22 = .ok (.invokevirtual 234, 3) := by decide +kernel
theorem dX8_overBy_25 : decode cX8_overBy 25 = .ok (.aload_n 0, 1) := by decide +kernel
theorem dX8_overBy_26 : decode cX8_overBy 26 = .ok (.iload_n 1, 1) := by decide +kernel
theorem dX8_overBy_27 : decode cX8_overBy 27 = .ok (.invokevirtual 202, 3) := by decide +kernel
theorem dX8_overBy_30 : decode cX8_overBy 30 = .ok (.pop, 1) := by decide +kernel
theorem dX8_overBy_31 : decode cX8_overBy 31 = .ok (.aload_n 0, 1) := by decide +kernel
theorem dX8_overBy_32 : decode cX8_overBy 32 = .ok (.getfield 26, 3) := by decide +kernel
theorem dX8_overBy_35 : decode cX8_overBy 35 = .ok (.iconst 1, 1) := by decide +kernel
theorem dX8_overBy_36 : decode cX8_overBy 36 = .ok (.iload_n 3, 1) := by decide +kernel
theorem dX8_overBy_37 : decode cX8_overBy 37 = .ok (.iastore, 1) := by decide +kernel
theorem dX8_overBy_38 : decode cX8_overBy 38 = .ok (.aload_n 0, 1) := by decide +kernel
theorem dX8_overBy_39 : decode cX8_overBy 39 = .ok (.iconst 0, 1) := by decide +kernel
theorem dX8_overBy_40 : decode cX8_overBy 40 = .ok (.invokevirtual 230, 3) := by decide +kernel
theorem dX8_overBy_43 : decode cX8_overBy 43 = .ok (.aload_n 0, 1) := by decide +kernel
theorem dX8_overBy_44 : decode cX8_overBy 44 = .ok (.getfield 196, 3) := by decide +kernel
theorem dX8_overBy_47 : decode cX8_overBy 47 = .ok (.bipush (-9), 2) := by decide +kernel
theorem dX8_overBy_49 : decode cX8_overBy 49 = .ok (.if_icmp .ne 8, 3) := by decide +kernel
theorem dX8_overBy_52 : decode cX8_overBy 52 = .ok (.bipush 99, 2) := by decide +kernel
theorem dX8_overBy_54 : decode cX8_overBy 54 = .ok (.goto 7, 3) := by decide +kernel
theorem dX8_overBy_57 : decode cX8_overBy 57 = .ok (.aload_n 0, 1) := by decide +kernel
theorem dX8_overBy_58 : decode cX8_overBy 58 = .ok (.getfield 196, 3) := by decide +kernel
theorem dX8_overBy_61 : decode cX8_overBy 61 = .ok (.ireturn, 1) := by decide +kernel
theorem dX8_kills_0 : decode cX8_kills 0 = .ok (.aload_n 0, 1) := by decide +kernel
theorem dX8_kills_1 : decode cX8_kills 1 = .ok (.iconst 0, 1) := by decide +kernel
theorem dX8_kills_2 : decode cX8_kills 2 = .ok (.putfield 56, 3) := by decide +kernel
theorem dX8_kills_5 : decode cX8_kills 5 = .ok (.aload_n 0, 1) := by decide +kernel
theorem dX8_kills_6 : decode cX8_kills 6 = .ok (.iload_n 1, 1) := by decide +kernel
theorem dX8_kills_7 : decode cX8_kills 7 = .ok (.invokevirtual 156, 3) := by decide +kernel
theorem dX8_kills_10 : decode cX8_kills 10 = .ok (.ifCond .eq 32, 3) := by decide +kernel
theorem dX8_kills_13 : decode cX8_kills 13 = .ok (.aload_n 0, 1) := by decide +kernel
theorem dX8_kills_14 : decode cX8_kills 14 = .ok (.iload_n 1, 1) := by decide +kernel
theorem dX8_kills_15 : decode cX8_kills 15 = .ok (.invokevirtual 159, 3) := by decide +kernel
theorem dX8_kills_18 : decode cX8_kills 18 = .ok (.ifCond .eq 24, 3) := by decide +kernel
theorem dX8_kills_21 : decode cX8_kills 21 = .ok (.aload_n 0, 1) := by decide +kernel
theorem dX8_kills_22 : decode cX8_kills 22 = .ok (.iload_n 1, 1) := by decide +kernel
theorem dX8_kills_23 : decode cX8_kills 23 = .ok (.iconst 0, 1) := by decide +kernel
theorem dX8_kills_24 : decode cX8_kills 24 = .ok (.invokevirtual 237, 3) := by decide +kernel
theorem dX8_kills_27 : decode cX8_kills 27 = .ok (.aload_n 0, 1) := by decide +kernel
theorem dX8_kills_28 : decode cX8_kills 28 = .ok (.iload_n 1, 1) := by decide +kernel
theorem dX8_kills_29 : decode cX8_kills 29 = .ok (.aload_n 0, 1) := by decide +kernel
theorem dX8_kills_30 : decode cX8_kills 30 = .ok (.getfield 26, 3) := by decide +kernel
theorem dX8_kills_33 : decode cX8_kills 33 = .ok (.iconst 1, 1) := by decide +kernel
theorem dX8_kills_34 : decode cX8_kills 34 = .ok (.iaload, 1) := by decide +kernel
theorem dX8_kills_35 : decode cX8_kills 35 = .ok (.invokevirtual 237, 3) := by decide +kernel
theorem dX8_kills_38 : decode cX8_kills 38 = .ok (.isub, 1) := by decide +kernel
theorem dX8_kills_39 : decode cX8_kills 39 = .ok (.goto 5, 3) := by decide +kernel
theorem dX8_kills_42 : decode cX8_kills 42 = .ok (.ldc 240, 2) := by decide +kernel
theorem dX8_kills_44 : decode cX8_kills 44 = .ok (.ireturn, 1) := by decide +kernel
theorem dX8_part__0 : decode cX8_part_ 0 = .ok (.aload_n 0, 1) := by decide +kernel
theorem dX8_part__1 : decode cX8_part_ 1 = .ok (.iconst 0, 1) := by decide +kernel
theorem dX8_part__2 : decode cX8_part_ 2 = .ok (.putfield 56, 3) := by decide +kernel
theorem dX8_part__5 : decode cX8_part_ 5 = .ok (.aload_n 0, 1) := by decide +kernel
theorem dX8_part__6 : decode cX8_part_ 6 = .ok (.iload_n 1, 1) := by decide +kernel
theorem dX8_part__7 : decode cX8_part_ 7 = .ok (.invokevirtual 156, 3) := by decide +kernel
theorem dX8_part__10 : decode cX8_part_ 10 = .ok (.ifCond .ne 6, 3) := by decide +kernel
theorem dX8_part__13 : decode cX8_part_ 13 = .ok (.ldc 240, 2) := by decide +kernel
theorem dX8_part__15 : decode cX8_part_ 15 = .ok (.ireturn, 1) := by decide +kernel
theorem dX8_part__16 : decode cX8_part_ 16 = .ok (.aload_n 0, 1) := by decide +kernel
theorem dX8_part__17 : decode cX8_part_ 17 = .ok (.iload_n 1, 1) := by decide +kernel
theorem dX8_part__18 : decode cX8_part_ 18 = .ok (.invokevirtual 202, 3) := by decide +kernel
theorem dX8_part__21 : decode cX8_part_ 21 = .ok (.istore_n 2, 1) := by decide +kernel
theorem dX8_part__22 : decode cX8_part_ 22 = .ok (.aload_n 0, 1) := by decide +kernel
theorem dX8_part__23 : decode cX8_part_ 23 = .ok (.getfield 7, 3) := by decide +kernel
theorem dX8_part__26 : decode cX8_part_ 26 = .ok (.iconst 0, 1) := by decide +kernel
theorem dX8_part__27 : decode cX8_part_ 27 = .ok (.iaload, 1) := by decide +kernel
theorem dX8_part__28 : decode cX8_part_ 28 = .ok (.istore_n 3, 1) := by decide +kernel
theorem dX8_part__29 : decode cX8_part_ 29 = .ok (.aload_n 0, 1) := by decide +kernel
theorem dX8_part__30 : decode cX8_part_ 30 = .ok (.iconst 1, 1) := by decide +kernel
theorem dX8_part__31 : decode cX8_part_ 31 = .ok (.invokevirtual 230, 3) := by decide +kernel
theorem dX8_part__34 : decode cX8_part_ 34 = .ok (.aload_n 0, 1) := by decide +kernel
theorem dX8_part__35 : decode cX8_part_ 35 = .ok (.getfield 7, 3) := by decide +kernel
theorem dX8_part__38 : decode cX8_part_ 38 = .ok (.iconst 2, 1) := by decide +kernel
theorem dX8_part__39 : decode cX8_part_ 39 = .ok (.iconst 0, 1) := by decide +kernel
theorem dX8_part__40 : decode cX8_part_ 40 = .ok (.iastore, 1) := by decide +kernel
theorem dX8_part__41 : decode cX8_part_ 41 = .ok (.aload_n 0, 1) := by decide +kernel
theorem dX8_part__42 : decode cX8_part_ 42 = .ok (.iload_n 3, 1) := by decide +kernel
theorem dX8_part__43 : decode cX8_part_ 43 = .ok (.invokevirtual 234, 3) := by decide +kernel
theorem dX8_part__46 : decode cX8_part_ 46 = .ok (.aload_n 0, 1) := by decide +kernel
theorem dX8_part__47 : decode cX8_part_ 47 = .ok (.iload_n 1, 1) := by decide +kernel
theorem dX8_part__48 : decode cX8_part_ 48 = .ok (.invokevirtual 202, 3) := by decide +kernel
theorem dX8_part__51 : decode cX8_part_ 51 = .ok (.istore 4, 2) := by decide +kernel
theorem dX8_part__53 : decode cX8_part_ 53 = .ok (.aload_n 0, 1) := by decide +kernel
theorem dX8_part__54 : decode cX8_part_ 54 = .ok (.iconst 0, 1) := by decide +kernel
theorem dX8_part__55 : decode cX8_part_ 55 = .ok (.invokevirtual 230, 3) := by decide +kernel
theorem dX8_part__58 : decode cX8_part_ 58 = .ok (.iload_n 2, 1) := by decide +kernel
theorem dX8_part__59 : decode cX8_part_ 59 = .ok (.iload 4, 2) := by decide +kernel
theorem dX8_part__61 : decode cX8_part_ 61 = .ok (.isub, 1) := by decide +kernel
theorem dX8_part__62 : decode cX8_part_ 62 = .ok (.ireturn, 1) := by decide +kernel
theorem dX8_writing_0 : decode cX8_writing 0 = .ok (.aload_n 0, 1) := by decide +kernel
theorem dX8_writing_1 : decode cX8_writing 1 = .ok (.iconst 0, 1) := by decide +kernel
theorem dX8_writing_2 : decode cX8_writing 2 = .ok (.putfield 56, 3) := by decide +kernel
theorem dX8_writing_5 : decode cX8_writing 5 = .ok (.iload_n 1, 1) := by decide +kernel
theorem dX8_writing_6 : decode cX8_writing 6 = .ok (.iconst 0, 1) := by decide +kernel
theorem dX8_writing_7 : decode cX8_writing 7 = .ok (.bipush 99, 2) := by decide +kernel
theorem dX8_writing_9 : decode cX8_writing 9 = .ok (.invokestatic 60, 3) := by decide +kernel
theorem dX8_writing_12 : decode cX8_writing 12 = .ok (.ifCond .eq 18, 3) := by decide +kernel
theorem dX8_writing_15 : decode cX8_writing 15 = .ok (.iload_n 2, 1) := by decide +kernel
theorem dX8_writing_16 : decode cX8_writing 16 = .ok (.invokestatic 190, 3) := by decide +kernel
theorem dX8_writing_19 : decode cX8_writing 19 = .ok (.ifCond .eq 11, 3) := by decide +kernel
theorem dX8_writing_22 : decode cX8_writing 22 = .ok (.aload_n 0, 1) := by decide +kernel
theorem dX8_writing_23 : decode cX8_writing 23 = .ok (.iload_n 3, 1) := by decide +kernel
theorem dX8_writing_24 : decode cX8_writing 24 = .ok (.invokevirtual 156, 3) := by decide +kernel
theorem dX8_writing_27 : decode cX8_writing 27 = .ok (.ifCond .ne 5, 3) := by decide +kernel
theorem dX8_writing_30 : decode cX8_writing 30 = .ok (.iconst (-1), 1) := by decide +kernel
theorem dX8_writing_31 : decode cX8_writing 31 = .ok (.ireturn, 1) := by decide +kernel
theorem dX8_writing_32 : decode cX8_writing 32 = .ok (.aload_n 0, 1) := by decide +kernel
theorem dX8_writing_33 : decode cX8_writing 33 = .ok (.getfield 147, 3) := by decide +kernel
theorem dX8_writing_36 : decode cX8_writing 36 = .ok (.bipush 40, 2) := by decide +kernel
theorem dX8_writing_38 : decode cX8_writing 38 = .ok (.if_icmp .ne 6, 3) := by decide +kernel
theorem dX8_writing_41 : decode cX8_writing 41 = .ok (.bipush (-3), 2) := by decide +kernel
theorem dX8_writing_43 : decode cX8_writing 43 = .ok (.ireturn, 1) := by decide +kernel
theorem dX8_writing_44 : decode cX8_writing 44 = .ok (.aload_n 0, 1) := by decide +kernel
theorem dX8_writing_45 : decode cX8_writing 45 = .ok (.getfield 38, 3) := by decide +kernel
theorem dX8_writing_48 : decode cX8_writing 48 = .ok (.iconst 3, 1) := by decide +kernel
theorem dX8_writing_49 : decode cX8_writing 49 = .ok (.aload_n 0, 1) := by decide +kernel
theorem dX8_writing_50 : decode cX8_writing 50 = .ok (.getfield 147, 3) := by decide +kernel
theorem dX8_writing_53 : decode cX8_writing 53 = .ok (.imul, 1) := by decide +kernel
theorem dX8_writing_54 : decode cX8_writing 54 = .ok (.iload_n 1, 1) := by decide +kernel
theorem dX8_writing_55 : decode cX8_writing 55 = .ok (.iastore, 1) := by decide +kernel
theorem dX8_writing_56 : decode cX8_writing 56 = .ok (.aload_n 0, 1) := by decide +kernel
theorem dX8_writing_57 : decode cX8_writing 57 = .ok (.getfield 38, 3) := by decide +kernel
theorem dX8_writing_60 : decode cX8_writing 60 = .ok (.iconst 3, 1) := by decide +kernel
theorem dX8_writing_61 : decode cX8_writing 61 = .ok (.aload_n 0, 1) := by decide +kernel
theorem dX8_writing_62 : decode cX8_writing 62 = .ok (.getfield 147, 3) := by decide +kernel
theorem dX8_writing_65 : decode cX8_writing 65 = .ok (.imul, 1) := by decide +kernel
theorem dX8_writing_66 : decode cX8_writing 66 = .ok (.iconst 1, 1) := by decide +kernel
theorem dX8_writing_67 : decode cX8_writing 67 = .ok (.iadd, 1) := by decide +kernel
theorem dX8_writing_68 : decode cX8_writing 68 = .ok (.iload_n 2, 1) := by decide +kernel
theorem dX8_writing_69 : decode cX8_writing 69 = .ok (.iastore, 1) := by decide +kernel
theorem dX8_writing_70 : decode cX8_writing 70 = .ok (.aload_n 0, 1) := by decide +kernel
theorem dX8_writing_71 : decode cX8_writing 71 = .ok (.getfield 38, 3) := by decide +kernel
theorem dX8_writing_74 : decode cX8_writing 74 = .ok (.iconst 3, 1) := by decide +kernel
theorem dX8_writing_75 : decode cX8_writing 75 = .ok (.aload_n 0, 1) := by decide +kernel
theorem dX8_writing_76 : decode cX8_writing 76 = .ok (.getfield 147, 3) := by decide +kernel
theorem dX8_writing_79 : decode cX8_writing 79 = .ok (.imul, 1) := by decide +kernel
theorem dX8_writing_80 : decode cX8_writing 80 = .ok (.iconst 2, 1) := by decide +kernel
theorem dX8_writing_81 : decode cX8_writing 81 = .ok (.iadd, 1) := by decide +kernel
theorem dX8_writing_82 : decode cX8_writing 82 = .ok (.iload_n 3, 1) := by decide +kernel
theorem dX8_writing_83 : decode cX8_writing 83 = .ok (.iastore, 1) := by decide +kernel
theorem dX8_writing_84 : decode cX8_writing 84 = .ok (.aload_n 0, 1) := by decide +kernel
theorem dX8_writing_85 : decode cX8_writing 85 = .ok (.dup, 1) := by decide +kernel
theorem dX8_writing_86 : decode cX8_writing 86 = .ok (.getfield 147, 3) := by decide +kernel
theorem dX8_writing_89 : decode cX8_writing 89 = .ok (.iconst 1, 1) := by decide +kernel
theorem dX8_writing_90 : decode cX8_writing 90 = .ok (.iadd, 1) := by decide +kernel
theorem dX8_writing_91 : decode cX8_writing 91 = .ok (.putfield 147, 3) := by decide +kernel
theorem dX8_writing_94 : decode cX8_writing 94 = .ok (.aload_n 0, 1) := by decide +kernel
theorem dX8_writing_95 : decode cX8_writing 95 = .ok (.getfield 147, 3) := by decide +kernel
theorem dX8_writing_98 : decode cX8_writing 98 = .ok (.ireturn, 1) := by decide +kernel
