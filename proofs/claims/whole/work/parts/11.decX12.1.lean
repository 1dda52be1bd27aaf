theorem dX12_init_79 : decode cX12_init 79 = .ok (.aload_n 0, 1) := by decide +kernel
theorem dX12_init_80 : decode cX12_init 80 = .ok (.sipush 200, 3) := by decide +kernel
theorem dX12_init_83 : decode cX12_init 83 = .ok (.newarray .int, 2) := by decide +kernel
theorem dX12_init_85 : decode cX12_init 85 = .ok (.putfield 37, 3) := by decide +kernel
theorem dX12_init_88 : decode cX12_init 88 = .ok (.aload_n 0, 1) := by decide +kernel
theorem dX12_init_89 : decode cX12_init 89 = .ok (.sipush 200, 3) := by decide +kernel
theorem dX12_init_92 : decode cX12_init 92 = .ok (.newarray .int, 2) := by decide +kernel
theorem dX12_init_94 : decode cX12_init 94 = .ok (.putfield 40, 3) := by decide +kernel
theorem dX12_init_97 : decode cX12_init 97 = .ok (.aload_n 0, 1) := by decide +kernel
theorem dX12_init_98 : decode cX12_init 98 = .ok (.sipush 200, 3) := by decide +kernel
theorem dX12_init_101 : decode cX12_init 101 = .ok (.newarray .int, 2) := by decide +kernel
theorem dX12_init_103 : decode cX12_init 103 = .ok (.putfield 43, 3) := by decide +kernel
theorem dX12_init_106 : decode cX12_init 106 = .ok (.aload_n 0, 1) := by decide +kernel
theorem dX12_init_107 : decode cX12_init 107 = .ok (.sipush 200, 3) := by decide +kernel
theorem dX12_init_110 : decode cX12_init 110 = .ok (.newarray .int, 2) := by decide +kernel
theorem dX12_init_112 : decode cX12_init 112 = .ok (.putfield 46, 3) := by decide +kernel
theorem dX12_init_115 : decode cX12_init 115 = .ok (.aload_n 0, 1) := by decide +kernel
theorem dX12_init_116 : decode cX12_init 116 = .ok (.sipush 160, 3) := by decide +kernel
theorem dX12_init_119 : decode cX12_init 119 = .ok (.newarray .byte, 2) := by decide +kernel
theorem dX12_init_121 : decode cX12_init 121 = .ok (.putfield 49, 3) := by decide +kernel
theorem dX12_init_124 : decode cX12_init 124 = .ok (.aload_n 0, 1) := by decide +kernel
theorem dX12_init_125 : decode cX12_init 125 = .ok (.sipush 3200, 3) := by decide +kernel
theorem dX12_init_128 : decode cX12_init 128 = .ok (.newarray .byte, 2) := by decide +kernel
theorem dX12_init_130 : decode cX12_init 130 = .ok (.putfield 53, 3) := by decide +kernel
theorem dX12_init_133 : decode cX12_init 133 = .ok (.aload_n 0, 1) := by decide +kernel
theorem dX12_init_134 : decode cX12_init 134 = .ok (.bipush 20, 2) := by decide +kernel
theorem dX12_init_136 : decode cX12_init 136 = .ok (.newarray .int, 2) := by decide +kernel
theorem dX12_init_138 : decode cX12_init 138 = .ok (.putfield 56, 3) := by decide +kernel
theorem dX12_init_141 : decode cX12_init 141 = .ok (.aload_n 0, 1) := by decide +kernel
theorem dX12_init_142 : decode cX12_init 142 = .ok (.bipush 20, 2) := by decide +kernel
theorem dX12_init_144 : decode cX12_init 144 = .ok (.newarray .int, 2) := by decide +kernel
theorem dX12_init_146 : decode cX12_init 146 = .ok (.putfield 59, 3) := by decide +kernel
theorem dX12_init_149 : decode cX12_init 149 = .ok (.aload_n 0, 1) := by decide +kernel
theorem dX12_init_150 : decode cX12_init 150 = .ok (.bipush 20, 2) := by decide +kernel
theorem dX12_init_152 : decode cX12_init 152 = .ok (.newarray .int, 2) := by decide +kernel
theorem dX12_init_154 : decode cX12_init 154 = .ok (.putfield 62, 3) := by decide +kernel
theorem dX12_init_157 : decode cX12_init 157 = .ok (.aload_n 0, 1) := by decide +kernel
theorem dX12_init_158 : decode cX12_init 158 = .ok (.sipush 128, 3) := by decide +kernel
theorem dX12_init_161 : decode cX12_init 161 = .ok (.newarray .int, 2) := by decide +kernel
theorem dX12_init_163 : decode cX12_init 163 = .ok (.putfield 65, 3) := by decide +kernel
theorem dX12_init_166 : decode cX12_init 166 = .ok (.aload_n 0, 1) := by decide +kernel
theorem dX12_init_167 : decode cX12_init 167 = .ok (.aload_n 0, 1) := by decide +kernel
theorem dX12_init_168 : decode cX12_init 168 = .ok (.getfield 49, 3) := by decide +kernel
theorem dX12_init_171 : decode cX12_init 171 = .ok (.putfield 68, 3) := by decide +kernel
theorem dX12_init_174 : decode cX12_init 174 = .ok (.aload_n 0, 1) := by decide +kernel
theorem dX12_init_175 : decode cX12_init 175 = .ok (.sipush 200, 3) := by decide +kernel
theorem dX12_init_178 : decode cX12_init 178 = .ok (.newarray .int, 2) := by decide +kernel
theorem dX12_init_180 : decode cX12_init 180 = .ok (.putfield 71, 3) := by decide +kernel
theorem dX12_init_183 : decode cX12_init 183 = .ok (.aload_n 0, 1) := by decide +kernel
theorem dX12_init_184 : decode cX12_init 184 = .ok (.bipush 100, 2) := by decide +kernel
theorem dX12_init_186 : decode cX12_init 186 = .ok (.newarray .int, 2) := by decide +kernel
theorem dX12_init_188 : decode cX12_init 188 = .ok (.putfield 74, 3) := by decide +kernel
theorem dX12_init_191 : decode cX12_init 191 = .ok (.aload_n 0, 1) := by decide +kernel
theorem dX12_init_192 : decode cX12_init 192 = .ok (.bipush 100, 2) := by decide +kernel
theorem dX12_init_194 : decode cX12_init 194 = .ok (.newarray .int, 2) := by decide +kernel
theorem dX12_init_196 : decode cX12_init 196 = .ok (.putfield 77, 3) := by decide +kernel
theorem dX12_init_199 : decode cX12_init 199 = .ok (.aload_n 0, 1) := by decide +kernel
theorem dX12_init_200 : decode cX12_init 200 = .ok (.bipush 100, 2) := by decide +kernel
theorem dX12_init_202 : decode cX12_init 202 = .ok (.newarray .int, 2) := by decide +kernel
theorem dX12_init_204 : decode cX12_init 204 = .ok (.putfield 80, 3) := by decide +kernel
theorem dX12_init_207 : decode cX12_init 207 = .ok (.aload_n 0, 1) := by decide +kernel
theorem dX12_init_208 : decode cX12_init 208 = .ok (.bipush 100, 2) := by decide +kernel
theorem dX12_init_210 : decode cX12_init 210 = .ok (.newarray .int, 2) := by decide +kernel
theorem dX12_init_212 : decode cX12_init 212 = .ok (.putfield 83, 3) := by decide +kernel
theorem dX12_init_215 : decode cX12_init 215 = .ok (.aload_n 0, 1) := by decide +kernel
theorem dX12_init_216 : decode cX12_init 216 = .ok (.bipush 100, 2) := by decide +kernel
theorem dX12_init_218 : decode cX12_init 218 = .ok (.newarray .boolean, 2) := by decide +kernel
theorem dX12_init_220 : decode cX12_init 220 = .ok (.putfield 86, 3) := by decide +kernel
theorem dX12_init_223 : decode cX12_init 223 = .ok (.aload_n 0, 1) := by decide +kernel
theorem dX12_init_224 : decode cX12_init 224 = .ok (.bipush 24, 2) := by decide +kernel
theorem dX12_init_226 : decode cX12_init 226 = .ok (.newarray .boolean, 2) := by decide +kernel
theorem dX12_init_228 : decode cX12_init 228 = .ok (.putfield 90, 3) := by decide +kernel
theorem dX12_init_231 : decode cX12_init 231 = .ok (.aload_n 0, 1) := by decide +kernel
theorem dX12_init_232 : decode cX12_init 232 = .ok (.sipush 200, 3) := by decide +kernel
theorem dX12_init_235 : decode cX12_init 235 = .ok (.newarray .int, 2) := by decide +kernel
theorem dX12_init_237 : decode cX12_init 237 = .ok (.putfield 93, 3) := by decide +kernel
theorem dX12_init_240 : decode cX12_init 240 = .ok (.aload_n 0, 1) := by decide +kernel
theorem dX12_init_241 : decode cX12_init 241 = .ok (.sipush 200, 3) := by decide +kernel
theorem dX12_init_244 : decode cX12_init 244 = .ok (.newarray .int, 2) := by decide +kernel
theorem dX12_init_246 : decode cX12_init 246 = .ok (.putfield 96, 3) := by decide +kernel
theorem dX12_init_249 : decode cX12_init 249 = .ok (.aload_n 0, 1) := by decide +kernel
theorem dX12_init_250 : decode cX12_init 250 = .ok (.sipush 200, 3) := by decide +kernel
theorem dX12_init_253 : decode cX12_init 253 = .ok (.newarray .int, 2) := by decide +kernel
theorem dX12_init_255 : decode cX12_init 255 = .ok (.putfield 99, 3) := by decide +kernel
theorem dX12_init_258 : decode cX12_init 258 = .ok (.aload_n 0, 1) := by decide +kernel
theorem dX12_init_259 : decode cX12_init 259 = .ok (.sipush 200, 3) := by decide +kernel
theorem dX12_init_262 : decode cX12_init 262 = .ok (.newarray .int, 2) := by decide +kernel
theorem dX12_init_264 : decode cX12_init 264 = .ok (.putfield 102, 3) := by decide +kernel
theorem dX12_init_267 : decode cX12_init 267 = .ok (.aload_n 0, 1) := by decide +kernel
theorem dX12_init_268 : decode cX12_init 268 = .ok (.bipush 32, 2) := by decide +kernel
theorem dX12_init_270 : decode cX12_init 270 = .ok (.newarray .int, 2) := by decide +kernel
theorem dX12_init_272 : decode cX12_init 272 = .ok (.putfield 105, 3) := by decide +kernel
theorem dX12_init_275 : decode cX12_init 275 = .ok (.aload_n 0, 1) := by decide +kernel
theorem dX12_init_276 : decode cX12_init 276 = .ok (.sipush 200, 3) := by decide +kernel
theorem dX12_init_279 : decode cX12_init 279 = .ok (.newarray .int, 2) := by decide +kernel
theorem dX12_init_281 : decode cX12_init 281 = .ok (.putfield 108, 3) := by decide +kernel
theorem dX12_init_284 : decode cX12_init 284 = .ok (.aload_n 0, 1) := by decide +kernel
theorem dX12_init_285 : decode cX12_init 285 = .ok (.iconst 4, 1) := by decide +kernel
theorem dX12_init_286 : decode cX12_init 286 = .ok (.newarray .int, 2) := by decide +kernel
theorem dX12_init_288 : decode cX12_init 288 = .ok (.putfield 111, 3) := by decide +kernel
theorem dX12_init_291 : decode cX12_init 291 = .ok (.aload_n 0, 1) := by decide +kernel
theorem dX12_init_292 : decode cX12_init 292 = .ok (.iconst 4, 1) := by decide +kernel
theorem dX12_init_293 : decode cX12_init 293 = .ok (.newarray .int, 2) := by decide +kernel
theorem dX12_init_295 : decode cX12_init 295 = .ok (.putfield 114, 3) := by decide +kernel
theorem dX12_init_298 : decode cX12_init 298 = .ok (.aload_n 0, 1) := by decide +kernel
theorem dX12_init_299 : decode cX12_init 299 = .ok (.bipush 8, 2) := by decide +kernel
theorem dX12_init_301 : decode cX12_init 301 = .ok (.newarray .int, 2) := by decide +kernel
theorem dX12_init_303 : decode cX12_init 303 = .ok (.putfield 117, 3) := by decide +kernel
theorem dX12_init_306 : decode cX12_init 306 = .ok (.aload_n 0, 1) := by decide +kernel
theorem dX12_init_307 : decode cX12_init 307 = .ok (.bipush 8, 2) := by decide +kernel
theorem dX12_init_309 : decode cX12_init 309 = .ok (.newarray .int, 2) := by decide +kernel
theorem dX12_init_311 : decode cX12_init 311 = .ok (.putfield 120, 3) := by decide +kernel
theorem dX12_init_314 : decode cX12_init 314 = .ok (.aload_n 0, 1) := by decide +kernel
theorem dX12_init_315 : decode cX12_init 315 = .ok (.bipush 8, 2) := by decide +kernel
theorem dX12_init_317 : decode cX12_init 317 = .ok (.newarray .int, 2) := by decide +kernel
theorem dX12_init_319 : decode cX12_init 319 = .ok (.putfield 123, 3) := by decide +kernel
theorem dX12_init_322 : decode cX12_init 322 = .ok (.aload_n 0, 1) := by decide +kernel
theorem dX12_init_323 : decode cX12_init 323 = .ok (.bipush 8, 2) := by decide +kernel
theorem dX12_init_325 : decode cX12_init 325 = .ok (.newarray .int, 2) := by decide +kernel
theorem dX12_init_327 : decode cX12_init 327 = .ok (.putfield 126, 3) := by decide +kernel
theorem dX12_init_330 : decode cX12_init 330 = .ok (.aload_n 0, 1) := by decide +kernel
theorem dX12_init_331 : decode cX12_init 331 = .ok (.bipush 8, 2) := by decide +kernel
theorem dX12_init_333 : decode cX12_init 333 = .ok (.newarray .int, 2) := by decide +kernel
theorem dX12_init_335 : decode cX12_init 335 = .ok (.putfield 129, 3) := by decide +kernel
theorem dX12_init_338 : decode cX12_init 338 = .ok (.aload_n 0, 1) := by decide +kernel
theorem dX12_init_339 : decode cX12_init 339 = .ok (.bipush 8, 2) := by decide +kernel
theorem dX12_init_341 : decode cX12_init 341 = .ok (.newarray .int, 2) := by decide +kernel
theorem dX12_init_343 : decode cX12_init 343 = .ok (.putfield 132, 3) := by decide +kernel
theorem dX12_init_346 : decode cX12_init 346 = .ok (.aload_n 0, 1) := by decide +kernel
theorem dX12_init_347 : decode cX12_init 347 = .ok (.bipush 24, 2) := by decide +kernel
theorem dX12_init_349 : decode cX12_init 349 = .ok (.newarray .int, 2) := by decide +kernel
theorem dX12_init_351 : decode cX12_init 351 = .ok (.putfield 135, 3) := by decide +kernel
theorem dX12_init_354 : decode cX12_init 354 = .ok (.return_, 1) := by decide +kernel
theorem dX12_isDay_0 : decode cX12_isDay 0 = .ok (.iload_n 0, 1) := by decide +kernel
theorem dX12_isDay_1 : decode cX12_isDay 1 = .ok (.iconst 0, 1) := by decide +kernel
theorem dX12_isDay_2 : decode cX12_isDay 2 = .ok (.sipush 1000, 3) := by decide +kernel
theorem dX12_isDay_5 : decode cX12_isDay 5 = .ok (.invokestatic 145, 3) := by decide +kernel
theorem dX12_isDay_8 : decode cX12_isDay 8 = .ok (.ireturn, 1) := by decide +kernel
theorem dX12_isDigit_0 : decode cX12_isDigit 0 = .ok (.aload_n 0, 1) := by decide +kernel
theorem dX12_isDigit_1 : decode cX12_isDigit 1 = .ok (.getfield 189, 3) := by decide +kernel
theorem dX12_isDigit_4 : decode cX12_isDigit 4 = .ok (.aload_n 0, 1) := by decide +kernel
theorem dX12_isDigit_5 : decode cX12_isDigit 5 = .ok (.getfield 192, 3) := by decide +kernel
theorem dX12_isDigit_8 : decode cX12_isDigit 8 = .ok (.if_icmp .ge 45, 3) := by decide +kernel
theorem dX12_isDigit_11 : decode cX12_isDigit 11 = .ok (.aload_n 0, 1) := by decide +kernel
theorem dX12_isDigit_12 : decode cX12_isDigit 12 = .ok (.getfield 68, 3) := by decide +kernel
theorem dX12_isDigit_15 : decode cX12_isDigit 15 = .ok (.aload_n 0, 1) := by decide +kernel
theorem dX12_isDigit_16 : decode cX12_isDigit 16 = .ok (.getfield 195, 3) := by decide +kernel
theorem dX12_isDigit_19 : decode cX12_isDigit 19 = .ok (.aload_n 0, 1) := by decide +kernel
theorem dX12_isDigit_20 : decode cX12_isDigit 20 = .ok (.getfield 189, 3) := by decide +kernel
theorem dX12_isDigit_23 : decode cX12_isDigit 23 = .ok (.iadd, 1) := by decide +kernel
theorem dX12_isDigit_24 : decode cX12_isDigit 24 = .ok (.baload, 1) := by decide +kernel
theorem dX12_isDigit_25 : decode cX12_isDigit 25 = .ok (.bipush 48, 2) := by decide +kernel
theorem dX12_isDigit_27 : decode cX12_isDigit 27 = .ok (.if_icmp .lt 26, 3) := by decide +kernel
theorem dX12_isDigit_30 : decode cX12_isDigit 30 = .ok (.aload_n 0, 1) := by decide +kernel
theorem dX12_isDigit_31 : decode cX12_isDigit 31 = .ok (.getfield 68, 3) := by decide +kernel
theorem dX12_isDigit_34 : decode cX12_isDigit 34 = .ok (.aload_n 0, 1) := by decide +kernel
theorem dX12_isDigit_35 : decode cX12_isDigit 35 = .ok (.getfield 195, 3) := by decide +kernel
theorem dX12_isDigit_38 : decode cX12_isDigit 38 = .ok (.aload_n 0, 1) := by decide +kernel
theorem dX12_isDigit_39 : decode cX12_isDigit 39 = .ok (.getfield 189, 3) := by decide +kernel
theorem dX12_isDigit_42 : decode cX12_isDigit 42 = .ok (.iadd, 1) := by decide +kernel
theorem dX12_isDigit_43 : decode cX12_isDigit 43 = .ok (.baload, 1) := by decide +kernel
theorem dX12_isDigit_44 : decode cX12_isDigit 44 = .ok (.bipush 57, 2) := by decide +kernel
theorem dX12_isDigit_46 : decode cX12_isDigit 46 = .ok (.if_icmp .gt 7, 3) := by decide +kernel
theorem dX12_isDigit_49 : decode cX12_isDigit 49 = .ok (.iconst 1, 1) := by decide +kernel
theorem dX12_isDigit_50 : decode cX12_isDigit 50 = .ok (.goto 4, 3) := by decide +kernel
theorem dX12_isDigit_53 : decode cX12_isDigit 53 = .ok (.iconst 0, 1) := by decide +kernel
theorem dX12_isDigit_54 : decode cX12_isDigit 54 = .ok (.ireturn, 1) := by decide +kernel
theorem dX12_isIn_0 : decode cX12_isIn 0 = .ok (.iload_n 0, 1) := by decide +kernel
theorem dX12_isIn_1 : decode cX12_isIn 1 = .ok (.iload_n 1, 1) := by decide +kernel
theorem dX12_isIn_2 : decode cX12_isIn 2 = .ok (.if_icmp .lt 12, 3) := by decide +kernel
theorem dX12_isIn_5 : decode cX12_isIn 5 = .ok (.iload_n 0, 1) := by decide +kernel
theorem dX12_isIn_6 : decode cX12_isIn 6 = .ok (.iload_n 2, 1) := by decide +kernel
theorem dX12_isIn_7 : decode cX12_isIn 7 = .ok (.if_icmp .gt 7, 3) := by decide +kernel
theorem dX12_isIn_10 : decode cX12_isIn 10 = .ok (.iconst 1, 1) := by decide +kernel
theorem dX12_isIn_11 : decode cX12_isIn 11 = .ok (.goto 4, 3) := by decide +kernel
theorem dX12_isIn_14 : decode cX12_isIn 14 = .ok (.iconst 0, 1) := by decide +kernel
theorem dX12_isIn_15 : decode cX12_isIn 15 = .ok (.ireturn, 1) := by decide +kernel
theorem dX12_isKnown_0 : decode cX12_isKnown 0 = .ok (.iload_n 1, 1) := by decide +kernel
theorem dX12_isKnown_1 : decode cX12_isKnown 1 = .ok (.iconst 0, 1) := by decide +kernel
theorem dX12_isKnown_2 : decode cX12_isKnown 2 = .ok (.aload_n 0, 1) := by decide +kernel
theorem dX12_isKnown_3 : decode cX12_isKnown 3 = .ok (.getfield 142, 3) := by decide +kernel
theorem dX12_isKnown_6 : decode cX12_isKnown 6 = .ok (.invokestatic 145, 3) := by decide +kernel
theorem dX12_isKnown_9 : decode cX12_isKnown 9 = .ok (.ireturn, 1) := by decide +kernel
theorem dX12_isLine_0 : decode cX12_isLine 0 = .ok (.iload_n 1, 1) := by decide +kernel
theorem dX12_isLine_1 : decode cX12_isLine 1 = .ok (.ifCond .lt 15, 3) := by decide +kernel
theorem dX12_isLine_4 : decode cX12_isLine 4 = .ok (.iload_n 1, 1) := by decide +kernel
theorem dX12_isLine_5 : decode cX12_isLine 5 = .ok (.aload_n 0, 1) := by decide +kernel
theorem dX12_isLine_6 : decode cX12_isLine 6 = .ok (.getfield 152, 3) := by decide +kernel
theorem dX12_isLine_9 : decode cX12_isLine 9 = .ok (.if_icmp .ge 7, 3) := by decide +kernel
theorem dX12_isLine_12 : decode cX12_isLine 12 = .ok (.iconst 1, 1) := by decide +kernel
theorem dX12_isLine_13 : decode cX12_isLine 13 = .ok (.goto 4, 3) := by decide +kernel
theorem dX12_isLine_16 : decode cX12_isLine 16 = .ok (.iconst 0, 1) := by decide +kernel
theorem dX12_isLine_17 : decode cX12_isLine 17 = .ok (.ireturn, 1) := by decide +kernel
theorem dX12_isLineBy_0 : decode cX12_isLineBy 0 = .ok (.aload_n 0, 1) := by decide +kernel
theorem dX12_isLineBy_1 : decode cX12_isLineBy 1 = .ok (.iload_n 1, 1) := by decide +kernel
theorem dX12_isLineBy_2 : decode cX12_isLineBy 2 = .ok (.invokevirtual 155, 3) := by decide +kernel
theorem dX12_isLineBy_5 : decode cX12_isLineBy 5 = .ok (.ifCond .eq 25, 3) := by decide +kernel
theorem dX12_isLineBy_8 : decode cX12_isLineBy 8 = .ok (.aload_n 0, 1) := by decide +kernel
theorem dX12_isLineBy_9 : decode cX12_isLineBy 9 = .ok (.iload_n 2, 1) := by decide +kernel
theorem dX12_isLineBy_10 : decode cX12_isLineBy 10 = .ok (.invokevirtual 159, 3) := by decide +kernel
theorem dX12_isLineBy_13 : decode cX12_isLineBy 13 = .ok (.ifCond .eq 17, 3) := by decide +kernel
theorem dX12_isLineBy_16 : decode cX12_isLineBy 16 = .ok (.aload_n 0, 1) := by decide +kernel
theorem dX12_isLineBy_17 : decode cX12_isLineBy 17 = .ok (.getfield 46, 3) := by decide +kernel
theorem dX12_isLineBy_20 : decode cX12_isLineBy 20 = .ok (.iload_n 1, 1) := by decide +kernel
theorem dX12_isLineBy_21 : decode cX12_isLineBy 21 = .ok (.iaload, 1) := by decide +kernel
theorem dX12_isLineBy_22 : decode cX12_isLineBy 22 = .ok (.iload_n 2, 1) := by decide +kernel
theorem dX12_isLineBy_23 : decode cX12_isLineBy 23 = .ok (.if_icmp .gt 7, 3) := by decide +kernel
theorem dX12_isLineBy_26 : decode cX12_isLineBy 26 = .ok (.iconst 1, 1) := by decide +kernel
theorem dX12_isLineBy_27 : decode cX12_isLineBy 27 = .ok (.goto 4, 3) := by decide +kernel
theorem dX12_isLineBy_30 : decode cX12_isLineBy 30 = .ok (.iconst 0, 1) := by decide +kernel
theorem dX12_isLineBy_31 : decode cX12_isLineBy 31 = .ok (.ireturn, 1) := by decide +kernel
theorem dX12_isPerson_0 : decode cX12_isPerson 0 = .ok (.iload_n 1, 1) := by decide +kernel
theorem dX12_isPerson_1 : decode cX12_isPerson 1 = .ok (.ifCond .lt 15, 3) := by decide +kernel
theorem dX12_isPerson_4 : decode cX12_isPerson 4 = .ok (.iload_n 1, 1) := by decide +kernel
theorem dX12_isPerson_5 : decode cX12_isPerson 5 = .ok (.aload_n 0, 1) := by decide +kernel
theorem dX12_isPerson_6 : decode cX12_isPerson 6 = .ok (.getfield 149, 3) := by decide +kernel
theorem dX12_isPerson_9 : decode cX12_isPerson 9 = .ok (.if_icmp .ge 7, 3) := by decide +kernel
theorem dX12_isPerson_12 : decode cX12_isPerson 12 = .ok (.iconst 1, 1) := by decide +kernel
theorem dX12_isPerson_13 : decode cX12_isPerson 13 = .ok (.goto 4, 3) := by decide +kernel
theorem dX12_isPerson_16 : decode cX12_isPerson 16 = .ok (.iconst 0, 1) := by decide +kernel
theorem dX12_isPerson_17 : decode cX12_isPerson 17 = .ok (.ireturn, 1) := by decide +kernel
theorem dX12_isReader_0 : decode cX12_isReader 0 = .ok (.iload_n 0, 1) := by decide +kernel
theorem dX12_isReader_1 : decode cX12_isReader 1 = .ok (.iconst 0, 1) := by decide +kernel
theorem dX12_isReader_2 : decode cX12_isReader 2 = .ok (.iconst 5, 1) := by decide +kernel
theorem dX12_isReader_3 : decode cX12_isReader 3 = .ok (.invokestatic 145, 3) := by decide +kernel
theorem dX12_isReader_6 : decode cX12_isReader 6 = .ok (.ireturn, 1) := by decide +kernel
theorem dX12_isSign_0 : decode cX12_isSign 0 = .ok (.iload_n 0, 1) := by decide +kernel
theorem dX12_isSign_1 : decode cX12_isSign 1 = .ok (.bipush 61, 2) := by decide +kernel
theorem dX12_isSign_3 : decode cX12_isSign 3 = .ok (.if_icmp .eq 15, 3) := by decide +kernel
theorem dX12_isSign_6 : decode cX12_isSign 6 = .ok (.iload_n 0, 1) := by decide +kernel
theorem dX12_isSign_7 : decode cX12_isSign 7 = .ok (.bipush 60, 2) := by decide +kernel
theorem dX12_isSign_9 : decode cX12_isSign 9 = .ok (.if_icmp .eq 9, 3) := by decide +kernel
theorem dX12_isSign_12 : decode cX12_isSign 12 = .ok (.iload_n 0, 1) := by decide +kernel
theorem dX12_isSign_13 : decode cX12_isSign 13 = .ok (.bipush 62, 2) := by decide +kernel
theorem dX12_isSign_15 : decode cX12_isSign 15 = .ok (.if_icmp .ne 7, 3) := by decide +kernel
theorem dX12_isSign_18 : decode cX12_isSign 18 = .ok (.iconst 1, 1) := by decide +kernel
theorem dX12_isSign_19 : decode cX12_isSign 19 = .ok (.goto 4, 3) := by decide +kernel
theorem dX12_isSign_22 : decode cX12_isSign 22 = .ok (.iconst 0, 1) := by decide +kernel
theorem dX12_isSign_23 : decode cX12_isSign 23 = .ok (.ireturn, 1) := by decide +kernel
theorem dX12_isSort_0 : decode cX12_isSort 0 = .ok (.iload_n 0, 1) := by decide +kernel
theorem dX12_isSort_1 : decode cX12_isSort 1 = .ok (.iconst 0, 1) := by decide +kernel
theorem dX12_isSort_2 : decode cX12_isSort 2 = .ok (.bipush 9, 2) := by decide +kernel
theorem dX12_isSort_4 : decode cX12_isSort 4 = .ok (.invokestatic 145, 3) := by decide +kernel
theorem dX12_isSort_7 : decode cX12_isSort 7 = .ok (.ireturn, 1) := by decide +kernel
theorem dX12_isStopped_0 : decode cX12_isStopped 0 = .ok (.aload_n 0, 1) := by decide +kernel
theorem dX12_isStopped_1 : decode cX12_isStopped 1 = .ok (.iload_n 1, 1) := by decide +kernel
theorem dX12_isStopped_2 : decode cX12_isStopped 2 = .ok (.iload_n 2, 1) := by decide +kernel
theorem dX12_isStopped_3 : decode cX12_isStopped 3 = .ok (.invokevirtual 171, 3) := by decide +kernel
theorem dX12_isStopped_6 : decode cX12_isStopped 6 = .ok (.istore_n 3, 1) := by decide +kernel
theorem dX12_isStopped_7 : decode cX12_isStopped 7 = .ok (.iload_n 3, 1) := by decide +kernel
theorem dX12_isStopped_8 : decode cX12_isStopped 8 = .ok (.iconst (-1), 1) := by decide +kernel
theorem dX12_isStopped_9 : decode cX12_isStopped 9 = .ok (.if_icmp .eq 12, 3) := by decide +kernel
theorem dX12_isStopped_12 : decode cX12_isStopped 12 = .ok (.iload_n 3, 1) := by decide +kernel
theorem dX12_isStopped_13 : decode cX12_isStopped 13 = .ok (.iload_n 2, 1) := by decide +kernel
theorem dX12_isStopped_14 : decode cX12_isStopped 14 = .ok (.if_icmp .gt 7, 3) := by decide +kernel
theorem dX12_isStopped_17 : decode cX12_isStopped 17 = .ok (.iconst 1, 1) := by decide +kernel
theorem dX12_isStopped_18 : decode cX12_isStopped 18 = .ok (.goto 4, 3) := by decide +kernel
theorem dX12_isStopped_21 : decode cX12_isStopped 21 = .ok (.iconst 0, 1) := by decide +kernel
theorem dX12_isStopped_22 : decode cX12_isStopped 22 = .ok (.ireturn, 1) := by decide +kernel
theorem dX12_judge_0 : decode cX12_judge 0 = .ok (.aload_n 0, 1) := by decide +kernel
theorem dX12_judge_1 : decode cX12_judge 1 = .ok (.iconst 0, 1) := by decide +kernel
theorem dX12_judge_2 : decode cX12_judge 2 = .ok (.putfield 138, 3) := by decide +kernel
theorem dX12_judge_5 : decode cX12_judge 5 = .ok (.iload_n 1, 1) := by decide +kernel
theorem dX12_judge_6 : decode cX12_judge 6 = .ok (.ifCond .lt 24, 3) := by decide +kernel
theorem dX12_judge_9 : decode cX12_judge 9 = .ok (.iload_n 1, 1) := by decide +kernel
theorem dX12_judge_10 : decode cX12_judge 10 = .ok (.iconst 1, 1) := by decide +kernel
theorem dX12_judge_11 : decode cX12_judge 11 = .ok (.aload_n 0, 1) := by decide +kernel
theorem dX12_judge_12 : decode cX12_judge 12 = .ok (.getfield 393, 3) := by decide +kernel
theorem dX12_judge_15 : decode cX12_judge 15 = .ok (.ishl, 1) := by decide +kernel
theorem dX12_judge_16 : decode cX12_judge 16 = .ok (.if_icmp .ge 14, 3) := by decide +kernel
theorem dX12_judge_19 : decode cX12_judge 19 = .ok (.iload_n 2, 1) := by decide +kernel
theorem dX12_judge_20 : decode cX12_judge 20 = .ok (.iconst 0, 1) := by decide +kernel
theorem dX12_judge_21 : decode cX12_judge 21 = .ok (.sipush 400, 3) := by decide +kernel
theorem dX12_judge_24 : decode cX12_judge 24 = .ok (.invokestatic 145, 3) := by decide +kernel
theorem dX12_judge_27 : decode cX12_judge 27 = .ok (.ifCond .ne 6, 3) := by decide +kernel
theorem dX12_judge_30 : decode cX12_judge 30 = .ok (.bipush (-2), 2) := by decide +kernel
theorem dX12_judge_32 : decode cX12_judge 32 = .ok (.ireturn, 1) := by decide +kernel
theorem dX12_judge_33 : decode cX12_judge 33 = .ok (.aload_n 0, 1) := by decide +kernel
theorem dX12_judge_34 : decode cX12_judge 34 = .ok (.iload_n 1, 1) := by decide +kernel
theorem dX12_judge_35 : decode cX12_judge 35 = .ok (.invokevirtual 396, 3) := by decide +kernel
theorem dX12_judge_38 : decode cX12_judge 38 = .ok (.iload_n 2, 1) := by decide +kernel
theorem dX12_judge_39 : decode cX12_judge 39 = .ok (.if_icmp .le 7, 3) := by decide +kernel
theorem dX12_judge_42 : decode cX12_judge 42 = .ok (.iconst (-1), 1) := by decide +kernel
theorem dX12_judge_43 : decode cX12_judge 43 = .ok (.goto 8, 3) := by decide +kernel
theorem dX12_judge_46 : decode cX12_judge 46 = .ok (.aload_n 0, 1) := by decide +kernel
theorem dX12_judge_47 : decode cX12_judge 47 = .ok (.iload_n 1, 1) := by decide +kernel
theorem dX12_judge_48 : decode cX12_judge 48 = .ok (.invokevirtual 399, 3) := by decide +kernel
theorem dX12_judge_51 : decode cX12_judge 51 = .ok (.ireturn, 1) := by decide +kernel
theorem dX12_land_0 : decode cX12_land 0 = .ok (.aload_n 0, 1) := by decide +kernel
theorem dX12_land_1 : decode cX12_land 1 = .ok (.iconst 0, 1) := by decide +kernel
theorem dX12_land_2 : decode cX12_land 2 = .ok (.putfield 138, 3) := by decide +kernel
theorem dX12_land_5 : decode cX12_land 5 = .ok (.iload_n 1, 1) := by decide +kernel
theorem dX12_land_6 : decode cX12_land 6 = .ok (.iconst 0, 1) := by decide +kernel
theorem dX12_land_7 : decode cX12_land 7 = .ok (.bipush 7, 2) := by decide +kernel
theorem dX12_land_9 : decode cX12_land 9 = .ok (.invokestatic 145, 3) := by decide +kernel
theorem dX12_land_12 : decode cX12_land 12 = .ok (.ifCond .eq 23, 3) := by decide +kernel
theorem dX12_land_15 : decode cX12_land 15 = .ok (.iload_n 2, 1) := by decide +kernel
theorem dX12_land_16 : decode cX12_land 16 = .ok (.iconst 0, 1) := by decide +kernel
theorem dX12_land_17 : decode cX12_land 17 = .ok (.iconst 3, 1) := by decide +kernel
theorem dX12_land_18 : decode cX12_land 18 = .ok (.invokestatic 145, 3) := by decide +kernel
theorem dX12_land_21 : decode cX12_land 21 = .ok (.ifCond .eq 14, 3) := by decide +kernel
theorem dX12_land_24 : decode cX12_land 24 = .ok (.iload_n 3, 1) := by decide +kernel
theorem dX12_land_25 : decode cX12_land 25 = .ok (.iconst 0, 1) := by decide +kernel
theorem dX12_land_26 : decode cX12_land 26 = .ok (.sipush 9999, 3) := by decide +kernel
theorem dX12_land_29 : decode cX12_land 29 = .ok (.invokestatic 145, 3) := by decide +kernel
theorem dX12_land_32 : decode cX12_land 32 = .ok (.ifCond .ne 5, 3) := by decide +kernel
theorem dX12_land_35 : decode cX12_land 35 = .ok (.iconst 0, 1) := by decide +kernel
theorem dX12_land_36 : decode cX12_land 36 = .ok (.ireturn, 1) := by decide +kernel
theorem dX12_land_37 : decode cX12_land 37 = .ok (.aload_n 0, 1) := by decide +kernel
theorem dX12_land_38 : decode cX12_land 38 = .ok (.getfield 105, 3) := by decide +kernel
theorem dX12_land_41 : decode cX12_land 41 = .ok (.iconst 4, 1) := by decide +kernel
theorem dX12_land_42 : decode cX12_land 42 = .ok (.iload_n 1, 1) := by decide +kernel
theorem dX12_land_43 : decode cX12_land 43 = .ok (.imul, 1) := by decide +kernel
theorem dX12_land_44 : decode cX12_land 44 = .ok (.iload_n 2, 1) := by decide +kernel
theorem dX12_land_45 : decode cX12_land 45 = .ok (.iadd, 1) := by decide +kernel
theorem dX12_land_46 : decode cX12_land 46 = .ok (.iload_n 3, 1) := by decide +kernel
theorem dX12_land_47 : decode cX12_land 47 = .ok (.iastore, 1) := by decide +kernel
theorem dX12_land_48 : decode cX12_land 48 = .ok (.iconst 1, 1) := by decide +kernel
theorem dX12_land_49 : decode cX12_land 49 = .ok (.ireturn, 1) := by decide +kernel
theorem dX12_last_0 : decode cX12_last 0 = .ok (.aload_n 0, 1) := by decide +kernel
theorem dX12_last_1 : decode cX12_last 1 = .ok (.iconst 0, 1) := by decide +kernel
theorem dX12_last_2 : decode cX12_last 2 = .ok (.putfield 138, 3) := by decide +kernel
theorem dX12_last_5 : decode cX12_last 5 = .ok (.aload_n 0, 1) := by decide +kernel
theorem dX12_last_6 : decode cX12_last 6 = .ok (.iload_n 1, 1) := by decide +kernel
theorem dX12_last_7 : decode cX12_last 7 = .ok (.invokevirtual 165, 3) := by decide +kernel
theorem dX12_last_10 : decode cX12_last 10 = .ok (.ifCond .eq 20, 3) := by decide +kernel
theorem dX12_last_13 : decode cX12_last 13 = .ok (.aload_n 0, 1) := by decide +kernel
theorem dX12_last_14 : decode cX12_last 14 = .ok (.iload_n 2, 1) := by decide +kernel
theorem dX12_last_15 : decode cX12_last 15 = .ok (.invokevirtual 159, 3) := by decide +kernel
theorem dX12_last_18 : decode cX12_last 18 = .ok (.ifCond .eq 12, 3) := by decide +kernel
theorem dX12_last_21 : decode cX12_last 21 = .ok (.aload_n 0, 1) := by decide +kernel
theorem dX12_last_22 : decode cX12_last 22 = .ok (.iload_n 1, 1) := by decide +kernel
theorem dX12_last_23 : decode cX12_last 23 = .ok (.iload_n 2, 1) := by decide +kernel
theorem dX12_last_24 : decode cX12_last 24 = .ok (.invokevirtual 363, 3) := by decide +kernel
theorem dX12_last_27 : decode cX12_last 27 = .ok (.goto 4, 3) := by decide +kernel
theorem dX12_last_30 : decode cX12_last 30 = .ok (.iconst (-1), 1) := by decide +kernel
theorem dX12_last_31 : decode cX12_last 31 = .ok (.ireturn, 1) := by decide +kernel
theorem dX12_lastOf_0 : decode cX12_lastOf 0 = .ok (.iconst (-1), 1) := by decide +kernel
theorem dX12_lastOf_1 : decode cX12_lastOf 1 = .ok (.istore_n 3, 1) := by decide +kernel
theorem dX12_lastOf_2 : decode cX12_lastOf 2 = .ok (.iconst 0, 1) := by decide +kernel
theorem dX12_lastOf_3 : decode cX12_lastOf 3 = .ok (.istore 4, 2) := by decide +kernel
theorem dX12_lastOf_5 : decode cX12_lastOf 5 = .ok (.iload 4, 2) := by decide +kernel
theorem dX12_lastOf_7 : decode cX12_lastOf 7 = .ok (.aload_n 0, 1) := by decide +kernel
theorem dX12_lastOf_8 : decode cX12_lastOf 8 = .ok (.getfield 152, 3) := by decide +kernel
theorem dX12_lastOf_11 : decode cX12_lastOf 11 = .ok (.if_icmp .ge 55, 3) := by decide +kernel
theorem dX12_lastOf_14 : decode cX12_lastOf 14 = .ok (.aload_n 0, 1) := by decide +kernel
theorem dX12_lastOf_15 : decode cX12_lastOf 15 = .ok (.getfield 28, 3) := by decide +kernel
theorem dX12_lastOf_18 : decode cX12_lastOf 18 = .ok (.iload 4, 2) := by decide +kernel
theorem dX12_lastOf_20 : decode cX12_lastOf 20 = .ok (.iaload, 1) := by decide +kernel
theorem dX12_lastOf_21 : decode cX12_lastOf 21 = .ok (.iload_n 1, 1) := by decide +kernel
theorem dX12_lastOf_22 : decode cX12_lastOf 22 = .ok (.if_icmp .ne 38, 3) := by decide +kernel
theorem dX12_lastOf_25 : decode cX12_lastOf 25 = .ok (.aload_n 0, 1) := by decide +kernel
theorem dX12_lastOf_26 : decode cX12_lastOf 26 = .ok (.getfield 46, 3) := by decide +kernel
theorem dX12_lastOf_29 : decode cX12_lastOf 29 = .ok (.iload 4, 2) := by decide +kernel
theorem dX12_lastOf_31 : decode cX12_lastOf 31 = .ok (.iaload, 1) := by decide +kernel
theorem dX12_lastOf_32 : decode cX12_lastOf 32 = .ok (.iload_n 2, 1) := by decide +kernel
theorem dX12_lastOf_33 : decode cX12_lastOf 33 = .ok (.if_icmp .gt 27, 3) := by decide +kernel
theorem dX12_lastOf_36 : decode cX12_lastOf 36 = .ok (.iload_n 3, 1) := by decide +kernel
theorem dX12_lastOf_37 : decode cX12_lastOf 37 = .ok (.iconst (-1), 1) := by decide +kernel
theorem dX12_lastOf_38 : decode cX12_lastOf 38 = .ok (.if_icmp .eq 19, 3) := by decide +kernel
theorem dX12_lastOf_41 : decode cX12_lastOf 41 = .ok (.aload_n 0, 1) := by decide +kernel
theorem dX12_lastOf_42 : decode cX12_lastOf 42 = .ok (.getfield 31, 3) := by decide +kernel
theorem dX12_lastOf_45 : decode cX12_lastOf 45 = .ok (.iload 4, 2) := by decide +kernel
theorem dX12_lastOf_47 : decode cX12_lastOf 47 = .ok (.iaload, 1) := by decide +kernel
theorem dX12_lastOf_48 : decode cX12_lastOf 48 = .ok (.aload_n 0, 1) := by decide +kernel
theorem dX12_lastOf_49 : decode cX12_lastOf 49 = .ok (.getfield 31, 3) := by decide +kernel
theorem dX12_lastOf_52 : decode cX12_lastOf 52 = .ok (.iload_n 3, 1) := by decide +kernel
theorem dX12_lastOf_53 : decode cX12_lastOf 53 = .ok (.iaload, 1) := by decide +kernel
theorem dX12_lastOf_54 : decode cX12_lastOf 54 = .ok (.if_icmp .lt 6, 3) := by decide +kernel
theorem dX12_lastOf_57 : decode cX12_lastOf 57 = .ok (.iload 4, 2) := by decide +kernel
theorem dX12_lastOf_59 : decode cX12_lastOf 59 = .ok (.istore_n 3, 1) := by decide +kernel
theorem dX12_lastOf_60 : decode cX12_lastOf 60 = .ok (.iinc 4 1, 3) := by decide +kernel
theorem dX12_lastOf_63 : decode cX12_lastOf 63 = .ok (.goto (-58), 3) := by decide +kernel
theorem dX12_lastOf_66 : decode cX12_lastOf 66 = .ok (.iload_n 3, 1) := by decide +kernel
theorem dX12_lastOf_67 : decode cX12_lastOf 67 = .ok (.ireturn, 1) := by decide +kernel
theorem dX12_lean_0 : decode cX12_lean 0 = .ok (.aload_n 0, 1) := by decide +kernel
theorem dX12_lean_1 : decode cX12_lean 1 = .ok (.iconst 0, 1) := by decide +kernel
theorem dX12_lean_2 : decode cX12_lean 2 = .ok (.putfield 138, 3) := by decide +kernel
theorem dX12_lean_5 : decode cX12_lean 5 = .ok (.iload_n 1, 1) := by decide +kernel
theorem dX12_lean_6 : decode cX12_lean 6 = .ok (.invokestatic 168, 3) := by decide +kernel
theorem dX12_lean_9 : decode cX12_lean 9 = .ok (.ifCond .eq 11, 3) := by decide +kernel
theorem dX12_lean_12 : decode cX12_lean 12 = .ok (.aload_n 0, 1) := by decide +kernel
theorem dX12_lean_13 : decode cX12_lean 13 = .ok (.iload_n 2, 1) := by decide +kernel
theorem dX12_lean_14 : decode cX12_lean 14 = .ok (.invokevirtual 159, 3) := by decide +kernel
theorem dX12_lean_17 : decode cX12_lean 17 = .ok (.ifCond .ne 7, 3) := by decide +kernel
theorem dX12_lean_20 : decode cX12_lean 20 = .ok (.ldc_w 344, 3) := by decide +kernel
theorem dX12_lean_23 : decode cX12_lean 23 = .ok (.ireturn, 1) := by decide +kernel
theorem dX12_lean_24 : decode cX12_lean 24 = .ok (.iconst 0, 1) := by decide +kernel
theorem dX12_lean_25 : decode cX12_lean 25 = .ok (.istore_n 3, 1) := by decide +kernel
theorem dX12_lean_26 : decode cX12_lean 26 = .ok (.iconst 0, 1) := by decide +kernel
theorem dX12_lean_27 : decode cX12_lean 27 = .ok (.istore 4, 2) := by decide +kernel
theorem dX12_lean_29 : decode cX12_lean 29 = .ok (.iconst 0, 1) := by decide +kernel
theorem dX12_lean_30 : decode cX12_lean 30 = .ok (.istore 5, 2) := by decide +kernel
theorem dX12_lean_32 : decode cX12_lean 32 = .ok (.iconst 0, 1) := by decide +kernel
theorem dX12_lean_33 : decode cX12_lean 33 = .ok (.istore 6, 2) := by decide +kernel
theorem dX12_lean_35 : decode cX12_lean 35 = .ok (.iconst 0, 1) := by decide +kernel
theorem dX12_lean_36 : decode cX12_lean 36 = .ok (.istore 7, 2) := by decide +kernel
theorem dX12_lean_38 : decode cX12_lean 38 = .ok (.iload 7, 2) := by decide +kernel
theorem dX12_lean_40 : decode cX12_lean 40 = .ok (.aload_n 0, 1) := by decide +kernel
theorem dX12_lean_41 : decode cX12_lean 41 = .ok (.getfield 149, 3) := by decide +kernel
theorem dX12_lean_44 : decode cX12_lean 44 = .ok (.if_icmp .ge 78, 3) := by decide +kernel
theorem dX12_lean_47 : decode cX12_lean 47 = .ok (.aload_n 0, 1) := by decide +kernel
theorem dX12_lean_48 : decode cX12_lean 48 = .ok (.iload 7, 2) := by decide +kernel
theorem dX12_lean_50 : decode cX12_lean 50 = .ok (.iload_n 2, 1) := by decide +kernel
theorem dX12_lean_51 : decode cX12_lean 51 = .ok (.invokevirtual 363, 3) := by decide +kernel
theorem dX12_lean_54 : decode cX12_lean 54 = .ok (.istore 8, 2) := by decide +kernel
theorem dX12_lean_56 : decode cX12_lean 56 = .ok (.iload 8, 2) := by decide +kernel
theorem dX12_lean_58 : decode cX12_lean 58 = .ok (.iconst (-1), 1) := by decide +kernel
theorem dX12_lean_59 : decode cX12_lean 59 = .ok (.if_icmp .ne 6, 3) := by decide +kernel
theorem dX12_lean_62 : decode cX12_lean 62 = .ok (.goto 54, 3) := by decide +kernel
theorem dX12_lean_65 : decode cX12_lean 65 = .ok (.aload_n 0, 1) := by decide +kernel
theorem dX12_lean_66 : decode cX12_lean 66 = .ok (.getfield 34, 3) := by decide +kernel
theorem dX12_lean_69 : decode cX12_lean 69 = .ok (.iload 8, 2) := by decide +kernel
theorem dX12_lean_71 : decode cX12_lean 71 = .ok (.iaload, 1) := by decide +kernel
theorem dX12_lean_72 : decode cX12_lean 72 = .ok (.iload_n 1, 1) := by decide +kernel
theorem dX12_lean_73 : decode cX12_lean 73 = .ok (.if_icmp .ne 7, 3) := by decide +kernel
theorem dX12_lean_76 : decode cX12_lean 76 = .ok (.iconst 1, 1) := by decide +kernel
theorem dX12_lean_77 : decode cX12_lean 77 = .ok (.goto 4, 3) := by decide +kernel
theorem dX12_lean_80 : decode cX12_lean 80 = .ok (.iconst 0, 1) := by decide +kernel
theorem dX12_lean_81 : decode cX12_lean 81 = .ok (.istore 9, 2) := by decide +kernel
theorem dX12_lean_83 : decode cX12_lean 83 = .ok (.aload_n 0, 1) := by decide +kernel
theorem dX12_lean_84 : decode cX12_lean 84 = .ok (.iload 7, 2) := by decide +kernel
theorem dX12_lean_86 : decode cX12_lean 86 = .ok (.iload_n 2, 1) := by decide +kernel
theorem dX12_lean_87 : decode cX12_lean 87 = .ok (.invokevirtual 366, 3) := by decide +kernel
theorem dX12_lean_90 : decode cX12_lean 90 = .ok (.ifCond .eq 16, 3) := by decide +kernel
theorem dX12_lean_93 : decode cX12_lean 93 = .ok (.iinc 3 1, 3) := by decide +kernel
theorem dX12_lean_96 : decode cX12_lean 96 = .ok (.iload 4, 2) := by decide +kernel
theorem dX12_lean_98 : decode cX12_lean 98 = .ok (.iload 9, 2) := by decide +kernel
theorem dX12_lean_100 : decode cX12_lean 100 = .ok (.iadd, 1) := by decide +kernel
theorem dX12_lean_101 : decode cX12_lean 101 = .ok (.istore 4, 2) := by decide +kernel
theorem dX12_lean_103 : decode cX12_lean 103 = .ok (.goto 13, 3) := by decide +kernel
theorem dX12_lean_106 : decode cX12_lean 106 = .ok (.iinc 5 1, 3) := by decide +kernel
theorem dX12_lean_109 : decode cX12_lean 109 = .ok (.iload 6, 2) := by decide +kernel
theorem dX12_lean_111 : decode cX12_lean 111 = .ok (.iload 9, 2) := by decide +kernel
theorem dX12_lean_113 : decode cX12_lean 113 = .ok (.iadd, 1) := by decide +kernel
theorem dX12_lean_114 : decode cX12_lean 114 = .ok (.istore 6, 2) := by decide +kernel
theorem dX12_lean_116 : decode cX12_lean 116 = .ok (.iinc 7 1, 3) := by decide +kernel
theorem dX12_lean_119 : decode cX12_lean 119 = .ok (.goto (-81), 3) := by decide +kernel
theorem dX12_lean_122 : decode cX12_lean 122 = .ok (.iload_n 3, 1) := by decide +kernel
theorem dX12_lean_123 : decode cX12_lean 123 = .ok (.ifCond .eq 8, 3) := by decide +kernel
theorem dX12_lean_126 : decode cX12_lean 126 = .ok (.iload 5, 2) := by decide +kernel
theorem dX12_lean_128 : decode cX12_lean 128 = .ok (.ifCond .ne 9, 3) := by decide +kernel
theorem dX12_lean_131 : decode cX12_lean 131 = .ok (.ldc_w 344, 3) := by decide +kernel
theorem dX12_lean_134 : decode cX12_lean 134 = .ok (.goto 21, 3) := by decide +kernel
theorem dX12_lean_137 : decode cX12_lean 137 = .ok (.sipush 1000, 3) := by decide +kernel
theorem dX12_lean_140 : decode cX12_lean 140 = .ok (.iload 4, 2) := by decide +kernel
theorem dX12_lean_142 : decode cX12_lean 142 = .ok (.imul, 1) := by decide +kernel
theorem dX12_lean_143 : decode cX12_lean 143 = .ok (.iload_n 3, 1) := by decide +kernel
theorem dX12_lean_144 : decode cX12_lean 144 = .ok (.idiv, 1) := by decide +kernel
theorem dX12_lean_145 : decode cX12_lean 145 = .ok (.sipush 1000, 3) := by decide +kernel
theorem dX12_lean_148 : decode cX12_lean 148 = .ok (.iload 6, 2) := by decide +kernel
theorem dX12_lean_150 : decode cX12_lean 150 = .ok (.imul, 1) := by decide +kernel
theorem dX12_lean_151 : decode cX12_lean 151 = .ok (.iload 5, 2) := by decide +kernel
theorem dX12_lean_153 : decode cX12_lean 153 = .ok (.idiv, 1) := by decide +kernel
theorem dX12_lean_154 : decode cX12_lean 154 = .ok (.isub, 1) := by decide +kernel
theorem dX12_lean_155 : decode cX12_lean 155 = .ok (.ireturn, 1) := by decide +kernel
theorem dX12_left_0 : decode cX12_left 0 = .ok (.aload_n 0, 1) := by decide +kernel
theorem dX12_left_1 : decode cX12_left 1 = .ok (.iload_n 1, 1) := by decide +kernel
theorem dX12_left_2 : decode cX12_left 2 = .ok (.iload_n 2, 1) := by decide +kernel
theorem dX12_left_3 : decode cX12_left 3 = .ok (.iload_n 3, 1) := by decide +kernel
theorem dX12_left_4 : decode cX12_left 4 = .ok (.iload 4, 2) := by decide +kernel
theorem dX12_left_6 : decode cX12_left 6 = .ok (.invokevirtual 326, 3) := by decide +kernel
theorem dX12_left_9 : decode cX12_left 9 = .ok (.ifCond .eq 15, 3) := by decide +kernel
theorem dX12_left_12 : decode cX12_left 12 = .ok (.aload_n 0, 1) := by decide +kernel
theorem dX12_left_13 : decode cX12_left 13 = .ok (.getfield 320, 3) := by decide +kernel
theorem dX12_left_16 : decode cX12_left 16 = .ok (.aload_n 0, 1) := by decide +kernel
theorem dX12_left_17 : decode cX12_left 17 = .ok (.getfield 317, 3) := by decide +kernel
theorem dX12_left_20 : decode cX12_left 20 = .ok (.isub, 1) := by decide +kernel
theorem dX12_left_21 : decode cX12_left 21 = .ok (.goto 4, 3) := by decide +kernel
theorem dX12_left_24 : decode cX12_left 24 = .ok (.iconst (-1), 1) := by decide +kernel
theorem dX12_left_25 : decode cX12_left 25 = .ok (.ireturn, 1) := by decide +kernel
theorem dX12_letPerson_0 : decode cX12_letPerson 0 = .ok (.aload_n 0, 1) := by decide +kernel
theorem dX12_letPerson_1 : decode cX12_letPerson 1 = .ok (.getfield 65, 3) := by decide +kernel
theorem dX12_letPerson_4 : decode cX12_letPerson 4 = .ok (.bipush 97, 2) := by decide +kernel
theorem dX12_letPerson_6 : decode cX12_letPerson 6 = .ok (.aload_n 0, 1) := by decide +kernel
theorem dX12_letPerson_7 : decode cX12_letPerson 7 = .ok (.getfield 13, 3) := by decide +kernel
theorem dX12_letPerson_10 : decode cX12_letPerson 10 = .ok (.iload_n 1, 1) := by decide +kernel
theorem dX12_letPerson_11 : decode cX12_letPerson 11 = .ok (.iaload, 1) := by decide +kernel
theorem dX12_letPerson_12 : decode cX12_letPerson 12 = .ok (.iastore, 1) := by decide +kernel
theorem dX12_letPerson_13 : decode cX12_letPerson 13 = .ok (.aload_n 0, 1) := by decide +kernel
theorem dX12_letPerson_14 : decode cX12_letPerson 14 = .ok (.getfield 65, 3) := by decide +kernel
theorem dX12_letPerson_17 : decode cX12_letPerson 17 = .ok (.bipush 112, 2) := by decide +kernel
theorem dX12_letPerson_19 : decode cX12_letPerson 19 = .ok (.aload_n 0, 1) := by decide +kernel
theorem dX12_letPerson_20 : decode cX12_letPerson 20 = .ok (.getfield 9, 3) := by decide +kernel
theorem dX12_letPerson_23 : decode cX12_letPerson 23 = .ok (.iload_n 1, 1) := by decide +kernel
theorem dX12_letPerson_24 : decode cX12_letPerson 24 = .ok (.iaload, 1) := by decide +kernel
theorem dX12_letPerson_25 : decode cX12_letPerson 25 = .ok (.iastore, 1) := by decide +kernel
theorem dX12_letPerson_26 : decode cX12_letPerson 26 = .ok (.aload_n 0, 1) := by decide +kernel
theorem dX12_letPerson_27 : decode cX12_letPerson 27 = .ok (.getfield 65, 3) := by decide +kernel
theorem dX12_letPerson_30 : decode cX12_letPerson 30 = .ok (.bipush 119, 2) := by decide +kernel
theorem dX12_letPerson_32 : decode cX12_letPerson 32 = .ok (.aload_n 0, 1) := by decide +kernel
theorem dX12_letPerson_33 : decode cX12_letPerson 33 = .ok (.getfield 16, 3) := by decide +kernel
theorem dX12_letPerson_36 : decode cX12_letPerson 36 = .ok (.iload_n 1, 1) := by decide +kernel
theorem dX12_letPerson_37 : decode cX12_letPerson 37 = .ok (.iaload, 1) := by decide +kernel
theorem dX12_letPerson_38 : decode cX12_letPerson 38 = .ok (.iastore, 1) := by decide +kernel
theorem dX12_letPerson_39 : decode cX12_letPerson 39 = .ok (.return_, 1) := by decide +kernel
theorem dX12_line_0 : decode cX12_line 0 = .ok (.aload_n 0, 1) := by decide +kernel
theorem dX12_line_1 : decode cX12_line 1 = .ok (.iconst 0, 1) := by decide +kernel
theorem dX12_line_2 : decode cX12_line 2 = .ok (.putfield 138, 3) := by decide +kernel
theorem dX12_line_5 : decode cX12_line 5 = .ok (.aload_n 0, 1) := by decide +kernel
theorem dX12_line_6 : decode cX12_line 6 = .ok (.getfield 152, 3) := by decide +kernel
theorem dX12_line_9 : decode cX12_line 9 = .ok (.sipush 200, 3) := by decide +kernel
theorem dX12_line_12 : decode cX12_line 12 = .ok (.if_icmp .eq 53, 3) := by decide +kernel
theorem dX12_line_15 : decode cX12_line 15 = .ok (.aload_n 0, 1) := by decide +kernel
theorem dX12_line_16 : decode cX12_line 16 = .ok (.iload_n 1, 1) := by decide +kernel
theorem dX12_line_17 : decode cX12_line 17 = .ok (.invokevirtual 165, 3) := by decide +kernel
theorem dX12_line_20 : decode cX12_line 20 = .ok (.ifCond .eq 45, 3) := by decide +kernel
theorem dX12_line_23 : decode cX12_line 23 = .ok (.iload_n 2, 1) := by decide +kernel
theorem dX12_line_24 : decode cX12_line 24 = .ok (.iconst 0, 1) := by decide +kernel
theorem dX12_line_25 : decode cX12_line 25 = .ok (.aload_n 0, 1) := by decide +kernel
theorem dX12_line_26 : decode cX12_line 26 = .ok (.getfield 142, 3) := by decide +kernel
theorem dX12_line_29 : decode cX12_line 29 = .ok (.invokestatic 145, 3) := by decide +kernel
theorem dX12_line_32 : decode cX12_line 32 = .ok (.ifCond .eq 33, 3) := by decide +kernel
theorem dX12_line_35 : decode cX12_line 35 = .ok (.iload_n 3, 1) := by decide +kernel
theorem dX12_line_36 : decode cX12_line 36 = .ok (.invokestatic 168, 3) := by decide +kernel
theorem dX12_line_39 : decode cX12_line 39 = .ok (.ifCond .eq 26, 3) := by decide +kernel
theorem dX12_line_42 : decode cX12_line 42 = .ok (.iload 4, 2) := by decide +kernel
theorem dX12_line_44 : decode cX12_line 44 = .ok (.bipush (-9), 2) := by decide +kernel
theorem dX12_line_46 : decode cX12_line 46 = .ok (.bipush 9, 2) := by decide +kernel
theorem dX12_line_48 : decode cX12_line 48 = .ok (.invokestatic 145, 3) := by decide +kernel
theorem dX12_line_51 : decode cX12_line 51 = .ok (.ifCond .eq 14, 3) := by decide +kernel
theorem dX12_line_54 : decode cX12_line 54 = .ok (.iload 5, 2) := by decide +kernel
theorem dX12_line_56 : decode cX12_line 56 = .ok (.iconst (-1), 1) := by decide +kernel
theorem dX12_line_57 : decode cX12_line 57 = .ok (.bipush 29, 2) := by decide +kernel
theorem dX12_line_59 : decode cX12_line 59 = .ok (.invokestatic 145, 3) := by decide +kernel
theorem dX12_line_62 : decode cX12_line 62 = .ok (.ifCond .ne 5, 3) := by decide +kernel
theorem dX12_line_65 : decode cX12_line 65 = .ok (.iconst (-1), 1) := by decide +kernel
theorem dX12_line_66 : decode cX12_line 66 = .ok (.ireturn, 1) := by decide +kernel
theorem dX12_line_67 : decode cX12_line 67 = .ok (.iload 6, 2) := by decide +kernel
theorem dX12_line_69 : decode cX12_line 69 = .ok (.iconst (-1), 1) := by decide +kernel
theorem dX12_line_70 : decode cX12_line 70 = .ok (.if_icmp .eq 26, 3) := by decide +kernel
theorem dX12_line_73 : decode cX12_line 73 = .ok (.aload_n 0, 1) := by decide +kernel
theorem dX12_line_74 : decode cX12_line 74 = .ok (.iload 6, 2) := by decide +kernel
theorem dX12_line_76 : decode cX12_line 76 = .ok (.invokevirtual 165, 3) := by decide +kernel
theorem dX12_line_79 : decode cX12_line 79 = .ok (.ifCond .eq 15, 3) := by decide +kernel
theorem dX12_line_82 : decode cX12_line 82 = .ok (.iload 6, 2) := by decide +kernel
theorem dX12_line_84 : decode cX12_line 84 = .ok (.iload_n 1, 1) := by decide +kernel
theorem dX12_line_85 : decode cX12_line 85 = .ok (.if_icmp .eq 9, 3) := by decide +kernel
theorem dX12_line_88 : decode cX12_line 88 = .ok (.iload 5, 2) := by decide +kernel
theorem dX12_line_90 : decode cX12_line 90 = .ok (.iconst (-1), 1) := by decide +kernel
theorem dX12_line_91 : decode cX12_line 91 = .ok (.if_icmp .ne 5, 3) := by decide +kernel
theorem dX12_line_94 : decode cX12_line 94 = .ok (.iconst (-1), 1) := by decide +kernel
theorem dX12_line_95 : decode cX12_line 95 = .ok (.ireturn, 1) := by decide +kernel
theorem dX12_line_96 : decode cX12_line 96 = .ok (.aload_n 0, 1) := by decide +kernel
theorem dX12_line_97 : decode cX12_line 97 = .ok (.iload_n 1, 1) := by decide +kernel
theorem dX12_line_98 : decode cX12_line 98 = .ok (.aload_n 0, 1) := by decide +kernel
theorem dX12_line_99 : decode cX12_line 99 = .ok (.getfield 142, 3) := by decide +kernel
theorem dX12_line_102 : decode cX12_line 102 = .ok (.invokevirtual 171, 3) := by decide +kernel
theorem dX12_line_105 : decode cX12_line 105 = .ok (.istore 7, 2) := by decide +kernel
theorem dX12_line_107 : decode cX12_line 107 = .ok (.iload 7, 2) := by decide +kernel
theorem dX12_line_109 : decode cX12_line 109 = .ok (.iconst (-1), 1) := by decide +kernel
theorem dX12_line_110 : decode cX12_line 110 = .ok (.if_icmp .eq 11, 3) := by decide +kernel
theorem dX12_line_113 : decode cX12_line 113 = .ok (.iload 7, 2) := by decide +kernel
theorem dX12_line_115 : decode cX12_line 115 = .ok (.iload_n 2, 1) := by decide +kernel
theorem dX12_line_116 : decode cX12_line 116 = .ok (.if_icmp .gt 5, 3) := by decide +kernel
theorem dX12_line_119 : decode cX12_line 119 = .ok (.iconst (-1), 1) := by decide +kernel
theorem dX12_line_120 : decode cX12_line 120 = .ok (.ireturn, 1) := by decide +kernel
theorem dX12_line_121 : decode cX12_line 121 = .ok (.aload_n 0, 1) := by decide +kernel
theorem dX12_line_122 : decode cX12_line 122 = .ok (.getfield 28, 3) := by decide +kernel
theorem dX12_line_125 : decode cX12_line 125 = .ok (.aload_n 0, 1) := by decide +kernel
theorem dX12_line_126 : decode cX12_line 126 = .ok (.getfield 152, 3) := by decide +kernel
theorem dX12_line_129 : decode cX12_line 129 = .ok (.iload_n 1, 1) := by decide +kernel
theorem dX12_line_130 : decode cX12_line 130 = .ok (.iastore, 1) := by decide +kernel
theorem dX12_line_131 : decode cX12_line 131 = .ok (.aload_n 0, 1) := by decide +kernel
theorem dX12_line_132 : decode cX12_line 132 = .ok (.getfield 31, 3) := by decide +kernel
theorem dX12_line_135 : decode cX12_line 135 = .ok (.aload_n 0, 1) := by decide +kernel
theorem dX12_line_136 : decode cX12_line 136 = .ok (.getfield 152, 3) := by decide +kernel
theorem dX12_line_139 : decode cX12_line 139 = .ok (.iload_n 2, 1) := by decide +kernel
theorem dX12_line_140 : decode cX12_line 140 = .ok (.iastore, 1) := by decide +kernel
theorem dX12_line_141 : decode cX12_line 141 = .ok (.aload_n 0, 1) := by decide +kernel
theorem dX12_line_142 : decode cX12_line 142 = .ok (.getfield 34, 3) := by decide +kernel
theorem dX12_line_145 : decode cX12_line 145 = .ok (.aload_n 0, 1) := by decide +kernel
theorem dX12_line_146 : decode cX12_line 146 = .ok (.getfield 152, 3) := by decide +kernel
theorem dX12_line_149 : decode cX12_line 149 = .ok (.iload_n 3, 1) := by decide +kernel
theorem dX12_line_150 : decode cX12_line 150 = .ok (.iastore, 1) := by decide +kernel
theorem dX12_line_151 : decode cX12_line 151 = .ok (.aload_n 0, 1) := by decide +kernel
theorem dX12_line_152 : decode cX12_line 152 = .ok (.getfield 37, 3) := by decide +kernel
theorem dX12_line_155 : decode cX12_line 155 = .ok (.aload_n 0, 1) := by decide +kernel
theorem dX12_line_156 : decode cX12_line 156 = .ok (.getfield 152, 3) := by decide +kernel
theorem dX12_line_159 : decode cX12_line 159 = .ok (.iload 4, 2) := by decide +kernel
theorem dX12_line_161 : decode cX12_line 161 = .ok (.iastore, 1) := by decide +kernel
theorem dX12_line_162 : decode cX12_line 162 = .ok (.aload_n 0, 1) := by decide +kernel
theorem dX12_line_163 : decode cX12_line 163 = .ok (.getfield 40, 3) := by decide +kernel
theorem dX12_line_166 : decode cX12_line 166 = .ok (.aload_n 0, 1) := by decide +kernel
theorem dX12_line_167 : decode cX12_line 167 = .ok (.getfield 152, 3) := by decide +kernel
theorem dX12_line_170 : decode cX12_line 170 = .ok (.iload 5, 2) := by decide +kernel
theorem dX12_line_172 : decode cX12_line 172 = .ok (.iastore, 1) := by decide +kernel
theorem dX12_line_173 : decode cX12_line 173 = .ok (.aload_n 0, 1) := by decide +kernel
theorem dX12_line_174 : decode cX12_line 174 = .ok (.getfield 43, 3) := by decide +kernel
theorem dX12_line_177 : decode cX12_line 177 = .ok (.aload_n 0, 1) := by decide +kernel
theorem dX12_line_178 : decode cX12_line 178 = .ok (.getfield 152, 3) := by decide +kernel
theorem dX12_line_181 : decode cX12_line 181 = .ok (.iload 6, 2) := by decide +kernel
theorem dX12_line_183 : decode cX12_line 183 = .ok (.iastore, 1) := by decide +kernel
theorem dX12_line_184 : decode cX12_line 184 = .ok (.aload_n 0, 1) := by decide +kernel
theorem dX12_line_185 : decode cX12_line 185 = .ok (.getfield 46, 3) := by decide +kernel
theorem dX12_line_188 : decode cX12_line 188 = .ok (.aload_n 0, 1) := by decide +kernel
theorem dX12_line_189 : decode cX12_line 189 = .ok (.getfield 152, 3) := by decide +kernel
theorem dX12_line_192 : decode cX12_line 192 = .ok (.aload_n 0, 1) := by decide +kernel
theorem dX12_line_193 : decode cX12_line 193 = .ok (.getfield 142, 3) := by decide +kernel
theorem dX12_line_196 : decode cX12_line 196 = .ok (.iastore, 1) := by decide +kernel
theorem dX12_line_197 : decode cX12_line 197 = .ok (.aload_n 0, 1) := by decide +kernel
theorem dX12_line_198 : decode cX12_line 198 = .ok (.dup, 1) := by decide +kernel
theorem dX12_line_199 : decode cX12_line 199 = .ok (.getfield 152, 3) := by decide +kernel
theorem dX12_line_202 : decode cX12_line 202 = .ok (.iconst 1, 1) := by decide +kernel
theorem dX12_line_203 : decode cX12_line 203 = .ok (.iadd, 1) := by decide +kernel
theorem dX12_line_204 : decode cX12_line 204 = .ok (.putfield 152, 3) := by decide +kernel
theorem dX12_line_207 : decode cX12_line 207 = .ok (.aload_n 0, 1) := by decide +kernel
theorem dX12_line_208 : decode cX12_line 208 = .ok (.getfield 152, 3) := by decide +kernel
theorem dX12_line_211 : decode cX12_line 211 = .ok (.iconst 1, 1) := by decide +kernel
theorem dX12_line_212 : decode cX12_line 212 = .ok (.isub, 1) := by decide +kernel
theorem dX12_line_213 : decode cX12_line 213 = .ok (.ireturn, 1) := by decide +kernel
theorem dX12_look_0 : decode cX12_look 0 = .ok (.aload_n 0, 1) := by decide +kernel
theorem dX12_look_1 : decode cX12_look 1 = .ok (.getfield 189, 3) := by decide +kernel
theorem dX12_look_4 : decode cX12_look 4 = .ok (.aload_n 0, 1) := by decide +kernel
theorem dX12_look_5 : decode cX12_look 5 = .ok (.getfield 192, 3) := by decide +kernel
theorem dX12_look_8 : decode cX12_look 8 = .ok (.if_icmp .ge 35, 3) := by decide +kernel
theorem dX12_look_11 : decode cX12_look 11 = .ok (.aload_n 0, 1) := by decide +kernel
theorem dX12_look_12 : decode cX12_look 12 = .ok (.getfield 68, 3) := by decide +kernel
theorem dX12_look_15 : decode cX12_look 15 = .ok (.aload_n 0, 1) := by decide +kernel
theorem dX12_look_16 : decode cX12_look 16 = .ok (.getfield 195, 3) := by decide +kernel
theorem dX12_look_19 : decode cX12_look 19 = .ok (.aload_n 0, 1) := by decide +kernel
theorem dX12_look_20 : decode cX12_look 20 = .ok (.getfield 189, 3) := by decide +kernel
theorem dX12_look_23 : decode cX12_look 23 = .ok (.iadd, 1) := by decide +kernel
theorem dX12_look_24 : decode cX12_look 24 = .ok (.baload, 1) := by decide +kernel
theorem dX12_look_25 : decode cX12_look 25 = .ok (.bipush 32, 2) := by decide +kernel
theorem dX12_look_27 : decode cX12_look 27 = .ok (.if_icmp .ne 16, 3) := by decide +kernel
theorem dX12_look_30 : decode cX12_look 30 = .ok (.aload_n 0, 1) := by decide +kernel
theorem dX12_look_31 : decode cX12_look 31 = .ok (.dup, 1) := by decide +kernel
theorem dX12_look_32 : decode cX12_look 32 = .ok (.getfield 189, 3) := by decide +kernel
theorem dX12_look_35 : decode cX12_look 35 = .ok (.iconst 1, 1) := by decide +kernel
theorem dX12_look_36 : decode cX12_look 36 = .ok (.iadd, 1) := by decide +kernel
theorem dX12_look_37 : decode cX12_look 37 = .ok (.putfield 189, 3) := by decide +kernel
theorem dX12_look_40 : decode cX12_look 40 = .ok (.goto (-40), 3) := by decide +kernel
theorem dX12_look_43 : decode cX12_look 43 = .ok (.aload_n 0, 1) := by decide +kernel
theorem dX12_look_44 : decode cX12_look 44 = .ok (.getfield 189, 3) := by decide +kernel
theorem dX12_look_47 : decode cX12_look 47 = .ok (.aload_n 0, 1) := by decide +kernel
theorem dX12_look_48 : decode cX12_look 48 = .ok (.getfield 192, 3) := by decide +kernel
theorem dX12_look_51 : decode cX12_look 51 = .ok (.if_icmp .ge 24, 3) := by decide +kernel
theorem dX12_look_54 : decode cX12_look 54 = .ok (.aload_n 0, 1) := by decide +kernel
theorem dX12_look_55 : decode cX12_look 55 = .ok (.getfield 68, 3) := by decide +kernel
theorem dX12_look_58 : decode cX12_look 58 = .ok (.aload_n 0, 1) := by decide +kernel
theorem dX12_look_59 : decode cX12_look 59 = .ok (.getfield 195, 3) := by decide +kernel
theorem dX12_look_62 : decode cX12_look 62 = .ok (.aload_n 0, 1) := by decide +kernel
theorem dX12_look_63 : decode cX12_look 63 = .ok (.getfield 189, 3) := by decide +kernel
theorem dX12_look_66 : decode cX12_look 66 = .ok (.iadd, 1) := by decide +kernel
theorem dX12_look_67 : decode cX12_look 67 = .ok (.baload, 1) := by decide +kernel
theorem dX12_look_68 : decode cX12_look 68 = .ok (.sipush 255, 3) := by decide +kernel
theorem dX12_look_71 : decode cX12_look 71 = .ok (.iand, 1) := by decide +kernel
theorem dX12_look_72 : decode cX12_look 72 = .ok (.goto 4, 3) := by decide +kernel
theorem dX12_look_75 : decode cX12_look 75 = .ok (.iconst (-1), 1) := by decide +kernel
theorem dX12_look_76 : decode cX12_look 76 = .ok (.ireturn, 1) := by decide +kernel
theorem dX12_lot_0 : decode cX12_lot 0 = .ok (.aload_n 0, 1) := by decide +kernel
theorem dX12_lot_1 : decode cX12_lot 1 = .ok (.iconst 0, 1) := by decide +kernel
theorem dX12_lot_2 : decode cX12_lot 2 = .ok (.putfield 138, 3) := by decide +kernel
theorem dX12_lot_5 : decode cX12_lot 5 = .ok (.aload_n 0, 1) := by decide +kernel
theorem dX12_lot_6 : decode cX12_lot 6 = .ok (.iload_n 1, 1) := by decide +kernel
theorem dX12_lot_7 : decode cX12_lot 7 = .ok (.lload_n 2, 1) := by decide +kernel
theorem dX12_lot_8 : decode cX12_lot 8 = .ok (.invokevirtual 406, 3) := by decide +kernel
theorem dX12_lot_11 : decode cX12_lot 11 = .ok (.ifCond .eq 25, 3) := by decide +kernel
theorem dX12_lot_14 : decode cX12_lot 14 = .ok (.iload 4, 2) := by decide +kernel
theorem dX12_lot_16 : decode cX12_lot 16 = .ok (.iconst 0, 1) := by decide +kernel
theorem dX12_lot_17 : decode cX12_lot 17 = .ok (.iload_n 1, 1) := by decide +kernel
theorem dX12_lot_18 : decode cX12_lot 18 = .ok (.iconst 1, 1) := by decide +kernel
theorem dX12_lot_19 : decode cX12_lot 19 = .ok (.isub, 1) := by decide +kernel
theorem dX12_lot_20 : decode cX12_lot 20 = .ok (.invokestatic 145, 3) := by decide +kernel
theorem dX12_lot_23 : decode cX12_lot 23 = .ok (.ifCond .eq 13, 3) := by decide +kernel
theorem dX12_lot_26 : decode cX12_lot 26 = .ok (.aload_n 0, 1) := by decide +kernel
theorem dX12_lot_27 : decode cX12_lot 27 = .ok (.getfield 135, 3) := by decide +kernel
theorem dX12_lot_30 : decode cX12_lot 30 = .ok (.iload 4, 2) := by decide +kernel
theorem dX12_lot_32 : decode cX12_lot 32 = .ok (.iaload, 1) := by decide +kernel
theorem dX12_lot_33 : decode cX12_lot 33 = .ok (.goto 4, 3) := by decide +kernel
theorem dX12_lot_36 : decode cX12_lot 36 = .ok (.iconst (-1), 1) := by decide +kernel
theorem dX12_lot_37 : decode cX12_lot 37 = .ok (.ireturn, 1) := by decide +kernel
theorem dX12_mark_0 : decode cX12_mark 0 = .ok (.aload_n 0, 1) := by decide +kernel
theorem dX12_mark_1 : decode cX12_mark 1 = .ok (.iconst 0, 1) := by decide +kernel
theorem dX12_mark_2 : decode cX12_mark 2 = .ok (.putfield 138, 3) := by decide +kernel
theorem dX12_mark_5 : decode cX12_mark 5 = .ok (.aload_n 0, 1) := by decide +kernel
theorem dX12_mark_6 : decode cX12_mark 6 = .ok (.getfield 335, 3) := by decide +kernel
theorem dX12_mark_9 : decode cX12_mark 9 = .ok (.sipush 200, 3) := by decide +kernel
theorem dX12_mark_12 : decode cX12_mark 12 = .ok (.if_icmp .eq 28, 3) := by decide +kernel
theorem dX12_mark_15 : decode cX12_mark 15 = .ok (.iload_n 1, 1) := by decide +kernel
theorem dX12_mark_16 : decode cX12_mark 16 = .ok (.invokestatic 338, 3) := by decide +kernel
theorem dX12_mark_19 : decode cX12_mark 19 = .ok (.ifCond .eq 21, 3) := by decide +kernel
theorem dX12_mark_22 : decode cX12_mark 22 = .ok (.aload_n 0, 1) := by decide +kernel
theorem dX12_mark_23 : decode cX12_mark 23 = .ok (.iload_n 2, 1) := by decide +kernel
theorem dX12_mark_24 : decode cX12_mark 24 = .ok (.invokevirtual 155, 3) := by decide +kernel
theorem dX12_mark_27 : decode cX12_mark 27 = .ok (.ifCond .eq 13, 3) := by decide +kernel
theorem dX12_mark_30 : decode cX12_mark 30 = .ok (.iload_n 3, 1) := by decide +kernel
theorem dX12_mark_31 : decode cX12_mark 31 = .ok (.iconst 0, 1) := by decide +kernel
theorem dX12_mark_32 : decode cX12_mark 32 = .ok (.bipush 9, 2) := by decide +kernel
theorem dX12_mark_34 : decode cX12_mark 34 = .ok (.invokestatic 145, 3) := by decide +kernel
theorem dX12_mark_37 : decode cX12_mark 37 = .ok (.ifCond .ne 5, 3) := by decide +kernel
theorem dX12_mark_40 : decode cX12_mark 40 = .ok (.iconst 0, 1) := by decide +kernel
theorem dX12_mark_41 : decode cX12_mark 41 = .ok (.ireturn, 1) := by decide +kernel
theorem dX12_mark_42 : decode cX12_mark 42 = .ok (.aload_n 0, 1) := by decide +kernel
theorem dX12_mark_43 : decode cX12_mark 43 = .ok (.getfield 93, 3) := by decide +kernel
theorem dX12_mark_46 : decode cX12_mark 46 = .ok (.aload_n 0, 1) := by decide +kernel
theorem dX12_mark_47 : decode cX12_mark 47 = .ok (.getfield 335, 3) := by decide +kernel
theorem dX12_mark_50 : decode cX12_mark 50 = .ok (.iload_n 1, 1) := by decide +kernel
theorem dX12_mark_51 : decode cX12_mark 51 = .ok (.iastore, 1) := by decide +kernel
theorem dX12_mark_52 : decode cX12_mark 52 = .ok (.aload_n 0, 1) := by decide +kernel
theorem dX12_mark_53 : decode cX12_mark 53 = .ok (.getfield 96, 3) := by decide +kernel
theorem dX12_mark_56 : decode cX12_mark 56 = .ok (.aload_n 0, 1) := by decide +kernel
theorem dX12_mark_57 : decode cX12_mark 57 = .ok (.getfield 335, 3) := by decide +kernel
theorem dX12_mark_60 : decode cX12_mark 60 = .ok (.iload_n 2, 1) := by decide +kernel
theorem dX12_mark_61 : decode cX12_mark 61 = .ok (.iastore, 1) := by decide +kernel
theorem dX12_mark_62 : decode cX12_mark 62 = .ok (.aload_n 0, 1) := by decide +kernel
theorem dX12_mark_63 : decode cX12_mark 63 = .ok (.getfield 99, 3) := by decide +kernel
theorem dX12_mark_66 : decode cX12_mark 66 = .ok (.aload_n 0, 1) := by decide +kernel
theorem dX12_mark_67 : decode cX12_mark 67 = .ok (.getfield 335, 3) := by decide +kernel
theorem dX12_mark_70 : decode cX12_mark 70 = .ok (.iload_n 3, 1) := by decide +kernel
theorem dX12_mark_71 : decode cX12_mark 71 = .ok (.iastore, 1) := by decide +kernel
theorem dX12_mark_72 : decode cX12_mark 72 = .ok (.aload_n 0, 1) := by decide +kernel
theorem dX12_mark_73 : decode cX12_mark 73 = .ok (.getfield 102, 3) := by decide +kernel
theorem dX12_mark_76 : decode cX12_mark 76 = .ok (.aload_n 0, 1) := by decide +kernel
theorem dX12_mark_77 : decode cX12_mark 77 = .ok (.getfield 335, 3) := by decide +kernel
theorem dX12_mark_80 : decode cX12_mark 80 = .ok (.aload_n 0, 1) := by decide +kernel
theorem dX12_mark_81 : decode cX12_mark 81 = .ok (.getfield 142, 3) := by decide +kernel
theorem dX12_mark_84 : decode cX12_mark 84 = .ok (.iastore, 1) := by decide +kernel
theorem dX12_mark_85 : decode cX12_mark 85 = .ok (.aload_n 0, 1) := by decide +kernel
theorem dX12_mark_86 : decode cX12_mark 86 = .ok (.dup, 1) := by decide +kernel
theorem dX12_mark_87 : decode cX12_mark 87 = .ok (.getfield 335, 3) := by decide +kernel
theorem dX12_mark_90 : decode cX12_mark 90 = .ok (.iconst 1, 1) := by decide +kernel
theorem dX12_mark_91 : decode cX12_mark 91 = .ok (.iadd, 1) := by decide +kernel
theorem dX12_mark_92 : decode cX12_mark 92 = .ok (.putfield 335, 3) := by decide +kernel
theorem dX12_mark_95 : decode cX12_mark 95 = .ok (.iconst 1, 1) := by decide +kernel
theorem dX12_mark_96 : decode cX12_mark 96 = .ok (.ireturn, 1) := by decide +kernel
theorem dX12_markOf_0 : decode cX12_markOf 0 = .ok (.iconst (-1), 1) := by decide +kernel
theorem dX12_markOf_1 : decode cX12_markOf 1 = .ok (.istore 4, 2) := by decide +kernel
theorem dX12_markOf_3 : decode cX12_markOf 3 = .ok (.iconst 0, 1) := by decide +kernel
theorem dX12_markOf_4 : decode cX12_markOf 4 = .ok (.istore 5, 2) := by decide +kernel
theorem dX12_markOf_6 : decode cX12_markOf 6 = .ok (.iload 5, 2) := by decide +kernel
theorem dX12_markOf_8 : decode cX12_markOf 8 = .ok (.aload_n 0, 1) := by decide +kernel
theorem dX12_markOf_9 : decode cX12_markOf 9 = .ok (.getfield 335, 3) := by decide +kernel
theorem dX12_markOf_12 : decode cX12_markOf 12 = .ok (.if_icmp .ge 51, 3) := by decide +kernel
theorem dX12_markOf_15 : decode cX12_markOf 15 = .ok (.aload_n 0, 1) := by decide +kernel
theorem dX12_markOf_16 : decode cX12_markOf 16 = .ok (.getfield 93, 3) := by decide +kernel
theorem dX12_markOf_19 : decode cX12_markOf 19 = .ok (.iload 5, 2) := by decide +kernel
theorem dX12_markOf_21 : decode cX12_markOf 21 = .ok (.iaload, 1) := by decide +kernel
theorem dX12_markOf_22 : decode cX12_markOf 22 = .ok (.iload_n 1, 1) := by decide +kernel
theorem dX12_markOf_23 : decode cX12_markOf 23 = .ok (.if_icmp .ne 34, 3) := by decide +kernel
theorem dX12_markOf_26 : decode cX12_markOf 26 = .ok (.aload_n 0, 1) := by decide +kernel
theorem dX12_markOf_27 : decode cX12_markOf 27 = .ok (.getfield 96, 3) := by decide +kernel
theorem dX12_markOf_30 : decode cX12_markOf 30 = .ok (.iload 5, 2) := by decide +kernel
theorem dX12_markOf_32 : decode cX12_markOf 32 = .ok (.iaload, 1) := by decide +kernel
theorem dX12_markOf_33 : decode cX12_markOf 33 = .ok (.iload_n 2, 1) := by decide +kernel
theorem dX12_markOf_34 : decode cX12_markOf 34 = .ok (.if_icmp .ne 23, 3) := by decide +kernel
theorem dX12_markOf_37 : decode cX12_markOf 37 = .ok (.aload_n 0, 1) := by decide +kernel
theorem dX12_markOf_38 : decode cX12_markOf 38 = .ok (.getfield 102, 3) := by decide +kernel
theorem dX12_markOf_41 : decode cX12_markOf 41 = .ok (.iload 5, 2) := by decide +kernel
theorem dX12_markOf_43 : decode cX12_markOf 43 = .ok (.iaload, 1) := by decide +kernel
theorem dX12_markOf_44 : decode cX12_markOf 44 = .ok (.iload_n 3, 1) := by decide +kernel
theorem dX12_markOf_45 : decode cX12_markOf 45 = .ok (.if_icmp .gt 12, 3) := by decide +kernel
theorem dX12_markOf_48 : decode cX12_markOf 48 = .ok (.aload_n 0, 1) := by decide +kernel
theorem dX12_markOf_49 : decode cX12_markOf 49 = .ok (.getfield 99, 3) := by decide +kernel
theorem dX12_markOf_52 : decode cX12_markOf 52 = .ok (.iload 5, 2) := by decide +kernel
theorem dX12_markOf_54 : decode cX12_markOf 54 = .ok (.iaload, 1) := by decide +kernel
theorem dX12_markOf_55 : decode cX12_markOf 55 = .ok (.istore 4, 2) := by decide +kernel
theorem dX12_markOf_57 : decode cX12_markOf 57 = .ok (.iinc 5 1, 3) := by decide +kernel
theorem dX12_markOf_60 : decode cX12_markOf 60 = .ok (.goto (-54), 3) := by decide +kernel
theorem dX12_markOf_63 : decode cX12_markOf 63 = .ok (.iload 4, 2) := by decide +kernel
theorem dX12_markOf_65 : decode cX12_markOf 65 = .ok (.ireturn, 1) := by decide +kernel
theorem dX12_marked_0 : decode cX12_marked 0 = .ok (.aload_n 0, 1) := by decide +kernel
theorem dX12_marked_1 : decode cX12_marked 1 = .ok (.iconst 0, 1) := by decide +kernel
theorem dX12_marked_2 : decode cX12_marked 2 = .ok (.putfield 138, 3) := by decide +kernel
theorem dX12_marked_5 : decode cX12_marked 5 = .ok (.iload_n 1, 1) := by decide +kernel
theorem dX12_marked_6 : decode cX12_marked 6 = .ok (.invokestatic 338, 3) := by decide +kernel
theorem dX12_marked_9 : decode cX12_marked 9 = .ok (.ifCond .eq 29, 3) := by decide +kernel
theorem dX12_marked_12 : decode cX12_marked 12 = .ok (.aload_n 0, 1) := by decide +kernel
theorem dX12_marked_13 : decode cX12_marked 13 = .ok (.iload_n 2, 1) := by decide +kernel
theorem dX12_marked_14 : decode cX12_marked 14 = .ok (.invokevirtual 155, 3) := by decide +kernel
theorem dX12_marked_17 : decode cX12_marked 17 = .ok (.ifCond .eq 21, 3) := by decide +kernel
theorem dX12_marked_20 : decode cX12_marked 20 = .ok (.aload_n 0, 1) := by decide +kernel
theorem dX12_marked_21 : decode cX12_marked 21 = .ok (.iload_n 3, 1) := by decide +kernel
theorem dX12_marked_22 : decode cX12_marked 22 = .ok (.invokevirtual 159, 3) := by decide +kernel
theorem dX12_marked_25 : decode cX12_marked 25 = .ok (.ifCond .eq 13, 3) := by decide +kernel
theorem dX12_marked_28 : decode cX12_marked 28 = .ok (.aload_n 0, 1) := by decide +kernel
theorem dX12_marked_29 : decode cX12_marked 29 = .ok (.iload_n 1, 1) := by decide +kernel
theorem dX12_marked_30 : decode cX12_marked 30 = .ok (.iload_n 2, 1) := by decide +kernel
theorem dX12_marked_31 : decode cX12_marked 31 = .ok (.iload_n 3, 1) := by decide +kernel
theorem dX12_marked_32 : decode cX12_marked 32 = .ok (.invokevirtual 341, 3) := by decide +kernel
theorem dX12_marked_35 : decode cX12_marked 35 = .ok (.goto 4, 3) := by decide +kernel
theorem dX12_marked_38 : decode cX12_marked 38 = .ok (.iconst (-1), 1) := by decide +kernel
theorem dX12_marked_39 : decode cX12_marked 39 = .ok (.ireturn, 1) := by decide +kernel
theorem dX12_maySee_0 : decode cX12_maySee 0 = .ok (.aload_n 0, 1) := by decide +kernel
theorem dX12_maySee_1 : decode cX12_maySee 1 = .ok (.getfield 120, 3) := by decide +kernel
theorem dX12_maySee_4 : decode cX12_maySee 4 = .ok (.iload_n 2, 1) := by decide +kernel
theorem dX12_maySee_5 : decode cX12_maySee 5 = .ok (.iaload, 1) := by decide +kernel
theorem dX12_maySee_6 : decode cX12_maySee 6 = .ok (.aload_n 0, 1) := by decide +kernel
theorem dX12_maySee_7 : decode cX12_maySee 7 = .ok (.getfield 111, 3) := by decide +kernel
theorem dX12_maySee_10 : decode cX12_maySee 10 = .ok (.iload_n 1, 1) := by decide +kernel
theorem dX12_maySee_11 : decode cX12_maySee 11 = .ok (.iaload, 1) := by decide +kernel
theorem dX12_maySee_12 : decode cX12_maySee 12 = .ok (.aload_n 0, 1) := by decide +kernel
theorem dX12_maySee_13 : decode cX12_maySee 13 = .ok (.getfield 114, 3) := by decide +kernel
theorem dX12_maySee_16 : decode cX12_maySee 16 = .ok (.iload_n 1, 1) := by decide +kernel
theorem dX12_maySee_17 : decode cX12_maySee 17 = .ok (.iaload, 1) := by decide +kernel
theorem dX12_maySee_18 : decode cX12_maySee 18 = .ok (.invokestatic 145, 3) := by decide +kernel
theorem dX12_maySee_21 : decode cX12_maySee 21 = .ok (.ifCond .ne 5, 3) := by decide +kernel
theorem dX12_maySee_24 : decode cX12_maySee 24 = .ok (.iconst 0, 1) := by decide +kernel
theorem dX12_maySee_25 : decode cX12_maySee 25 = .ok (.ireturn, 1) := by decide +kernel
theorem dX12_maySee_26 : decode cX12_maySee 26 = .ok (.iconst 0, 1) := by decide +kernel
theorem dX12_maySee_27 : decode cX12_maySee 27 = .ok (.istore_n 3, 1) := by decide +kernel
theorem dX12_maySee_28 : decode cX12_maySee 28 = .ok (.iload_n 3, 1) := by decide +kernel
theorem dX12_maySee_29 : decode cX12_maySee 29 = .ok (.iload_n 2, 1) := by decide +kernel
theorem dX12_maySee_30 : decode cX12_maySee 30 = .ok (.if_icmp .ge 65, 3) := by decide +kernel
theorem dX12_maySee_33 : decode cX12_maySee 33 = .ok (.aload_n 0, 1) := by decide +kernel
theorem dX12_maySee_34 : decode cX12_maySee 34 = .ok (.getfield 120, 3) := by decide +kernel
theorem dX12_maySee_37 : decode cX12_maySee 37 = .ok (.iload_n 2, 1) := by decide +kernel
theorem dX12_maySee_38 : decode cX12_maySee 38 = .ok (.iaload, 1) := by decide +kernel
theorem dX12_maySee_39 : decode cX12_maySee 39 = .ok (.aload_n 0, 1) := by decide +kernel
theorem dX12_maySee_40 : decode cX12_maySee 40 = .ok (.getfield 120, 3) := by decide +kernel
theorem dX12_maySee_43 : decode cX12_maySee 43 = .ok (.iload_n 3, 1) := by decide +kernel
theorem dX12_maySee_44 : decode cX12_maySee 44 = .ok (.iaload, 1) := by decide +kernel
theorem dX12_maySee_45 : decode cX12_maySee 45 = .ok (.isub, 1) := by decide +kernel
theorem dX12_maySee_46 : decode cX12_maySee 46 = .ok (.invokestatic 323, 3) := by decide +kernel
theorem dX12_maySee_49 : decode cX12_maySee 49 = .ok (.istore 4, 2) := by decide +kernel
theorem dX12_maySee_51 : decode cX12_maySee 51 = .ok (.aload_n 0, 1) := by decide +kernel
theorem dX12_maySee_52 : decode cX12_maySee 52 = .ok (.getfield 123, 3) := by decide +kernel
theorem dX12_maySee_55 : decode cX12_maySee 55 = .ok (.iload_n 3, 1) := by decide +kernel
theorem dX12_maySee_56 : decode cX12_maySee 56 = .ok (.iaload, 1) := by decide +kernel
theorem dX12_maySee_57 : decode cX12_maySee 57 = .ok (.iload_n 1, 1) := by decide +kernel
theorem dX12_maySee_58 : decode cX12_maySee 58 = .ok (.if_icmp .ne 31, 3) := by decide +kernel
theorem dX12_maySee_61 : decode cX12_maySee 61 = .ok (.iload 4, 2) := by decide +kernel
theorem dX12_maySee_63 : decode cX12_maySee 63 = .ok (.ifCond .eq 24, 3) := by decide +kernel
theorem dX12_maySee_66 : decode cX12_maySee 66 = .ok (.iload 4, 2) := by decide +kernel
theorem dX12_maySee_68 : decode cX12_maySee 68 = .ok (.iconst 2, 1) := by decide +kernel
theorem dX12_maySee_69 : decode cX12_maySee 69 = .ok (.if_icmp .ge 20, 3) := by decide +kernel
theorem dX12_maySee_72 : decode cX12_maySee 72 = .ok (.aload_n 0, 1) := by decide +kernel
theorem dX12_maySee_73 : decode cX12_maySee 73 = .ok (.getfield 117, 3) := by decide +kernel
theorem dX12_maySee_76 : decode cX12_maySee 76 = .ok (.iload_n 2, 1) := by decide +kernel
theorem dX12_maySee_77 : decode cX12_maySee 77 = .ok (.iaload, 1) := by decide +kernel
theorem dX12_maySee_78 : decode cX12_maySee 78 = .ok (.aload_n 0, 1) := by decide +kernel
theorem dX12_maySee_79 : decode cX12_maySee 79 = .ok (.getfield 117, 3) := by decide +kernel
theorem dX12_maySee_82 : decode cX12_maySee 82 = .ok (.iload_n 3, 1) := by decide +kernel
theorem dX12_maySee_83 : decode cX12_maySee 83 = .ok (.iaload, 1) := by decide +kernel
theorem dX12_maySee_84 : decode cX12_maySee 84 = .ok (.if_icmp .eq 5, 3) := by decide +kernel
theorem dX12_maySee_87 : decode cX12_maySee 87 = .ok (.iconst 0, 1) := by decide +kernel
theorem dX12_maySee_88 : decode cX12_maySee 88 = .ok (.ireturn, 1) := by decide +kernel
theorem dX12_maySee_89 : decode cX12_maySee 89 = .ok (.iinc 3 1, 3) := by decide +kernel
theorem dX12_maySee_92 : decode cX12_maySee 92 = .ok (.goto (-64), 3) := by decide +kernel
theorem dX12_maySee_95 : decode cX12_maySee 95 = .ok (.iconst 1, 1) := by decide +kernel
theorem dX12_maySee_96 : decode cX12_maySee 96 = .ok (.ireturn, 1) := by decide +kernel
theorem dX12_mayShow_0 : decode cX12_mayShow 0 = .ok (.aload_n 0, 1) := by decide +kernel
theorem dX12_mayShow_1 : decode cX12_mayShow 1 = .ok (.invokevirtual 295, 3) := by decide +kernel
theorem dX12_mayShow_4 : decode cX12_mayShow 4 = .ok (.aload_n 0, 1) := by decide +kernel
theorem dX12_mayShow_5 : decode cX12_mayShow 5 = .ok (.aload_n 0, 1) := by decide +kernel
theorem dX12_mayShow_6 : decode cX12_mayShow 6 = .ok (.getfield 28, 3) := by decide +kernel
theorem dX12_mayShow_9 : decode cX12_mayShow 9 = .ok (.iload_n 1, 1) := by decide +kernel
theorem dX12_mayShow_10 : decode cX12_mayShow 10 = .ok (.iaload, 1) := by decide +kernel
theorem dX12_mayShow_11 : decode cX12_mayShow 11 = .ok (.invokevirtual 298, 3) := by decide +kernel
theorem dX12_mayShow_14 : decode cX12_mayShow 14 = .ok (.aload_n 0, 1) := by decide +kernel
theorem dX12_mayShow_15 : decode cX12_mayShow 15 = .ok (.getfield 65, 3) := by decide +kernel
theorem dX12_mayShow_18 : decode cX12_mayShow 18 = .ok (.bipush 116, 2) := by decide +kernel
theorem dX12_mayShow_20 : decode cX12_mayShow 20 = .ok (.iload_n 2, 1) := by decide +kernel
theorem dX12_mayShow_21 : decode cX12_mayShow 21 = .ok (.iastore, 1) := by decide +kernel
theorem dX12_mayShow_22 : decode cX12_mayShow 22 = .ok (.aload_n 0, 1) := by decide +kernel
theorem dX12_mayShow_23 : decode cX12_mayShow 23 = .ok (.getfield 65, 3) := by decide +kernel
theorem dX12_mayShow_26 : decode cX12_mayShow 26 = .ok (.bipush 107, 2) := by decide +kernel
theorem dX12_mayShow_28 : decode cX12_mayShow 28 = .ok (.aload_n 0, 1) := by decide +kernel
theorem dX12_mayShow_29 : decode cX12_mayShow 29 = .ok (.getfield 34, 3) := by decide +kernel
theorem dX12_mayShow_32 : decode cX12_mayShow 32 = .ok (.iload_n 1, 1) := by decide +kernel
theorem dX12_mayShow_33 : decode cX12_mayShow 33 = .ok (.iaload, 1) := by decide +kernel
theorem dX12_mayShow_34 : decode cX12_mayShow 34 = .ok (.iastore, 1) := by decide +kernel
theorem dX12_mayShow_35 : decode cX12_mayShow 35 = .ok (.aload_n 0, 1) := by decide +kernel
theorem dX12_mayShow_36 : decode cX12_mayShow 36 = .ok (.getfield 65, 3) := by decide +kernel
theorem dX12_mayShow_39 : decode cX12_mayShow 39 = .ok (.bipush 109, 2) := by decide +kernel
theorem dX12_mayShow_41 : decode cX12_mayShow 41 = .ok (.aload_n 0, 1) := by decide +kernel
theorem dX12_mayShow_42 : decode cX12_mayShow 42 = .ok (.getfield 37, 3) := by decide +kernel
theorem dX12_mayShow_45 : decode cX12_mayShow 45 = .ok (.iload_n 1, 1) := by decide +kernel
theorem dX12_mayShow_46 : decode cX12_mayShow 46 = .ok (.iaload, 1) := by decide +kernel
theorem dX12_mayShow_47 : decode cX12_mayShow 47 = .ok (.iastore, 1) := by decide +kernel
theorem dX12_mayShow_48 : decode cX12_mayShow 48 = .ok (.aload_n 0, 1) := by decide +kernel
theorem dX12_mayShow_49 : decode cX12_mayShow 49 = .ok (.getfield 65, 3) := by decide +kernel
theorem dX12_mayShow_52 : decode cX12_mayShow 52 = .ok (.bipush 101, 2) := by decide +kernel
theorem dX12_mayShow_54 : decode cX12_mayShow 54 = .ok (.iload_n 2, 1) := by decide +kernel
theorem dX12_mayShow_55 : decode cX12_mayShow 55 = .ok (.aload_n 0, 1) := by decide +kernel
theorem dX12_mayShow_56 : decode cX12_mayShow 56 = .ok (.getfield 31, 3) := by decide +kernel
theorem dX12_mayShow_59 : decode cX12_mayShow 59 = .ok (.iload_n 1, 1) := by decide +kernel
theorem dX12_mayShow_60 : decode cX12_mayShow 60 = .ok (.iaload, 1) := by decide +kernel
theorem dX12_mayShow_61 : decode cX12_mayShow 61 = .ok (.isub, 1) := by decide +kernel
theorem dX12_mayShow_62 : decode cX12_mayShow 62 = .ok (.iastore, 1) := by decide +kernel
theorem dX12_mayShow_63 : decode cX12_mayShow 63 = .ok (.aload_n 0, 1) := by decide +kernel
theorem dX12_mayShow_64 : decode cX12_mayShow 64 = .ok (.getfield 65, 3) := by decide +kernel
theorem dX12_mayShow_67 : decode cX12_mayShow 67 = .ok (.bipush 114, 2) := by decide +kernel
theorem dX12_mayShow_69 : decode cX12_mayShow 69 = .ok (.iload_n 3, 1) := by decide +kernel
theorem dX12_mayShow_70 : decode cX12_mayShow 70 = .ok (.iastore, 1) := by decide +kernel
theorem dX12_mayShow_71 : decode cX12_mayShow 71 = .ok (.aload_n 0, 1) := by decide +kernel
theorem dX12_mayShow_72 : decode cX12_mayShow 72 = .ok (.iload_n 2, 1) := by decide +kernel
theorem dX12_mayShow_73 : decode cX12_mayShow 73 = .ok (.iload 4, 2) := by decide +kernel
theorem dX12_mayShow_75 : decode cX12_mayShow 75 = .ok (.bipush 115, 2) := by decide +kernel
theorem dX12_mayShow_77 : decode cX12_mayShow 77 = .ok (.invokevirtual 301, 3) := by decide +kernel
theorem dX12_mayShow_80 : decode cX12_mayShow 80 = .ok (.ifCond .eq 7, 3) := by decide +kernel
theorem dX12_mayShow_83 : decode cX12_mayShow 83 = .ok (.iconst 1, 1) := by decide +kernel
theorem dX12_mayShow_84 : decode cX12_mayShow 84 = .ok (.goto 4, 3) := by decide +kernel
theorem dX12_mayShow_87 : decode cX12_mayShow 87 = .ok (.iconst 0, 1) := by decide +kernel
theorem dX12_mayShow_88 : decode cX12_mayShow 88 = .ok (.ireturn, 1) := by decide +kernel
theorem dX12_mood_0 : decode cX12_mood 0 = .ok (.aload_n 0, 1) := by decide +kernel
theorem dX12_mood_1 : decode cX12_mood 1 = .ok (.iconst 0, 1) := by decide +kernel
theorem dX12_mood_2 : decode cX12_mood 2 = .ok (.putfield 138, 3) := by decide +kernel
theorem dX12_mood_5 : decode cX12_mood 5 = .ok (.iload_n 1, 1) := by decide +kernel
theorem dX12_mood_6 : decode cX12_mood 6 = .ok (.invokestatic 175, 3) := by decide +kernel
theorem dX12_mood_9 : decode cX12_mood 9 = .ok (.ifCond .eq 20, 3) := by decide +kernel
theorem dX12_mood_12 : decode cX12_mood 12 = .ok (.aload_n 0, 1) := by decide +kernel
theorem dX12_mood_13 : decode cX12_mood 13 = .ok (.iload_n 2, 1) := by decide +kernel
theorem dX12_mood_14 : decode cX12_mood 14 = .ok (.invokevirtual 159, 3) := by decide +kernel
theorem dX12_mood_17 : decode cX12_mood 17 = .ok (.ifCond .eq 12, 3) := by decide +kernel
theorem dX12_mood_20 : decode cX12_mood 20 = .ok (.iload_n 3, 1) := by decide +kernel
theorem dX12_mood_21 : decode cX12_mood 21 = .ok (.iconst 0, 1) := by decide +kernel
theorem dX12_mood_22 : decode cX12_mood 22 = .ok (.iconst 1, 1) := by decide +kernel
theorem dX12_mood_23 : decode cX12_mood 23 = .ok (.invokestatic 145, 3) := by decide +kernel
theorem dX12_mood_26 : decode cX12_mood 26 = .ok (.ifCond .ne 7, 3) := by decide +kernel
theorem dX12_mood_29 : decode cX12_mood 29 = .ok (.ldc_w 344, 3) := by decide +kernel
theorem dX12_mood_32 : decode cX12_mood 32 = .ok (.ireturn, 1) := by decide +kernel
theorem dX12_mood_33 : decode cX12_mood 33 = .ok (.iconst 0, 1) := by decide +kernel
theorem dX12_mood_34 : decode cX12_mood 34 = .ok (.istore 4, 2) := by decide +kernel
theorem dX12_mood_36 : decode cX12_mood 36 = .ok (.iconst 0, 1) := by decide +kernel
theorem dX12_mood_37 : decode cX12_mood 37 = .ok (.istore 5, 2) := by decide +kernel
theorem dX12_mood_39 : decode cX12_mood 39 = .ok (.iconst 0, 1) := by decide +kernel
theorem dX12_mood_40 : decode cX12_mood 40 = .ok (.istore 6, 2) := by decide +kernel
theorem dX12_mood_42 : decode cX12_mood 42 = .ok (.iload 6, 2) := by decide +kernel
theorem dX12_mood_44 : decode cX12_mood 44 = .ok (.aload_n 0, 1) := by decide +kernel
theorem dX12_mood_45 : decode cX12_mood 45 = .ok (.getfield 152, 3) := by decide +kernel
theorem dX12_mood_48 : decode cX12_mood 48 = .ok (.if_icmp .ge 49, 3) := by decide +kernel
theorem dX12_mood_51 : decode cX12_mood 51 = .ok (.aload_n 0, 1) := by decide +kernel
theorem dX12_mood_52 : decode cX12_mood 52 = .ok (.getfield 31, 3) := by decide +kernel
theorem dX12_mood_55 : decode cX12_mood 55 = .ok (.iload 6, 2) := by decide +kernel
theorem dX12_mood_57 : decode cX12_mood 57 = .ok (.iaload, 1) := by decide +kernel
theorem dX12_mood_58 : decode cX12_mood 58 = .ok (.iload_n 1, 1) := by decide +kernel
theorem dX12_mood_59 : decode cX12_mood 59 = .ok (.if_icmp .ne 32, 3) := by decide +kernel
theorem dX12_mood_62 : decode cX12_mood 62 = .ok (.aload_n 0, 1) := by decide +kernel
theorem dX12_mood_63 : decode cX12_mood 63 = .ok (.getfield 46, 3) := by decide +kernel
theorem dX12_mood_66 : decode cX12_mood 66 = .ok (.iload 6, 2) := by decide +kernel
theorem dX12_mood_68 : decode cX12_mood 68 = .ok (.iaload, 1) := by decide +kernel
theorem dX12_mood_69 : decode cX12_mood 69 = .ok (.iload_n 2, 1) := by decide +kernel
theorem dX12_mood_70 : decode cX12_mood 70 = .ok (.if_icmp .le 6, 3) := by decide +kernel
theorem dX12_mood_73 : decode cX12_mood 73 = .ok (.goto 18, 3) := by decide +kernel
theorem dX12_mood_76 : decode cX12_mood 76 = .ok (.iload 4, 2) := by decide +kernel
theorem dX12_mood_78 : decode cX12_mood 78 = .ok (.aload_n 0, 1) := by decide +kernel
theorem dX12_mood_79 : decode cX12_mood 79 = .ok (.getfield 37, 3) := by decide +kernel
theorem dX12_mood_82 : decode cX12_mood 82 = .ok (.iload 6, 2) := by decide +kernel
theorem dX12_mood_84 : decode cX12_mood 84 = .ok (.iaload, 1) := by decide +kernel
theorem dX12_mood_85 : decode cX12_mood 85 = .ok (.iadd, 1) := by decide +kernel
theorem dX12_mood_86 : decode cX12_mood 86 = .ok (.istore 4, 2) := by decide +kernel
theorem dX12_mood_88 : decode cX12_mood 88 = .ok (.iinc 5 1, 3) := by decide +kernel
theorem dX12_mood_91 : decode cX12_mood 91 = .ok (.iinc 6 1, 3) := by decide +kernel
theorem dX12_mood_94 : decode cX12_mood 94 = .ok (.goto (-52), 3) := by decide +kernel
theorem dX12_mood_97 : decode cX12_mood 97 = .ok (.iload_n 3, 1) := by decide +kernel
theorem dX12_mood_98 : decode cX12_mood 98 = .ok (.ifCond .ne 8, 3) := by decide +kernel
theorem dX12_mood_101 : decode cX12_mood 101 = .ok (.iload 4, 2) := by decide +kernel
theorem dX12_mood_103 : decode cX12_mood 103 = .ok (.goto 5, 3) := by decide +kernel
theorem dX12_mood_106 : decode cX12_mood 106 = .ok (.iload 5, 2) := by decide +kernel
theorem dX12_mood_108 : decode cX12_mood 108 = .ok (.ireturn, 1) := by decide +kernel
theorem dX12_noLetters_0 : decode cX12_noLetters 0 = .ok (.iconst 0, 1) := by decide +kernel
theorem dX12_noLetters_1 : decode cX12_noLetters 1 = .ok (.istore_n 1, 1) := by decide +kernel
theorem dX12_noLetters_2 : decode cX12_noLetters 2 = .ok (.iload_n 1, 1) := by decide +kernel
theorem dX12_noLetters_3 : decode cX12_noLetters 3 = .ok (.sipush 128, 3) := by decide +kernel
theorem dX12_noLetters_6 : decode cX12_noLetters 6 = .ok (.if_icmp .ge 16, 3) := by decide +kernel
theorem dX12_noLetters_9 : decode cX12_noLetters 9 = .ok (.aload_n 0, 1) := by decide +kernel
theorem dX12_noLetters_10 : decode cX12_noLetters 10 = .ok (.getfield 65, 3) := by decide +kernel
theorem dX12_noLetters_13 : decode cX12_noLetters 13 = .ok (.iload_n 1, 1) := by decide +kernel
theorem dX12_noLetters_14 : decode cX12_noLetters 14 = .ok (.iconst 0, 1) := by decide +kernel
theorem dX12_noLetters_15 : decode cX12_noLetters 15 = .ok (.iastore, 1) := by decide +kernel
theorem dX12_noLetters_16 : decode cX12_noLetters 16 = .ok (.iinc 1 1, 3) := by decide +kernel
theorem dX12_noLetters_19 : decode cX12_noLetters 19 = .ok (.goto (-17), 3) := by decide +kernel
theorem dX12_noLetters_22 : decode cX12_noLetters 22 = .ok (.return_, 1) := by decide +kernel
theorem dX12_part_0 : decode cX12_part 0 = .ok (.iload_n 1, 1) := by decide +kernel
theorem dX12_part_1 : decode cX12_part 1 = .ok (.ifCond .eq 12, 3) := by decide +kernel
theorem dX12_part_4 : decode cX12_part 4 = .ok (.aload_n 0, 1) := by decide +kernel
theorem dX12_part_5 : decode cX12_part 5 = .ok (.iconst 1, 1) := by decide +kernel
theorem dX12_part_6 : decode cX12_part 6 = .ok (.iload_n 2, 1) := by decide +kernel
theorem dX12_part_7 : decode cX12_part 7 = .ok (.invokevirtual 264, 3) := by decide +kernel
theorem dX12_part_10 : decode cX12_part 10 = .ok (.goto 7, 3) := by decide +kernel
theorem dX12_part_13 : decode cX12_part 13 = .ok (.aload_n 0, 1) := by decide +kernel
theorem dX12_part_14 : decode cX12_part 14 = .ok (.invokevirtual 257, 3) := by decide +kernel
theorem dX12_part_17 : decode cX12_part 17 = .ok (.istore_n 3, 1) := by decide +kernel
theorem dX12_part_18 : decode cX12_part 18 = .ok (.aload_n 0, 1) := by decide +kernel
theorem dX12_part_19 : decode cX12_part 19 = .ok (.getfield 198, 3) := by decide +kernel
theorem dX12_part_22 : decode cX12_part 22 = .ok (.iconst (-1), 1) := by decide +kernel
theorem dX12_part_23 : decode cX12_part 23 = .ok (.if_icmp .ne 46, 3) := by decide +kernel
theorem dX12_part_26 : decode cX12_part 26 = .ok (.aload_n 0, 1) := by decide +kernel
theorem dX12_part_27 : decode cX12_part 27 = .ok (.invokevirtual 208, 3) := by decide +kernel
theorem dX12_part_30 : decode cX12_part 30 = .ok (.bipush 38, 2) := by decide +kernel
theorem dX12_part_32 : decode cX12_part 32 = .ok (.if_icmp .ne 37, 3) := by decide +kernel
theorem dX12_part_35 : decode cX12_part 35 = .ok (.aload_n 0, 1) := by decide +kernel
theorem dX12_part_36 : decode cX12_part 36 = .ok (.dup, 1) := by decide +kernel
theorem dX12_part_37 : decode cX12_part 37 = .ok (.getfield 189, 3) := by decide +kernel
theorem dX12_part_40 : decode cX12_part 40 = .ok (.iconst 1, 1) := by decide +kernel
theorem dX12_part_41 : decode cX12_part 41 = .ok (.iadd, 1) := by decide +kernel
theorem dX12_part_42 : decode cX12_part 42 = .ok (.putfield 189, 3) := by decide +kernel
theorem dX12_part_45 : decode cX12_part 45 = .ok (.aload_n 0, 1) := by decide +kernel
theorem dX12_part_46 : decode cX12_part 46 = .ok (.invokevirtual 257, 3) := by decide +kernel
theorem dX12_part_49 : decode cX12_part 49 = .ok (.istore 4, 2) := by decide +kernel
theorem dX12_part_51 : decode cX12_part 51 = .ok (.iload_n 3, 1) := by decide +kernel
theorem dX12_part_52 : decode cX12_part 52 = .ok (.ifCond .eq 12, 3) := by decide +kernel
theorem dX12_part_55 : decode cX12_part 55 = .ok (.iload 4, 2) := by decide +kernel
theorem dX12_part_57 : decode cX12_part 57 = .ok (.ifCond .eq 7, 3) := by decide +kernel
theorem dX12_part_60 : decode cX12_part 60 = .ok (.iconst 1, 1) := by decide +kernel
theorem dX12_part_61 : decode cX12_part 61 = .ok (.goto 4, 3) := by decide +kernel
theorem dX12_part_64 : decode cX12_part 64 = .ok (.iconst 0, 1) := by decide +kernel
theorem dX12_part_65 : decode cX12_part 65 = .ok (.istore_n 3, 1) := by decide +kernel
theorem dX12_part_66 : decode cX12_part 66 = .ok (.goto (-48), 3) := by decide +kernel
theorem dX12_part_69 : decode cX12_part 69 = .ok (.iload_n 3, 1) := by decide +kernel
theorem dX12_part_70 : decode cX12_part 70 = .ok (.ireturn, 1) := by decide +kernel
theorem dX12_people_0 : decode cX12_people 0 = .ok (.iconst 0, 1) := by decide +kernel
theorem dX12_people_1 : decode cX12_people 1 = .ok (.istore_n 1, 1) := by decide +kernel
theorem dX12_people_2 : decode cX12_people 2 = .ok (.iconst 0, 1) := by decide +kernel
theorem dX12_people_3 : decode cX12_people 3 = .ok (.istore_n 2, 1) := by decide +kernel
theorem dX12_people_4 : decode cX12_people 4 = .ok (.iload_n 2, 1) := by decide +kernel
theorem dX12_people_5 : decode cX12_people 5 = .ok (.bipush 32, 2) := by decide +kernel
theorem dX12_people_7 : decode cX12_people 7 = .ok (.if_icmp .ge 18, 3) := by decide +kernel
theorem dX12_people_10 : decode cX12_people 10 = .ok (.iload_n 1, 1) := by decide +kernel
theorem dX12_people_11 : decode cX12_people 11 = .ok (.aload_n 0, 1) := by decide +kernel
theorem dX12_people_12 : decode cX12_people 12 = .ok (.getfield 105, 3) := by decide +kernel
theorem dX12_people_15 : decode cX12_people 15 = .ok (.iload_n 2, 1) := by decide +kernel
theorem dX12_people_16 : decode cX12_people 16 = .ok (.iaload, 1) := by decide +kernel
theorem dX12_people_17 : decode cX12_people 17 = .ok (.iadd, 1) := by decide +kernel
theorem dX12_people_18 : decode cX12_people 18 = .ok (.istore_n 1, 1) := by decide +kernel
theorem dX12_people_19 : decode cX12_people 19 = .ok (.iinc 2 1, 3) := by decide +kernel
theorem dX12_people_22 : decode cX12_people 22 = .ok (.goto (-18), 3) := by decide +kernel
theorem dX12_people_25 : decode cX12_people 25 = .ok (.iload_n 1, 1) := by decide +kernel
theorem dX12_people_26 : decode cX12_people 26 = .ok (.ireturn, 1) := by decide +kernel
theorem dX12_person_0 : decode cX12_person 0 = .ok (.aload_n 0, 1) := by decide +kernel
theorem dX12_person_1 : decode cX12_person 1 = .ok (.iconst 0, 1) := by decide +kernel
theorem dX12_person_2 : decode cX12_person 2 = .ok (.putfield 138, 3) := by decide +kernel
theorem dX12_person_5 : decode cX12_person 5 = .ok (.aload_n 0, 1) := by decide +kernel
theorem dX12_person_6 : decode cX12_person 6 = .ok (.getfield 149, 3) := by decide +kernel
theorem dX12_person_9 : decode cX12_person 9 = .ok (.bipush 24, 2) := by decide +kernel
theorem dX12_person_11 : decode cX12_person 11 = .ok (.if_icmp .eq 34, 3) := by decide +kernel
theorem dX12_person_14 : decode cX12_person 14 = .ok (.iload_n 1, 1) := by decide +kernel
theorem dX12_person_15 : decode cX12_person 15 = .ok (.iconst 0, 1) := by decide +kernel
theorem dX12_person_16 : decode cX12_person 16 = .ok (.bipush 7, 2) := by decide +kernel
theorem dX12_person_18 : decode cX12_person 18 = .ok (.invokestatic 145, 3) := by decide +kernel
theorem dX12_person_21 : decode cX12_person 21 = .ok (.ifCond .eq 24, 3) := by decide +kernel
theorem dX12_person_24 : decode cX12_person 24 = .ok (.iload_n 2, 1) := by decide +kernel
theorem dX12_person_25 : decode cX12_person 25 = .ok (.bipush 10, 2) := by decide +kernel
theorem dX12_person_27 : decode cX12_person 27 = .ok (.bipush 99, 2) := by decide +kernel
theorem dX12_person_29 : decode cX12_person 29 = .ok (.invokestatic 145, 3) := by decide +kernel
theorem dX12_person_32 : decode cX12_person 32 = .ok (.ifCond .eq 13, 3) := by decide +kernel
theorem dX12_person_35 : decode cX12_person 35 = .ok (.iload_n 3, 1) := by decide +kernel
theorem dX12_person_36 : decode cX12_person 36 = .ok (.iconst 0, 1) := by decide +kernel
theorem dX12_person_37 : decode cX12_person 37 = .ok (.bipush 7, 2) := by decide +kernel
theorem dX12_person_39 : decode cX12_person 39 = .ok (.invokestatic 145, 3) := by decide +kernel
theorem dX12_person_42 : decode cX12_person 42 = .ok (.ifCond .ne 5, 3) := by decide +kernel
theorem dX12_person_45 : decode cX12_person 45 = .ok (.iconst (-1), 1) := by decide +kernel
theorem dX12_person_46 : decode cX12_person 46 = .ok (.ireturn, 1) := by decide +kernel
theorem dX12_person_47 : decode cX12_person 47 = .ok (.aload_n 0, 1) := by decide +kernel
theorem dX12_person_48 : decode cX12_person 48 = .ok (.getfield 9, 3) := by decide +kernel
theorem dX12_person_51 : decode cX12_person 51 = .ok (.aload_n 0, 1) := by decide +kernel
theorem dX12_person_52 : decode cX12_person 52 = .ok (.getfield 149, 3) := by decide +kernel
theorem dX12_person_55 : decode cX12_person 55 = .ok (.iload_n 1, 1) := by decide +kernel
theorem dX12_person_56 : decode cX12_person 56 = .ok (.iastore, 1) := by decide +kernel
theorem dX12_person_57 : decode cX12_person 57 = .ok (.aload_n 0, 1) := by decide +kernel
theorem dX12_person_58 : decode cX12_person 58 = .ok (.getfield 13, 3) := by decide +kernel
theorem dX12_person_61 : decode cX12_person 61 = .ok (.aload_n 0, 1) := by decide +kernel
theorem dX12_person_62 : decode cX12_person 62 = .ok (.getfield 149, 3) := by decide +kernel
theorem dX12_person_65 : decode cX12_person 65 = .ok (.iload_n 2, 1) := by decide +kernel
theorem dX12_person_66 : decode cX12_person 66 = .ok (.iastore, 1) := by decide +kernel
theorem dX12_person_67 : decode cX12_person 67 = .ok (.aload_n 0, 1) := by decide +kernel
theorem dX12_person_68 : decode cX12_person 68 = .ok (.getfield 16, 3) := by decide +kernel
theorem dX12_person_71 : decode cX12_person 71 = .ok (.aload_n 0, 1) := by decide +kernel
theorem dX12_person_72 : decode cX12_person 72 = .ok (.getfield 149, 3) := by decide +kernel
theorem dX12_person_75 : decode cX12_person 75 = .ok (.iload_n 3, 1) := by decide +kernel
theorem dX12_person_76 : decode cX12_person 76 = .ok (.iastore, 1) := by decide +kernel
theorem dX12_person_77 : decode cX12_person 77 = .ok (.aload_n 0, 1) := by decide +kernel
theorem dX12_person_78 : decode cX12_person 78 = .ok (.dup, 1) := by decide +kernel
theorem dX12_person_79 : decode cX12_person 79 = .ok (.getfield 149, 3) := by decide +kernel
theorem dX12_person_82 : decode cX12_person 82 = .ok (.iconst 1, 1) := by decide +kernel
theorem dX12_person_83 : decode cX12_person 83 = .ok (.iadd, 1) := by decide +kernel
theorem dX12_person_84 : decode cX12_person 84 = .ok (.putfield 149, 3) := by decide +kernel
theorem dX12_person_87 : decode cX12_person 87 = .ok (.aload_n 0, 1) := by decide +kernel
theorem dX12_person_88 : decode cX12_person 88 = .ok (.getfield 149, 3) := by decide +kernel
theorem dX12_person_91 : decode cX12_person 91 = .ok (.iconst 1, 1) := by decide +kernel
theorem dX12_person_92 : decode cX12_person 92 = .ok (.isub, 1) := by decide +kernel
theorem dX12_person_93 : decode cX12_person 93 = .ok (.ireturn, 1) := by decide +kernel
theorem dX12_priceOf_0 : decode cX12_priceOf 0 = .ok (.iconst 0, 1) := by decide +kernel
theorem dX12_priceOf_1 : decode cX12_priceOf 1 = .ok (.istore_n 2, 1) := by decide +kernel
theorem dX12_priceOf_2 : decode cX12_priceOf 2 = .ok (.iconst 0, 1) := by decide +kernel
theorem dX12_priceOf_3 : decode cX12_priceOf 3 = .ok (.istore_n 3, 1) := by decide +kernel
theorem dX12_priceOf_4 : decode cX12_priceOf 4 = .ok (.iload_n 3, 1) := by decide +kernel
theorem dX12_priceOf_5 : decode cX12_priceOf 5 = .ok (.aload_n 0, 1) := by decide +kernel
theorem dX12_priceOf_6 : decode cX12_priceOf 6 = .ok (.getfield 393, 3) := by decide +kernel
theorem dX12_priceOf_9 : decode cX12_priceOf 9 = .ok (.if_icmp .ge 31, 3) := by decide +kernel
theorem dX12_priceOf_12 : decode cX12_priceOf 12 = .ok (.iload_n 2, 1) := by decide +kernel
theorem dX12_priceOf_13 : decode cX12_priceOf 13 = .ok (.iload_n 1, 1) := by decide +kernel
theorem dX12_priceOf_14 : decode cX12_priceOf 14 = .ok (.iload_n 3, 1) := by decide +kernel
theorem dX12_priceOf_15 : decode cX12_priceOf 15 = .ok (.ishr, 1) := by decide +kernel
theorem dX12_priceOf_16 : decode cX12_priceOf 16 = .ok (.iconst 1, 1) := by decide +kernel
theorem dX12_priceOf_17 : decode cX12_priceOf 17 = .ok (.iand, 1) := by decide +kernel
theorem dX12_priceOf_18 : decode cX12_priceOf 18 = .ok (.iconst 1, 1) := by decide +kernel
theorem dX12_priceOf_19 : decode cX12_priceOf 19 = .ok (.if_icmp .ne 12, 3) := by decide +kernel
theorem dX12_priceOf_22 : decode cX12_priceOf 22 = .ok (.aload_n 0, 1) := by decide +kernel
theorem dX12_priceOf_23 : decode cX12_priceOf 23 = .ok (.getfield 129, 3) := by decide +kernel
theorem dX12_priceOf_26 : decode cX12_priceOf 26 = .ok (.iload_n 3, 1) := by decide +kernel
theorem dX12_priceOf_27 : decode cX12_priceOf 27 = .ok (.iaload, 1) := by decide +kernel
theorem dX12_priceOf_28 : decode cX12_priceOf 28 = .ok (.goto 4, 3) := by decide +kernel
theorem dX12_priceOf_31 : decode cX12_priceOf 31 = .ok (.iconst 0, 1) := by decide +kernel
theorem dX12_priceOf_32 : decode cX12_priceOf 32 = .ok (.iadd, 1) := by decide +kernel
theorem dX12_priceOf_33 : decode cX12_priceOf 33 = .ok (.istore_n 2, 1) := by decide +kernel
theorem dX12_priceOf_34 : decode cX12_priceOf 34 = .ok (.iinc 3 1, 3) := by decide +kernel
theorem dX12_priceOf_37 : decode cX12_priceOf 37 = .ok (.goto (-33), 3) := by decide +kernel
theorem dX12_priceOf_40 : decode cX12_priceOf 40 = .ok (.iload_n 2, 1) := by decide +kernel
theorem dX12_priceOf_41 : decode cX12_priceOf 41 = .ok (.ireturn, 1) := by decide +kernel
theorem dX12_put_0 : decode cX12_put 0 = .ok (.bipush 24, 2) := by decide +kernel
theorem dX12_put_2 : decode cX12_put 2 = .ok (.istore_n 2, 1) := by decide +kernel
theorem dX12_put_3 : decode cX12_put 3 = .ok (.iload_n 2, 1) := by decide +kernel
theorem dX12_put_4 : decode cX12_put 4 = .ok (.ifCond .lt 45, 3) := by decide +kernel
theorem dX12_put_7 : decode cX12_put 7 = .ok (.iload_n 1, 1) := by decide +kernel
theorem dX12_put_8 : decode cX12_put 8 = .ok (.iload_n 2, 1) := by decide +kernel
theorem dX12_put_9 : decode cX12_put 9 = .ok (.ishr, 1) := by decide +kernel
theorem dX12_put_10 : decode cX12_put 10 = .ok (.sipush 255, 3) := by decide +kernel
theorem dX12_put_13 : decode cX12_put 13 = .ok (.iand, 1) := by decide +kernel
theorem dX12_put_14 : decode cX12_put 14 = .ok (.ifCond .ne 6, 3) := by decide +kernel
theorem dX12_put_17 : decode cX12_put 17 = .ok (.goto 26, 3) := by decide +kernel
theorem dX12_put_20 : decode cX12_put 20 = .ok (.aload_n 0, 1) := by decide +kernel
theorem dX12_put_21 : decode cX12_put 21 = .ok (.getfield 49, 3) := by decide +kernel
theorem dX12_put_24 : decode cX12_put 24 = .ok (.aload_n 0, 1) := by decide +kernel
theorem dX12_put_25 : decode cX12_put 25 = .ok (.getfield 178, 3) := by decide +kernel
theorem dX12_put_28 : decode cX12_put 28 = .ok (.iload_n 1, 1) := by decide +kernel
theorem dX12_put_29 : decode cX12_put 29 = .ok (.iload_n 2, 1) := by decide +kernel
theorem dX12_put_30 : decode cX12_put 30 = .ok (.ishr, 1) := by decide +kernel
theorem dX12_put_31 : decode cX12_put 31 = .ok (.i2b, 1) := by decide +kernel
theorem dX12_put_32 : decode cX12_put 32 = .ok (.bastore, 1) := by decide +kernel
theorem dX12_put_33 : decode cX12_put 33 = .ok (.aload_n 0, 1) := by decide +kernel
theorem dX12_put_34 : decode cX12_put 34 = .ok (.dup, 1) := by decide +kernel
theorem dX12_put_35 : decode cX12_put 35 = .ok (.getfield 178, 3) := by decide +kernel
theorem dX12_put_38 : decode cX12_put 38 = .ok (.iconst 1, 1) := by decide +kernel
theorem dX12_put_39 : decode cX12_put 39 = .ok (.iadd, 1) := by decide +kernel
theorem dX12_put_40 : decode cX12_put 40 = .ok (.putfield 178, 3) := by decide +kernel
theorem dX12_put_43 : decode cX12_put 43 = .ok (.iinc 2 (-8), 3) := by decide +kernel
theorem dX12_put_46 : decode cX12_put 46 = .ok (.goto (-43), 3) := by decide +kernel
theorem dX12_put_49 : decode cX12_put 49 = .ok (.return_, 1) := by decide +kernel
theorem dX12_question_0 : decode cX12_question 0 = .ok (.aload_n 0, 1) := by decide +kernel
theorem dX12_question_1 : decode cX12_question 1 = .ok (.iconst 0, 1) := by decide +kernel
theorem dX12_question_2 : decode cX12_question 2 = .ok (.putfield 138, 3) := by decide +kernel
theorem dX12_question_5 : decode cX12_question 5 = .ok (.aload_n 0, 1) := by decide +kernel
theorem dX12_question_6 : decode cX12_question 6 = .ok (.getfield 393, 3) := by decide +kernel
theorem dX12_question_9 : decode cX12_question 9 = .ok (.bipush 8, 2) := by decide +kernel
theorem dX12_question_11 : decode cX12_question 11 = .ok (.if_icmp .eq 24, 3) := by decide +kernel
theorem dX12_question_14 : decode cX12_question 14 = .ok (.iload_n 1, 1) := by decide +kernel
theorem dX12_question_15 : decode cX12_question 15 = .ok (.iconst 1, 1) := by decide +kernel
theorem dX12_question_16 : decode cX12_question 16 = .ok (.bipush 50, 2) := by decide +kernel
theorem dX12_question_18 : decode cX12_question 18 = .ok (.invokestatic 145, 3) := by decide +kernel
theorem dX12_question_21 : decode cX12_question 21 = .ok (.ifCond .eq 14, 3) := by decide +kernel
theorem dX12_question_24 : decode cX12_question 24 = .ok (.iload_n 2, 1) := by decide +kernel
theorem dX12_question_25 : decode cX12_question 25 = .ok (.iconst 0, 1) := by decide +kernel
theorem dX12_question_26 : decode cX12_question 26 = .ok (.sipush 1023, 3) := by decide +kernel
theorem dX12_question_29 : decode cX12_question 29 = .ok (.invokestatic 145, 3) := by decide +kernel
theorem dX12_question_32 : decode cX12_question 32 = .ok (.ifCond .ne 5, 3) := by decide +kernel
theorem dX12_question_35 : decode cX12_question 35 = .ok (.iconst (-1), 1) := by decide +kernel
theorem dX12_question_36 : decode cX12_question 36 = .ok (.ireturn, 1) := by decide +kernel
theorem dX12_question_37 : decode cX12_question 37 = .ok (.aload_n 0, 1) := by decide +kernel
theorem dX12_question_38 : decode cX12_question 38 = .ok (.getfield 129, 3) := by decide +kernel
theorem dX12_question_41 : decode cX12_question 41 = .ok (.aload_n 0, 1) := by decide +kernel
theorem dX12_question_42 : decode cX12_question 42 = .ok (.getfield 393, 3) := by decide +kernel
theorem dX12_question_45 : decode cX12_question 45 = .ok (.iload_n 1, 1) := by decide +kernel
theorem dX12_question_46 : decode cX12_question 46 = .ok (.iastore, 1) := by decide +kernel
theorem dX12_question_47 : decode cX12_question 47 = .ok (.aload_n 0, 1) := by decide +kernel
theorem dX12_question_48 : decode cX12_question 48 = .ok (.getfield 132, 3) := by decide +kernel
theorem dX12_question_51 : decode cX12_question 51 = .ok (.aload_n 0, 1) := by decide +kernel
theorem dX12_question_52 : decode cX12_question 52 = .ok (.getfield 393, 3) := by decide +kernel
theorem dX12_question_55 : decode cX12_question 55 = .ok (.iload_n 2, 1) := by decide +kernel
theorem dX12_question_56 : decode cX12_question 56 = .ok (.iastore, 1) := by decide +kernel
theorem dX12_question_57 : decode cX12_question 57 = .ok (.aload_n 0, 1) := by decide +kernel
theorem dX12_question_58 : decode cX12_question 58 = .ok (.dup, 1) := by decide +kernel
theorem dX12_question_59 : decode cX12_question 59 = .ok (.getfield 393, 3) := by decide +kernel
theorem dX12_question_62 : decode cX12_question 62 = .ok (.iconst 1, 1) := by decide +kernel
theorem dX12_question_63 : decode cX12_question 63 = .ok (.iadd, 1) := by decide +kernel
theorem dX12_question_64 : decode cX12_question 64 = .ok (.putfield 393, 3) := by decide +kernel
theorem dX12_question_67 : decode cX12_question 67 = .ok (.aload_n 0, 1) := by decide +kernel
theorem dX12_question_68 : decode cX12_question 68 = .ok (.getfield 393, 3) := by decide +kernel
theorem dX12_question_71 : decode cX12_question 71 = .ok (.iconst 1, 1) := by decide +kernel
theorem dX12_question_72 : decode cX12_question 72 = .ok (.isub, 1) := by decide +kernel
theorem dX12_question_73 : decode cX12_question 73 = .ok (.ireturn, 1) := by decide +kernel
theorem dX12_rule_0 : decode cX12_rule 0 = .ok (.aload_n 0, 1) := by decide +kernel
theorem dX12_rule_1 : decode cX12_rule 1 = .ok (.iconst 0, 1) := by decide +kernel
theorem dX12_rule_2 : decode cX12_rule 2 = .ok (.putfield 138, 3) := by decide +kernel
theorem dX12_rule_5 : decode cX12_rule 5 = .ok (.aload_n 0, 1) := by decide +kernel
theorem dX12_rule_6 : decode cX12_rule 6 = .ok (.aload_n 0, 1) := by decide +kernel
theorem dX12_rule_7 : decode cX12_rule 7 = .ok (.getfield 49, 3) := by decide +kernel
theorem dX12_rule_10 : decode cX12_rule 10 = .ok (.iconst 0, 1) := by decide +kernel
theorem dX12_rule_11 : decode cX12_rule 11 = .ok (.aload_n 0, 1) := by decide +kernel
theorem dX12_rule_12 : decode cX12_rule 12 = .ok (.getfield 178, 3) := by decide +kernel
theorem dX12_rule_15 : decode cX12_rule 15 = .ok (.iconst 0, 1) := by decide +kernel
theorem dX12_rule_16 : decode cX12_rule 16 = .ok (.invokevirtual 285, 3) := by decide +kernel
theorem dX12_rule_19 : decode cX12_rule 19 = .ok (.aload_n 0, 1) := by decide +kernel
theorem dX12_rule_20 : decode cX12_rule 20 = .ok (.getfield 198, 3) := by decide +kernel
theorem dX12_rule_23 : decode cX12_rule 23 = .ok (.iconst (-1), 1) := by decide +kernel
theorem dX12_rule_24 : decode cX12_rule 24 = .ok (.if_icmp .ne 19, 3) := by decide +kernel
theorem dX12_rule_27 : decode cX12_rule 27 = .ok (.aload_n 0, 1) := by decide +kernel
theorem dX12_rule_28 : decode cX12_rule 28 = .ok (.getfield 289, 3) := by decide +kernel
theorem dX12_rule_31 : decode cX12_rule 31 = .ok (.bipush 20, 2) := by decide +kernel
theorem dX12_rule_33 : decode cX12_rule 33 = .ok (.if_icmp .eq 10, 3) := by decide +kernel
theorem dX12_rule_36 : decode cX12_rule 36 = .ok (.iload_n 1, 1) := by decide +kernel
theorem dX12_rule_37 : decode cX12_rule 37 = .ok (.invokestatic 175, 3) := by decide +kernel
theorem dX12_rule_40 : decode cX12_rule 40 = .ok (.ifCond .ne 5, 3) := by decide +kernel
theorem dX12_rule_43 : decode cX12_rule 43 = .ok (.iconst (-1), 1) := by decide +kernel
theorem dX12_rule_44 : decode cX12_rule 44 = .ok (.ireturn, 1) := by decide +kernel
theorem dX12_rule_45 : decode cX12_rule 45 = .ok (.iconst 0, 1) := by decide +kernel
theorem dX12_rule_46 : decode cX12_rule 46 = .ok (.istore_n 2, 1) := by decide +kernel
theorem dX12_rule_47 : decode cX12_rule 47 = .ok (.iload_n 2, 1) := by decide +kernel
theorem dX12_rule_48 : decode cX12_rule 48 = .ok (.aload_n 0, 1) := by decide +kernel
theorem dX12_rule_49 : decode cX12_rule 49 = .ok (.getfield 178, 3) := by decide +kernel
theorem dX12_rule_52 : decode cX12_rule 52 = .ok (.if_icmp .ge 30, 3) := by decide +kernel
theorem dX12_rule_55 : decode cX12_rule 55 = .ok (.aload_n 0, 1) := by decide +kernel
theorem dX12_rule_56 : decode cX12_rule 56 = .ok (.getfield 53, 3) := by decide +kernel
theorem dX12_rule_59 : decode cX12_rule 59 = .ok (.sipush 160, 3) := by decide +kernel
theorem dX12_rule_62 : decode cX12_rule 62 = .ok (.aload_n 0, 1) := by decide +kernel
theorem dX12_rule_63 : decode cX12_rule 63 = .ok (.getfield 289, 3) := by decide +kernel
theorem dX12_rule_66 : decode cX12_rule 66 = .ok (.imul, 1) := by decide +kernel
theorem dX12_rule_67 : decode cX12_rule 67 = .ok (.iload_n 2, 1) := by decide +kernel
theorem dX12_rule_68 : decode cX12_rule 68 = .ok (.iadd, 1) := by decide +kernel
theorem dX12_rule_69 : decode cX12_rule 69 = .ok (.aload_n 0, 1) := by decide +kernel
theorem dX12_rule_70 : decode cX12_rule 70 = .ok (.getfield 49, 3) := by decide +kernel
theorem dX12_rule_73 : decode cX12_rule 73 = .ok (.iload_n 2, 1) := by decide +kernel
theorem dX12_rule_74 : decode cX12_rule 74 = .ok (.baload, 1) := by decide +kernel
theorem dX12_rule_75 : decode cX12_rule 75 = .ok (.bastore, 1) := by decide +kernel
theorem dX12_rule_76 : decode cX12_rule 76 = .ok (.iinc 2 1, 3) := by decide +kernel
theorem dX12_rule_79 : decode cX12_rule 79 = .ok (.goto (-32), 3) := by decide +kernel
theorem dX12_rule_82 : decode cX12_rule 82 = .ok (.aload_n 0, 1) := by decide +kernel
theorem dX12_rule_83 : decode cX12_rule 83 = .ok (.getfield 56, 3) := by decide +kernel
theorem dX12_rule_86 : decode cX12_rule 86 = .ok (.aload_n 0, 1) := by decide +kernel
theorem dX12_rule_87 : decode cX12_rule 87 = .ok (.getfield 289, 3) := by decide +kernel
theorem dX12_rule_90 : decode cX12_rule 90 = .ok (.aload_n 0, 1) := by decide +kernel
theorem dX12_rule_91 : decode cX12_rule 91 = .ok (.getfield 178, 3) := by decide +kernel
theorem dX12_rule_94 : decode cX12_rule 94 = .ok (.iastore, 1) := by decide +kernel
theorem dX12_rule_95 : decode cX12_rule 95 = .ok (.aload_n 0, 1) := by decide +kernel
theorem dX12_rule_96 : decode cX12_rule 96 = .ok (.getfield 59, 3) := by decide +kernel
theorem dX12_rule_99 : decode cX12_rule 99 = .ok (.aload_n 0, 1) := by decide +kernel
theorem dX12_rule_100 : decode cX12_rule 100 = .ok (.getfield 289, 3) := by decide +kernel
theorem dX12_rule_103 : decode cX12_rule 103 = .ok (.iload_n 1, 1) := by decide +kernel
theorem dX12_rule_104 : decode cX12_rule 104 = .ok (.iastore, 1) := by decide +kernel
theorem dX12_rule_105 : decode cX12_rule 105 = .ok (.aload_n 0, 1) := by decide +kernel
theorem dX12_rule_106 : decode cX12_rule 106 = .ok (.getfield 62, 3) := by decide +kernel
theorem dX12_rule_109 : decode cX12_rule 109 = .ok (.aload_n 0, 1) := by decide +kernel
theorem dX12_rule_110 : decode cX12_rule 110 = .ok (.getfield 289, 3) := by decide +kernel
theorem dX12_rule_113 : decode cX12_rule 113 = .ok (.aload_n 0, 1) := by decide +kernel
theorem dX12_rule_114 : decode cX12_rule 114 = .ok (.getfield 142, 3) := by decide +kernel
theorem dX12_rule_117 : decode cX12_rule 117 = .ok (.iastore, 1) := by decide +kernel
theorem dX12_rule_118 : decode cX12_rule 118 = .ok (.aload_n 0, 1) := by decide +kernel
theorem dX12_rule_119 : decode cX12_rule 119 = .ok (.dup, 1) := by decide +kernel
theorem dX12_rule_120 : decode cX12_rule 120 = .ok (.getfield 289, 3) := by decide +kernel
theorem dX12_rule_123 : decode cX12_rule 123 = .ok (.iconst 1, 1) := by decide +kernel
theorem dX12_rule_124 : decode cX12_rule 124 = .ok (.iadd, 1) := by decide +kernel
theorem dX12_rule_125 : decode cX12_rule 125 = .ok (.putfield 289, 3) := by decide +kernel
theorem dX12_rule_128 : decode cX12_rule 128 = .ok (.aload_n 0, 1) := by decide +kernel
theorem dX12_rule_129 : decode cX12_rule 129 = .ok (.iconst 0, 1) := by decide +kernel
theorem dX12_rule_130 : decode cX12_rule 130 = .ok (.putfield 178, 3) := by decide +kernel
theorem dX12_rule_133 : decode cX12_rule 133 = .ok (.aload_n 0, 1) := by decide +kernel
theorem dX12_rule_134 : decode cX12_rule 134 = .ok (.getfield 289, 3) := by decide +kernel
theorem dX12_rule_137 : decode cX12_rule 137 = .ok (.iconst 1, 1) := by decide +kernel
theorem dX12_rule_138 : decode cX12_rule 138 = .ok (.isub, 1) := by decide +kernel
theorem dX12_rule_139 : decode cX12_rule 139 = .ok (.ireturn, 1) := by decide +kernel
theorem dX12_ruleOn_0 : decode cX12_ruleOn 0 = .ok (.iconst (-1), 1) := by decide +kernel
theorem dX12_ruleOn_1 : decode cX12_ruleOn 1 = .ok (.istore_n 3, 1) := by decide +kernel
theorem dX12_ruleOn_2 : decode cX12_ruleOn 2 = .ok (.iconst 0, 1) := by decide +kernel
theorem dX12_ruleOn_3 : decode cX12_ruleOn 3 = .ok (.istore 4, 2) := by decide +kernel
theorem dX12_ruleOn_5 : decode cX12_ruleOn 5 = .ok (.iload 4, 2) := by decide +kernel
theorem dX12_ruleOn_7 : decode cX12_ruleOn 7 = .ok (.aload_n 0, 1) := by decide +kernel
theorem dX12_ruleOn_8 : decode cX12_ruleOn 8 = .ok (.getfield 289, 3) := by decide +kernel
theorem dX12_ruleOn_11 : decode cX12_ruleOn 11 = .ok (.if_icmp .ge 55, 3) := by decide +kernel
theorem dX12_ruleOn_14 : decode cX12_ruleOn 14 = .ok (.aload_n 0, 1) := by decide +kernel
theorem dX12_ruleOn_15 : decode cX12_ruleOn 15 = .ok (.getfield 62, 3) := by decide +kernel
theorem dX12_ruleOn_18 : decode cX12_ruleOn 18 = .ok (.iload 4, 2) := by decide +kernel
theorem dX12_ruleOn_20 : decode cX12_ruleOn 20 = .ok (.iaload, 1) := by decide +kernel
theorem dX12_ruleOn_21 : decode cX12_ruleOn 21 = .ok (.iload_n 2, 1) := by decide +kernel
theorem dX12_ruleOn_22 : decode cX12_ruleOn 22 = .ok (.if_icmp .gt 38, 3) := by decide +kernel
theorem dX12_ruleOn_25 : decode cX12_ruleOn 25 = .ok (.aload_n 0, 1) := by decide +kernel
theorem dX12_ruleOn_26 : decode cX12_ruleOn 26 = .ok (.getfield 59, 3) := by decide +kernel
theorem dX12_ruleOn_29 : decode cX12_ruleOn 29 = .ok (.iload 4, 2) := by decide +kernel
theorem dX12_ruleOn_31 : decode cX12_ruleOn 31 = .ok (.iaload, 1) := by decide +kernel
theorem dX12_ruleOn_32 : decode cX12_ruleOn 32 = .ok (.iload_n 1, 1) := by decide +kernel
theorem dX12_ruleOn_33 : decode cX12_ruleOn 33 = .ok (.if_icmp .gt 27, 3) := by decide +kernel
theorem dX12_ruleOn_36 : decode cX12_ruleOn 36 = .ok (.iload_n 3, 1) := by decide +kernel
theorem dX12_ruleOn_37 : decode cX12_ruleOn 37 = .ok (.iconst (-1), 1) := by decide +kernel
theorem dX12_ruleOn_38 : decode cX12_ruleOn 38 = .ok (.if_icmp .eq 19, 3) := by decide +kernel
theorem dX12_ruleOn_41 : decode cX12_ruleOn 41 = .ok (.aload_n 0, 1) := by decide +kernel
theorem dX12_ruleOn_42 : decode cX12_ruleOn 42 = .ok (.getfield 59, 3) := by decide +kernel
theorem dX12_ruleOn_45 : decode cX12_ruleOn 45 = .ok (.iload 4, 2) := by decide +kernel
theorem dX12_ruleOn_47 : decode cX12_ruleOn 47 = .ok (.iaload, 1) := by decide +kernel
theorem dX12_ruleOn_48 : decode cX12_ruleOn 48 = .ok (.aload_n 0, 1) := by decide +kernel
theorem dX12_ruleOn_49 : decode cX12_ruleOn 49 = .ok (.getfield 59, 3) := by decide +kernel
theorem dX12_ruleOn_52 : decode cX12_ruleOn 52 = .ok (.iload_n 3, 1) := by decide +kernel
theorem dX12_ruleOn_53 : decode cX12_ruleOn 53 = .ok (.iaload, 1) := by decide +kernel
theorem dX12_ruleOn_54 : decode cX12_ruleOn 54 = .ok (.if_icmp .lt 6, 3) := by decide +kernel
theorem dX12_ruleOn_57 : decode cX12_ruleOn 57 = .ok (.iload 4, 2) := by decide +kernel
theorem dX12_ruleOn_59 : decode cX12_ruleOn 59 = .ok (.istore_n 3, 1) := by decide +kernel
theorem dX12_ruleOn_60 : decode cX12_ruleOn 60 = .ok (.iinc 4 1, 3) := by decide +kernel
theorem dX12_ruleOn_63 : decode cX12_ruleOn 63 = .ok (.goto (-58), 3) := by decide +kernel
theorem dX12_ruleOn_66 : decode cX12_ruleOn 66 = .ok (.iload_n 3, 1) := by decide +kernel
theorem dX12_ruleOn_67 : decode cX12_ruleOn 67 = .ok (.ireturn, 1) := by decide +kernel
theorem dX12_shown_0 : decode cX12_shown 0 = .ok (.aload_n 0, 1) := by decide +kernel
theorem dX12_shown_1 : decode cX12_shown 1 = .ok (.iconst 0, 1) := by decide +kernel
theorem dX12_shown_2 : decode cX12_shown 2 = .ok (.putfield 138, 3) := by decide +kernel
theorem dX12_shown_5 : decode cX12_shown 5 = .ok (.aload_n 0, 1) := by decide +kernel
theorem dX12_shown_6 : decode cX12_shown 6 = .ok (.iload_n 1, 1) := by decide +kernel
theorem dX12_shown_7 : decode cX12_shown 7 = .ok (.iload 4, 2) := by decide +kernel
theorem dX12_shown_9 : decode cX12_shown 9 = .ok (.invokevirtual 305, 3) := by decide +kernel
theorem dX12_shown_12 : decode cX12_shown 12 = .ok (.ifCond .eq 29, 3) := by decide +kernel
theorem dX12_shown_15 : decode cX12_shown 15 = .ok (.iload_n 2, 1) := by decide +kernel
theorem dX12_shown_16 : decode cX12_shown 16 = .ok (.aload_n 0, 1) := by decide +kernel
theorem dX12_shown_17 : decode cX12_shown 17 = .ok (.getfield 31, 3) := by decide +kernel
theorem dX12_shown_20 : decode cX12_shown 20 = .ok (.iload_n 1, 1) := by decide +kernel
theorem dX12_shown_21 : decode cX12_shown 21 = .ok (.iaload, 1) := by decide +kernel
theorem dX12_shown_22 : decode cX12_shown 22 = .ok (.sipush 1000, 3) := by decide +kernel
theorem dX12_shown_25 : decode cX12_shown 25 = .ok (.invokestatic 145, 3) := by decide +kernel
theorem dX12_shown_28 : decode cX12_shown 28 = .ok (.ifCond .eq 13, 3) := by decide +kernel
theorem dX12_shown_31 : decode cX12_shown 31 = .ok (.iload_n 3, 1) := by decide +kernel
theorem dX12_shown_32 : decode cX12_shown 32 = .ok (.iconst 0, 1) := by decide +kernel
theorem dX12_shown_33 : decode cX12_shown 33 = .ok (.bipush 9, 2) := by decide +kernel
theorem dX12_shown_35 : decode cX12_shown 35 = .ok (.invokestatic 145, 3) := by decide +kernel
theorem dX12_shown_38 : decode cX12_shown 38 = .ok (.ifCond .ne 7, 3) := by decide +kernel
theorem dX12_shown_41 : decode cX12_shown 41 = .ok (.iconst (-1), 1) := by decide +kernel
theorem dX12_shown_42 : decode cX12_shown 42 = .ok (.goto 20, 3) := by decide +kernel
theorem dX12_shown_45 : decode cX12_shown 45 = .ok (.aload_n 0, 1) := by decide +kernel
theorem dX12_shown_46 : decode cX12_shown 46 = .ok (.iload_n 1, 1) := by decide +kernel
theorem dX12_shown_47 : decode cX12_shown 47 = .ok (.iload_n 2, 1) := by decide +kernel
theorem dX12_shown_48 : decode cX12_shown 48 = .ok (.iload_n 3, 1) := by decide +kernel
theorem dX12_shown_49 : decode cX12_shown 49 = .ok (.iload 4, 2) := by decide +kernel
theorem dX12_shown_51 : decode cX12_shown 51 = .ok (.invokevirtual 309, 3) := by decide +kernel
theorem dX12_shown_54 : decode cX12_shown 54 = .ok (.ifCond .eq 7, 3) := by decide +kernel
theorem dX12_shown_57 : decode cX12_shown 57 = .ok (.iconst 1, 1) := by decide +kernel
theorem dX12_shown_58 : decode cX12_shown 58 = .ok (.goto 4, 3) := by decide +kernel
theorem dX12_shown_61 : decode cX12_shown 61 = .ok (.iconst 0, 1) := by decide +kernel
theorem dX12_shown_62 : decode cX12_shown 62 = .ok (.ireturn, 1) := by decide +kernel
theorem dX12_sortsOf_0 : decode cX12_sortsOf 0 = .ok (.iconst 0, 1) := by decide +kernel
theorem dX12_sortsOf_1 : decode cX12_sortsOf 1 = .ok (.istore_n 2, 1) := by decide +kernel
theorem dX12_sortsOf_2 : decode cX12_sortsOf 2 = .ok (.iconst 0, 1) := by decide +kernel
theorem dX12_sortsOf_3 : decode cX12_sortsOf 3 = .ok (.istore_n 3, 1) := by decide +kernel
theorem dX12_sortsOf_4 : decode cX12_sortsOf 4 = .ok (.iload_n 3, 1) := by decide +kernel
theorem dX12_sortsOf_5 : decode cX12_sortsOf 5 = .ok (.aload_n 0, 1) := by decide +kernel
theorem dX12_sortsOf_6 : decode cX12_sortsOf 6 = .ok (.getfield 393, 3) := by decide +kernel
theorem dX12_sortsOf_9 : decode cX12_sortsOf 9 = .ok (.if_icmp .ge 31, 3) := by decide +kernel
theorem dX12_sortsOf_12 : decode cX12_sortsOf 12 = .ok (.iload_n 2, 1) := by decide +kernel
theorem dX12_sortsOf_13 : decode cX12_sortsOf 13 = .ok (.iload_n 1, 1) := by decide +kernel
theorem dX12_sortsOf_14 : decode cX12_sortsOf 14 = .ok (.iload_n 3, 1) := by decide +kernel
theorem dX12_sortsOf_15 : decode cX12_sortsOf 15 = .ok (.ishr, 1) := by decide +kernel
theorem dX12_sortsOf_16 : decode cX12_sortsOf 16 = .ok (.iconst 1, 1) := by decide +kernel
theorem dX12_sortsOf_17 : decode cX12_sortsOf 17 = .ok (.iand, 1) := by decide +kernel
theorem dX12_sortsOf_18 : decode cX12_sortsOf 18 = .ok (.iconst 1, 1) := by decide +kernel
theorem dX12_sortsOf_19 : decode cX12_sortsOf 19 = .ok (.if_icmp .ne 12, 3) := by decide +kernel
theorem dX12_sortsOf_22 : decode cX12_sortsOf 22 = .ok (.aload_n 0, 1) := by decide +kernel
theorem dX12_sortsOf_23 : decode cX12_sortsOf 23 = .ok (.getfield 132, 3) := by decide +kernel
theorem dX12_sortsOf_26 : decode cX12_sortsOf 26 = .ok (.iload_n 3, 1) := by decide +kernel
theorem dX12_sortsOf_27 : decode cX12_sortsOf 27 = .ok (.iaload, 1) := by decide +kernel
theorem dX12_sortsOf_28 : decode cX12_sortsOf 28 = .ok (.goto 4, 3) := by decide +kernel
theorem dX12_sortsOf_31 : decode cX12_sortsOf 31 = .ok (.iconst 0, 1) := by decide +kernel
theorem dX12_sortsOf_32 : decode cX12_sortsOf 32 = .ok (.ior, 1) := by decide +kernel
theorem dX12_sortsOf_33 : decode cX12_sortsOf 33 = .ok (.istore_n 2, 1) := by decide +kernel
theorem dX12_sortsOf_34 : decode cX12_sortsOf 34 = .ok (.iinc 3 1, 3) := by decide +kernel
theorem dX12_sortsOf_37 : decode cX12_sortsOf 37 = .ok (.goto (-33), 3) := by decide +kernel
theorem dX12_sortsOf_40 : decode cX12_sortsOf 40 = .ok (.iload_n 2, 1) := by decide +kernel
theorem dX12_sortsOf_41 : decode cX12_sortsOf 41 = .ok (.invokestatic 388, 3) := by decide +kernel
theorem dX12_sortsOf_44 : decode cX12_sortsOf 44 = .ok (.ireturn, 1) := by decide +kernel
theorem dX12_span_0 : decode cX12_span 0 = .ok (.aload_n 0, 1) := by decide +kernel
theorem dX12_span_1 : decode cX12_span 1 = .ok (.iconst 0, 1) := by decide +kernel
theorem dX12_span_2 : decode cX12_span 2 = .ok (.putfield 138, 3) := by decide +kernel
theorem dX12_span_5 : decode cX12_span 5 = .ok (.aload_n 0, 1) := by decide +kernel
theorem dX12_span_6 : decode cX12_span 6 = .ok (.invokevirtual 345, 3) := by decide +kernel
theorem dX12_span_9 : decode cX12_span 9 = .ok (.istore 5, 2) := by decide +kernel
theorem dX12_span_11 : decode cX12_span 11 = .ok (.iload 5, 2) := by decide +kernel
theorem dX12_span_13 : decode cX12_span 13 = .ok (.ifCond .eq 35, 3) := by decide +kernel
theorem dX12_span_16 : decode cX12_span 16 = .ok (.iload_n 1, 1) := by decide +kernel
theorem dX12_span_17 : decode cX12_span 17 = .ok (.invokestatic 168, 3) := by decide +kernel
theorem dX12_span_20 : decode cX12_span 20 = .ok (.ifCond .eq 28, 3) := by decide +kernel
theorem dX12_span_23 : decode cX12_span 23 = .ok (.iload_n 2, 1) := by decide +kernel
theorem dX12_span_24 : decode cX12_span 24 = .ok (.invokestatic 175, 3) := by decide +kernel
theorem dX12_span_27 : decode cX12_span 27 = .ok (.ifCond .eq 21, 3) := by decide +kernel
theorem dX12_span_30 : decode cX12_span 30 = .ok (.aload_n 0, 1) := by decide +kernel
theorem dX12_span_31 : decode cX12_span 31 = .ok (.iload_n 3, 1) := by decide +kernel
theorem dX12_span_32 : decode cX12_span 32 = .ok (.invokevirtual 159, 3) := by decide +kernel
theorem dX12_span_35 : decode cX12_span 35 = .ok (.ifCond .eq 13, 3) := by decide +kernel
theorem dX12_span_38 : decode cX12_span 38 = .ok (.iload 4, 2) := by decide +kernel
theorem dX12_span_40 : decode cX12_span 40 = .ok (.iconst 0, 1) := by decide +kernel
theorem dX12_span_41 : decode cX12_span 41 = .ok (.iconst 2, 1) := by decide +kernel
theorem dX12_span_42 : decode cX12_span 42 = .ok (.invokestatic 145, 3) := by decide +kernel
theorem dX12_span_45 : decode cX12_span 45 = .ok (.ifCond .ne 7, 3) := by decide +kernel
theorem dX12_span_48 : decode cX12_span 48 = .ok (.ldc_w 344, 3) := by decide +kernel
theorem dX12_span_51 : decode cX12_span 51 = .ok (.ireturn, 1) := by decide +kernel
theorem dX12_span_52 : decode cX12_span 52 = .ok (.lconst 0, 1) := by decide +kernel
theorem dX12_span_53 : decode cX12_span 53 = .ok (.lstore 6, 2) := by decide +kernel
theorem dX12_span_55 : decode cX12_span 55 = .ok (.lconst 0, 1) := by decide +kernel
theorem dX12_span_56 : decode cX12_span 56 = .ok (.lstore 8, 2) := by decide +kernel
theorem dX12_span_58 : decode cX12_span 58 = .ok (.iconst 0, 1) := by decide +kernel
theorem dX12_span_59 : decode cX12_span 59 = .ok (.istore 10, 2) := by decide +kernel
theorem dX12_span_61 : decode cX12_span 61 = .ok (.iload 10, 2) := by decide +kernel
theorem dX12_span_63 : decode cX12_span 63 = .ok (.bipush 32, 2) := by decide +kernel
theorem dX12_span_65 : decode cX12_span 65 = .ok (.if_icmp .ge 191, 3) := by decide +kernel
theorem dX12_span_68 : decode cX12_span 68 = .ok (.iconst 0, 1) := by decide +kernel
theorem dX12_span_69 : decode cX12_span 69 = .ok (.istore 11, 2) := by decide +kernel
theorem dX12_span_71 : decode cX12_span 71 = .ok (.iconst 0, 1) := by decide +kernel
theorem dX12_span_72 : decode cX12_span 72 = .ok (.istore 12, 2) := by decide +kernel
theorem dX12_span_74 : decode cX12_span 74 = .ok (.iconst 0, 1) := by decide +kernel
theorem dX12_span_75 : decode cX12_span 75 = .ok (.istore 13, 2) := by decide +kernel
theorem dX12_span_77 : decode cX12_span 77 = .ok (.iload 13, 2) := by decide +kernel
theorem dX12_span_79 : decode cX12_span 79 = .ok (.aload_n 0, 1) := by decide +kernel
theorem dX12_span_80 : decode cX12_span 80 = .ok (.getfield 152, 3) := by decide +kernel
theorem dX12_span_83 : decode cX12_span 83 = .ok (.if_icmp .ge 96, 3) := by decide +kernel
theorem dX12_span_86 : decode cX12_span 86 = .ok (.aload_n 0, 1) := by decide +kernel
theorem dX12_span_87 : decode cX12_span 87 = .ok (.getfield 28, 3) := by decide +kernel
theorem dX12_span_90 : decode cX12_span 90 = .ok (.iload 13, 2) := by decide +kernel
theorem dX12_span_92 : decode cX12_span 92 = .ok (.iaload, 1) := by decide +kernel
theorem dX12_span_93 : decode cX12_span 93 = .ok (.istore 14, 2) := by decide +kernel
theorem dX12_span_95 : decode cX12_span 95 = .ok (.aload_n 0, 1) := by decide +kernel
theorem dX12_span_96 : decode cX12_span 96 = .ok (.getfield 34, 3) := by decide +kernel
theorem dX12_span_99 : decode cX12_span 99 = .ok (.iload 13, 2) := by decide +kernel
theorem dX12_span_101 : decode cX12_span 101 = .ok (.iaload, 1) := by decide +kernel
theorem dX12_span_102 : decode cX12_span 102 = .ok (.iload_n 1, 1) := by decide +kernel
theorem dX12_span_103 : decode cX12_span 103 = .ok (.if_icmp .ne 70, 3) := by decide +kernel
theorem dX12_span_106 : decode cX12_span 106 = .ok (.aload_n 0, 1) := by decide +kernel
theorem dX12_span_107 : decode cX12_span 107 = .ok (.getfield 31, 3) := by decide +kernel
theorem dX12_span_110 : decode cX12_span 110 = .ok (.iload 13, 2) := by decide +kernel
theorem dX12_span_112 : decode cX12_span 112 = .ok (.iaload, 1) := by decide +kernel
theorem dX12_span_113 : decode cX12_span 113 = .ok (.iload_n 2, 1) := by decide +kernel
theorem dX12_span_114 : decode cX12_span 114 = .ok (.if_icmp .ne 59, 3) := by decide +kernel
theorem dX12_span_117 : decode cX12_span 117 = .ok (.aload_n 0, 1) := by decide +kernel
theorem dX12_span_118 : decode cX12_span 118 = .ok (.getfield 46, 3) := by decide +kernel
theorem dX12_span_121 : decode cX12_span 121 = .ok (.iload 13, 2) := by decide +kernel
theorem dX12_span_123 : decode cX12_span 123 = .ok (.iaload, 1) := by decide +kernel
theorem dX12_span_124 : decode cX12_span 124 = .ok (.iload_n 3, 1) := by decide +kernel
theorem dX12_span_125 : decode cX12_span 125 = .ok (.if_icmp .gt 48, 3) := by decide +kernel
theorem dX12_span_128 : decode cX12_span 128 = .ok (.aload_n 0, 1) := by decide +kernel
theorem dX12_span_129 : decode cX12_span 129 = .ok (.getfield 9, 3) := by decide +kernel
theorem dX12_span_132 : decode cX12_span 132 = .ok (.iload 14, 2) := by decide +kernel
theorem dX12_span_134 : decode cX12_span 134 = .ok (.iaload, 1) := by decide +kernel
theorem dX12_span_135 : decode cX12_span 135 = .ok (.iload 10, 2) := by decide +kernel
theorem dX12_span_137 : decode cX12_span 137 = .ok (.iconst 4, 1) := by decide +kernel
theorem dX12_span_138 : decode cX12_span 138 = .ok (.idiv, 1) := by decide +kernel
theorem dX12_span_139 : decode cX12_span 139 = .ok (.if_icmp .ne 34, 3) := by decide +kernel
theorem dX12_span_142 : decode cX12_span 142 = .ok (.aload_n 0, 1) := by decide +kernel
theorem dX12_span_143 : decode cX12_span 143 = .ok (.iload 14, 2) := by decide +kernel
theorem dX12_span_145 : decode cX12_span 145 = .ok (.invokevirtual 348, 3) := by decide +kernel
theorem dX12_span_148 : decode cX12_span 148 = .ok (.iload 10, 2) := by decide +kernel
theorem dX12_span_150 : decode cX12_span 150 = .ok (.iconst 4, 1) := by decide +kernel
theorem dX12_span_151 : decode cX12_span 151 = .ok (.irem, 1) := by decide +kernel
theorem dX12_span_152 : decode cX12_span 152 = .ok (.if_icmp .eq 6, 3) := by decide +kernel
theorem dX12_span_155 : decode cX12_span 155 = .ok (.goto 18, 3) := by decide +kernel
theorem dX12_span_158 : decode cX12_span 158 = .ok (.iload 11, 2) := by decide +kernel
theorem dX12_span_160 : decode cX12_span 160 = .ok (.aload_n 0, 1) := by decide +kernel
theorem dX12_span_161 : decode cX12_span 161 = .ok (.getfield 37, 3) := by decide +kernel
theorem dX12_span_164 : decode cX12_span 164 = .ok (.iload 13, 2) := by decide +kernel
theorem dX12_span_166 : decode cX12_span 166 = .ok (.iaload, 1) := by decide +kernel
theorem dX12_span_167 : decode cX12_span 167 = .ok (.iadd, 1) := by decide +kernel
theorem dX12_span_168 : decode cX12_span 168 = .ok (.istore 11, 2) := by decide +kernel
theorem dX12_span_170 : decode cX12_span 170 = .ok (.iinc 12 1, 3) := by decide +kernel
theorem dX12_span_173 : decode cX12_span 173 = .ok (.iinc 13 1, 3) := by decide +kernel
theorem dX12_span_176 : decode cX12_span 176 = .ok (.goto (-99), 3) := by decide +kernel
theorem dX12_span_179 : decode cX12_span 179 = .ok (.lload 8, 2) := by decide +kernel
theorem dX12_span_181 : decode cX12_span 181 = .ok (.iload 12, 2) := by decide +kernel
theorem dX12_span_183 : decode cX12_span 183 = .ok (.ifCond .le 14, 3) := by decide +kernel
theorem dX12_span_186 : decode cX12_span 186 = .ok (.aload_n 0, 1) := by decide +kernel
theorem dX12_span_187 : decode cX12_span 187 = .ok (.getfield 105, 3) := by decide +kernel
theorem dX12_span_190 : decode cX12_span 190 = .ok (.iload 10, 2) := by decide +kernel
theorem dX12_span_192 : decode cX12_span 192 = .ok (.iaload, 1) := by decide +kernel
theorem dX12_span_193 : decode cX12_span 193 = .ok (.i2l, 1) := by decide +kernel
theorem dX12_span_194 : decode cX12_span 194 = .ok (.goto 4, 3) := by decide +kernel
theorem dX12_span_197 : decode cX12_span 197 = .ok (.lconst 0, 1) := by decide +kernel
theorem dX12_span_198 : decode cX12_span 198 = .ok (.ladd, 1) := by decide +kernel
theorem dX12_span_199 : decode cX12_span 199 = .ok (.lstore 8, 2) := by decide +kernel
theorem dX12_span_201 : decode cX12_span 201 = .ok (.iload 12, 2) := by decide +kernel
theorem dX12_span_203 : decode cX12_span 203 = .ok (.ifCond .le 14, 3) := by decide +kernel
theorem dX12_span_206 : decode cX12_span 206 = .ok (.bipush 100, 2) := by decide +kernel
theorem dX12_span_208 : decode cX12_span 208 = .ok (.iload 11, 2) := by decide +kernel
theorem dX12_span_210 : decode cX12_span 210 = .ok (.imul, 1) := by decide +kernel
theorem dX12_span_211 : decode cX12_span 211 = .ok (.iload 12, 2) := by decide +kernel
theorem dX12_span_213 : decode cX12_span 213 = .ok (.idiv, 1) := by decide +kernel
theorem dX12_span_214 : decode cX12_span 214 = .ok (.goto 17, 3) := by decide +kernel
theorem dX12_span_217 : decode cX12_span 217 = .ok (.iload 4, 2) := by decide +kernel
theorem dX12_span_219 : decode cX12_span 219 = .ok (.ifCond .ne 9, 3) := by decide +kernel
theorem dX12_span_222 : decode cX12_span 222 = .ok (.sipush (-900), 3) := by decide +kernel
theorem dX12_span_225 : decode cX12_span 225 = .ok (.goto 6, 3) := by decide +kernel
theorem dX12_span_228 : decode cX12_span 228 = .ok (.sipush 900, 3) := by decide +kernel
theorem dX12_span_231 : decode cX12_span 231 = .ok (.istore 13, 2) := by decide +kernel
theorem dX12_span_233 : decode cX12_span 233 = .ok (.lload 6, 2) := by decide +kernel
theorem dX12_span_235 : decode cX12_span 235 = .ok (.aload_n 0, 1) := by decide +kernel
theorem dX12_span_236 : decode cX12_span 236 = .ok (.getfield 105, 3) := by decide +kernel
theorem dX12_span_239 : decode cX12_span 239 = .ok (.iload 10, 2) := by decide +kernel
theorem dX12_span_241 : decode cX12_span 241 = .ok (.iaload, 1) := by decide +kernel
theorem dX12_span_242 : decode cX12_span 242 = .ok (.i2l, 1) := by decide +kernel
theorem dX12_span_243 : decode cX12_span 243 = .ok (.iload 13, 2) := by decide +kernel
theorem dX12_span_245 : decode cX12_span 245 = .ok (.i2l, 1) := by decide +kernel
theorem dX12_span_246 : decode cX12_span 246 = .ok (.lmul, 1) := by decide +kernel
theorem dX12_span_247 : decode cX12_span 247 = .ok (.ladd, 1) := by decide +kernel
theorem dX12_span_248 : decode cX12_span 248 = .ok (.lstore 6, 2) := by decide +kernel
theorem dX12_span_250 : decode cX12_span 250 = .ok (.iinc 10 1, 3) := by decide +kernel
theorem dX12_span_253 : decode cX12_span 253 = .ok (.goto (-192), 3) := by decide +kernel
theorem dX12_span_256 : decode cX12_span 256 = .ok (.iload 4, 2) := by decide +kernel
theorem dX12_span_258 : decode cX12_span 258 = .ok (.iconst 2, 1) := by decide +kernel
theorem dX12_span_259 : decode cX12_span 259 = .ok (.if_icmp .ne 17, 3) := by decide +kernel
theorem dX12_span_262 : decode cX12_span 262 = .ok (.ldc2_w 351, 3) := by decide +kernel
theorem dX12_span_265 : decode cX12_span 265 = .ok (.lload 8, 2) := by decide +kernel
theorem dX12_span_267 : decode cX12_span 267 = .ok (.lmul, 1) := by decide +kernel
theorem dX12_span_268 : decode cX12_span 268 = .ok (.iload 5, 2) := by decide +kernel
theorem dX12_span_270 : decode cX12_span 270 = .ok (.i2l, 1) := by decide +kernel
theorem dX12_span_271 : decode cX12_span 271 = .ok (.ldiv, 1) := by decide +kernel
theorem dX12_span_272 : decode cX12_span 272 = .ok (.l2i, 1) := by decide +kernel
theorem dX12_span_273 : decode cX12_span 273 = .ok (.goto 10, 3) := by decide +kernel
theorem dX12_span_276 : decode cX12_span 276 = .ok (.lload 6, 2) := by decide +kernel
theorem dX12_span_278 : decode cX12_span 278 = .ok (.iload 5, 2) := by decide +kernel
theorem dX12_span_280 : decode cX12_span 280 = .ok (.i2l, 1) := by decide +kernel
theorem dX12_span_281 : decode cX12_span 281 = .ok (.ldiv, 1) := by decide +kernel
