theorem dL_asks_0 : decode cL_asks 0 = .ok (.ldc2_w 184, 3) := by decide +kernel
theorem dL_asks_3 : decode cL_asks 3 = .ok (.aload_n 0, 1) := by decide +kernel
theorem dL_asks_4 : decode cL_asks 4 = .ok (.invokestatic 186, 3) := by decide +kernel
theorem dL_asks_7 : decode cL_asks 7 = .ok (.invokestatic 189, 3) := by decide +kernel
theorem dL_asks_10 : decode cL_asks 10 = .ok (.lmul, 1) := by decide +kernel
theorem dL_asks_11 : decode cL_asks 11 = .ok (.aload_n 0, 1) := by decide +kernel
theorem dL_asks_12 : decode cL_asks 12 = .ok (.invokestatic 195, 3) := by decide +kernel
theorem dL_asks_15 : decode cL_asks 15 = .ok (.invokestatic 198, 3) := by decide +kernel
theorem dL_asks_18 : decode cL_asks 18 = .ok (.i2l, 1) := by decide +kernel
theorem dL_asks_19 : decode cL_asks 19 = .ok (.ladd, 1) := by decide +kernel
theorem dL_asks_20 : decode cL_asks 20 = .ok (.lstore_n 1, 1) := by decide +kernel
theorem dL_asks_21 : decode cL_asks 21 = .ok (.iconst 0, 1) := by decide +kernel
theorem dL_asks_22 : decode cL_asks 22 = .ok (.istore_n 3, 1) := by decide +kernel
theorem dL_asks_23 : decode cL_asks 23 = .ok (.iload_n 3, 1) := by decide +kernel
theorem dL_asks_24 : decode cL_asks 24 = .ok (.bipush 14, 2) := by decide +kernel
theorem dL_asks_26 : decode cL_asks 26 = .ok (.if_icmp .ge 22, 3) := by decide +kernel
theorem dL_asks_29 : decode cL_asks 29 = .ok (.ldc2_w 184, 3) := by decide +kernel
theorem dL_asks_32 : decode cL_asks 32 = .ok (.lload_n 1, 1) := by decide +kernel
theorem dL_asks_33 : decode cL_asks 33 = .ok (.lmul, 1) := by decide +kernel
theorem dL_asks_34 : decode cL_asks 34 = .ok (.aload_n 0, 1) := by decide +kernel
theorem dL_asks_35 : decode cL_asks 35 = .ok (.iload_n 3, 1) := by decide +kernel
theorem dL_asks_36 : decode cL_asks 36 = .ok (.invokestatic 204, 3) := by decide +kernel
theorem dL_asks_39 : decode cL_asks 39 = .ok (.i2l, 1) := by decide +kernel
theorem dL_asks_40 : decode cL_asks 40 = .ok (.ladd, 1) := by decide +kernel
theorem dL_asks_41 : decode cL_asks 41 = .ok (.lstore_n 1, 1) := by decide +kernel
theorem dL_asks_42 : decode cL_asks 42 = .ok (.iinc 3 1, 3) := by decide +kernel
theorem dL_asks_45 : decode cL_asks 45 = .ok (.goto (-22), 3) := by decide +kernel
theorem dL_asks_48 : decode cL_asks 48 = .ok (.iconst 0, 1) := by decide +kernel
theorem dL_asks_49 : decode cL_asks 49 = .ok (.istore_n 3, 1) := by decide +kernel
theorem dL_asks_50 : decode cL_asks 50 = .ok (.iload_n 3, 1) := by decide +kernel
theorem dL_asks_51 : decode cL_asks 51 = .ok (.aload_n 0, 1) := by decide +kernel
theorem dL_asks_52 : decode cL_asks 52 = .ok (.iconst 4, 1) := by decide +kernel
theorem dL_asks_53 : decode cL_asks 53 = .ok (.invokestatic 204, 3) := by decide +kernel
theorem dL_asks_56 : decode cL_asks 56 = .ok (.if_icmp .ge 35, 3) := by decide +kernel
theorem dL_asks_59 : decode cL_asks 59 = .ok (.ldc2_w 184, 3) := by decide +kernel
theorem dL_asks_62 : decode cL_asks 62 = .ok (.ldc2_w 184, 3) := by decide +kernel
theorem dL_asks_65 : decode cL_asks 65 = .ok (.lload_n 1, 1) := by decide +kernel
theorem dL_asks_66 : decode cL_asks 66 = .ok (.lmul, 1) := by decide +kernel
theorem dL_asks_67 : decode cL_asks 67 = .ok (.aload_n 0, 1) := by decide +kernel
theorem dL_asks_68 : decode cL_asks 68 = .ok (.iload_n 3, 1) := by decide +kernel
theorem dL_asks_69 : decode cL_asks 69 = .ok (.iconst 1, 1) := by decide +kernel
theorem dL_asks_70 : decode cL_asks 70 = .ok (.invokestatic 206, 3) := by decide +kernel
theorem dL_asks_73 : decode cL_asks 73 = .ok (.i2l, 1) := by decide +kernel
theorem dL_asks_74 : decode cL_asks 74 = .ok (.ladd, 1) := by decide +kernel
theorem dL_asks_75 : decode cL_asks 75 = .ok (.lmul, 1) := by decide +kernel
theorem dL_asks_76 : decode cL_asks 76 = .ok (.aload_n 0, 1) := by decide +kernel
theorem dL_asks_77 : decode cL_asks 77 = .ok (.iload_n 3, 1) := by decide +kernel
theorem dL_asks_78 : decode cL_asks 78 = .ok (.iconst 0, 1) := by decide +kernel
theorem dL_asks_79 : decode cL_asks 79 = .ok (.invokestatic 206, 3) := by decide +kernel
theorem dL_asks_82 : decode cL_asks 82 = .ok (.i2l, 1) := by decide +kernel
theorem dL_asks_83 : decode cL_asks 83 = .ok (.ladd, 1) := by decide +kernel
theorem dL_asks_84 : decode cL_asks 84 = .ok (.lstore_n 1, 1) := by decide +kernel
theorem dL_asks_85 : decode cL_asks 85 = .ok (.iinc 3 1, 3) := by decide +kernel
theorem dL_asks_88 : decode cL_asks 88 = .ok (.goto (-38), 3) := by decide +kernel
theorem dL_asks_91 : decode cL_asks 91 = .ok (.iconst 0, 1) := by decide +kernel
theorem dL_asks_92 : decode cL_asks 92 = .ok (.istore_n 3, 1) := by decide +kernel
theorem dL_asks_93 : decode cL_asks 93 = .ok (.iload_n 3, 1) := by decide +kernel
theorem dL_asks_94 : decode cL_asks 94 = .ok (.aload_n 0, 1) := by decide +kernel
theorem dL_asks_95 : decode cL_asks 95 = .ok (.iconst 5, 1) := by decide +kernel
theorem dL_asks_96 : decode cL_asks 96 = .ok (.invokestatic 204, 3) := by decide +kernel
theorem dL_asks_99 : decode cL_asks 99 = .ok (.if_icmp .ge 188, 3) := by decide +kernel
theorem dL_asks_102 : decode cL_asks 102 = .ok (.iconst 0, 1) := by decide +kernel
theorem dL_asks_103 : decode cL_asks 103 = .ok (.istore 4, 2) := by decide +kernel
theorem dL_asks_105 : decode cL_asks 105 = .ok (.iload 4, 2) := by decide +kernel
theorem dL_asks_107 : decode cL_asks 107 = .ok (.bipush 6, 2) := by decide +kernel
theorem dL_asks_109 : decode cL_asks 109 = .ok (.if_icmp .ge 24, 3) := by decide +kernel
theorem dL_asks_112 : decode cL_asks 112 = .ok (.ldc2_w 184, 3) := by decide +kernel
theorem dL_asks_115 : decode cL_asks 115 = .ok (.lload_n 1, 1) := by decide +kernel
theorem dL_asks_116 : decode cL_asks 116 = .ok (.lmul, 1) := by decide +kernel
theorem dL_asks_117 : decode cL_asks 117 = .ok (.aload_n 0, 1) := by decide +kernel
theorem dL_asks_118 : decode cL_asks 118 = .ok (.iload_n 3, 1) := by decide +kernel
theorem dL_asks_119 : decode cL_asks 119 = .ok (.iload 4, 2) := by decide +kernel
theorem dL_asks_121 : decode cL_asks 121 = .ok (.invokestatic 209, 3) := by decide +kernel
theorem dL_asks_124 : decode cL_asks 124 = .ok (.i2l, 1) := by decide +kernel
theorem dL_asks_125 : decode cL_asks 125 = .ok (.ladd, 1) := by decide +kernel
theorem dL_asks_126 : decode cL_asks 126 = .ok (.lstore_n 1, 1) := by decide +kernel
theorem dL_asks_127 : decode cL_asks 127 = .ok (.iinc 4 1, 3) := by decide +kernel
theorem dL_asks_130 : decode cL_asks 130 = .ok (.goto (-25), 3) := by decide +kernel
theorem dL_asks_133 : decode cL_asks 133 = .ok (.ldc2_w 184, 3) := by decide +kernel
theorem dL_asks_136 : decode cL_asks 136 = .ok (.ldc2_w 184, 3) := by decide +kernel
theorem dL_asks_139 : decode cL_asks 139 = .ok (.ldc2_w 184, 3) := by decide +kernel
theorem dL_asks_142 : decode cL_asks 142 = .ok (.ldc2_w 184, 3) := by decide +kernel
theorem dL_asks_145 : decode cL_asks 145 = .ok (.ldc2_w 184, 3) := by decide +kernel
theorem dL_asks_148 : decode cL_asks 148 = .ok (.lload_n 1, 1) := by decide +kernel
theorem dL_asks_149 : decode cL_asks 149 = .ok (.lmul, 1) := by decide +kernel
theorem dL_asks_150 : decode cL_asks 150 = .ok (.aload_n 0, 1) := by decide +kernel
theorem dL_asks_151 : decode cL_asks 151 = .ok (.iload_n 3, 1) := by decide +kernel
theorem dL_asks_152 : decode cL_asks 152 = .ok (.invokestatic 211, 3) := by decide +kernel
theorem dL_asks_155 : decode cL_asks 155 = .ok (.i2l, 1) := by decide +kernel
theorem dL_asks_156 : decode cL_asks 156 = .ok (.ladd, 1) := by decide +kernel
theorem dL_asks_157 : decode cL_asks 157 = .ok (.lmul, 1) := by decide +kernel
theorem dL_asks_158 : decode cL_asks 158 = .ok (.aload_n 0, 1) := by decide +kernel
theorem dL_asks_159 : decode cL_asks 159 = .ok (.iload_n 3, 1) := by decide +kernel
theorem dL_asks_160 : decode cL_asks 160 = .ok (.invokestatic 213, 3) := by decide +kernel
theorem dL_asks_163 : decode cL_asks 163 = .ok (.i2l, 1) := by decide +kernel
theorem dL_asks_164 : decode cL_asks 164 = .ok (.ladd, 1) := by decide +kernel
theorem dL_asks_165 : decode cL_asks 165 = .ok (.lmul, 1) := by decide +kernel
theorem dL_asks_166 : decode cL_asks 166 = .ok (.aload_n 0, 1) := by decide +kernel
theorem dL_asks_167 : decode cL_asks 167 = .ok (.iload_n 3, 1) := by decide +kernel
theorem dL_asks_168 : decode cL_asks 168 = .ok (.invokestatic 215, 3) := by decide +kernel
theorem dL_asks_171 : decode cL_asks 171 = .ok (.i2l, 1) := by decide +kernel
theorem dL_asks_172 : decode cL_asks 172 = .ok (.ladd, 1) := by decide +kernel
theorem dL_asks_173 : decode cL_asks 173 = .ok (.lmul, 1) := by decide +kernel
theorem dL_asks_174 : decode cL_asks 174 = .ok (.aload_n 0, 1) := by decide +kernel
theorem dL_asks_175 : decode cL_asks 175 = .ok (.iload_n 3, 1) := by decide +kernel
theorem dL_asks_176 : decode cL_asks 176 = .ok (.invokestatic 217, 3) := by decide +kernel
theorem dL_asks_179 : decode cL_asks 179 = .ok (.i2l, 1) := by decide +kernel
theorem dL_asks_180 : decode cL_asks 180 = .ok (.ladd, 1) := by decide +kernel
theorem dL_asks_181 : decode cL_asks 181 = .ok (.lmul, 1) := by decide +kernel
theorem dL_asks_182 : decode cL_asks 182 = .ok (.aload_n 0, 1) := by decide +kernel
theorem dL_asks_183 : decode cL_asks 183 = .ok (.iload_n 3, 1) := by decide +kernel
theorem dL_asks_184 : decode cL_asks 184 = .ok (.invokestatic 219, 3) := by decide +kernel
theorem dL_asks_187 : decode cL_asks 187 = .ok (.i2l, 1) := by decide +kernel
theorem dL_asks_188 : decode cL_asks 188 = .ok (.ladd, 1) := by decide +kernel
theorem dL_asks_189 : decode cL_asks 189 = .ok (.lstore_n 1, 1) := by decide +kernel
theorem dL_asks_190 : decode cL_asks 190 = .ok (.iconst 0, 1) := by decide +kernel
theorem dL_asks_191 : decode cL_asks 191 = .ok (.istore 4, 2) := by decide +kernel
theorem dL_asks_193 : decode cL_asks 193 = .ok (.iload 4, 2) := by decide +kernel
theorem dL_asks_195 : decode cL_asks 195 = .ok (.iconst 4, 1) := by decide +kernel
theorem dL_asks_196 : decode cL_asks 196 = .ok (.if_icmp .ge 24, 3) := by decide +kernel
theorem dL_asks_199 : decode cL_asks 199 = .ok (.ldc2_w 184, 3) := by decide +kernel
theorem dL_asks_202 : decode cL_asks 202 = .ok (.lload_n 1, 1) := by decide +kernel
theorem dL_asks_203 : decode cL_asks 203 = .ok (.lmul, 1) := by decide +kernel
theorem dL_asks_204 : decode cL_asks 204 = .ok (.aload_n 0, 1) := by decide +kernel
theorem dL_asks_205 : decode cL_asks 205 = .ok (.iload_n 3, 1) := by decide +kernel
theorem dL_asks_206 : decode cL_asks 206 = .ok (.iload 4, 2) := by decide +kernel
theorem dL_asks_208 : decode cL_asks 208 = .ok (.invokestatic 221, 3) := by decide +kernel
theorem dL_asks_211 : decode cL_asks 211 = .ok (.i2l, 1) := by decide +kernel
theorem dL_asks_212 : decode cL_asks 212 = .ok (.ladd, 1) := by decide +kernel
theorem dL_asks_213 : decode cL_asks 213 = .ok (.lstore_n 1, 1) := by decide +kernel
theorem dL_asks_214 : decode cL_asks 214 = .ok (.iinc 4 1, 3) := by decide +kernel
theorem dL_asks_217 : decode cL_asks 217 = .ok (.goto (-24), 3) := by decide +kernel
theorem dL_asks_220 : decode cL_asks 220 = .ok (.ldc2_w 184, 3) := by decide +kernel
theorem dL_asks_223 : decode cL_asks 223 = .ok (.ldc2_w 184, 3) := by decide +kernel
theorem dL_asks_226 : decode cL_asks 226 = .ok (.lload_n 1, 1) := by decide +kernel
theorem dL_asks_227 : decode cL_asks 227 = .ok (.lmul, 1) := by decide +kernel
theorem dL_asks_228 : decode cL_asks 228 = .ok (.aload_n 0, 1) := by decide +kernel
theorem dL_asks_229 : decode cL_asks 229 = .ok (.iload_n 3, 1) := by decide +kernel
theorem dL_asks_230 : decode cL_asks 230 = .ok (.invokestatic 223, 3) := by decide +kernel
theorem dL_asks_233 : decode cL_asks 233 = .ok (.i2l, 1) := by decide +kernel
theorem dL_asks_234 : decode cL_asks 234 = .ok (.ladd, 1) := by decide +kernel
theorem dL_asks_235 : decode cL_asks 235 = .ok (.lmul, 1) := by decide +kernel
theorem dL_asks_236 : decode cL_asks 236 = .ok (.aload_n 0, 1) := by decide +kernel
theorem dL_asks_237 : decode cL_asks 237 = .ok (.iload_n 3, 1) := by decide +kernel
theorem dL_asks_238 : decode cL_asks 238 = .ok (.invokestatic 225, 3) := by decide +kernel
theorem dL_asks_241 : decode cL_asks 241 = .ok (.i2l, 1) := by decide +kernel
theorem dL_asks_242 : decode cL_asks 242 = .ok (.ladd, 1) := by decide +kernel
theorem dL_asks_243 : decode cL_asks 243 = .ok (.lstore_n 1, 1) := by decide +kernel
theorem dL_asks_244 : decode cL_asks 244 = .ok (.aload_n 0, 1) := by decide +kernel
theorem dL_asks_245 : decode cL_asks 245 = .ok (.iload_n 3, 1) := by decide +kernel
theorem dL_asks_246 : decode cL_asks 246 = .ok (.invokestatic 161, 3) := by decide +kernel
theorem dL_asks_249 : decode cL_asks 249 = .ok (.istore 4, 2) := by decide +kernel
theorem dL_asks_251 : decode cL_asks 251 = .ok (.iconst 0, 1) := by decide +kernel
theorem dL_asks_252 : decode cL_asks 252 = .ok (.istore 5, 2) := by decide +kernel
theorem dL_asks_254 : decode cL_asks 254 = .ok (.iload 5, 2) := by decide +kernel
theorem dL_asks_256 : decode cL_asks 256 = .ok (.iload 4, 2) := by decide +kernel
theorem dL_asks_258 : decode cL_asks 258 = .ok (.if_icmp .ge 23, 3) := by decide +kernel
theorem dL_asks_261 : decode cL_asks 261 = .ok (.ldc2_w 184, 3) := by decide +kernel
theorem dL_asks_264 : decode cL_asks 264 = .ok (.lload_n 1, 1) := by decide +kernel
theorem dL_asks_265 : decode cL_asks 265 = .ok (.lmul, 1) := by decide +kernel
theorem dL_asks_266 : decode cL_asks 266 = .ok (.aload_n 0, 1) := by decide +kernel
theorem dL_asks_267 : decode cL_asks 267 = .ok (.iload 5, 2) := by decide +kernel
theorem dL_asks_269 : decode cL_asks 269 = .ok (.invokestatic 163, 3) := by decide +kernel
theorem dL_asks_272 : decode cL_asks 272 = .ok (.i2l, 1) := by decide +kernel
theorem dL_asks_273 : decode cL_asks 273 = .ok (.ladd, 1) := by decide +kernel
theorem dL_asks_274 : decode cL_asks 274 = .ok (.lstore_n 1, 1) := by decide +kernel
theorem dL_asks_275 : decode cL_asks 275 = .ok (.iinc 5 1, 3) := by decide +kernel
theorem dL_asks_278 : decode cL_asks 278 = .ok (.goto (-24), 3) := by decide +kernel
theorem dL_asks_281 : decode cL_asks 281 = .ok (.iinc 3 1, 3) := by decide +kernel
theorem dL_asks_284 : decode cL_asks 284 = .ok (.goto (-191), 3) := by decide +kernel
theorem dL_asks_287 : decode cL_asks 287 = .ok (.iconst 0, 1) := by decide +kernel
theorem dL_asks_288 : decode cL_asks 288 = .ok (.istore_n 3, 1) := by decide +kernel
theorem dL_asks_289 : decode cL_asks 289 = .ok (.iload_n 3, 1) := by decide +kernel
theorem dL_asks_290 : decode cL_asks 290 = .ok (.bipush 8, 2) := by decide +kernel
theorem dL_asks_292 : decode cL_asks 292 = .ok (.if_icmp .ge 39, 3) := by decide +kernel
theorem dL_asks_295 : decode cL_asks 295 = .ok (.iconst 0, 1) := by decide +kernel
theorem dL_asks_296 : decode cL_asks 296 = .ok (.istore 4, 2) := by decide +kernel
theorem dL_asks_298 : decode cL_asks 298 = .ok (.iload 4, 2) := by decide +kernel
theorem dL_asks_300 : decode cL_asks 300 = .ok (.iconst 4, 1) := by decide +kernel
theorem dL_asks_301 : decode cL_asks 301 = .ok (.if_icmp .ge 24, 3) := by decide +kernel
theorem dL_asks_304 : decode cL_asks 304 = .ok (.ldc2_w 184, 3) := by decide +kernel
theorem dL_asks_307 : decode cL_asks 307 = .ok (.lload_n 1, 1) := by decide +kernel
theorem dL_asks_308 : decode cL_asks 308 = .ok (.lmul, 1) := by decide +kernel
theorem dL_asks_309 : decode cL_asks 309 = .ok (.aload_n 0, 1) := by decide +kernel
theorem dL_asks_310 : decode cL_asks 310 = .ok (.iload_n 3, 1) := by decide +kernel
theorem dL_asks_311 : decode cL_asks 311 = .ok (.iload 4, 2) := by decide +kernel
theorem dL_asks_313 : decode cL_asks 313 = .ok (.invokestatic 227, 3) := by decide +kernel
theorem dL_asks_316 : decode cL_asks 316 = .ok (.i2l, 1) := by decide +kernel
theorem dL_asks_317 : decode cL_asks 317 = .ok (.ladd, 1) := by decide +kernel
theorem dL_asks_318 : decode cL_asks 318 = .ok (.lstore_n 1, 1) := by decide +kernel
theorem dL_asks_319 : decode cL_asks 319 = .ok (.iinc 4 1, 3) := by decide +kernel
theorem dL_asks_322 : decode cL_asks 322 = .ok (.goto (-24), 3) := by decide +kernel
theorem dL_asks_325 : decode cL_asks 325 = .ok (.iinc 3 1, 3) := by decide +kernel
theorem dL_asks_328 : decode cL_asks 328 = .ok (.goto (-39), 3) := by decide +kernel
theorem dL_asks_331 : decode cL_asks 331 = .ok (.iconst 0, 1) := by decide +kernel
theorem dL_asks_332 : decode cL_asks 332 = .ok (.istore_n 3, 1) := by decide +kernel
theorem dL_asks_333 : decode cL_asks 333 = .ok (.iload_n 3, 1) := by decide +kernel
theorem dL_asks_334 : decode cL_asks 334 = .ok (.iconst 4, 1) := by decide +kernel
theorem dL_asks_335 : decode cL_asks 335 = .ok (.if_icmp .ge 45, 3) := by decide +kernel
theorem dL_asks_338 : decode cL_asks 338 = .ok (.ldc2_w 184, 3) := by decide +kernel
theorem dL_asks_341 : decode cL_asks 341 = .ok (.ldc2_w 184, 3) := by decide +kernel
theorem dL_asks_344 : decode cL_asks 344 = .ok (.ldc2_w 184, 3) := by decide +kernel
theorem dL_asks_347 : decode cL_asks 347 = .ok (.lload_n 1, 1) := by decide +kernel
theorem dL_asks_348 : decode cL_asks 348 = .ok (.lmul, 1) := by decide +kernel
theorem dL_asks_349 : decode cL_asks 349 = .ok (.aload_n 0, 1) := by decide +kernel
theorem dL_asks_350 : decode cL_asks 350 = .ok (.iload_n 3, 1) := by decide +kernel
theorem dL_asks_351 : decode cL_asks 351 = .ok (.invokestatic 229, 3) := by decide +kernel
theorem dL_asks_354 : decode cL_asks 354 = .ok (.i2l, 1) := by decide +kernel
theorem dL_asks_355 : decode cL_asks 355 = .ok (.ladd, 1) := by decide +kernel
theorem dL_asks_356 : decode cL_asks 356 = .ok (.lmul, 1) := by decide +kernel
theorem dL_asks_357 : decode cL_asks 357 = .ok (.aload_n 0, 1) := by decide +kernel
theorem dL_asks_358 : decode cL_asks 358 = .ok (.iload_n 3, 1) := by decide +kernel
theorem dL_asks_359 : decode cL_asks 359 = .ok (.invokestatic 231, 3) := by decide +kernel
theorem dL_asks_362 : decode cL_asks 362 = .ok (.i2l, 1) := by decide +kernel
theorem dL_asks_363 : decode cL_asks 363 = .ok (.ladd, 1) := by decide +kernel
theorem dL_asks_364 : decode cL_asks 364 = .ok (.lmul, 1) := by decide +kernel
theorem dL_asks_365 : decode cL_asks 365 = .ok (.aload_n 0, 1) := by decide +kernel
theorem dL_asks_366 : decode cL_asks 366 = .ok (.iload_n 3, 1) := by decide +kernel
theorem dL_asks_367 : decode cL_asks 367 = .ok (.iload_n 3, 1) := by decide +kernel
theorem dL_asks_368 : decode cL_asks 368 = .ok (.invokestatic 233, 3) := by decide +kernel
theorem dL_asks_371 : decode cL_asks 371 = .ok (.i2l, 1) := by decide +kernel
theorem dL_asks_372 : decode cL_asks 372 = .ok (.ladd, 1) := by decide +kernel
theorem dL_asks_373 : decode cL_asks 373 = .ok (.lstore_n 1, 1) := by decide +kernel
theorem dL_asks_374 : decode cL_asks 374 = .ok (.iinc 3 1, 3) := by decide +kernel
theorem dL_asks_377 : decode cL_asks 377 = .ok (.goto (-44), 3) := by decide +kernel
theorem dL_asks_380 : decode cL_asks 380 = .ok (.lload_n 1, 1) := by decide +kernel
theorem dL_asks_381 : decode cL_asks 381 = .ok (.lreturn, 1) := by decide +kernel
