theorem dL_refused_0 : decode cL_refused 0 = .ok (.aload_n 0, 1) := by decide +kernel
theorem dL_refused_1 : decode cL_refused 1 = .ok (.invokestatic 278, 3) := by decide +kernel
theorem dL_refused_4 : decode cL_refused 4 = .ok (.lstore_n 1, 1) := by decide +kernel
theorem dL_refused_5 : decode cL_refused 5 = .ok (.aload_n 0, 1) := by decide +kernel
theorem dL_refused_6 : decode cL_refused 6 = .ok (.iconst 4, 1) := by decide +kernel
theorem dL_refused_7 : decode cL_refused 7 = .ok (.invokestatic 204, 3) := by decide +kernel
theorem dL_refused_10 : decode cL_refused 10 = .ok (.istore_n 3, 1) := by decide +kernel
theorem dL_refused_11 : decode cL_refused 11 = .ok (.aload_n 0, 1) := by decide +kernel
theorem dL_refused_12 : decode cL_refused 12 = .ok (.iconst 5, 1) := by decide +kernel
theorem dL_refused_13 : decode cL_refused 13 = .ok (.invokestatic 204, 3) := by decide +kernel
theorem dL_refused_16 : decode cL_refused 16 = .ok (.istore 4, 2) := by decide +kernel
theorem dL_refused_18 : decode cL_refused 18 = .ok (.aload_n 0, 1) := by decide +kernel
theorem dL_refused_19 : decode cL_refused 19 = .ok (.iconst 5, 1) := by decide +kernel
theorem dL_refused_20 : decode cL_refused 20 = .ok (.iconst 0, 1) := by decide +kernel
theorem dL_refused_21 : decode cL_refused 21 = .ok (.invokestatic 172, 3) := by decide +kernel
theorem dL_refused_24 : decode cL_refused 24 = .ok (.sipush (-1001), 3) := by decide +kernel
theorem dL_refused_27 : decode cL_refused 27 = .ok (.if_icmp .ne 396, 3) := by decide +kernel
theorem dL_refused_30 : decode cL_refused 30 = .ok (.aload_n 0, 1) := by decide +kernel
theorem dL_refused_31 : decode cL_refused 31 = .ok (.iconst 1, 1) := by decide +kernel
theorem dL_refused_32 : decode cL_refused 32 = .ok (.iconst 0, 1) := by decide +kernel
theorem dL_refused_33 : decode cL_refused 33 = .ok (.iconst 0, 1) := by decide +kernel
theorem dL_refused_34 : decode cL_refused 34 = .ok (.invokestatic 282, 3) := by decide +kernel
theorem dL_refused_37 : decode cL_refused 37 = .ok (.ifCond .eq 386, 3) := by decide +kernel
theorem dL_refused_40 : decode cL_refused 40 = .ok (.aload_n 0, 1) := by decide +kernel
theorem dL_refused_41 : decode cL_refused 41 = .ok (.iconst 0, 1) := by decide +kernel
theorem dL_refused_42 : decode cL_refused 42 = .ok (.sipush 901, 3) := by decide +kernel
theorem dL_refused_45 : decode cL_refused 45 = .ok (.invokestatic 172, 3) := by decide +kernel
theorem dL_refused_48 : decode cL_refused 48 = .ok (.sipush (-1001), 3) := by decide +kernel
theorem dL_refused_51 : decode cL_refused 51 = .ok (.if_icmp .ne 372, 3) := by decide +kernel
theorem dL_refused_54 : decode cL_refused 54 = .ok (.aload_n 0, 1) := by decide +kernel
theorem dL_refused_55 : decode cL_refused 55 = .ok (.iconst 0, 1) := by decide +kernel
theorem dL_refused_56 : decode cL_refused 56 = .ok (.iconst (-1), 1) := by decide +kernel
theorem dL_refused_57 : decode cL_refused 57 = .ok (.invokestatic 172, 3) := by decide +kernel
theorem dL_refused_60 : decode cL_refused 60 = .ok (.sipush (-1001), 3) := by decide +kernel
theorem dL_refused_63 : decode cL_refused 63 = .ok (.if_icmp .ne 360, 3) := by decide +kernel
theorem dL_refused_66 : decode cL_refused 66 = .ok (.aload_n 0, 1) := by decide +kernel
theorem dL_refused_67 : decode cL_refused 67 = .ok (.iconst 4, 1) := by decide +kernel
theorem dL_refused_68 : decode cL_refused 68 = .ok (.invokestatic 175, 3) := by decide +kernel
theorem dL_refused_71 : decode cL_refused 71 = .ok (.sipush (-1001), 3) := by decide +kernel
theorem dL_refused_74 : decode cL_refused 74 = .ok (.if_icmp .ne 349, 3) := by decide +kernel
theorem dL_refused_77 : decode cL_refused 77 = .ok (.aload_n 0, 1) := by decide +kernel
theorem dL_refused_78 : decode cL_refused 78 = .ok (.bipush 51, 2) := by decide +kernel
theorem dL_refused_80 : decode cL_refused 80 = .ok (.invokestatic 175, 3) := by decide +kernel
theorem dL_refused_83 : decode cL_refused 83 = .ok (.sipush (-1001), 3) := by decide +kernel
theorem dL_refused_86 : decode cL_refused 86 = .ok (.if_icmp .ne 337, 3) := by decide +kernel
theorem dL_refused_89 : decode cL_refused 89 = .ok (.aload_n 0, 1) := by decide +kernel
theorem dL_refused_90 : decode cL_refused 90 = .ok (.iload 4, 2) := by decide +kernel
theorem dL_refused_92 : decode cL_refused 92 = .ok (.iload_n 3, 1) := by decide +kernel
theorem dL_refused_93 : decode cL_refused 93 = .ok (.iconst 0, 1) := by decide +kernel
theorem dL_refused_94 : decode cL_refused 94 = .ok (.invokestatic 177, 3) := by decide +kernel
theorem dL_refused_97 : decode cL_refused 97 = .ok (.sipush (-1001), 3) := by decide +kernel
theorem dL_refused_100 : decode cL_refused 100 = .ok (.if_icmp .ne 323, 3) := by decide +kernel
theorem dL_refused_103 : decode cL_refused 103 = .ok (.aload_n 0, 1) := by decide +kernel
theorem dL_refused_104 : decode cL_refused 104 = .ok (.iconst 3, 1) := by decide +kernel
theorem dL_refused_105 : decode cL_refused 105 = .ok (.iload 4, 2) := by decide +kernel
theorem dL_refused_107 : decode cL_refused 107 = .ok (.iconst 0, 1) := by decide +kernel
theorem dL_refused_108 : decode cL_refused 108 = .ok (.invokestatic 282, 3) := by decide +kernel
theorem dL_refused_111 : decode cL_refused 111 = .ok (.ifCond .eq 312, 3) := by decide +kernel
theorem dL_refused_114 : decode cL_refused 114 = .ok (.aload_n 0, 1) := by decide +kernel
theorem dL_refused_115 : decode cL_refused 115 = .ok (.iconst 0, 1) := by decide +kernel
theorem dL_refused_116 : decode cL_refused 116 = .ok (.iload_n 3, 1) := by decide +kernel
theorem dL_refused_117 : decode cL_refused 117 = .ok (.iconst 0, 1) := by decide +kernel
theorem dL_refused_118 : decode cL_refused 118 = .ok (.invokestatic 177, 3) := by decide +kernel
theorem dL_refused_121 : decode cL_refused 121 = .ok (.sipush (-1001), 3) := by decide +kernel
theorem dL_refused_124 : decode cL_refused 124 = .ok (.if_icmp .ne 299, 3) := by decide +kernel
theorem dL_refused_127 : decode cL_refused 127 = .ok (.aload_n 0, 1) := by decide +kernel
theorem dL_refused_128 : decode cL_refused 128 = .ok (.iconst 3, 1) := by decide +kernel
theorem dL_refused_129 : decode cL_refused 129 = .ok (.iload_n 3, 1) := by decide +kernel
theorem dL_refused_130 : decode cL_refused 130 = .ok (.iconst 0, 1) := by decide +kernel
theorem dL_refused_131 : decode cL_refused 131 = .ok (.invokestatic 282, 3) := by decide +kernel
theorem dL_refused_134 : decode cL_refused 134 = .ok (.ifCond .eq 289, 3) := by decide +kernel
theorem dL_refused_137 : decode cL_refused 137 = .ok (.aload_n 0, 1) := by decide +kernel
theorem dL_refused_138 : decode cL_refused 138 = .ok (.iconst 0, 1) := by decide +kernel
theorem dL_refused_139 : decode cL_refused 139 = .ok (.iconst 0, 1) := by decide +kernel
theorem dL_refused_140 : decode cL_refused 140 = .ok (.iconst 0, 1) := by decide +kernel
theorem dL_refused_141 : decode cL_refused 141 = .ok (.invokestatic 177, 3) := by decide +kernel
theorem dL_refused_144 : decode cL_refused 144 = .ok (.sipush (-1001), 3) := by decide +kernel
theorem dL_refused_147 : decode cL_refused 147 = .ok (.if_icmp .ne 276, 3) := by decide +kernel
theorem dL_refused_150 : decode cL_refused 150 = .ok (.aload_n 0, 1) := by decide +kernel
theorem dL_refused_151 : decode cL_refused 151 = .ok (.iconst 1, 1) := by decide +kernel
theorem dL_refused_152 : decode cL_refused 152 = .ok (.iconst 0, 1) := by decide +kernel
theorem dL_refused_153 : decode cL_refused 153 = .ok (.iconst 0, 1) := by decide +kernel
theorem dL_refused_154 : decode cL_refused 154 = .ok (.invokestatic 282, 3) := by decide +kernel
theorem dL_refused_157 : decode cL_refused 157 = .ok (.ifCond .eq 266, 3) := by decide +kernel
theorem dL_refused_160 : decode cL_refused 160 = .ok (.aload_n 0, 1) := by decide +kernel
theorem dL_refused_161 : decode cL_refused 161 = .ok (.iconst 0, 1) := by decide +kernel
theorem dL_refused_162 : decode cL_refused 162 = .ok (.iconst 0, 1) := by decide +kernel
theorem dL_refused_163 : decode cL_refused 163 = .ok (.sipush 401, 3) := by decide +kernel
theorem dL_refused_166 : decode cL_refused 166 = .ok (.invokestatic 177, 3) := by decide +kernel
theorem dL_refused_169 : decode cL_refused 169 = .ok (.sipush (-1001), 3) := by decide +kernel
theorem dL_refused_172 : decode cL_refused 172 = .ok (.if_icmp .ne 251, 3) := by decide +kernel
theorem dL_refused_175 : decode cL_refused 175 = .ok (.aload_n 0, 1) := by decide +kernel
theorem dL_refused_176 : decode cL_refused 176 = .ok (.iconst (-1), 1) := by decide +kernel
theorem dL_refused_177 : decode cL_refused 177 = .ok (.iconst 0, 1) := by decide +kernel
theorem dL_refused_178 : decode cL_refused 178 = .ok (.invokestatic 235, 3) := by decide +kernel
theorem dL_refused_181 : decode cL_refused 181 = .ok (.sipush (-1001), 3) := by decide +kernel
theorem dL_refused_184 : decode cL_refused 184 = .ok (.if_icmp .ne 239, 3) := by decide +kernel
theorem dL_refused_187 : decode cL_refused 187 = .ok (.aload_n 0, 1) := by decide +kernel
theorem dL_refused_188 : decode cL_refused 188 = .ok (.iconst 3, 1) := by decide +kernel
theorem dL_refused_189 : decode cL_refused 189 = .ok (.iconst (-1), 1) := by decide +kernel
theorem dL_refused_190 : decode cL_refused 190 = .ok (.iconst 0, 1) := by decide +kernel
theorem dL_refused_191 : decode cL_refused 191 = .ok (.invokestatic 282, 3) := by decide +kernel
theorem dL_refused_194 : decode cL_refused 194 = .ok (.ifCond .eq 229, 3) := by decide +kernel
theorem dL_refused_197 : decode cL_refused 197 = .ok (.aload_n 0, 1) := by decide +kernel
theorem dL_refused_198 : decode cL_refused 198 = .ok (.iconst 0, 1) := by decide +kernel
theorem dL_refused_199 : decode cL_refused 199 = .ok (.bipush (-2), 2) := by decide +kernel
theorem dL_refused_201 : decode cL_refused 201 = .ok (.invokestatic 235, 3) := by decide +kernel
theorem dL_refused_204 : decode cL_refused 204 = .ok (.sipush (-1001), 3) := by decide +kernel
theorem dL_refused_207 : decode cL_refused 207 = .ok (.if_icmp .ne 216, 3) := by decide +kernel
theorem dL_refused_210 : decode cL_refused 210 = .ok (.aload_n 0, 1) := by decide +kernel
theorem dL_refused_211 : decode cL_refused 211 = .ok (.iconst 3, 1) := by decide +kernel
theorem dL_refused_212 : decode cL_refused 212 = .ok (.bipush (-2), 2) := by decide +kernel
theorem dL_refused_214 : decode cL_refused 214 = .ok (.iconst 0, 1) := by decide +kernel
theorem dL_refused_215 : decode cL_refused 215 = .ok (.invokestatic 282, 3) := by decide +kernel
theorem dL_refused_218 : decode cL_refused 218 = .ok (.ifCond .eq 205, 3) := by decide +kernel
theorem dL_refused_221 : decode cL_refused 221 = .ok (.aload_n 0, 1) := by decide +kernel
theorem dL_refused_222 : decode cL_refused 222 = .ok (.iload 4, 2) := by decide +kernel
theorem dL_refused_224 : decode cL_refused 224 = .ok (.invokestatic 237, 3) := by decide +kernel
theorem dL_refused_227 : decode cL_refused 227 = .ok (.sipush (-1001), 3) := by decide +kernel
theorem dL_refused_230 : decode cL_refused 230 = .ok (.if_icmp .ne 193, 3) := by decide +kernel
theorem dL_refused_233 : decode cL_refused 233 = .ok (.aload_n 0, 1) := by decide +kernel
theorem dL_refused_234 : decode cL_refused 234 = .ok (.bipush 31, 2) := by decide +kernel
theorem dL_refused_236 : decode cL_refused 236 = .ok (.invokestatic 239, 3) := by decide +kernel
theorem dL_refused_239 : decode cL_refused 239 = .ok (.sipush (-1001), 3) := by decide +kernel
theorem dL_refused_242 : decode cL_refused 242 = .ok (.if_icmp .ne 181, 3) := by decide +kernel
theorem dL_refused_245 : decode cL_refused 245 = .ok (.aload_n 0, 1) := by decide +kernel
theorem dL_refused_246 : decode cL_refused 246 = .ok (.iconst 1, 1) := by decide +kernel
theorem dL_refused_247 : decode cL_refused 247 = .ok (.iconst 0, 1) := by decide +kernel
theorem dL_refused_248 : decode cL_refused 248 = .ok (.iconst 0, 1) := by decide +kernel
theorem dL_refused_249 : decode cL_refused 249 = .ok (.invokestatic 282, 3) := by decide +kernel
theorem dL_refused_252 : decode cL_refused 252 = .ok (.ifCond .eq 171, 3) := by decide +kernel
theorem dL_refused_255 : decode cL_refused 255 = .ok (.aload_n 0, 1) := by decide +kernel
theorem dL_refused_256 : decode cL_refused 256 = .ok (.iconst (-1), 1) := by decide +kernel
theorem dL_refused_257 : decode cL_refused 257 = .ok (.invokestatic 239, 3) := by decide +kernel
theorem dL_refused_260 : decode cL_refused 260 = .ok (.sipush (-1001), 3) := by decide +kernel
theorem dL_refused_263 : decode cL_refused 263 = .ok (.if_icmp .ne 160, 3) := by decide +kernel
theorem dL_refused_266 : decode cL_refused 266 = .ok (.aload_n 0, 1) := by decide +kernel
theorem dL_refused_267 : decode cL_refused 267 = .ok (.iload 4, 2) := by decide +kernel
theorem dL_refused_269 : decode cL_refused 269 = .ok (.invokestatic 241, 3) := by decide +kernel
theorem dL_refused_272 : decode cL_refused 272 = .ok (.sipush (-1001), 3) := by decide +kernel
theorem dL_refused_275 : decode cL_refused 275 = .ok (.if_icmp .ne 148, 3) := by decide +kernel
theorem dL_refused_278 : decode cL_refused 278 = .ok (.aload_n 0, 1) := by decide +kernel
theorem dL_refused_279 : decode cL_refused 279 = .ok (.iconst 3, 1) := by decide +kernel
theorem dL_refused_280 : decode cL_refused 280 = .ok (.iload 4, 2) := by decide +kernel
theorem dL_refused_282 : decode cL_refused 282 = .ok (.iconst 0, 1) := by decide +kernel
theorem dL_refused_283 : decode cL_refused 283 = .ok (.invokestatic 282, 3) := by decide +kernel
theorem dL_refused_286 : decode cL_refused 286 = .ok (.ifCond .eq 137, 3) := by decide +kernel
theorem dL_refused_289 : decode cL_refused 289 = .ok (.aload_n 0, 1) := by decide +kernel
theorem dL_refused_290 : decode cL_refused 290 = .ok (.iload 4, 2) := by decide +kernel
theorem dL_refused_292 : decode cL_refused 292 = .ok (.invokestatic 243, 3) := by decide +kernel
theorem dL_refused_295 : decode cL_refused 295 = .ok (.sipush (-1001), 3) := by decide +kernel
theorem dL_refused_298 : decode cL_refused 298 = .ok (.if_icmp .ne 125, 3) := by decide +kernel
theorem dL_refused_301 : decode cL_refused 301 = .ok (.aload_n 0, 1) := by decide +kernel
theorem dL_refused_302 : decode cL_refused 302 = .ok (.iconst 4, 1) := by decide +kernel
theorem dL_refused_303 : decode cL_refused 303 = .ok (.invokestatic 182, 3) := by decide +kernel
theorem dL_refused_306 : decode cL_refused 306 = .ok (.sipush (-1001), 3) := by decide +kernel
theorem dL_refused_309 : decode cL_refused 309 = .ok (.if_icmp .ne 114, 3) := by decide +kernel
theorem dL_refused_312 : decode cL_refused 312 = .ok (.aload_n 0, 1) := by decide +kernel
theorem dL_refused_313 : decode cL_refused 313 = .ok (.iconst 3, 1) := by decide +kernel
theorem dL_refused_314 : decode cL_refused 314 = .ok (.iconst 4, 1) := by decide +kernel
theorem dL_refused_315 : decode cL_refused 315 = .ok (.iconst 0, 1) := by decide +kernel
theorem dL_refused_316 : decode cL_refused 316 = .ok (.invokestatic 282, 3) := by decide +kernel
theorem dL_refused_319 : decode cL_refused 319 = .ok (.ifCond .eq 104, 3) := by decide +kernel
theorem dL_refused_322 : decode cL_refused 322 = .ok (.aload_n 0, 1) := by decide +kernel
theorem dL_refused_323 : decode cL_refused 323 = .ok (.aload_n 0, 1) := by decide +kernel
theorem dL_refused_324 : decode cL_refused 324 = .ok (.iconst 1, 1) := by decide +kernel
theorem dL_refused_325 : decode cL_refused 325 = .ok (.invokestatic 204, 3) := by decide +kernel
theorem dL_refused_328 : decode cL_refused 328 = .ok (.invokestatic 182, 3) := by decide +kernel
theorem dL_refused_331 : decode cL_refused 331 = .ok (.sipush (-1001), 3) := by decide +kernel
theorem dL_refused_334 : decode cL_refused 334 = .ok (.if_icmp .ne 89, 3) := by decide +kernel
theorem dL_refused_337 : decode cL_refused 337 = .ok (.aload_n 0, 1) := by decide +kernel
theorem dL_refused_338 : decode cL_refused 338 = .ok (.bipush 13, 2) := by decide +kernel
theorem dL_refused_340 : decode cL_refused 340 = .ok (.aload_n 0, 1) := by decide +kernel
theorem dL_refused_341 : decode cL_refused 341 = .ok (.iconst 1, 1) := by decide +kernel
theorem dL_refused_342 : decode cL_refused 342 = .ok (.invokestatic 204, 3) := by decide +kernel
theorem dL_refused_345 : decode cL_refused 345 = .ok (.iconst 0, 1) := by decide +kernel
theorem dL_refused_346 : decode cL_refused 346 = .ok (.invokestatic 282, 3) := by decide +kernel
theorem dL_refused_349 : decode cL_refused 349 = .ok (.ifCond .eq 74, 3) := by decide +kernel
theorem dL_refused_352 : decode cL_refused 352 = .ok (.aload_n 0, 1) := by decide +kernel
theorem dL_refused_353 : decode cL_refused 353 = .ok (.bipush 8, 2) := by decide +kernel
theorem dL_refused_355 : decode cL_refused 355 = .ok (.invokestatic 247, 3) := by decide +kernel
theorem dL_refused_358 : decode cL_refused 358 = .ok (.sipush (-1001), 3) := by decide +kernel
theorem dL_refused_361 : decode cL_refused 361 = .ok (.if_icmp .ne 62, 3) := by decide +kernel
theorem dL_refused_364 : decode cL_refused 364 = .ok (.aload_n 0, 1) := by decide +kernel
theorem dL_refused_365 : decode cL_refused 365 = .ok (.iconst 3, 1) := by decide +kernel
theorem dL_refused_366 : decode cL_refused 366 = .ok (.bipush 8, 2) := by decide +kernel
theorem dL_refused_368 : decode cL_refused 368 = .ok (.iconst 0, 1) := by decide +kernel
theorem dL_refused_369 : decode cL_refused 369 = .ok (.invokestatic 282, 3) := by decide +kernel
theorem dL_refused_372 : decode cL_refused 372 = .ok (.ifCond .eq 51, 3) := by decide +kernel
theorem dL_refused_375 : decode cL_refused 375 = .ok (.aload_n 0, 1) := by decide +kernel
theorem dL_refused_376 : decode cL_refused 376 = .ok (.iconst (-1), 1) := by decide +kernel
theorem dL_refused_377 : decode cL_refused 377 = .ok (.invokestatic 247, 3) := by decide +kernel
theorem dL_refused_380 : decode cL_refused 380 = .ok (.sipush (-1001), 3) := by decide +kernel
theorem dL_refused_383 : decode cL_refused 383 = .ok (.if_icmp .ne 40, 3) := by decide +kernel
theorem dL_refused_386 : decode cL_refused 386 = .ok (.aload_n 0, 1) := by decide +kernel
theorem dL_refused_387 : decode cL_refused 387 = .ok (.iconst 0, 1) := by decide +kernel
theorem dL_refused_388 : decode cL_refused 388 = .ok (.invokestatic 180, 3) := by decide +kernel
theorem dL_refused_391 : decode cL_refused 391 = .ok (.sipush (-1001), 3) := by decide +kernel
theorem dL_refused_394 : decode cL_refused 394 = .ok (.if_icmp .ne 29, 3) := by decide +kernel
theorem dL_refused_397 : decode cL_refused 397 = .ok (.aload_n 0, 1) := by decide +kernel
theorem dL_refused_398 : decode cL_refused 398 = .ok (.bipush 61, 2) := by decide +kernel
theorem dL_refused_400 : decode cL_refused 400 = .ok (.invokestatic 180, 3) := by decide +kernel
theorem dL_refused_403 : decode cL_refused 403 = .ok (.sipush (-1001), 3) := by decide +kernel
theorem dL_refused_406 : decode cL_refused 406 = .ok (.if_icmp .ne 17, 3) := by decide +kernel
theorem dL_refused_409 : decode cL_refused 409 = .ok (.aload_n 0, 1) := by decide +kernel
theorem dL_refused_410 : decode cL_refused 410 = .ok (.iconst 1, 1) := by decide +kernel
theorem dL_refused_411 : decode cL_refused 411 = .ok (.iconst 0, 1) := by decide +kernel
theorem dL_refused_412 : decode cL_refused 412 = .ok (.iconst 0, 1) := by decide +kernel
theorem dL_refused_413 : decode cL_refused 413 = .ok (.invokestatic 282, 3) := by decide +kernel
