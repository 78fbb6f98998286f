theorem dL_changes_0 : decode cL_changes 0 = .ok (.iload_n 1, 1) := by decide +kernel
theorem dL_changes_1 : decode cL_changes 1 = .ok (.iconst 4, 1) := by decide +kernel
theorem dL_changes_2 : decode cL_changes 2 = .ok (.ishr, 1) := by decide +kernel
theorem dL_changes_3 : decode cL_changes 3 = .ok (.aload_n 0, 1) := by decide +kernel
theorem dL_changes_4 : decode cL_changes 4 = .ok (.iconst 5, 1) := by decide +kernel
theorem dL_changes_5 : decode cL_changes 5 = .ok (.invokestatic 204, 3) := by decide +kernel
theorem dL_changes_8 : decode cL_changes 8 = .ok (.iconst 1, 1) := by decide +kernel
theorem dL_changes_9 : decode cL_changes 9 = .ok (.iadd, 1) := by decide +kernel
theorem dL_changes_10 : decode cL_changes 10 = .ok (.invokestatic 169, 3) := by decide +kernel
theorem dL_changes_13 : decode cL_changes 13 = .ok (.istore_n 2, 1) := by decide +kernel
theorem dL_changes_14 : decode cL_changes 14 = .ok (.iload_n 1, 1) := by decide +kernel
theorem dL_changes_15 : decode cL_changes 15 = .ok (.bipush 7, 2) := by decide +kernel
theorem dL_changes_17 : decode cL_changes 17 = .ok (.ishr, 1) := by decide +kernel
theorem dL_changes_18 : decode cL_changes 18 = .ok (.aload_n 0, 1) := by decide +kernel
theorem dL_changes_19 : decode cL_changes 19 = .ok (.iconst 4, 1) := by decide +kernel
theorem dL_changes_20 : decode cL_changes 20 = .ok (.invokestatic 204, 3) := by decide +kernel
theorem dL_changes_23 : decode cL_changes 23 = .ok (.iconst 1, 1) := by decide +kernel
theorem dL_changes_24 : decode cL_changes 24 = .ok (.iadd, 1) := by decide +kernel
theorem dL_changes_25 : decode cL_changes 25 = .ok (.invokestatic 169, 3) := by decide +kernel
theorem dL_changes_28 : decode cL_changes 28 = .ok (.istore_n 3, 1) := by decide +kernel
theorem dL_changes_29 : decode cL_changes 29 = .ok (.iload_n 1, 1) := by decide +kernel
theorem dL_changes_30 : decode cL_changes 30 = .ok (.bipush 17, 2) := by decide +kernel
theorem dL_changes_32 : decode cL_changes 32 = .ok (.invokestatic 169, 3) := by decide +kernel
theorem dL_changes_35 : decode cL_changes 35 = .ok (.tableswitch 305 0 14 #[73, 104, 127, 127, 152, 167, 181, 202, 202, 216, 216, 230, 243, 263, 284], 73) := by decide +kernel
theorem dL_changes_108 : decode cL_changes 108 = .ok (.aload_n 0, 1) := by decide +kernel
theorem dL_changes_109 : decode cL_changes 109 = .ok (.iload_n 1, 1) := by decide +kernel
theorem dL_changes_110 : decode cL_changes 110 = .ok (.iconst 4, 1) := by decide +kernel
theorem dL_changes_111 : decode cL_changes 111 = .ok (.ishr, 1) := by decide +kernel
theorem dL_changes_112 : decode cL_changes 112 = .ok (.bipush 6, 2) := by decide +kernel
theorem dL_changes_114 : decode cL_changes 114 = .ok (.invokestatic 169, 3) := by decide +kernel
theorem dL_changes_117 : decode cL_changes 117 = .ok (.iload_n 1, 1) := by decide +kernel
theorem dL_changes_118 : decode cL_changes 118 = .ok (.bipush 6, 2) := by decide +kernel
theorem dL_changes_120 : decode cL_changes 120 = .ok (.ishr, 1) := by decide +kernel
theorem dL_changes_121 : decode cL_changes 121 = .ok (.sipush 902, 3) := by decide +kernel
theorem dL_changes_124 : decode cL_changes 124 = .ok (.invokestatic 169, 3) := by decide +kernel
theorem dL_changes_127 : decode cL_changes 127 = .ok (.invokestatic 172, 3) := by decide +kernel
theorem dL_changes_130 : decode cL_changes 130 = .ok (.ifCond .lt 7, 3) := by decide +kernel
theorem dL_changes_133 : decode cL_changes 133 = .ok (.iconst 1, 1) := by decide +kernel
theorem dL_changes_134 : decode cL_changes 134 = .ok (.goto 4, 3) := by decide +kernel
theorem dL_changes_137 : decode cL_changes 137 = .ok (.iconst 0, 1) := by decide +kernel
theorem dL_changes_138 : decode cL_changes 138 = .ok (.ireturn, 1) := by decide +kernel
theorem dL_changes_139 : decode cL_changes 139 = .ok (.aload_n 0, 1) := by decide +kernel
theorem dL_changes_140 : decode cL_changes 140 = .ok (.iconst 4, 1) := by decide +kernel
theorem dL_changes_141 : decode cL_changes 141 = .ok (.iload_n 1, 1) := by decide +kernel
theorem dL_changes_142 : decode cL_changes 142 = .ok (.iconst 4, 1) := by decide +kernel
theorem dL_changes_143 : decode cL_changes 143 = .ok (.ishr, 1) := by decide +kernel
theorem dL_changes_144 : decode cL_changes 144 = .ok (.bipush 48, 2) := by decide +kernel
theorem dL_changes_146 : decode cL_changes 146 = .ok (.invokestatic 169, 3) := by decide +kernel
theorem dL_changes_149 : decode cL_changes 149 = .ok (.iadd, 1) := by decide +kernel
theorem dL_changes_150 : decode cL_changes 150 = .ok (.invokestatic 175, 3) := by decide +kernel
theorem dL_changes_153 : decode cL_changes 153 = .ok (.ifCond .lt 7, 3) := by decide +kernel
theorem dL_changes_156 : decode cL_changes 156 = .ok (.iconst 1, 1) := by decide +kernel
theorem dL_changes_157 : decode cL_changes 157 = .ok (.goto 4, 3) := by decide +kernel
theorem dL_changes_160 : decode cL_changes 160 = .ok (.iconst 0, 1) := by decide +kernel
theorem dL_changes_161 : decode cL_changes 161 = .ok (.ireturn, 1) := by decide +kernel
theorem dL_changes_162 : decode cL_changes 162 = .ok (.aload_n 0, 1) := by decide +kernel
theorem dL_changes_163 : decode cL_changes 163 = .ok (.iload_n 2, 1) := by decide +kernel
theorem dL_changes_164 : decode cL_changes 164 = .ok (.iload_n 3, 1) := by decide +kernel
theorem dL_changes_165 : decode cL_changes 165 = .ok (.iload_n 1, 1) := by decide +kernel
theorem dL_changes_166 : decode cL_changes 166 = .ok (.bipush 8, 2) := by decide +kernel
theorem dL_changes_168 : decode cL_changes 168 = .ok (.ishr, 1) := by decide +kernel
theorem dL_changes_169 : decode cL_changes 169 = .ok (.sipush 402, 3) := by decide +kernel
theorem dL_changes_172 : decode cL_changes 172 = .ok (.invokestatic 169, 3) := by decide +kernel
theorem dL_changes_175 : decode cL_changes 175 = .ok (.invokestatic 177, 3) := by decide +kernel
theorem dL_changes_178 : decode cL_changes 178 = .ok (.ifCond .lt 7, 3) := by decide +kernel
theorem dL_changes_181 : decode cL_changes 181 = .ok (.iconst 1, 1) := by decide +kernel
theorem dL_changes_182 : decode cL_changes 182 = .ok (.goto 4, 3) := by decide +kernel
theorem dL_changes_185 : decode cL_changes 185 = .ok (.iconst 0, 1) := by decide +kernel
theorem dL_changes_186 : decode cL_changes 186 = .ok (.ireturn, 1) := by decide +kernel
theorem dL_changes_187 : decode cL_changes 187 = .ok (.aload_n 0, 1) := by decide +kernel
theorem dL_changes_188 : decode cL_changes 188 = .ok (.iload_n 2, 1) := by decide +kernel
theorem dL_changes_189 : decode cL_changes 189 = .ok (.iload_n 3, 1) := by decide +kernel
theorem dL_changes_190 : decode cL_changes 190 = .ok (.invokestatic 235, 3) := by decide +kernel
theorem dL_changes_193 : decode cL_changes 193 = .ok (.ifCond .lt 7, 3) := by decide +kernel
theorem dL_changes_196 : decode cL_changes 196 = .ok (.iconst 1, 1) := by decide +kernel
theorem dL_changes_197 : decode cL_changes 197 = .ok (.goto 4, 3) := by decide +kernel
theorem dL_changes_200 : decode cL_changes 200 = .ok (.iconst 0, 1) := by decide +kernel
theorem dL_changes_201 : decode cL_changes 201 = .ok (.ireturn, 1) := by decide +kernel
theorem dL_changes_202 : decode cL_changes 202 = .ok (.aload_n 0, 1) := by decide +kernel
theorem dL_changes_203 : decode cL_changes 203 = .ok (.iload_n 2, 1) := by decide +kernel
theorem dL_changes_204 : decode cL_changes 204 = .ok (.invokestatic 237, 3) := by decide +kernel
theorem dL_changes_207 : decode cL_changes 207 = .ok (.ifCond .lt 7, 3) := by decide +kernel
theorem dL_changes_210 : decode cL_changes 210 = .ok (.iconst 1, 1) := by decide +kernel
theorem dL_changes_211 : decode cL_changes 211 = .ok (.goto 4, 3) := by decide +kernel
theorem dL_changes_214 : decode cL_changes 214 = .ok (.iconst 0, 1) := by decide +kernel
theorem dL_changes_215 : decode cL_changes 215 = .ok (.ireturn, 1) := by decide +kernel
theorem dL_changes_216 : decode cL_changes 216 = .ok (.aload_n 0, 1) := by decide +kernel
theorem dL_changes_217 : decode cL_changes 217 = .ok (.iload_n 1, 1) := by decide +kernel
theorem dL_changes_218 : decode cL_changes 218 = .ok (.iconst 4, 1) := by decide +kernel
theorem dL_changes_219 : decode cL_changes 219 = .ok (.ishr, 1) := by decide +kernel
theorem dL_changes_220 : decode cL_changes 220 = .ok (.bipush 32, 2) := by decide +kernel
theorem dL_changes_222 : decode cL_changes 222 = .ok (.invokestatic 169, 3) := by decide +kernel
theorem dL_changes_225 : decode cL_changes 225 = .ok (.invokestatic 239, 3) := by decide +kernel
theorem dL_changes_228 : decode cL_changes 228 = .ok (.ifCond .lt 7, 3) := by decide +kernel
theorem dL_changes_231 : decode cL_changes 231 = .ok (.iconst 1, 1) := by decide +kernel
theorem dL_changes_232 : decode cL_changes 232 = .ok (.goto 4, 3) := by decide +kernel
theorem dL_changes_235 : decode cL_changes 235 = .ok (.iconst 0, 1) := by decide +kernel
theorem dL_changes_236 : decode cL_changes 236 = .ok (.ireturn, 1) := by decide +kernel
theorem dL_changes_237 : decode cL_changes 237 = .ok (.aload_n 0, 1) := by decide +kernel
theorem dL_changes_238 : decode cL_changes 238 = .ok (.iload_n 2, 1) := by decide +kernel
theorem dL_changes_239 : decode cL_changes 239 = .ok (.invokestatic 241, 3) := by decide +kernel
theorem dL_changes_242 : decode cL_changes 242 = .ok (.ifCond .lt 7, 3) := by decide +kernel
theorem dL_changes_245 : decode cL_changes 245 = .ok (.iconst 1, 1) := by decide +kernel
theorem dL_changes_246 : decode cL_changes 246 = .ok (.goto 4, 3) := by decide +kernel
theorem dL_changes_249 : decode cL_changes 249 = .ok (.iconst 0, 1) := by decide +kernel
theorem dL_changes_250 : decode cL_changes 250 = .ok (.ireturn, 1) := by decide +kernel
theorem dL_changes_251 : decode cL_changes 251 = .ok (.aload_n 0, 1) := by decide +kernel
theorem dL_changes_252 : decode cL_changes 252 = .ok (.iload_n 2, 1) := by decide +kernel
theorem dL_changes_253 : decode cL_changes 253 = .ok (.invokestatic 243, 3) := by decide +kernel
theorem dL_changes_256 : decode cL_changes 256 = .ok (.ifCond .lt 7, 3) := by decide +kernel
theorem dL_changes_259 : decode cL_changes 259 = .ok (.iconst 1, 1) := by decide +kernel
theorem dL_changes_260 : decode cL_changes 260 = .ok (.goto 4, 3) := by decide +kernel
theorem dL_changes_263 : decode cL_changes 263 = .ok (.iconst 0, 1) := by decide +kernel
theorem dL_changes_264 : decode cL_changes 264 = .ok (.ireturn, 1) := by decide +kernel
theorem dL_changes_265 : decode cL_changes 265 = .ok (.aload_n 0, 1) := by decide +kernel
theorem dL_changes_266 : decode cL_changes 266 = .ok (.invokestatic 245, 3) := by decide +kernel
theorem dL_changes_269 : decode cL_changes 269 = .ok (.ifCond .lt 7, 3) := by decide +kernel
theorem dL_changes_272 : decode cL_changes 272 = .ok (.iconst 1, 1) := by decide +kernel
theorem dL_changes_273 : decode cL_changes 273 = .ok (.goto 4, 3) := by decide +kernel
theorem dL_changes_276 : decode cL_changes 276 = .ok (.iconst 0, 1) := by decide +kernel
theorem dL_changes_277 : decode cL_changes 277 = .ok (.ireturn, 1) := by decide +kernel
theorem dL_changes_278 : decode cL_changes 278 = .ok (.aload_n 0, 1) := by decide +kernel
theorem dL_changes_279 : decode cL_changes 279 = .ok (.iload_n 1, 1) := by decide +kernel
theorem dL_changes_280 : decode cL_changes 280 = .ok (.iconst 4, 1) := by decide +kernel
theorem dL_changes_281 : decode cL_changes 281 = .ok (.ishr, 1) := by decide +kernel
theorem dL_changes_282 : decode cL_changes 282 = .ok (.iconst 5, 1) := by decide +kernel
theorem dL_changes_283 : decode cL_changes 283 = .ok (.invokestatic 169, 3) := by decide +kernel
theorem dL_changes_286 : decode cL_changes 286 = .ok (.invokestatic 182, 3) := by decide +kernel
theorem dL_changes_289 : decode cL_changes 289 = .ok (.ifCond .lt 7, 3) := by decide +kernel
theorem dL_changes_292 : decode cL_changes 292 = .ok (.iconst 1, 1) := by decide +kernel
theorem dL_changes_293 : decode cL_changes 293 = .ok (.goto 4, 3) := by decide +kernel
theorem dL_changes_296 : decode cL_changes 296 = .ok (.iconst 0, 1) := by decide +kernel
theorem dL_changes_297 : decode cL_changes 297 = .ok (.ireturn, 1) := by decide +kernel
theorem dL_changes_298 : decode cL_changes 298 = .ok (.aload_n 0, 1) := by decide +kernel
theorem dL_changes_299 : decode cL_changes 299 = .ok (.iload_n 1, 1) := by decide +kernel
theorem dL_changes_300 : decode cL_changes 300 = .ok (.iconst 4, 1) := by decide +kernel
theorem dL_changes_301 : decode cL_changes 301 = .ok (.ishr, 1) := by decide +kernel
theorem dL_changes_302 : decode cL_changes 302 = .ok (.bipush 9, 2) := by decide +kernel
theorem dL_changes_304 : decode cL_changes 304 = .ok (.invokestatic 169, 3) := by decide +kernel
theorem dL_changes_307 : decode cL_changes 307 = .ok (.invokestatic 247, 3) := by decide +kernel
theorem dL_changes_310 : decode cL_changes 310 = .ok (.ifCond .lt 7, 3) := by decide +kernel
theorem dL_changes_313 : decode cL_changes 313 = .ok (.iconst 1, 1) := by decide +kernel
theorem dL_changes_314 : decode cL_changes 314 = .ok (.goto 4, 3) := by decide +kernel
theorem dL_changes_317 : decode cL_changes 317 = .ok (.iconst 0, 1) := by decide +kernel
theorem dL_changes_318 : decode cL_changes 318 = .ok (.ireturn, 1) := by decide +kernel
theorem dL_changes_319 : decode cL_changes 319 = .ok (.aload_n 0, 1) := by decide +kernel
theorem dL_changes_320 : decode cL_changes 320 = .ok (.iload_n 1, 1) := by decide +kernel
theorem dL_changes_321 : decode cL_changes 321 = .ok (.iconst 4, 1) := by decide +kernel
theorem dL_changes_322 : decode cL_changes 322 = .ok (.ishr, 1) := by decide +kernel
theorem dL_changes_323 : decode cL_changes 323 = .ok (.bipush 62, 2) := by decide +kernel
theorem dL_changes_325 : decode cL_changes 325 = .ok (.invokestatic 169, 3) := by decide +kernel
theorem dL_changes_328 : decode cL_changes 328 = .ok (.invokestatic 180, 3) := by decide +kernel
theorem dL_changes_331 : decode cL_changes 331 = .ok (.ifCond .lt 7, 3) := by decide +kernel
theorem dL_changes_334 : decode cL_changes 334 = .ok (.iconst 1, 1) := by decide +kernel
theorem dL_changes_335 : decode cL_changes 335 = .ok (.goto 4, 3) := by decide +kernel
theorem dL_changes_338 : decode cL_changes 338 = .ok (.iconst 0, 1) := by decide +kernel
theorem dL_changes_339 : decode cL_changes 339 = .ok (.ireturn, 1) := by decide +kernel
theorem dL_changes_340 : decode cL_changes 340 = .ok (.aload_n 0, 1) := by decide +kernel
theorem dL_changes_341 : decode cL_changes 341 = .ok (.iload_n 1, 1) := by decide +kernel
theorem dL_changes_342 : decode cL_changes 342 = .ok (.bipush 6, 2) := by decide +kernel
theorem dL_changes_344 : decode cL_changes 344 = .ok (.ishr, 1) := by decide +kernel
theorem dL_changes_345 : decode cL_changes 345 = .ok (.iconst 1, 1) := by decide +kernel
theorem dL_changes_346 : decode cL_changes 346 = .ok (.iand, 1) := by decide +kernel
theorem dL_changes_347 : decode cL_changes 347 = .ok (.ifCond .ne 49, 3) := by decide +kernel
theorem dL_changes_350 : decode cL_changes 350 = .ok (.new 249, 3) := by decide +kernel
theorem dL_changes_353 : decode cL_changes 353 = .ok (.dup, 1) := by decide +kernel
theorem dL_changes_354 : decode cL_changes 354 = .ok (.invokespecial 251, 3) := by decide +kernel
theorem dL_changes_357 : decode cL_changes 357 = .ok (.ldc 252, 2) := by decide +kernel
theorem dL_changes_359 : decode cL_changes 359 = .ok (.invokevirtual 254, 3) := by decide +kernel
theorem dL_changes_362 : decode cL_changes 362 = .ok (.iload_n 1, 1) := by decide +kernel
theorem dL_changes_363 : decode cL_changes 363 = .ok (.iconst 3, 1) := by decide +kernel
theorem dL_changes_364 : decode cL_changes 364 = .ok (.ishr, 1) := by decide +kernel
theorem dL_changes_365 : decode cL_changes 365 = .ok (.bipush 7, 2) := by decide +kernel
theorem dL_changes_367 : decode cL_changes 367 = .ok (.invokestatic 169, 3) := by decide +kernel
theorem dL_changes_370 : decode cL_changes 370 = .ok (.invokevirtual 257, 3) := by decide +kernel
theorem dL_changes_373 : decode cL_changes 373 = .ok (.ldc_w 260, 3) := by decide +kernel
theorem dL_changes_376 : decode cL_changes 376 = .ok (.invokevirtual 254, 3) := by decide +kernel
theorem dL_changes_379 : decode cL_changes 379 = .ok (.iload_n 1, 1) := by decide +kernel
theorem dL_changes_380 : decode cL_changes 380 = .ok (.iconst 5, 1) := by decide +kernel
theorem dL_changes_381 : decode cL_changes 381 = .ok (.ishr, 1) := by decide +kernel
theorem dL_changes_382 : decode cL_changes 382 = .ok (.bipush 9, 2) := by decide +kernel
theorem dL_changes_384 : decode cL_changes 384 = .ok (.invokestatic 169, 3) := by decide +kernel
theorem dL_changes_387 : decode cL_changes 387 = .ok (.invokevirtual 257, 3) := by decide +kernel
theorem dL_changes_390 : decode cL_changes 390 = .ok (.invokevirtual 262, 3) := by decide +kernel
theorem dL_changes_393 : decode cL_changes 393 = .ok (.goto 81, 3) := by decide +kernel
theorem dL_changes_396 : decode cL_changes 396 = .ok (.new 249, 3) := by decide +kernel
theorem dL_changes_399 : decode cL_changes 399 = .ok (.dup, 1) := by decide +kernel
theorem dL_changes_400 : decode cL_changes 400 = .ok (.invokespecial 251, 3) := by decide +kernel
theorem dL_changes_403 : decode cL_changes 403 = .ok (.ldc_w 266, 3) := by decide +kernel
theorem dL_changes_406 : decode cL_changes 406 = .ok (.invokevirtual 254, 3) := by decide +kernel
theorem dL_changes_409 : decode cL_changes 409 = .ok (.iload_n 1, 1) := by decide +kernel
theorem dL_changes_410 : decode cL_changes 410 = .ok (.iconst 3, 1) := by decide +kernel
theorem dL_changes_411 : decode cL_changes 411 = .ok (.ishr, 1) := by decide +kernel
theorem dL_changes_412 : decode cL_changes 412 = .ok (.bipush 9, 2) := by decide +kernel
theorem dL_changes_414 : decode cL_changes 414 = .ok (.invokestatic 169, 3) := by decide +kernel
theorem dL_changes_417 : decode cL_changes 417 = .ok (.invokevirtual 257, 3) := by decide +kernel
theorem dL_changes_420 : decode cL_changes 420 = .ok (.ldc_w 268, 3) := by decide +kernel
theorem dL_changes_423 : decode cL_changes 423 = .ok (.invokevirtual 254, 3) := by decide +kernel
theorem dL_changes_426 : decode cL_changes 426 = .ok (.iload_n 1, 1) := by decide +kernel
theorem dL_changes_427 : decode cL_changes 427 = .ok (.iconst 5, 1) := by decide +kernel
theorem dL_changes_428 : decode cL_changes 428 = .ok (.ishr, 1) := by decide +kernel
theorem dL_changes_429 : decode cL_changes 429 = .ok (.bipush 7, 2) := by decide +kernel
theorem dL_changes_431 : decode cL_changes 431 = .ok (.invokestatic 169, 3) := by decide +kernel
theorem dL_changes_434 : decode cL_changes 434 = .ok (.invokevirtual 257, 3) := by decide +kernel
theorem dL_changes_437 : decode cL_changes 437 = .ok (.ldc_w 270, 3) := by decide +kernel
theorem dL_changes_440 : decode cL_changes 440 = .ok (.invokevirtual 254, 3) := by decide +kernel
theorem dL_changes_443 : decode cL_changes 443 = .ok (.iload_n 1, 1) := by decide +kernel
theorem dL_changes_444 : decode cL_changes 444 = .ok (.iconst 4, 1) := by decide +kernel
theorem dL_changes_445 : decode cL_changes 445 = .ok (.ishr, 1) := by decide +kernel
theorem dL_changes_446 : decode cL_changes 446 = .ok (.bipush 6, 2) := by decide +kernel
theorem dL_changes_448 : decode cL_changes 448 = .ok (.invokestatic 169, 3) := by decide +kernel
theorem dL_changes_451 : decode cL_changes 451 = .ok (.invokevirtual 257, 3) := by decide +kernel
theorem dL_changes_454 : decode cL_changes 454 = .ok (.ldc_w 272, 3) := by decide +kernel
theorem dL_changes_457 : decode cL_changes 457 = .ok (.invokevirtual 254, 3) := by decide +kernel
theorem dL_changes_460 : decode cL_changes 460 = .ok (.iload_n 1, 1) := by decide +kernel
theorem dL_changes_461 : decode cL_changes 461 = .ok (.iconst 3, 1) := by decide +kernel
theorem dL_changes_462 : decode cL_changes 462 = .ok (.ishr, 1) := by decide +kernel
theorem dL_changes_463 : decode cL_changes 463 = .ok (.bipush 90, 2) := by decide +kernel
theorem dL_changes_465 : decode cL_changes 465 = .ok (.invokestatic 169, 3) := by decide +kernel
theorem dL_changes_468 : decode cL_changes 468 = .ok (.invokevirtual 257, 3) := by decide +kernel
theorem dL_changes_471 : decode cL_changes 471 = .ok (.invokevirtual 262, 3) := by decide +kernel
theorem dL_changes_474 : decode cL_changes 474 = .ok (.invokestatic 274, 3) := by decide +kernel
theorem dL_changes_477 : decode cL_changes 477 = .ok (.ifCond .lt 7, 3) := by decide +kernel
theorem dL_changes_480 : decode cL_changes 480 = .ok (.iconst 1, 1) := by decide +kernel
theorem dL_changes_481 : decode cL_changes 481 = .ok (.goto 4, 3) := by decide +kernel
theorem dL_changes_484 : decode cL_changes 484 = .ok (.iconst 0, 1) := by decide +kernel
theorem dL_changes_485 : decode cL_changes 485 = .ok (.ireturn, 1) := by decide +kernel
