theorem d_Mo_look_127 : decode b_Mo_look 127 = .ok (.invokevirtual 104, 3) := by decide +kernel
theorem d_Mo_look_130 : decode b_Mo_look 130 = .ok (.ifCond .eq 39, 3) := by decide +kernel
theorem d_Mo_look_133 : decode b_Mo_look 133 = .ok (.aload_n 0, 1) := by decide +kernel
theorem d_Mo_look_134 : decode b_Mo_look 134 = .ok (.aload_n 0, 1) := by decide +kernel
theorem d_Mo_look_135 : decode b_Mo_look 135 = .ok (.getfield 92, 3) := by decide +kernel
theorem d_Mo_look_138 : decode b_Mo_look 138 = .ok (.aload_n 0, 1) := by decide +kernel
theorem d_Mo_look_139 : decode b_Mo_look 139 = .ok (.getfield 98, 3) := by decide +kernel
theorem d_Mo_look_142 : decode b_Mo_look 142 = .ok (.isub, 1) := by decide +kernel
theorem d_Mo_look_143 : decode b_Mo_look 143 = .ok (.invokevirtual 104, 3) := by decide +kernel
theorem d_Mo_look_146 : decode b_Mo_look 146 = .ok (.ifCond .eq 23, 3) := by decide +kernel
theorem d_Mo_look_149 : decode b_Mo_look 149 = .ok (.aload_n 0, 1) := by decide +kernel
theorem d_Mo_look_150 : decode b_Mo_look 150 = .ok (.aload_n 0, 1) := by decide +kernel
theorem d_Mo_look_151 : decode b_Mo_look 151 = .ok (.getfield 98, 3) := by decide +kernel
theorem d_Mo_look_154 : decode b_Mo_look 154 = .ok (.aload_n 0, 1) := by decide +kernel
theorem d_Mo_look_155 : decode b_Mo_look 155 = .ok (.getfield 95, 3) := by decide +kernel
theorem d_Mo_look_158 : decode b_Mo_look 158 = .ok (.isub, 1) := by decide +kernel
theorem d_Mo_look_159 : decode b_Mo_look 159 = .ok (.invokevirtual 104, 3) := by decide +kernel
theorem d_Mo_look_162 : decode b_Mo_look 162 = .ok (.ifCond .eq 7, 3) := by decide +kernel
theorem d_Mo_look_165 : decode b_Mo_look 165 = .ok (.iconst 1, 1) := by decide +kernel
theorem d_Mo_look_166 : decode b_Mo_look 166 = .ok (.goto 4, 3) := by decide +kernel
theorem d_Mo_look_169 : decode b_Mo_look 169 = .ok (.iconst 0, 1) := by decide +kernel
theorem d_Mo_look_170 : decode b_Mo_look 170 = .ok (.putfield 108, 3) := by decide +kernel
theorem d_Mo_look_173 : decode b_Mo_look 173 = .ok (.aload_n 0, 1) := by decide +kernel
theorem d_Mo_look_174 : decode b_Mo_look 174 = .ok (.iconst 1, 1) := by decide +kernel
theorem d_Mo_look_175 : decode b_Mo_look 175 = .ok (.putfield 112, 3) := by decide +kernel
theorem d_Mo_look_178 : decode b_Mo_look 178 = .ok (.aload_n 0, 1) := by decide +kernel
theorem d_Mo_look_179 : decode b_Mo_look 179 = .ok (.getfield 108, 3) := by decide +kernel
theorem d_Mo_look_182 : decode b_Mo_look 182 = .ok (.ifCond .eq 88, 3) := by decide +kernel
theorem d_Mo_look_185 : decode b_Mo_look 185 = .ok (.aload_n 0, 1) := by decide +kernel
theorem d_Mo_look_186 : decode b_Mo_look 186 = .ok (.aload_n 0, 1) := by decide +kernel
theorem d_Mo_look_187 : decode b_Mo_look 187 = .ok (.aload_n 0, 1) := by decide +kernel
theorem d_Mo_look_188 : decode b_Mo_look 188 = .ok (.getfield 95, 3) := by decide +kernel
theorem d_Mo_look_191 : decode b_Mo_look 191 = .ok (.aload_n 0, 1) := by decide +kernel
theorem d_Mo_look_192 : decode b_Mo_look 192 = .ok (.getfield 92, 3) := by decide +kernel
theorem d_Mo_look_195 : decode b_Mo_look 195 = .ok (.isub, 1) := by decide +kernel
theorem d_Mo_look_196 : decode b_Mo_look 196 = .ok (.invokevirtual 104, 3) := by decide +kernel
theorem d_Mo_look_199 : decode b_Mo_look 199 = .ok (.ifCond .eq 9, 3) := by decide +kernel
theorem d_Mo_look_202 : decode b_Mo_look 202 = .ok (.sipush 366, 3) := by decide +kernel
theorem d_Mo_look_205 : decode b_Mo_look 205 = .ok (.goto 6, 3) := by decide +kernel
theorem d_Mo_look_208 : decode b_Mo_look 208 = .ok (.sipush 365, 3) := by decide +kernel
theorem d_Mo_look_211 : decode b_Mo_look 211 = .ok (.putfield 115, 3) := by decide +kernel
theorem d_Mo_look_214 : decode b_Mo_look 214 = .ok (.aload_n 0, 1) := by decide +kernel
theorem d_Mo_look_215 : decode b_Mo_look 215 = .ok (.aload_n 0, 1) := by decide +kernel
theorem d_Mo_look_216 : decode b_Mo_look 216 = .ok (.getfield 115, 3) := by decide +kernel
theorem d_Mo_look_219 : decode b_Mo_look 219 = .ok (.sipush 366, 3) := by decide +kernel
theorem d_Mo_look_222 : decode b_Mo_look 222 = .ok (.if_icmp .ne 10, 3) := by decide +kernel
theorem d_Mo_look_225 : decode b_Mo_look 225 = .ok (.aload_n 0, 1) := by decide +kernel
theorem d_Mo_look_226 : decode b_Mo_look 226 = .ok (.getfield 95, 3) := by decide +kernel
theorem d_Mo_look_229 : decode b_Mo_look 229 = .ok (.goto 7, 3) := by decide +kernel
theorem d_Mo_look_232 : decode b_Mo_look 232 = .ok (.aload_n 0, 1) := by decide +kernel
theorem d_Mo_look_233 : decode b_Mo_look 233 = .ok (.getfield 92, 3) := by decide +kernel
theorem d_Mo_look_236 : decode b_Mo_look 236 = .ok (.putfield 118, 3) := by decide +kernel
theorem d_Mo_look_239 : decode b_Mo_look 239 = .ok (.aload_n 0, 1) := by decide +kernel
theorem d_Mo_look_240 : decode b_Mo_look 240 = .ok (.aload_n 0, 1) := by decide +kernel
theorem d_Mo_look_241 : decode b_Mo_look 241 = .ok (.getfield 115, 3) := by decide +kernel
theorem d_Mo_look_244 : decode b_Mo_look 244 = .ok (.sipush 365, 3) := by decide +kernel
theorem d_Mo_look_247 : decode b_Mo_look 247 = .ok (.if_icmp .ne 18, 3) := by decide +kernel
theorem d_Mo_look_250 : decode b_Mo_look 250 = .ok (.aload_n 0, 1) := by decide +kernel
theorem d_Mo_look_251 : decode b_Mo_look 251 = .ok (.getfield 95, 3) := by decide +kernel
theorem d_Mo_look_254 : decode b_Mo_look 254 = .ok (.aload_n 0, 1) := by decide +kernel
theorem d_Mo_look_255 : decode b_Mo_look 255 = .ok (.getfield 92, 3) := by decide +kernel
theorem d_Mo_look_258 : decode b_Mo_look 258 = .ok (.if_icmp .le 7, 3) := by decide +kernel
theorem d_Mo_look_261 : decode b_Mo_look 261 = .ok (.iconst (-1), 1) := by decide +kernel
theorem d_Mo_look_262 : decode b_Mo_look 262 = .ok (.goto 4, 3) := by decide +kernel
theorem d_Mo_look_265 : decode b_Mo_look 265 = .ok (.iconst 1, 1) := by decide +kernel
theorem d_Mo_look_266 : decode b_Mo_look 266 = .ok (.putfield 112, 3) := by decide +kernel
theorem d_Mo_look_269 : decode b_Mo_look 269 = .ok (.return_, 1) := by decide +kernel
theorem d_Mo_look_270 : decode b_Mo_look 270 = .ok (.bipush 81, 2) := by decide +kernel
theorem d_Mo_look_272 : decode b_Mo_look 272 = .ok (.aload_n 0, 1) := by decide +kernel
theorem d_Mo_look_273 : decode b_Mo_look 273 = .ok (.aload_n 0, 1) := by decide +kernel
theorem d_Mo_look_274 : decode b_Mo_look 274 = .ok (.getfield 101, 3) := by decide +kernel
theorem d_Mo_look_277 : decode b_Mo_look 277 = .ok (.aload_n 0, 1) := by decide +kernel
theorem d_Mo_look_278 : decode b_Mo_look 278 = .ok (.getfield 92, 3) := by decide +kernel
theorem d_Mo_look_281 : decode b_Mo_look 281 = .ok (.isub, 1) := by decide +kernel
theorem d_Mo_look_282 : decode b_Mo_look 282 = .ok (.invokevirtual 121, 3) := by decide +kernel
theorem d_Mo_look_285 : decode b_Mo_look 285 = .ok (.imul, 1) := by decide +kernel
theorem d_Mo_look_286 : decode b_Mo_look 286 = .ok (.bipush 9, 2) := by decide +kernel
theorem d_Mo_look_288 : decode b_Mo_look 288 = .ok (.aload_n 0, 1) := by decide +kernel
theorem d_Mo_look_289 : decode b_Mo_look 289 = .ok (.aload_n 0, 1) := by decide +kernel
theorem d_Mo_look_290 : decode b_Mo_look 290 = .ok (.getfield 92, 3) := by decide +kernel
theorem d_Mo_look_293 : decode b_Mo_look 293 = .ok (.aload_n 0, 1) := by decide +kernel
theorem d_Mo_look_294 : decode b_Mo_look 294 = .ok (.getfield 98, 3) := by decide +kernel
theorem d_Mo_look_297 : decode b_Mo_look 297 = .ok (.isub, 1) := by decide +kernel
theorem d_Mo_look_298 : decode b_Mo_look 298 = .ok (.invokevirtual 121, 3) := by decide +kernel
theorem d_Mo_look_301 : decode b_Mo_look 301 = .ok (.imul, 1) := by decide +kernel
theorem d_Mo_look_302 : decode b_Mo_look 302 = .ok (.iadd, 1) := by decide +kernel
theorem d_Mo_look_303 : decode b_Mo_look 303 = .ok (.aload_n 0, 1) := by decide +kernel
theorem d_Mo_look_304 : decode b_Mo_look 304 = .ok (.aload_n 0, 1) := by decide +kernel
theorem d_Mo_look_305 : decode b_Mo_look 305 = .ok (.getfield 98, 3) := by decide +kernel
theorem d_Mo_look_308 : decode b_Mo_look 308 = .ok (.aload_n 0, 1) := by decide +kernel
theorem d_Mo_look_309 : decode b_Mo_look 309 = .ok (.getfield 95, 3) := by decide +kernel
theorem d_Mo_look_312 : decode b_Mo_look 312 = .ok (.isub, 1) := by decide +kernel
theorem d_Mo_look_313 : decode b_Mo_look 313 = .ok (.invokevirtual 121, 3) := by decide +kernel
theorem d_Mo_look_316 : decode b_Mo_look 316 = .ok (.iadd, 1) := by decide +kernel
theorem d_Mo_look_317 : decode b_Mo_look 317 = .ok (.istore 4, 2) := by decide +kernel
theorem d_Mo_look_319 : decode b_Mo_look 319 = .ok (.aload_n 0, 1) := by decide +kernel
theorem d_Mo_look_320 : decode b_Mo_look 320 = .ok (.iload 4, 2) := by decide +kernel
theorem d_Mo_look_322 : decode b_Mo_look 322 = .ok (.ifCond .ge 7, 3) := by decide +kernel
theorem d_Mo_look_325 : decode b_Mo_look 325 = .ok (.iconst (-1), 1) := by decide +kernel
theorem d_Mo_look_326 : decode b_Mo_look 326 = .ok (.goto 4, 3) := by decide +kernel
theorem d_Mo_look_329 : decode b_Mo_look 329 = .ok (.iconst 1, 1) := by decide +kernel
theorem d_Mo_look_330 : decode b_Mo_look 330 = .ok (.putfield 112, 3) := by decide +kernel
theorem d_Mo_look_333 : decode b_Mo_look 333 = .ok (.aload_n 0, 1) := by decide +kernel
theorem d_Mo_look_334 : decode b_Mo_look 334 = .ok (.iload 4, 2) := by decide +kernel
theorem d_Mo_look_336 : decode b_Mo_look 336 = .ok (.invokestatic 88, 3) := by decide +kernel
theorem d_Mo_look_339 : decode b_Mo_look 339 = .ok (.putfield 115, 3) := by decide +kernel
theorem d_Mo_look_342 : decode b_Mo_look 342 = .ok (.aload_n 0, 1) := by decide +kernel
theorem d_Mo_look_343 : decode b_Mo_look 343 = .ok (.getfield 95, 3) := by decide +kernel
theorem d_Mo_look_346 : decode b_Mo_look 346 = .ok (.aload_n 0, 1) := by decide +kernel
theorem d_Mo_look_347 : decode b_Mo_look 347 = .ok (.getfield 92, 3) := by decide +kernel
theorem d_Mo_look_350 : decode b_Mo_look 350 = .ok (.if_icmp .ge 10, 3) := by decide +kernel
theorem d_Mo_look_353 : decode b_Mo_look 353 = .ok (.aload_n 0, 1) := by decide +kernel
theorem d_Mo_look_354 : decode b_Mo_look 354 = .ok (.getfield 95, 3) := by decide +kernel
theorem d_Mo_look_357 : decode b_Mo_look 357 = .ok (.goto 7, 3) := by decide +kernel
theorem d_Mo_look_360 : decode b_Mo_look 360 = .ok (.aload_n 0, 1) := by decide +kernel
theorem d_Mo_look_361 : decode b_Mo_look 361 = .ok (.getfield 92, 3) := by decide +kernel
theorem d_Mo_look_364 : decode b_Mo_look 364 = .ok (.istore 5, 2) := by decide +kernel
theorem d_Mo_look_366 : decode b_Mo_look 366 = .ok (.aload_n 0, 1) := by decide +kernel
theorem d_Mo_look_367 : decode b_Mo_look 367 = .ok (.getfield 95, 3) := by decide +kernel
theorem d_Mo_look_370 : decode b_Mo_look 370 = .ok (.aload_n 0, 1) := by decide +kernel
theorem d_Mo_look_371 : decode b_Mo_look 371 = .ok (.getfield 92, 3) := by decide +kernel
theorem d_Mo_look_374 : decode b_Mo_look 374 = .ok (.if_icmp .ge 10, 3) := by decide +kernel
theorem d_Mo_look_377 : decode b_Mo_look 377 = .ok (.aload_n 0, 1) := by decide +kernel
theorem d_Mo_look_378 : decode b_Mo_look 378 = .ok (.getfield 92, 3) := by decide +kernel
theorem d_Mo_look_381 : decode b_Mo_look 381 = .ok (.goto 7, 3) := by decide +kernel
theorem d_Mo_look_384 : decode b_Mo_look 384 = .ok (.aload_n 0, 1) := by decide +kernel
theorem d_Mo_look_385 : decode b_Mo_look 385 = .ok (.getfield 95, 3) := by decide +kernel
theorem d_Mo_look_388 : decode b_Mo_look 388 = .ok (.istore 6, 2) := by decide +kernel
theorem d_Mo_look_390 : decode b_Mo_look 390 = .ok (.aload_n 0, 1) := by decide +kernel
theorem d_Mo_look_391 : decode b_Mo_look 391 = .ok (.getfield 98, 3) := by decide +kernel
theorem d_Mo_look_394 : decode b_Mo_look 394 = .ok (.iload 6, 2) := by decide +kernel
theorem d_Mo_look_396 : decode b_Mo_look 396 = .ok (.if_icmp .lt 8, 3) := by decide +kernel
theorem d_Mo_look_399 : decode b_Mo_look 399 = .ok (.iload 5, 2) := by decide +kernel
theorem d_Mo_look_401 : decode b_Mo_look 401 = .ok (.goto 31, 3) := by decide +kernel
theorem d_Mo_look_404 : decode b_Mo_look 404 = .ok (.aload_n 0, 1) := by decide +kernel
theorem d_Mo_look_405 : decode b_Mo_look 405 = .ok (.getfield 98, 3) := by decide +kernel
theorem d_Mo_look_408 : decode b_Mo_look 408 = .ok (.iload 5, 2) := by decide +kernel
theorem d_Mo_look_410 : decode b_Mo_look 410 = .ok (.if_icmp .gt 8, 3) := by decide +kernel
theorem d_Mo_look_413 : decode b_Mo_look 413 = .ok (.iload 6, 2) := by decide +kernel
theorem d_Mo_look_415 : decode b_Mo_look 415 = .ok (.goto 17, 3) := by decide +kernel
theorem d_Mo_look_418 : decode b_Mo_look 418 = .ok (.aload_n 0, 1) := by decide +kernel
theorem d_Mo_look_419 : decode b_Mo_look 419 = .ok (.getfield 95, 3) := by decide +kernel
theorem d_Mo_look_422 : decode b_Mo_look 422 = .ok (.aload_n 0, 1) := by decide +kernel
theorem d_Mo_look_423 : decode b_Mo_look 423 = .ok (.getfield 92, 3) := by decide +kernel
theorem d_Mo_look_426 : decode b_Mo_look 426 = .ok (.iadd, 1) := by decide +kernel
theorem d_Mo_look_427 : decode b_Mo_look 427 = .ok (.aload_n 0, 1) := by decide +kernel
theorem d_Mo_look_428 : decode b_Mo_look 428 = .ok (.getfield 98, 3) := by decide +kernel
theorem d_Mo_look_431 : decode b_Mo_look 431 = .ok (.isub, 1) := by decide +kernel
theorem d_Mo_look_432 : decode b_Mo_look 432 = .ok (.istore 7, 2) := by decide +kernel
theorem d_Mo_look_434 : decode b_Mo_look 434 = .ok (.aload_n 0, 1) := by decide +kernel
theorem d_Mo_look_435 : decode b_Mo_look 435 = .ok (.iload 7, 2) := by decide +kernel
theorem d_Mo_look_437 : decode b_Mo_look 437 = .ok (.aload_n 0, 1) := by decide +kernel
theorem d_Mo_look_438 : decode b_Mo_look 438 = .ok (.getfield 112, 3) := by decide +kernel
theorem d_Mo_look_441 : decode b_Mo_look 441 = .ok (.aload_n 0, 1) := by decide +kernel
theorem d_Mo_look_442 : decode b_Mo_look 442 = .ok (.getfield 43, 3) := by decide +kernel
theorem d_Mo_look_445 : decode b_Mo_look 445 = .ok (.sipush 367, 3) := by decide +kernel
theorem d_Mo_look_448 : decode b_Mo_look 448 = .ok (.iload_n 1, 1) := by decide +kernel
theorem d_Mo_look_449 : decode b_Mo_look 449 = .ok (.imul, 1) := by decide +kernel
theorem d_Mo_look_450 : decode b_Mo_look 450 = .ok (.aload_n 0, 1) := by decide +kernel
theorem d_Mo_look_451 : decode b_Mo_look 451 = .ok (.getfield 115, 3) := by decide +kernel
theorem d_Mo_look_454 : decode b_Mo_look 454 = .ok (.iadd, 1) := by decide +kernel
theorem d_Mo_look_455 : decode b_Mo_look 455 = .ok (.iaload, 1) := by decide +kernel
theorem d_Mo_look_456 : decode b_Mo_look 456 = .ok (.imul, 1) := by decide +kernel
theorem d_Mo_look_457 : decode b_Mo_look 457 = .ok (.iadd, 1) := by decide +kernel
theorem d_Mo_look_458 : decode b_Mo_look 458 = .ok (.iconst 0, 1) := by decide +kernel
theorem d_Mo_look_459 : decode b_Mo_look 459 = .ok (.aload_n 0, 1) := by decide +kernel
theorem d_Mo_look_460 : decode b_Mo_look 460 = .ok (.getfield 57, 3) := by decide +kernel
theorem d_Mo_look_463 : decode b_Mo_look 463 = .ok (.invokestatic 50, 3) := by decide +kernel
theorem d_Mo_look_466 : decode b_Mo_look 466 = .ok (.putfield 118, 3) := by decide +kernel
theorem d_Mo_look_469 : decode b_Mo_look 469 = .ok (.return_, 1) := by decide +kernel
theorem d_Mo_noteLast_0 : decode b_Mo_noteLast 0 = .ok (.aload_n 0, 1) := by decide +kernel
theorem d_Mo_noteLast_1 : decode b_Mo_noteLast 1 = .ok (.getfield 46, 3) := by decide +kernel
theorem d_Mo_noteLast_4 : decode b_Mo_noteLast 4 = .ok (.iconst 0, 1) := by decide +kernel
theorem d_Mo_noteLast_5 : decode b_Mo_noteLast 5 = .ok (.aload_n 0, 1) := by decide +kernel
theorem d_Mo_noteLast_6 : decode b_Mo_noteLast 6 = .ok (.getfield 95, 3) := by decide +kernel
theorem d_Mo_noteLast_9 : decode b_Mo_noteLast 9 = .ok (.iastore, 1) := by decide +kernel
theorem d_Mo_noteLast_10 : decode b_Mo_noteLast 10 = .ok (.aload_n 0, 1) := by decide +kernel
theorem d_Mo_noteLast_11 : decode b_Mo_noteLast 11 = .ok (.getfield 46, 3) := by decide +kernel
theorem d_Mo_noteLast_14 : decode b_Mo_noteLast 14 = .ok (.iconst 1, 1) := by decide +kernel
theorem d_Mo_noteLast_15 : decode b_Mo_noteLast 15 = .ok (.aload_n 0, 1) := by decide +kernel
theorem d_Mo_noteLast_16 : decode b_Mo_noteLast 16 = .ok (.getfield 92, 3) := by decide +kernel
theorem d_Mo_noteLast_19 : decode b_Mo_noteLast 19 = .ok (.iastore, 1) := by decide +kernel
theorem d_Mo_noteLast_20 : decode b_Mo_noteLast 20 = .ok (.aload_n 0, 1) := by decide +kernel
theorem d_Mo_noteLast_21 : decode b_Mo_noteLast 21 = .ok (.getfield 46, 3) := by decide +kernel
theorem d_Mo_noteLast_24 : decode b_Mo_noteLast 24 = .ok (.iconst 2, 1) := by decide +kernel
theorem d_Mo_noteLast_25 : decode b_Mo_noteLast 25 = .ok (.aload_n 0, 1) := by decide +kernel
theorem d_Mo_noteLast_26 : decode b_Mo_noteLast 26 = .ok (.getfield 98, 3) := by decide +kernel
theorem d_Mo_noteLast_29 : decode b_Mo_noteLast 29 = .ok (.iastore, 1) := by decide +kernel
theorem d_Mo_noteLast_30 : decode b_Mo_noteLast 30 = .ok (.aload_n 0, 1) := by decide +kernel
theorem d_Mo_noteLast_31 : decode b_Mo_noteLast 31 = .ok (.getfield 46, 3) := by decide +kernel
theorem d_Mo_noteLast_34 : decode b_Mo_noteLast 34 = .ok (.iconst 3, 1) := by decide +kernel
theorem d_Mo_noteLast_35 : decode b_Mo_noteLast 35 = .ok (.aload_n 0, 1) := by decide +kernel
theorem d_Mo_noteLast_36 : decode b_Mo_noteLast 36 = .ok (.getfield 101, 3) := by decide +kernel
theorem d_Mo_noteLast_39 : decode b_Mo_noteLast 39 = .ok (.iastore, 1) := by decide +kernel
theorem d_Mo_noteLast_40 : decode b_Mo_noteLast 40 = .ok (.aload_n 0, 1) := by decide +kernel
theorem d_Mo_noteLast_41 : decode b_Mo_noteLast 41 = .ok (.getfield 46, 3) := by decide +kernel
theorem d_Mo_noteLast_44 : decode b_Mo_noteLast 44 = .ok (.iconst 4, 1) := by decide +kernel
theorem d_Mo_noteLast_45 : decode b_Mo_noteLast 45 = .ok (.aload_n 0, 1) := by decide +kernel
theorem d_Mo_noteLast_46 : decode b_Mo_noteLast 46 = .ok (.getfield 124, 3) := by decide +kernel
theorem d_Mo_noteLast_49 : decode b_Mo_noteLast 49 = .ok (.iastore, 1) := by decide +kernel
theorem d_Mo_noteLast_50 : decode b_Mo_noteLast 50 = .ok (.aload_n 0, 1) := by decide +kernel
theorem d_Mo_noteLast_51 : decode b_Mo_noteLast 51 = .ok (.iload_n 1, 1) := by decide +kernel
theorem d_Mo_noteLast_52 : decode b_Mo_noteLast 52 = .ok (.putfield 127, 3) := by decide +kernel
theorem d_Mo_noteLast_55 : decode b_Mo_noteLast 55 = .ok (.aload_n 0, 1) := by decide +kernel
theorem d_Mo_noteLast_56 : decode b_Mo_noteLast 56 = .ok (.iload_n 2, 1) := by decide +kernel
theorem d_Mo_noteLast_57 : decode b_Mo_noteLast 57 = .ok (.putfield 130, 3) := by decide +kernel
theorem d_Mo_noteLast_60 : decode b_Mo_noteLast 60 = .ok (.return_, 1) := by decide +kernel
theorem d_Mo_quantise_0 : decode b_Mo_quantise 0 = .ok (.iload_n 1, 1) := by decide +kernel
theorem d_Mo_quantise_1 : decode b_Mo_quantise 1 = .ok (.ifCond .ge 18, 3) := by decide +kernel
theorem d_Mo_quantise_4 : decode b_Mo_quantise 4 = .ok (.aload_n 0, 1) := by decide +kernel
theorem d_Mo_quantise_5 : decode b_Mo_quantise 5 = .ok (.getfield 60, 3) := by decide +kernel
theorem d_Mo_quantise_8 : decode b_Mo_quantise 8 = .ok (.iload_n 1, 1) := by decide +kernel
theorem d_Mo_quantise_9 : decode b_Mo_quantise 9 = .ok (.isub, 1) := by decide +kernel
theorem d_Mo_quantise_10 : decode b_Mo_quantise 10 = .ok (.aload_n 0, 1) := by decide +kernel
theorem d_Mo_quantise_11 : decode b_Mo_quantise 11 = .ok (.getfield 63, 3) := by decide +kernel
theorem d_Mo_quantise_14 : decode b_Mo_quantise 14 = .ok (.idiv, 1) := by decide +kernel
theorem d_Mo_quantise_15 : decode b_Mo_quantise 15 = .ok (.ineg, 1) := by decide +kernel
theorem d_Mo_quantise_16 : decode b_Mo_quantise 16 = .ok (.goto 14, 3) := by decide +kernel
theorem d_Mo_quantise_19 : decode b_Mo_quantise 19 = .ok (.iload_n 1, 1) := by decide +kernel
theorem d_Mo_quantise_20 : decode b_Mo_quantise 20 = .ok (.aload_n 0, 1) := by decide +kernel
theorem d_Mo_quantise_21 : decode b_Mo_quantise 21 = .ok (.getfield 60, 3) := by decide +kernel
theorem d_Mo_quantise_24 : decode b_Mo_quantise 24 = .ok (.iadd, 1) := by decide +kernel
theorem d_Mo_quantise_25 : decode b_Mo_quantise 25 = .ok (.aload_n 0, 1) := by decide +kernel
theorem d_Mo_quantise_26 : decode b_Mo_quantise 26 = .ok (.getfield 63, 3) := by decide +kernel
theorem d_Mo_quantise_29 : decode b_Mo_quantise 29 = .ok (.idiv, 1) := by decide +kernel
theorem d_Mo_quantise_30 : decode b_Mo_quantise 30 = .ok (.ireturn, 1) := by decide +kernel
theorem d_Mo_around_0 : decode b_Mo_around 0 = .ok (.iload_n 1, 1) := by decide +kernel
theorem d_Mo_around_1 : decode b_Mo_around 1 = .ok (.ifCond .ge 12, 3) := by decide +kernel
theorem d_Mo_around_4 : decode b_Mo_around 4 = .ok (.iload_n 1, 1) := by decide +kernel
theorem d_Mo_around_5 : decode b_Mo_around 5 = .ok (.aload_n 0, 1) := by decide +kernel
theorem d_Mo_around_6 : decode b_Mo_around 6 = .ok (.getfield 66, 3) := by decide +kernel
theorem d_Mo_around_9 : decode b_Mo_around 9 = .ok (.iadd, 1) := by decide +kernel
theorem d_Mo_around_10 : decode b_Mo_around 10 = .ok (.goto 4, 3) := by decide +kernel
theorem d_Mo_around_13 : decode b_Mo_around 13 = .ok (.iload_n 1, 1) := by decide +kernel
theorem d_Mo_around_14 : decode b_Mo_around 14 = .ok (.istore_n 2, 1) := by decide +kernel
theorem d_Mo_around_15 : decode b_Mo_around 15 = .ok (.iload_n 2, 1) := by decide +kernel
theorem d_Mo_around_16 : decode b_Mo_around 16 = .ok (.aload_n 0, 1) := by decide +kernel
theorem d_Mo_around_17 : decode b_Mo_around 17 = .ok (.getfield 66, 3) := by decide +kernel
theorem d_Mo_around_20 : decode b_Mo_around 20 = .ok (.iconst 1, 1) := by decide +kernel
theorem d_Mo_around_21 : decode b_Mo_around 21 = .ok (.iadd, 1) := by decide +kernel
theorem d_Mo_around_22 : decode b_Mo_around 22 = .ok (.iconst 2, 1) := by decide +kernel
theorem d_Mo_around_23 : decode b_Mo_around 23 = .ok (.idiv, 1) := by decide +kernel
theorem d_Mo_around_24 : decode b_Mo_around 24 = .ok (.if_icmp .lt 12, 3) := by decide +kernel
theorem d_Mo_around_27 : decode b_Mo_around 27 = .ok (.iload_n 2, 1) := by decide +kernel
theorem d_Mo_around_28 : decode b_Mo_around 28 = .ok (.aload_n 0, 1) := by decide +kernel
theorem d_Mo_around_29 : decode b_Mo_around 29 = .ok (.getfield 66, 3) := by decide +kernel
theorem d_Mo_around_32 : decode b_Mo_around 32 = .ok (.isub, 1) := by decide +kernel
theorem d_Mo_around_33 : decode b_Mo_around 33 = .ok (.goto 4, 3) := by decide +kernel
theorem d_Mo_around_36 : decode b_Mo_around 36 = .ok (.iload_n 2, 1) := by decide +kernel
theorem d_Mo_around_37 : decode b_Mo_around 37 = .ok (.ireturn, 1) := by decide +kernel
theorem d_Mo_bitsOf_0 : decode b_Mo_bitsOf 0 = .ok (.aload_n 0, 1) := by decide +kernel
theorem d_Mo_bitsOf_1 : decode b_Mo_bitsOf 1 = .ok (.getfield 34, 3) := by decide +kernel
theorem d_Mo_bitsOf_4 : decode b_Mo_bitsOf 4 = .ok (.iload_n 1, 1) := by decide +kernel
theorem d_Mo_bitsOf_5 : decode b_Mo_bitsOf 5 = .ok (.iaload, 1) := by decide +kernel
theorem d_Mo_bitsOf_6 : decode b_Mo_bitsOf 6 = .ok (.iload_n 1, 1) := by decide +kernel
theorem d_Mo_bitsOf_7 : decode b_Mo_bitsOf 7 = .ok (.sipush 367, 3) := by decide +kernel
theorem d_Mo_bitsOf_10 : decode b_Mo_bitsOf 10 = .ok (.irem, 1) := by decide +kernel
theorem d_Mo_bitsOf_11 : decode b_Mo_bitsOf 11 = .ok (.sipush 366, 3) := by decide +kernel
theorem d_Mo_bitsOf_14 : decode b_Mo_bitsOf 14 = .ok (.if_icmp .ne 14, 3) := by decide +kernel
theorem d_Mo_bitsOf_17 : decode b_Mo_bitsOf 17 = .ok (.aload_n 0, 1) := by decide +kernel
theorem d_Mo_bitsOf_18 : decode b_Mo_bitsOf 18 = .ok (.getfield 37, 3) := by decide +kernel
theorem d_Mo_bitsOf_21 : decode b_Mo_bitsOf 21 = .ok (.iload_n 1, 1) := by decide +kernel
theorem d_Mo_bitsOf_22 : decode b_Mo_bitsOf 22 = .ok (.iaload, 1) := by decide +kernel
theorem d_Mo_bitsOf_23 : decode b_Mo_bitsOf 23 = .ok (.iconst 2, 1) := by decide +kernel
theorem d_Mo_bitsOf_24 : decode b_Mo_bitsOf 24 = .ok (.idiv, 1) := by decide +kernel
theorem d_Mo_bitsOf_25 : decode b_Mo_bitsOf 25 = .ok (.goto 4, 3) := by decide +kernel
theorem d_Mo_bitsOf_28 : decode b_Mo_bitsOf 28 = .ok (.iconst 0, 1) := by decide +kernel
theorem d_Mo_bitsOf_29 : decode b_Mo_bitsOf 29 = .ok (.iadd, 1) := by decide +kernel
theorem d_Mo_bitsOf_30 : decode b_Mo_bitsOf 30 = .ok (.istore_n 2, 1) := by decide +kernel
theorem d_Mo_bitsOf_31 : decode b_Mo_bitsOf 31 = .ok (.iconst 0, 1) := by decide +kernel
theorem d_Mo_bitsOf_32 : decode b_Mo_bitsOf 32 = .ok (.istore_n 3, 1) := by decide +kernel
theorem d_Mo_bitsOf_33 : decode b_Mo_bitsOf 33 = .ok (.aload_n 0, 1) := by decide +kernel
theorem d_Mo_bitsOf_34 : decode b_Mo_bitsOf 34 = .ok (.getfield 37, 3) := by decide +kernel
theorem d_Mo_bitsOf_37 : decode b_Mo_bitsOf 37 = .ok (.iload_n 1, 1) := by decide +kernel
theorem d_Mo_bitsOf_38 : decode b_Mo_bitsOf 38 = .ok (.iaload, 1) := by decide +kernel
theorem d_Mo_bitsOf_39 : decode b_Mo_bitsOf 39 = .ok (.istore 4, 2) := by decide +kernel
theorem d_Mo_bitsOf_41 : decode b_Mo_bitsOf 41 = .ok (.iload 4, 2) := by decide +kernel
theorem d_Mo_bitsOf_43 : decode b_Mo_bitsOf 43 = .ok (.iload_n 2, 1) := by decide +kernel
theorem d_Mo_bitsOf_44 : decode b_Mo_bitsOf 44 = .ok (.if_icmp .ge 15, 3) := by decide +kernel
theorem d_Mo_bitsOf_47 : decode b_Mo_bitsOf 47 = .ok (.iconst 2, 1) := by decide +kernel
theorem d_Mo_bitsOf_48 : decode b_Mo_bitsOf 48 = .ok (.iload 4, 2) := by decide +kernel
theorem d_Mo_bitsOf_50 : decode b_Mo_bitsOf 50 = .ok (.imul, 1) := by decide +kernel
theorem d_Mo_bitsOf_51 : decode b_Mo_bitsOf 51 = .ok (.istore 4, 2) := by decide +kernel
theorem d_Mo_bitsOf_53 : decode b_Mo_bitsOf 53 = .ok (.iinc 3 1, 3) := by decide +kernel
theorem d_Mo_bitsOf_56 : decode b_Mo_bitsOf 56 = .ok (.goto (-15), 3) := by decide +kernel
theorem d_Mo_bitsOf_59 : decode b_Mo_bitsOf 59 = .ok (.iload_n 3, 1) := by decide +kernel
theorem d_Mo_bitsOf_60 : decode b_Mo_bitsOf 60 = .ok (.ireturn, 1) := by decide +kernel
theorem d_Mo_isEnd_0 : decode b_Mo_isEnd 0 = .ok (.iload_n 1, 1) := by decide +kernel
theorem d_Mo_isEnd_1 : decode b_Mo_isEnd 1 = .ok (.sipush 367, 3) := by decide +kernel
theorem d_Mo_isEnd_4 : decode b_Mo_isEnd 4 = .ok (.irem, 1) := by decide +kernel
theorem d_Mo_isEnd_5 : decode b_Mo_isEnd 5 = .ok (.sipush 365, 3) := by decide +kernel
theorem d_Mo_isEnd_8 : decode b_Mo_isEnd 8 = .ok (.if_icmp .lt 7, 3) := by decide +kernel
theorem d_Mo_isEnd_11 : decode b_Mo_isEnd 11 = .ok (.iconst 1, 1) := by decide +kernel
theorem d_Mo_isEnd_12 : decode b_Mo_isEnd 12 = .ok (.goto 4, 3) := by decide +kernel
theorem d_Mo_isEnd_15 : decode b_Mo_isEnd 15 = .ok (.iconst 0, 1) := by decide +kernel
theorem d_Mo_isEnd_16 : decode b_Mo_isEnd 16 = .ok (.ireturn, 1) := by decide +kernel
theorem d_Mo_kindOf_0 : decode b_Mo_kindOf 0 = .ok (.iload_n 1, 1) := by decide +kernel
theorem d_Mo_kindOf_1 : decode b_Mo_kindOf 1 = .ok (.sipush 367, 3) := by decide +kernel
theorem d_Mo_kindOf_4 : decode b_Mo_kindOf 4 = .ok (.irem, 1) := by decide +kernel
theorem d_Mo_kindOf_5 : decode b_Mo_kindOf 5 = .ok (.sipush 366, 3) := by decide +kernel
theorem d_Mo_kindOf_8 : decode b_Mo_kindOf 8 = .ok (.if_icmp .ne 7, 3) := by decide +kernel
theorem d_Mo_kindOf_11 : decode b_Mo_kindOf 11 = .ok (.iconst 1, 1) := by decide +kernel
theorem d_Mo_kindOf_12 : decode b_Mo_kindOf 12 = .ok (.goto 4, 3) := by decide +kernel
theorem d_Mo_kindOf_15 : decode b_Mo_kindOf 15 = .ok (.iconst 0, 1) := by decide +kernel
theorem d_Mo_kindOf_16 : decode b_Mo_kindOf 16 = .ok (.ireturn, 1) := by decide +kernel
theorem d_Mo_fold_0 : decode b_Mo_fold 0 = .ok (.aload_n 0, 1) := by decide +kernel
theorem d_Mo_fold_1 : decode b_Mo_fold 1 = .ok (.iload_n 1, 1) := by decide +kernel
theorem d_Mo_fold_2 : decode b_Mo_fold 2 = .ok (.invokevirtual 133, 3) := by decide +kernel
theorem d_Mo_fold_5 : decode b_Mo_fold 5 = .ok (.ifCond .ne 7, 3) := by decide +kernel
theorem d_Mo_fold_8 : decode b_Mo_fold 8 = .ok (.iconst 1, 1) := by decide +kernel
theorem d_Mo_fold_9 : decode b_Mo_fold 9 = .ok (.goto 4, 3) := by decide +kernel
theorem d_Mo_fold_12 : decode b_Mo_fold 12 = .ok (.iconst 0, 1) := by decide +kernel
theorem d_Mo_fold_13 : decode b_Mo_fold 13 = .ok (.istore_n 3, 1) := by decide +kernel
theorem d_Mo_fold_14 : decode b_Mo_fold 14 = .ok (.aload_n 0, 1) := by decide +kernel
theorem d_Mo_fold_15 : decode b_Mo_fold 15 = .ok (.iload_n 1, 1) := by decide +kernel
theorem d_Mo_fold_16 : decode b_Mo_fold 16 = .ok (.invokevirtual 136, 3) := by decide +kernel
theorem d_Mo_fold_19 : decode b_Mo_fold 19 = .ok (.ifCond .eq 84, 3) := by decide +kernel
theorem d_Mo_fold_22 : decode b_Mo_fold 22 = .ok (.iconst 2, 1) := by decide +kernel
theorem d_Mo_fold_23 : decode b_Mo_fold 23 = .ok (.aload_n 0, 1) := by decide +kernel
theorem d_Mo_fold_24 : decode b_Mo_fold 24 = .ok (.getfield 40, 3) := by decide +kernel
theorem d_Mo_fold_27 : decode b_Mo_fold 27 = .ok (.iload_n 1, 1) := by decide +kernel
theorem d_Mo_fold_28 : decode b_Mo_fold 28 = .ok (.iaload, 1) := by decide +kernel
theorem d_Mo_fold_29 : decode b_Mo_fold 29 = .ok (.imul, 1) := by decide +kernel
theorem d_Mo_fold_30 : decode b_Mo_fold 30 = .ok (.aload_n 0, 1) := by decide +kernel
theorem d_Mo_fold_31 : decode b_Mo_fold 31 = .ok (.getfield 37, 3) := by decide +kernel
theorem d_Mo_fold_34 : decode b_Mo_fold 34 = .ok (.iload_n 1, 1) := by decide +kernel
theorem d_Mo_fold_35 : decode b_Mo_fold 35 = .ok (.iaload, 1) := by decide +kernel
theorem d_Mo_fold_36 : decode b_Mo_fold 36 = .ok (.if_icmp .lt 7, 3) := by decide +kernel
theorem d_Mo_fold_39 : decode b_Mo_fold 39 = .ok (.iconst 1, 1) := by decide +kernel
theorem d_Mo_fold_40 : decode b_Mo_fold 40 = .ok (.goto 4, 3) := by decide +kernel
theorem d_Mo_fold_43 : decode b_Mo_fold 43 = .ok (.iconst 0, 1) := by decide +kernel
theorem d_Mo_fold_44 : decode b_Mo_fold 44 = .ok (.istore 4, 2) := by decide +kernel
theorem d_Mo_fold_46 : decode b_Mo_fold 46 = .ok (.iload_n 2, 1) := by decide +kernel
theorem d_Mo_fold_47 : decode b_Mo_fold 47 = .ok (.ifCond .le 12, 3) := by decide +kernel
theorem d_Mo_fold_50 : decode b_Mo_fold 50 = .ok (.iload_n 3, 1) := by decide +kernel
theorem d_Mo_fold_51 : decode b_Mo_fold 51 = .ok (.ifCond .eq 8, 3) := by decide +kernel
theorem d_Mo_fold_54 : decode b_Mo_fold 54 = .ok (.iload 4, 2) := by decide +kernel
theorem d_Mo_fold_56 : decode b_Mo_fold 56 = .ok (.ifCond .eq 16, 3) := by decide +kernel
theorem d_Mo_fold_59 : decode b_Mo_fold 59 = .ok (.iload_n 2, 1) := by decide +kernel
theorem d_Mo_fold_60 : decode b_Mo_fold 60 = .ok (.ifCond .ge 16, 3) := by decide +kernel
theorem d_Mo_fold_63 : decode b_Mo_fold 63 = .ok (.iload_n 3, 1) := by decide +kernel
theorem d_Mo_fold_64 : decode b_Mo_fold 64 = .ok (.ifCond .eq 8, 3) := by decide +kernel
theorem d_Mo_fold_67 : decode b_Mo_fold 67 = .ok (.iload 4, 2) := by decide +kernel
theorem d_Mo_fold_69 : decode b_Mo_fold 69 = .ok (.ifCond .eq 7, 3) := by decide +kernel
theorem d_Mo_fold_72 : decode b_Mo_fold 72 = .ok (.iconst 1, 1) := by decide +kernel
theorem d_Mo_fold_73 : decode b_Mo_fold 73 = .ok (.goto 4, 3) := by decide +kernel
theorem d_Mo_fold_76 : decode b_Mo_fold 76 = .ok (.iconst 0, 1) := by decide +kernel
theorem d_Mo_fold_77 : decode b_Mo_fold 77 = .ok (.istore 5, 2) := by decide +kernel
theorem d_Mo_fold_79 : decode b_Mo_fold 79 = .ok (.iconst 2, 1) := by decide +kernel
theorem d_Mo_fold_80 : decode b_Mo_fold 80 = .ok (.iload_n 2, 1) := by decide +kernel
theorem d_Mo_fold_81 : decode b_Mo_fold 81 = .ok (.invokestatic 88, 3) := by decide +kernel
theorem d_Mo_fold_84 : decode b_Mo_fold 84 = .ok (.imul, 1) := by decide +kernel
theorem d_Mo_fold_85 : decode b_Mo_fold 85 = .ok (.iload 5, 2) := by decide +kernel
theorem d_Mo_fold_87 : decode b_Mo_fold 87 = .ok (.ifCond .eq 7, 3) := by decide +kernel
theorem d_Mo_fold_90 : decode b_Mo_fold 90 = .ok (.iconst 1, 1) := by decide +kernel
theorem d_Mo_fold_91 : decode b_Mo_fold 91 = .ok (.goto 4, 3) := by decide +kernel
theorem d_Mo_fold_94 : decode b_Mo_fold 94 = .ok (.iconst 0, 1) := by decide +kernel
theorem d_Mo_fold_95 : decode b_Mo_fold 95 = .ok (.isub, 1) := by decide +kernel
theorem d_Mo_fold_96 : decode b_Mo_fold 96 = .ok (.aload_n 0, 1) := by decide +kernel
theorem d_Mo_fold_97 : decode b_Mo_fold 97 = .ok (.iload_n 1, 1) := by decide +kernel
theorem d_Mo_fold_98 : decode b_Mo_fold 98 = .ok (.invokevirtual 139, 3) := by decide +kernel
theorem d_Mo_fold_101 : decode b_Mo_fold 101 = .ok (.isub, 1) := by decide +kernel
theorem d_Mo_fold_102 : decode b_Mo_fold 102 = .ok (.ireturn, 1) := by decide +kernel
theorem d_Mo_fold_103 : decode b_Mo_fold 103 = .ok (.aload_n 0, 1) := by decide +kernel
theorem d_Mo_fold_104 : decode b_Mo_fold 104 = .ok (.getfield 60, 3) := by decide +kernel
theorem d_Mo_fold_107 : decode b_Mo_fold 107 = .ok (.ifCond .ne 44, 3) := by decide +kernel
theorem d_Mo_fold_110 : decode b_Mo_fold 110 = .ok (.iload_n 3, 1) := by decide +kernel
theorem d_Mo_fold_111 : decode b_Mo_fold 111 = .ok (.ifCond .eq 40, 3) := by decide +kernel
theorem d_Mo_fold_114 : decode b_Mo_fold 114 = .ok (.iconst 2, 1) := by decide +kernel
theorem d_Mo_fold_115 : decode b_Mo_fold 115 = .ok (.aload_n 0, 1) := by decide +kernel
theorem d_Mo_fold_116 : decode b_Mo_fold 116 = .ok (.getfield 40, 3) := by decide +kernel
theorem d_Mo_fold_119 : decode b_Mo_fold 119 = .ok (.iload_n 1, 1) := by decide +kernel
theorem d_Mo_fold_120 : decode b_Mo_fold 120 = .ok (.iaload, 1) := by decide +kernel
theorem d_Mo_fold_121 : decode b_Mo_fold 121 = .ok (.imul, 1) := by decide +kernel
theorem d_Mo_fold_122 : decode b_Mo_fold 122 = .ok (.aload_n 0, 1) := by decide +kernel
theorem d_Mo_fold_123 : decode b_Mo_fold 123 = .ok (.getfield 37, 3) := by decide +kernel
theorem d_Mo_fold_126 : decode b_Mo_fold 126 = .ok (.iload_n 1, 1) := by decide +kernel
theorem d_Mo_fold_127 : decode b_Mo_fold 127 = .ok (.iaload, 1) := by decide +kernel
theorem d_Mo_fold_128 : decode b_Mo_fold 128 = .ok (.ineg, 1) := by decide +kernel
theorem d_Mo_fold_129 : decode b_Mo_fold 129 = .ok (.if_icmp .gt 22, 3) := by decide +kernel
theorem d_Mo_fold_132 : decode b_Mo_fold 132 = .ok (.iload_n 2, 1) := by decide +kernel
theorem d_Mo_fold_133 : decode b_Mo_fold 133 = .ok (.ifCond .ge 12, 3) := by decide +kernel
theorem d_Mo_fold_136 : decode b_Mo_fold 136 = .ok (.bipush (-2), 2) := by decide +kernel
theorem d_Mo_fold_138 : decode b_Mo_fold 138 = .ok (.iload_n 2, 1) := by decide +kernel
theorem d_Mo_fold_139 : decode b_Mo_fold 139 = .ok (.iconst 1, 1) := by decide +kernel
theorem d_Mo_fold_140 : decode b_Mo_fold 140 = .ok (.iadd, 1) := by decide +kernel
theorem d_Mo_fold_141 : decode b_Mo_fold 141 = .ok (.imul, 1) := by decide +kernel
theorem d_Mo_fold_142 : decode b_Mo_fold 142 = .ok (.goto 8, 3) := by decide +kernel
theorem d_Mo_fold_145 : decode b_Mo_fold 145 = .ok (.iconst 2, 1) := by decide +kernel
theorem d_Mo_fold_146 : decode b_Mo_fold 146 = .ok (.iload_n 2, 1) := by decide +kernel
theorem d_Mo_fold_147 : decode b_Mo_fold 147 = .ok (.imul, 1) := by decide +kernel
theorem d_Mo_fold_148 : decode b_Mo_fold 148 = .ok (.iconst 1, 1) := by decide +kernel
theorem d_Mo_fold_149 : decode b_Mo_fold 149 = .ok (.iadd, 1) := by decide +kernel
theorem d_Mo_fold_150 : decode b_Mo_fold 150 = .ok (.ireturn, 1) := by decide +kernel
theorem d_Mo_fold_151 : decode b_Mo_fold 151 = .ok (.iload_n 2, 1) := by decide +kernel
theorem d_Mo_fold_152 : decode b_Mo_fold 152 = .ok (.ifCond .ge 12, 3) := by decide +kernel
theorem d_Mo_fold_155 : decode b_Mo_fold 155 = .ok (.bipush (-2), 2) := by decide +kernel
theorem d_Mo_fold_157 : decode b_Mo_fold 157 = .ok (.iload_n 2, 1) := by decide +kernel
theorem d_Mo_fold_158 : decode b_Mo_fold 158 = .ok (.imul, 1) := by decide +kernel
theorem d_Mo_fold_159 : decode b_Mo_fold 159 = .ok (.iconst 1, 1) := by decide +kernel
theorem d_Mo_fold_160 : decode b_Mo_fold 160 = .ok (.isub, 1) := by decide +kernel
theorem d_Mo_fold_161 : decode b_Mo_fold 161 = .ok (.goto 6, 3) := by decide +kernel
theorem d_Mo_fold_164 : decode b_Mo_fold 164 = .ok (.iconst 2, 1) := by decide +kernel
theorem d_Mo_fold_165 : decode b_Mo_fold 165 = .ok (.iload_n 2, 1) := by decide +kernel
theorem d_Mo_fold_166 : decode b_Mo_fold 166 = .ok (.imul, 1) := by decide +kernel
theorem d_Mo_fold_167 : decode b_Mo_fold 167 = .ok (.ireturn, 1) := by decide +kernel
theorem d_Mo_unfold_0 : decode b_Mo_unfold 0 = .ok (.iload_n 2, 1) := by decide +kernel
theorem d_Mo_unfold_1 : decode b_Mo_unfold 1 = .ok (.iconst 2, 1) := by decide +kernel
theorem d_Mo_unfold_2 : decode b_Mo_unfold 2 = .ok (.idiv, 1) := by decide +kernel
theorem d_Mo_unfold_3 : decode b_Mo_unfold 3 = .ok (.istore_n 3, 1) := by decide +kernel
theorem d_Mo_unfold_4 : decode b_Mo_unfold 4 = .ok (.iconst 3, 1) := by decide +kernel
theorem d_Mo_unfold_5 : decode b_Mo_unfold 5 = .ok (.aload_n 0, 1) := by decide +kernel
theorem d_Mo_unfold_6 : decode b_Mo_unfold 6 = .ok (.getfield 66, 3) := by decide +kernel
theorem d_Mo_unfold_9 : decode b_Mo_unfold 9 = .ok (.imul, 1) := by decide +kernel
theorem d_Mo_unfold_10 : decode b_Mo_unfold 10 = .ok (.istore 4, 2) := by decide +kernel
theorem d_Mo_unfold_12 : decode b_Mo_unfold 12 = .ok (.iload_n 3, 1) := by decide +kernel
theorem d_Mo_unfold_13 : decode b_Mo_unfold 13 = .ok (.iconst 1, 1) := by decide +kernel
theorem d_Mo_unfold_14 : decode b_Mo_unfold 14 = .ok (.isub, 1) := by decide +kernel
theorem d_Mo_unfold_15 : decode b_Mo_unfold 15 = .ok (.istore 5, 2) := by decide +kernel
theorem d_Mo_unfold_17 : decode b_Mo_unfold 17 = .ok (.iload 5, 2) := by decide +kernel
theorem d_Mo_unfold_19 : decode b_Mo_unfold 19 = .ok (.iload_n 3, 1) := by decide +kernel
theorem d_Mo_unfold_20 : decode b_Mo_unfold 20 = .ok (.iconst 1, 1) := by decide +kernel
theorem d_Mo_unfold_21 : decode b_Mo_unfold 21 = .ok (.iadd, 1) := by decide +kernel
theorem d_Mo_unfold_22 : decode b_Mo_unfold 22 = .ok (.if_icmp .gt 75, 3) := by decide +kernel
theorem d_Mo_unfold_25 : decode b_Mo_unfold 25 = .ok (.aload_n 0, 1) := by decide +kernel
theorem d_Mo_unfold_26 : decode b_Mo_unfold 26 = .ok (.iload 5, 2) := by decide +kernel
theorem d_Mo_unfold_28 : decode b_Mo_unfold 28 = .ok (.invokevirtual 142, 3) := by decide +kernel
theorem d_Mo_unfold_31 : decode b_Mo_unfold 31 = .ok (.iload 5, 2) := by decide +kernel
theorem d_Mo_unfold_33 : decode b_Mo_unfold 33 = .ok (.if_icmp .ne 19, 3) := by decide +kernel
theorem d_Mo_unfold_36 : decode b_Mo_unfold 36 = .ok (.aload_n 0, 1) := by decide +kernel
theorem d_Mo_unfold_37 : decode b_Mo_unfold 37 = .ok (.iload_n 1, 1) := by decide +kernel
theorem d_Mo_unfold_38 : decode b_Mo_unfold 38 = .ok (.iload 5, 2) := by decide +kernel
theorem d_Mo_unfold_40 : decode b_Mo_unfold 40 = .ok (.invokevirtual 145, 3) := by decide +kernel
theorem d_Mo_unfold_43 : decode b_Mo_unfold 43 = .ok (.iload_n 2, 1) := by decide +kernel
theorem d_Mo_unfold_44 : decode b_Mo_unfold 44 = .ok (.if_icmp .ne 8, 3) := by decide +kernel
theorem d_Mo_unfold_47 : decode b_Mo_unfold 47 = .ok (.iload 5, 2) := by decide +kernel
theorem d_Mo_unfold_49 : decode b_Mo_unfold 49 = .ok (.goto 5, 3) := by decide +kernel
theorem d_Mo_unfold_52 : decode b_Mo_unfold 52 = .ok (.iload 4, 2) := by decide +kernel
theorem d_Mo_unfold_54 : decode b_Mo_unfold 54 = .ok (.istore 4, 2) := by decide +kernel
theorem d_Mo_unfold_56 : decode b_Mo_unfold 56 = .ok (.aload_n 0, 1) := by decide +kernel
theorem d_Mo_unfold_57 : decode b_Mo_unfold 57 = .ok (.iload 5, 2) := by decide +kernel
theorem d_Mo_unfold_59 : decode b_Mo_unfold 59 = .ok (.ineg, 1) := by decide +kernel
theorem d_Mo_unfold_60 : decode b_Mo_unfold 60 = .ok (.invokevirtual 142, 3) := by decide +kernel
theorem d_Mo_unfold_63 : decode b_Mo_unfold 63 = .ok (.iload 5, 2) := by decide +kernel
theorem d_Mo_unfold_65 : decode b_Mo_unfold 65 = .ok (.ineg, 1) := by decide +kernel
theorem d_Mo_unfold_66 : decode b_Mo_unfold 66 = .ok (.if_icmp .ne 21, 3) := by decide +kernel
theorem d_Mo_unfold_69 : decode b_Mo_unfold 69 = .ok (.aload_n 0, 1) := by decide +kernel
theorem d_Mo_unfold_70 : decode b_Mo_unfold 70 = .ok (.iload_n 1, 1) := by decide +kernel
theorem d_Mo_unfold_71 : decode b_Mo_unfold 71 = .ok (.iload 5, 2) := by decide +kernel
theorem d_Mo_unfold_73 : decode b_Mo_unfold 73 = .ok (.ineg, 1) := by decide +kernel
theorem d_Mo_unfold_74 : decode b_Mo_unfold 74 = .ok (.invokevirtual 145, 3) := by decide +kernel
theorem d_Mo_unfold_77 : decode b_Mo_unfold 77 = .ok (.iload_n 2, 1) := by decide +kernel
theorem d_Mo_unfold_78 : decode b_Mo_unfold 78 = .ok (.if_icmp .ne 9, 3) := by decide +kernel
theorem d_Mo_unfold_81 : decode b_Mo_unfold 81 = .ok (.iload 5, 2) := by decide +kernel
theorem d_Mo_unfold_83 : decode b_Mo_unfold 83 = .ok (.ineg, 1) := by decide +kernel
theorem d_Mo_unfold_84 : decode b_Mo_unfold 84 = .ok (.goto 5, 3) := by decide +kernel
theorem d_Mo_unfold_87 : decode b_Mo_unfold 87 = .ok (.iload 4, 2) := by decide +kernel
theorem d_Mo_unfold_89 : decode b_Mo_unfold 89 = .ok (.istore 4, 2) := by decide +kernel
theorem d_Mo_unfold_91 : decode b_Mo_unfold 91 = .ok (.iinc 5 1, 3) := by decide +kernel
theorem d_Mo_unfold_94 : decode b_Mo_unfold 94 = .ok (.goto (-77), 3) := by decide +kernel
