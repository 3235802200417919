theorem dL_below_0 : decode cL_below 0 = .ok (.iload_n 0, 1) := by decide +kernel
theorem dL_below_1 : decode cL_below 1 = .ok (.ldc 7, 2) := by decide +kernel
theorem dL_below_3 : decode cL_below 3 = .ok (.iand, 1) := by decide +kernel
theorem dL_below_4 : decode cL_below 4 = .ok (.iload_n 1, 1) := by decide +kernel
theorem dL_below_5 : decode cL_below 5 = .ok (.irem, 1) := by decide +kernel
theorem dL_below_6 : decode cL_below 6 = .ok (.ireturn, 1) := by decide +kernel
theorem dL_cell_0 : decode cL_cell 0 = .ok (.iload_n 1, 1) := by decide +kernel
theorem dL_cell_1 : decode cL_cell 1 = .ok (.aload_n 0, 1) := by decide +kernel
theorem dL_cell_2 : decode cL_cell 2 = .ok (.arraylength, 1) := by decide +kernel
theorem dL_cell_3 : decode cL_cell 3 = .ok (.if_icmp .ge 9, 3) := by decide +kernel
theorem dL_cell_6 : decode cL_cell 6 = .ok (.aload_n 0, 1) := by decide +kernel
theorem dL_cell_7 : decode cL_cell 7 = .ok (.iload_n 1, 1) := by decide +kernel
theorem dL_cell_8 : decode cL_cell 8 = .ok (.iaload, 1) := by decide +kernel
theorem dL_cell_9 : decode cL_cell 9 = .ok (.goto 9, 3) := by decide +kernel
theorem dL_cell_12 : decode cL_cell 12 = .ok (.ldc 8, 2) := by decide +kernel
theorem dL_cell_14 : decode cL_cell 14 = .ok (.iload_n 1, 1) := by decide +kernel
theorem dL_cell_15 : decode cL_cell 15 = .ok (.iconst 3, 1) := by decide +kernel
theorem dL_cell_16 : decode cL_cell 16 = .ok (.iadd, 1) := by decide +kernel
theorem dL_cell_17 : decode cL_cell 17 = .ok (.imul, 1) := by decide +kernel
theorem dL_cell_18 : decode cL_cell 18 = .ok (.ireturn, 1) := by decide +kernel
theorem dL_act_0 : decode cL_act 0 = .ok (.iload_n 2, 1) := by decide +kernel
theorem dL_act_1 : decode cL_act 1 = .ok (.iconst 4, 1) := by decide +kernel
theorem dL_act_2 : decode cL_act 2 = .ok (.ishr, 1) := by decide +kernel
theorem dL_act_3 : decode cL_act 3 = .ok (.aload_n 1, 1) := by decide +kernel
theorem dL_act_4 : decode cL_act 4 = .ok (.getfield 9, 3) := by decide +kernel
theorem dL_act_7 : decode cL_act 7 = .ok (.arraylength, 1) := by decide +kernel
theorem dL_act_8 : decode cL_act 8 = .ok (.invokestatic 15, 3) := by decide +kernel
theorem dL_act_11 : decode cL_act 11 = .ok (.istore_n 3, 1) := by decide +kernel
theorem dL_act_12 : decode cL_act 12 = .ok (.aload_n 1, 1) := by decide +kernel
theorem dL_act_13 : decode cL_act 13 = .ok (.getfield 9, 3) := by decide +kernel
theorem dL_act_16 : decode cL_act 16 = .ok (.iload_n 3, 1) := by decide +kernel
theorem dL_act_17 : decode cL_act 17 = .ok (.aaload, 1) := by decide +kernel
theorem dL_act_18 : decode cL_act 18 = .ok (.astore 4, 2) := by decide +kernel
theorem dL_act_20 : decode cL_act 20 = .ok (.iload_n 2, 1) := by decide +kernel
theorem dL_act_21 : decode cL_act 21 = .ok (.bipush 16, 2) := by decide +kernel
theorem dL_act_23 : decode cL_act 23 = .ok (.invokestatic 15, 3) := by decide +kernel
theorem dL_act_26 : decode cL_act 26 = .ok (.tableswitch 501 0 9 #[54, 99, 99, 155, 222, 293, 293, 293, 293, 293], 54) := by decide +kernel
theorem dL_act_80 : decode cL_act 80 = .ok (.iconst 2, 1) := by decide +kernel
theorem dL_act_81 : decode cL_act 81 = .ok (.iload_n 2, 1) := by decide +kernel
theorem dL_act_82 : decode cL_act 82 = .ok (.bipush 8, 2) := by decide +kernel
theorem dL_act_84 : decode cL_act 84 = .ok (.ishr, 1) := by decide +kernel
theorem dL_act_85 : decode cL_act 85 = .ok (.bipush 8, 2) := by decide +kernel
theorem dL_act_87 : decode cL_act 87 = .ok (.invokestatic 15, 3) := by decide +kernel
theorem dL_act_90 : decode cL_act 90 = .ok (.iadd, 1) := by decide +kernel
theorem dL_act_91 : decode cL_act 91 = .ok (.istore 5, 2) := by decide +kernel
theorem dL_act_93 : decode cL_act 93 = .ok (.aload 4, 2) := by decide +kernel
theorem dL_act_95 : decode cL_act 95 = .ok (.getfield 21, 3) := by decide +kernel
theorem dL_act_98 : decode cL_act 98 = .ok (.istore 6, 2) := by decide +kernel
theorem dL_act_100 : decode cL_act 100 = .ok (.aload 4, 2) := by decide +kernel
theorem dL_act_102 : decode cL_act 102 = .ok (.iload 5, 2) := by decide +kernel
theorem dL_act_104 : decode cL_act 104 = .ok (.putfield 21, 3) := by decide +kernel
theorem dL_act_107 : decode cL_act 107 = .ok (.aload_n 0, 1) := by decide +kernel
theorem dL_act_108 : decode cL_act 108 = .ok (.iload_n 3, 1) := by decide +kernel
theorem dL_act_109 : decode cL_act 109 = .ok (.iload 5, 2) := by decide +kernel
theorem dL_act_111 : decode cL_act 111 = .ok (.invokevirtual 27, 3) := by decide +kernel
theorem dL_act_114 : decode cL_act 114 = .ok (.iload 6, 2) := by decide +kernel
theorem dL_act_116 : decode cL_act 116 = .ok (.if_icmp .ne 7, 3) := by decide +kernel
theorem dL_act_119 : decode cL_act 119 = .ok (.iconst 1, 1) := by decide +kernel
theorem dL_act_120 : decode cL_act 120 = .ok (.goto 4, 3) := by decide +kernel
theorem dL_act_123 : decode cL_act 123 = .ok (.iconst 0, 1) := by decide +kernel
theorem dL_act_124 : decode cL_act 124 = .ok (.ireturn, 1) := by decide +kernel
theorem dL_act_125 : decode cL_act 125 = .ok (.aload 4, 2) := by decide +kernel
theorem dL_act_127 : decode cL_act 127 = .ok (.getfield 32, 3) := by decide +kernel
theorem dL_act_130 : decode cL_act 130 = .ok (.istore 5, 2) := by decide +kernel
theorem dL_act_132 : decode cL_act 132 = .ok (.aload 4, 2) := by decide +kernel
theorem dL_act_134 : decode cL_act 134 = .ok (.iload_n 2, 1) := by decide +kernel
theorem dL_act_135 : decode cL_act 135 = .ok (.bipush 8, 2) := by decide +kernel
theorem dL_act_137 : decode cL_act 137 = .ok (.ishr, 1) := by decide +kernel
theorem dL_act_138 : decode cL_act 138 = .ok (.iconst 3, 1) := by decide +kernel
theorem dL_act_139 : decode cL_act 139 = .ok (.invokestatic 15, 3) := by decide +kernel
theorem dL_act_142 : decode cL_act 142 = .ok (.ifCond .ne 14, 3) := by decide +kernel
theorem dL_act_145 : decode cL_act 145 = .ok (.iload_n 2, 1) := by decide +kernel
theorem dL_act_146 : decode cL_act 146 = .ok (.bipush 6, 2) := by decide +kernel
theorem dL_act_148 : decode cL_act 148 = .ok (.ishr, 1) := by decide +kernel
theorem dL_act_149 : decode cL_act 149 = .ok (.iconst 3, 1) := by decide +kernel
theorem dL_act_150 : decode cL_act 150 = .ok (.invokestatic 15, 3) := by decide +kernel
theorem dL_act_153 : decode cL_act 153 = .ok (.goto 4, 3) := by decide +kernel
theorem dL_act_156 : decode cL_act 156 = .ok (.iconst 0, 1) := by decide +kernel
theorem dL_act_157 : decode cL_act 157 = .ok (.putfield 32, 3) := by decide +kernel
theorem dL_act_160 : decode cL_act 160 = .ok (.aload_n 0, 1) := by decide +kernel
theorem dL_act_161 : decode cL_act 161 = .ok (.iload_n 3, 1) := by decide +kernel
theorem dL_act_162 : decode cL_act 162 = .ok (.aload 4, 2) := by decide +kernel
theorem dL_act_164 : decode cL_act 164 = .ok (.getfield 32, 3) := by decide +kernel
theorem dL_act_167 : decode cL_act 167 = .ok (.invokevirtual 35, 3) := by decide +kernel
theorem dL_act_170 : decode cL_act 170 = .ok (.iload 5, 2) := by decide +kernel
theorem dL_act_172 : decode cL_act 172 = .ok (.if_icmp .ne 7, 3) := by decide +kernel
theorem dL_act_175 : decode cL_act 175 = .ok (.iconst 1, 1) := by decide +kernel
theorem dL_act_176 : decode cL_act 176 = .ok (.goto 4, 3) := by decide +kernel
theorem dL_act_179 : decode cL_act 179 = .ok (.iconst 0, 1) := by decide +kernel
theorem dL_act_180 : decode cL_act 180 = .ok (.ireturn, 1) := by decide +kernel
theorem dL_act_181 : decode cL_act 181 = .ok (.aload 4, 2) := by decide +kernel
theorem dL_act_183 : decode cL_act 183 = .ok (.aload 4, 2) := by decide +kernel
theorem dL_act_185 : decode cL_act 185 = .ok (.getfield 38, 3) := by decide +kernel
theorem dL_act_188 : decode cL_act 188 = .ok (.ifCond .ne 7, 3) := by decide +kernel
theorem dL_act_191 : decode cL_act 191 = .ok (.iconst 1, 1) := by decide +kernel
theorem dL_act_192 : decode cL_act 192 = .ok (.goto 4, 3) := by decide +kernel
theorem dL_act_195 : decode cL_act 195 = .ok (.iconst 0, 1) := by decide +kernel
theorem dL_act_196 : decode cL_act 196 = .ok (.putfield 38, 3) := by decide +kernel
theorem dL_act_199 : decode cL_act 199 = .ok (.aload 4, 2) := by decide +kernel
theorem dL_act_201 : decode cL_act 201 = .ok (.getfield 38, 3) := by decide +kernel
theorem dL_act_204 : decode cL_act 204 = .ok (.ifCond .eq 25, 3) := by decide +kernel
theorem dL_act_207 : decode cL_act 207 = .ok (.aload 4, 2) := by decide +kernel
theorem dL_act_209 : decode cL_act 209 = .ok (.iconst 0, 1) := by decide +kernel
theorem dL_act_210 : decode cL_act 210 = .ok (.putfield 42, 3) := by decide +kernel
theorem dL_act_213 : decode cL_act 213 = .ok (.aload 4, 2) := by decide +kernel
theorem dL_act_215 : decode cL_act 215 = .ok (.aload 4, 2) := by decide +kernel
theorem dL_act_217 : decode cL_act 217 = .ok (.getfield 21, 3) := by decide +kernel
theorem dL_act_220 : decode cL_act 220 = .ok (.putfield 45, 3) := by decide +kernel
theorem dL_act_223 : decode cL_act 223 = .ok (.aload 4, 2) := by decide +kernel
theorem dL_act_225 : decode cL_act 225 = .ok (.iconst 0, 1) := by decide +kernel
theorem dL_act_226 : decode cL_act 226 = .ok (.putfield 48, 3) := by decide +kernel
theorem dL_act_229 : decode cL_act 229 = .ok (.aload_n 0, 1) := by decide +kernel
theorem dL_act_230 : decode cL_act 230 = .ok (.iload_n 3, 1) := by decide +kernel
theorem dL_act_231 : decode cL_act 231 = .ok (.invokevirtual 51, 3) := by decide +kernel
theorem dL_act_234 : decode cL_act 234 = .ok (.aload 4, 2) := by decide +kernel
theorem dL_act_236 : decode cL_act 236 = .ok (.getfield 38, 3) := by decide +kernel
theorem dL_act_239 : decode cL_act 239 = .ok (.if_icmp .ne 7, 3) := by decide +kernel
theorem dL_act_242 : decode cL_act 242 = .ok (.iconst 1, 1) := by decide +kernel
theorem dL_act_243 : decode cL_act 243 = .ok (.goto 4, 3) := by decide +kernel
theorem dL_act_246 : decode cL_act 246 = .ok (.iconst 0, 1) := by decide +kernel
theorem dL_act_247 : decode cL_act 247 = .ok (.ireturn, 1) := by decide +kernel
theorem dL_act_248 : decode cL_act 248 = .ok (.iload_n 2, 1) := by decide +kernel
theorem dL_act_249 : decode cL_act 249 = .ok (.bipush 9, 2) := by decide +kernel
theorem dL_act_251 : decode cL_act 251 = .ok (.ishr, 1) := by decide +kernel
theorem dL_act_252 : decode cL_act 252 = .ok (.iconst 2, 1) := by decide +kernel
theorem dL_act_253 : decode cL_act 253 = .ok (.invokestatic 15, 3) := by decide +kernel
theorem dL_act_256 : decode cL_act 256 = .ok (.ifCond .ne 5, 3) := by decide +kernel
theorem dL_act_259 : decode cL_act 259 = .ok (.iconst 1, 1) := by decide +kernel
theorem dL_act_260 : decode cL_act 260 = .ok (.ireturn, 1) := by decide +kernel
theorem dL_act_261 : decode cL_act 261 = .ok (.iconst 0, 1) := by decide +kernel
theorem dL_act_262 : decode cL_act 262 = .ok (.istore 5, 2) := by decide +kernel
theorem dL_act_264 : decode cL_act 264 = .ok (.iload 5, 2) := by decide +kernel
theorem dL_act_266 : decode cL_act 266 = .ok (.aload_n 1, 1) := by decide +kernel
theorem dL_act_267 : decode cL_act 267 = .ok (.getfield 9, 3) := by decide +kernel
theorem dL_act_270 : decode cL_act 270 = .ok (.arraylength, 1) := by decide +kernel
theorem dL_act_271 : decode cL_act 271 = .ok (.if_icmp .ge 46, 3) := by decide +kernel
theorem dL_act_274 : decode cL_act 274 = .ok (.aload_n 1, 1) := by decide +kernel
theorem dL_act_275 : decode cL_act 275 = .ok (.getfield 9, 3) := by decide +kernel
theorem dL_act_278 : decode cL_act 278 = .ok (.iload 5, 2) := by decide +kernel
theorem dL_act_280 : decode cL_act 280 = .ok (.aaload, 1) := by decide +kernel
theorem dL_act_281 : decode cL_act 281 = .ok (.getfield 32, 3) := by decide +kernel
theorem dL_act_284 : decode cL_act 284 = .ok (.istore 6, 2) := by decide +kernel
theorem dL_act_286 : decode cL_act 286 = .ok (.aload_n 1, 1) := by decide +kernel
theorem dL_act_287 : decode cL_act 287 = .ok (.getfield 9, 3) := by decide +kernel
theorem dL_act_290 : decode cL_act 290 = .ok (.iload 5, 2) := by decide +kernel
theorem dL_act_292 : decode cL_act 292 = .ok (.aaload, 1) := by decide +kernel
theorem dL_act_293 : decode cL_act 293 = .ok (.iconst 0, 1) := by decide +kernel
theorem dL_act_294 : decode cL_act 294 = .ok (.putfield 32, 3) := by decide +kernel
theorem dL_act_297 : decode cL_act 297 = .ok (.aload_n 0, 1) := by decide +kernel
theorem dL_act_298 : decode cL_act 298 = .ok (.iload 5, 2) := by decide +kernel
theorem dL_act_300 : decode cL_act 300 = .ok (.iconst 0, 1) := by decide +kernel
theorem dL_act_301 : decode cL_act 301 = .ok (.invokevirtual 35, 3) := by decide +kernel
theorem dL_act_304 : decode cL_act 304 = .ok (.iload 6, 2) := by decide +kernel
theorem dL_act_306 : decode cL_act 306 = .ok (.if_icmp .eq 5, 3) := by decide +kernel
theorem dL_act_309 : decode cL_act 309 = .ok (.iconst 0, 1) := by decide +kernel
theorem dL_act_310 : decode cL_act 310 = .ok (.ireturn, 1) := by decide +kernel
theorem dL_act_311 : decode cL_act 311 = .ok (.iinc 5 1, 3) := by decide +kernel
theorem dL_act_314 : decode cL_act 314 = .ok (.goto (-50), 3) := by decide +kernel
theorem dL_act_317 : decode cL_act 317 = .ok (.iconst 1, 1) := by decide +kernel
theorem dL_act_318 : decode cL_act 318 = .ok (.ireturn, 1) := by decide +kernel
theorem dL_act_319 : decode cL_act 319 = .ok (.iconst 1, 1) := by decide +kernel
theorem dL_act_320 : decode cL_act 320 = .ok (.iload_n 2, 1) := by decide +kernel
theorem dL_act_321 : decode cL_act 321 = .ok (.bipush 8, 2) := by decide +kernel
theorem dL_act_323 : decode cL_act 323 = .ok (.ishr, 1) := by decide +kernel
theorem dL_act_324 : decode cL_act 324 = .ok (.iconst 2, 1) := by decide +kernel
theorem dL_act_325 : decode cL_act 325 = .ok (.invokestatic 15, 3) := by decide +kernel
theorem dL_act_328 : decode cL_act 328 = .ok (.iadd, 1) := by decide +kernel
theorem dL_act_329 : decode cL_act 329 = .ok (.istore 5, 2) := by decide +kernel
theorem dL_act_331 : decode cL_act 331 = .ok (.iconst 0, 1) := by decide +kernel
theorem dL_act_332 : decode cL_act 332 = .ok (.istore 6, 2) := by decide +kernel
theorem dL_act_334 : decode cL_act 334 = .ok (.iload 6, 2) := by decide +kernel
theorem dL_act_336 : decode cL_act 336 = .ok (.iload 5, 2) := by decide +kernel
theorem dL_act_338 : decode cL_act 338 = .ok (.if_icmp .ge 187, 3) := by decide +kernel
theorem dL_act_341 : decode cL_act 341 = .ok (.iconst 0, 1) := by decide +kernel
theorem dL_act_342 : decode cL_act 342 = .ok (.istore 7, 2) := by decide +kernel
theorem dL_act_344 : decode cL_act 344 = .ok (.iload 7, 2) := by decide +kernel
theorem dL_act_346 : decode cL_act 346 = .ok (.aload_n 1, 1) := by decide +kernel
theorem dL_act_347 : decode cL_act 347 = .ok (.getfield 9, 3) := by decide +kernel
theorem dL_act_350 : decode cL_act 350 = .ok (.arraylength, 1) := by decide +kernel
theorem dL_act_351 : decode cL_act 351 = .ok (.if_icmp .ge 168, 3) := by decide +kernel
theorem dL_act_354 : decode cL_act 354 = .ok (.aload_n 1, 1) := by decide +kernel
theorem dL_act_355 : decode cL_act 355 = .ok (.getfield 9, 3) := by decide +kernel
theorem dL_act_358 : decode cL_act 358 = .ok (.iload 7, 2) := by decide +kernel
theorem dL_act_360 : decode cL_act 360 = .ok (.aaload, 1) := by decide +kernel
theorem dL_act_361 : decode cL_act 361 = .ok (.astore 8, 2) := by decide +kernel
theorem dL_act_363 : decode cL_act 363 = .ok (.iload_n 2, 1) := by decide +kernel
theorem dL_act_364 : decode cL_act 364 = .ok (.iconst 3, 1) := by decide +kernel
theorem dL_act_365 : decode cL_act 365 = .ok (.ishr, 1) := by decide +kernel
theorem dL_act_366 : decode cL_act 366 = .ok (.bipush 37, 2) := by decide +kernel
theorem dL_act_368 : decode cL_act 368 = .ok (.iload 7, 2) := by decide +kernel
theorem dL_act_370 : decode cL_act 370 = .ok (.imul, 1) := by decide +kernel
theorem dL_act_371 : decode cL_act 371 = .ok (.iadd, 1) := by decide +kernel
theorem dL_act_372 : decode cL_act 372 = .ok (.bipush 11, 2) := by decide +kernel
theorem dL_act_374 : decode cL_act 374 = .ok (.iload 6, 2) := by decide +kernel
theorem dL_act_376 : decode cL_act 376 = .ok (.imul, 1) := by decide +kernel
theorem dL_act_377 : decode cL_act 377 = .ok (.iadd, 1) := by decide +kernel
theorem dL_act_378 : decode cL_act 378 = .ok (.bipush 100, 2) := by decide +kernel
theorem dL_act_380 : decode cL_act 380 = .ok (.invokestatic 15, 3) := by decide +kernel
theorem dL_act_383 : decode cL_act 383 = .ok (.istore 9, 2) := by decide +kernel
theorem dL_act_385 : decode cL_act 385 = .ok (.aload 8, 2) := by decide +kernel
theorem dL_act_387 : decode cL_act 387 = .ok (.getfield 38, 3) := by decide +kernel
theorem dL_act_390 : decode cL_act 390 = .ok (.ifCond .eq 27, 3) := by decide +kernel
theorem dL_act_393 : decode cL_act 393 = .ok (.aload 8, 2) := by decide +kernel
theorem dL_act_395 : decode cL_act 395 = .ok (.getfield 42, 3) := by decide +kernel
theorem dL_act_398 : decode cL_act 398 = .ok (.iconst 2, 1) := by decide +kernel
theorem dL_act_399 : decode cL_act 399 = .ok (.if_icmp .ne 18, 3) := by decide +kernel
theorem dL_act_402 : decode cL_act 402 = .ok (.aload 8, 2) := by decide +kernel
theorem dL_act_404 : decode cL_act 404 = .ok (.getfield 55, 3) := by decide +kernel
theorem dL_act_407 : decode cL_act 407 = .ok (.arraylength, 1) := by decide +kernel
theorem dL_act_408 : decode cL_act 408 = .ok (.bipush 10, 2) := by decide +kernel
theorem dL_act_410 : decode cL_act 410 = .ok (.if_icmp .ge 7, 3) := by decide +kernel
theorem dL_act_413 : decode cL_act 413 = .ok (.iconst 1, 1) := by decide +kernel
theorem dL_act_414 : decode cL_act 414 = .ok (.goto 4, 3) := by decide +kernel
theorem dL_act_417 : decode cL_act 417 = .ok (.iconst 0, 1) := by decide +kernel
theorem dL_act_418 : decode cL_act 418 = .ok (.istore 10, 2) := by decide +kernel
theorem dL_act_420 : decode cL_act 420 = .ok (.iload 10, 2) := by decide +kernel
theorem dL_act_422 : decode cL_act 422 = .ok (.ifCond .ne 12, 3) := by decide +kernel
theorem dL_act_425 : decode cL_act 425 = .ok (.iload 7, 2) := by decide +kernel
theorem dL_act_427 : decode cL_act 427 = .ok (.iload_n 3, 1) := by decide +kernel
theorem dL_act_428 : decode cL_act 428 = .ok (.if_icmp .eq 6, 3) := by decide +kernel
theorem dL_act_431 : decode cL_act 431 = .ok (.goto 82, 3) := by decide +kernel
theorem dL_act_434 : decode cL_act 434 = .ok (.iconst 1, 1) := by decide +kernel
theorem dL_act_435 : decode cL_act 435 = .ok (.anewarray 59, 3) := by decide +kernel
theorem dL_act_438 : decode cL_act 438 = .ok (.dup, 1) := by decide +kernel
theorem dL_act_439 : decode cL_act 439 = .ok (.iconst 0, 1) := by decide +kernel
theorem dL_act_440 : decode cL_act 440 = .ok (.iconst 2, 1) := by decide +kernel
theorem dL_act_441 : decode cL_act 441 = .ok (.newarray .int, 2) := by decide +kernel
theorem dL_act_443 : decode cL_act 443 = .ok (.dup, 1) := by decide +kernel
theorem dL_act_444 : decode cL_act 444 = .ok (.iconst 0, 1) := by decide +kernel
theorem dL_act_445 : decode cL_act 445 = .ok (.aload 8, 2) := by decide +kernel
theorem dL_act_447 : decode cL_act 447 = .ok (.getfield 61, 3) := by decide +kernel
theorem dL_act_450 : decode cL_act 450 = .ok (.iastore, 1) := by decide +kernel
theorem dL_act_451 : decode cL_act 451 = .ok (.dup, 1) := by decide +kernel
theorem dL_act_452 : decode cL_act 452 = .ok (.iconst 1, 1) := by decide +kernel
theorem dL_act_453 : decode cL_act 453 = .ok (.iload 9, 2) := by decide +kernel
theorem dL_act_455 : decode cL_act 455 = .ok (.iastore, 1) := by decide +kernel
theorem dL_act_456 : decode cL_act 456 = .ok (.aastore, 1) := by decide +kernel
theorem dL_act_457 : decode cL_act 457 = .ok (.astore 11, 2) := by decide +kernel
theorem dL_act_459 : decode cL_act 459 = .ok (.aload_n 0, 1) := by decide +kernel
theorem dL_act_460 : decode cL_act 460 = .ok (.iload 7, 2) := by decide +kernel
theorem dL_act_462 : decode cL_act 462 = .ok (.iload 9, 2) := by decide +kernel
theorem dL_act_464 : decode cL_act 464 = .ok (.invokevirtual 64, 3) := by decide +kernel
theorem dL_act_467 : decode cL_act 467 = .ok (.istore 12, 2) := by decide +kernel
theorem dL_act_469 : decode cL_act 469 = .ok (.iload 10, 2) := by decide +kernel
theorem dL_act_471 : decode cL_act 471 = .ok (.ifCond .eq 14, 3) := by decide +kernel
theorem dL_act_474 : decode cL_act 474 = .ok (.iload 12, 2) := by decide +kernel
theorem dL_act_476 : decode cL_act 476 = .ok (.aload 8, 2) := by decide +kernel
theorem dL_act_478 : decode cL_act 478 = .ok (.getfield 55, 3) := by decide +kernel
theorem dL_act_481 : decode cL_act 481 = .ok (.arraylength, 1) := by decide +kernel
theorem dL_act_482 : decode cL_act 482 = .ok (.if_icmp .eq 5, 3) := by decide +kernel
theorem dL_act_485 : decode cL_act 485 = .ok (.iconst 0, 1) := by decide +kernel
theorem dL_act_486 : decode cL_act 486 = .ok (.ireturn, 1) := by decide +kernel
theorem dL_act_487 : decode cL_act 487 = .ok (.aload 8, 2) := by decide +kernel
theorem dL_act_489 : decode cL_act 489 = .ok (.aload 8, 2) := by decide +kernel
theorem dL_act_491 : decode cL_act 491 = .ok (.getfield 55, 3) := by decide +kernel
theorem dL_act_494 : decode cL_act 494 = .ok (.arraylength, 1) := by decide +kernel
theorem dL_act_495 : decode cL_act 495 = .ok (.aload 11, 2) := by decide +kernel
theorem dL_act_497 : decode cL_act 497 = .ok (.iconst 0, 1) := by decide +kernel
theorem dL_act_498 : decode cL_act 498 = .ok (.invokevirtual 67, 3) := by decide +kernel
theorem dL_act_501 : decode cL_act 501 = .ok (.goto 12, 3) := by decide +kernel
theorem dL_act_504 : decode cL_act 504 = .ok (.astore 12, 2) := by decide +kernel
theorem dL_act_506 : decode cL_act 506 = .ok (.iload 10, 2) := by decide +kernel
theorem dL_act_508 : decode cL_act 508 = .ok (.ifCond .eq 5, 3) := by decide +kernel
theorem dL_act_511 : decode cL_act 511 = .ok (.iconst 0, 1) := by decide +kernel
theorem dL_act_512 : decode cL_act 512 = .ok (.ireturn, 1) := by decide +kernel
theorem dL_act_513 : decode cL_act 513 = .ok (.iinc 7 1, 3) := by decide +kernel
theorem dL_act_516 : decode cL_act 516 = .ok (.goto (-172), 3) := by decide +kernel
theorem dL_act_519 : decode cL_act 519 = .ok (.iinc 6 1, 3) := by decide +kernel
theorem dL_act_522 : decode cL_act 522 = .ok (.goto (-188), 3) := by decide +kernel
theorem dL_act_525 : decode cL_act 525 = .ok (.iconst 1, 1) := by decide +kernel
theorem dL_act_526 : decode cL_act 526 = .ok (.ireturn, 1) := by decide +kernel
theorem dL_act_527 : decode cL_act 527 = .ok (.iconst 1, 1) := by decide +kernel
theorem dL_act_528 : decode cL_act 528 = .ok (.iload_n 2, 1) := by decide +kernel
theorem dL_act_529 : decode cL_act 529 = .ok (.bipush 8, 2) := by decide +kernel
theorem dL_act_531 : decode cL_act 531 = .ok (.ishr, 1) := by decide +kernel
theorem dL_act_532 : decode cL_act 532 = .ok (.iload_n 2, 1) := by decide +kernel
theorem dL_act_533 : decode cL_act 533 = .ok (.iconst 5, 1) := by decide +kernel
theorem dL_act_534 : decode cL_act 534 = .ok (.ishr, 1) := by decide +kernel
theorem dL_act_535 : decode cL_act 535 = .ok (.bipush 6, 2) := by decide +kernel
theorem dL_act_537 : decode cL_act 537 = .ok (.invokestatic 15, 3) := by decide +kernel
theorem dL_act_540 : decode cL_act 540 = .ok (.ifCond .ne 8, 3) := by decide +kernel
theorem dL_act_543 : decode cL_act 543 = .ok (.bipush 20, 2) := by decide +kernel
theorem dL_act_545 : decode cL_act 545 = .ok (.goto 4, 3) := by decide +kernel
theorem dL_act_548 : decode cL_act 548 = .ok (.iconst 3, 1) := by decide +kernel
theorem dL_act_549 : decode cL_act 549 = .ok (.invokestatic 15, 3) := by decide +kernel
theorem dL_act_552 : decode cL_act 552 = .ok (.iadd, 1) := by decide +kernel
theorem dL_act_553 : decode cL_act 553 = .ok (.istore 5, 2) := by decide +kernel
theorem dL_act_555 : decode cL_act 555 = .ok (.aload_n 1, 1) := by decide +kernel
theorem dL_act_556 : decode cL_act 556 = .ok (.getfield 73, 3) := by decide +kernel
theorem dL_act_559 : decode cL_act 559 = .ok (.istore 6, 2) := by decide +kernel
theorem dL_act_561 : decode cL_act 561 = .ok (.iconst 0, 1) := by decide +kernel
theorem dL_act_562 : decode cL_act 562 = .ok (.istore 7, 2) := by decide +kernel
theorem dL_act_564 : decode cL_act 564 = .ok (.iload 7, 2) := by decide +kernel
theorem dL_act_566 : decode cL_act 566 = .ok (.iload 5, 2) := by decide +kernel
theorem dL_act_568 : decode cL_act 568 = .ok (.if_icmp .ge 13, 3) := by decide +kernel
theorem dL_act_571 : decode cL_act 571 = .ok (.aload_n 1, 1) := by decide +kernel
theorem dL_act_572 : decode cL_act 572 = .ok (.invokevirtual 76, 3) := by decide +kernel
theorem dL_act_575 : decode cL_act 575 = .ok (.iinc 7 1, 3) := by decide +kernel
theorem dL_act_578 : decode cL_act 578 = .ok (.goto (-14), 3) := by decide +kernel
theorem dL_act_581 : decode cL_act 581 = .ok (.aload_n 0, 1) := by decide +kernel
theorem dL_act_582 : decode cL_act 582 = .ok (.iload 5, 2) := by decide +kernel
theorem dL_act_584 : decode cL_act 584 = .ok (.invokevirtual 78, 3) := by decide +kernel
theorem dL_act_587 : decode cL_act 587 = .ok (.aload_n 1, 1) := by decide +kernel
theorem dL_act_588 : decode cL_act 588 = .ok (.getfield 73, 3) := by decide +kernel
theorem dL_act_591 : decode cL_act 591 = .ok (.iload 6, 2) := by decide +kernel
theorem dL_act_593 : decode cL_act 593 = .ok (.isub, 1) := by decide +kernel
theorem dL_act_594 : decode cL_act 594 = .ok (.if_icmp .ne 7, 3) := by decide +kernel
theorem dL_act_597 : decode cL_act 597 = .ok (.iconst 1, 1) := by decide +kernel
theorem dL_act_598 : decode cL_act 598 = .ok (.goto 4, 3) := by decide +kernel
theorem dL_act_601 : decode cL_act 601 = .ok (.iconst 0, 1) := by decide +kernel
theorem dL_act_602 : decode cL_act 602 = .ok (.ireturn, 1) := by decide +kernel
theorem dL_build_0 : decode cL_build 0 = .ok (.iconst 3, 1) := by decide +kernel
theorem dL_build_1 : decode cL_build 1 = .ok (.aload_n 1, 1) := by decide +kernel
theorem dL_build_2 : decode cL_build 2 = .ok (.iconst 0, 1) := by decide +kernel
theorem dL_build_3 : decode cL_build 3 = .ok (.invokestatic 82, 3) := by decide +kernel
theorem dL_build_6 : decode cL_build 6 = .ok (.iconst 5, 1) := by decide +kernel
theorem dL_build_7 : decode cL_build 7 = .ok (.invokestatic 15, 3) := by decide +kernel
theorem dL_build_10 : decode cL_build 10 = .ok (.iadd, 1) := by decide +kernel
theorem dL_build_11 : decode cL_build 11 = .ok (.istore_n 2, 1) := by decide +kernel
theorem dL_build_12 : decode cL_build 12 = .ok (.aload_n 0, 1) := by decide +kernel
theorem dL_build_13 : decode cL_build 13 = .ok (.iload_n 2, 1) := by decide +kernel
theorem dL_build_14 : decode cL_build 14 = .ok (.invokevirtual 86, 3) := by decide +kernel
theorem dL_build_17 : decode cL_build 17 = .ok (.iload_n 2, 1) := by decide +kernel
theorem dL_build_18 : decode cL_build 18 = .ok (.iconst 2, 1) := by decide +kernel
theorem dL_build_19 : decode cL_build 19 = .ok (.idiv, 1) := by decide +kernel
theorem dL_build_20 : decode cL_build 20 = .ok (.iconst 1, 1) := by decide +kernel
theorem dL_build_21 : decode cL_build 21 = .ok (.iadd, 1) := by decide +kernel
theorem dL_build_22 : decode cL_build 22 = .ok (.if_icmp .eq 5, 3) := by decide +kernel
theorem dL_build_25 : decode cL_build 25 = .ok (.aconst_null, 1) := by decide +kernel
theorem dL_build_26 : decode cL_build 26 = .ok (.areturn, 1) := by decide +kernel
theorem dL_build_27 : decode cL_build 27 = .ok (.new 10, 3) := by decide +kernel
theorem dL_build_30 : decode cL_build 30 = .ok (.dup, 1) := by decide +kernel
theorem dL_build_31 : decode cL_build 31 = .ok (.iload_n 2, 1) := by decide +kernel
theorem dL_build_32 : decode cL_build 32 = .ok (.invokespecial 89, 3) := by decide +kernel
theorem dL_build_35 : decode cL_build 35 = .ok (.astore_n 3, 1) := by decide +kernel
theorem dL_build_36 : decode cL_build 36 = .ok (.iconst 0, 1) := by decide +kernel
theorem dL_build_37 : decode cL_build 37 = .ok (.istore 4, 2) := by decide +kernel
theorem dL_build_39 : decode cL_build 39 = .ok (.iload 4, 2) := by decide +kernel
theorem dL_build_41 : decode cL_build 41 = .ok (.bipush 16, 2) := by decide +kernel
theorem dL_build_43 : decode cL_build 43 = .ok (.if_icmp .ge 34, 3) := by decide +kernel
theorem dL_build_46 : decode cL_build 46 = .ok (.aload_n 0, 1) := by decide +kernel
theorem dL_build_47 : decode cL_build 47 = .ok (.aload_n 3, 1) := by decide +kernel
theorem dL_build_48 : decode cL_build 48 = .ok (.aload_n 1, 1) := by decide +kernel
theorem dL_build_49 : decode cL_build 49 = .ok (.iload 4, 2) := by decide +kernel
theorem dL_build_51 : decode cL_build 51 = .ok (.invokestatic 82, 3) := by decide +kernel
theorem dL_build_54 : decode cL_build 54 = .ok (.iconst 2, 1) := by decide +kernel
theorem dL_build_55 : decode cL_build 55 = .ok (.ishr, 1) := by decide +kernel
theorem dL_build_56 : decode cL_build 56 = .ok (.sipush 263, 3) := by decide +kernel
theorem dL_build_59 : decode cL_build 59 = .ok (.iload 4, 2) := by decide +kernel
theorem dL_build_61 : decode cL_build 61 = .ok (.imul, 1) := by decide +kernel
theorem dL_build_62 : decode cL_build 62 = .ok (.iadd, 1) := by decide +kernel
theorem dL_build_63 : decode cL_build 63 = .ok (.invokestatic 92, 3) := by decide +kernel
theorem dL_build_66 : decode cL_build 66 = .ok (.ifCond .ne 5, 3) := by decide +kernel
theorem dL_build_69 : decode cL_build 69 = .ok (.aconst_null, 1) := by decide +kernel
theorem dL_build_70 : decode cL_build 70 = .ok (.areturn, 1) := by decide +kernel
theorem dL_build_71 : decode cL_build 71 = .ok (.iinc 4 1, 3) := by decide +kernel
theorem dL_build_74 : decode cL_build 74 = .ok (.goto (-35), 3) := by decide +kernel
theorem dL_build_77 : decode cL_build 77 = .ok (.aload_n 3, 1) := by decide +kernel
theorem dL_build_78 : decode cL_build 78 = .ok (.areturn, 1) := by decide +kernel
theorem dL_law_0 : decode cL_law 0 = .ok (.new 28, 3) := by decide +kernel
theorem dL_law_3 : decode cL_law 3 = .ok (.dup, 1) := by decide +kernel
theorem dL_law_4 : decode cL_law 4 = .ok (.invokespecial 96, 3) := by decide +kernel
theorem dL_law_7 : decode cL_law 7 = .ok (.astore_n 1, 1) := by decide +kernel
theorem dL_law_8 : decode cL_law 8 = .ok (.aload_n 1, 1) := by decide +kernel
theorem dL_law_9 : decode cL_law 9 = .ok (.aload_n 0, 1) := by decide +kernel
theorem dL_law_10 : decode cL_law 10 = .ok (.invokestatic 97, 3) := by decide +kernel
theorem dL_law_13 : decode cL_law 13 = .ok (.astore_n 2, 1) := by decide +kernel
theorem dL_law_14 : decode cL_law 14 = .ok (.aload_n 2, 1) := by decide +kernel
theorem dL_law_15 : decode cL_law 15 = .ok (.ifnonnull 5, 3) := by decide +kernel
theorem dL_law_18 : decode cL_law 18 = .ok (.iconst 0, 1) := by decide +kernel
theorem dL_law_19 : decode cL_law 19 = .ok (.ireturn, 1) := by decide +kernel
theorem dL_law_20 : decode cL_law 20 = .ok (.aload_n 2, 1) := by decide +kernel
theorem dL_law_21 : decode cL_law 21 = .ok (.getfield 9, 3) := by decide +kernel
theorem dL_law_24 : decode cL_law 24 = .ok (.arraylength, 1) := by decide +kernel
theorem dL_law_25 : decode cL_law 25 = .ok (.istore_n 3, 1) := by decide +kernel
theorem dL_law_26 : decode cL_law 26 = .ok (.iconst 0, 1) := by decide +kernel
theorem dL_law_27 : decode cL_law 27 = .ok (.istore 4, 2) := by decide +kernel
theorem dL_law_29 : decode cL_law 29 = .ok (.iload 4, 2) := by decide +kernel
theorem dL_law_31 : decode cL_law 31 = .ok (.bipush 14, 2) := by decide +kernel
theorem dL_law_33 : decode cL_law 33 = .ok (.if_icmp .ge 994, 3) := by decide +kernel
theorem dL_law_36 : decode cL_law 36 = .ok (.aload_n 0, 1) := by decide +kernel
theorem dL_law_37 : decode cL_law 37 = .ok (.iconst 2, 1) := by decide +kernel
theorem dL_law_38 : decode cL_law 38 = .ok (.iload 4, 2) := by decide +kernel
theorem dL_law_40 : decode cL_law 40 = .ok (.iadd, 1) := by decide +kernel
theorem dL_law_41 : decode cL_law 41 = .ok (.invokestatic 82, 3) := by decide +kernel
theorem dL_law_44 : decode cL_law 44 = .ok (.iconst 1, 1) := by decide +kernel
theorem dL_law_45 : decode cL_law 45 = .ok (.ishr, 1) := by decide +kernel
theorem dL_law_46 : decode cL_law 46 = .ok (.sipush 263, 3) := by decide +kernel
theorem dL_law_49 : decode cL_law 49 = .ok (.iload 4, 2) := by decide +kernel
theorem dL_law_51 : decode cL_law 51 = .ok (.imul, 1) := by decide +kernel
theorem dL_law_52 : decode cL_law 52 = .ok (.iadd, 1) := by decide +kernel
theorem dL_law_53 : decode cL_law 53 = .ok (.istore 5, 2) := by decide +kernel
theorem dL_law_55 : decode cL_law 55 = .ok (.aload_n 1, 1) := by decide +kernel
theorem dL_law_56 : decode cL_law 56 = .ok (.aload_n 2, 1) := by decide +kernel
theorem dL_law_57 : decode cL_law 57 = .ok (.iload 5, 2) := by decide +kernel
theorem dL_law_59 : decode cL_law 59 = .ok (.invokestatic 92, 3) := by decide +kernel
theorem dL_law_62 : decode cL_law 62 = .ok (.ifCond .ne 5, 3) := by decide +kernel
theorem dL_law_65 : decode cL_law 65 = .ok (.iconst 0, 1) := by decide +kernel
theorem dL_law_66 : decode cL_law 66 = .ok (.ireturn, 1) := by decide +kernel
theorem dL_law_67 : decode cL_law 67 = .ok (.aload_n 1, 1) := by decide +kernel
theorem dL_law_68 : decode cL_law 68 = .ok (.invokevirtual 101, 3) := by decide +kernel
theorem dL_law_71 : decode cL_law 71 = .ok (.lstore 6, 2) := by decide +kernel
theorem dL_law_73 : decode cL_law 73 = .ok (.iconst 0, 1) := by decide +kernel
theorem dL_law_74 : decode cL_law 74 = .ok (.istore 8, 2) := by decide +kernel
theorem dL_law_76 : decode cL_law 76 = .ok (.bipush 99, 2) := by decide +kernel
theorem dL_law_78 : decode cL_law 78 = .ok (.istore 9, 2) := by decide +kernel
theorem dL_law_80 : decode cL_law 80 = .ok (.iconst 0, 1) := by decide +kernel
theorem dL_law_81 : decode cL_law 81 = .ok (.istore 10, 2) := by decide +kernel
theorem dL_law_83 : decode cL_law 83 = .ok (.iconst 0, 1) := by decide +kernel
theorem dL_law_84 : decode cL_law 84 = .ok (.istore 11, 2) := by decide +kernel
theorem dL_law_86 : decode cL_law 86 = .ok (.iconst 0, 1) := by decide +kernel
theorem dL_law_87 : decode cL_law 87 = .ok (.istore 12, 2) := by decide +kernel
theorem dL_law_89 : decode cL_law 89 = .ok (.iconst 0, 1) := by decide +kernel
theorem dL_law_90 : decode cL_law 90 = .ok (.istore 13, 2) := by decide +kernel
theorem dL_law_92 : decode cL_law 92 = .ok (.iload 13, 2) := by decide +kernel
theorem dL_law_94 : decode cL_law 94 = .ok (.iload_n 3, 1) := by decide +kernel
theorem dL_law_95 : decode cL_law 95 = .ok (.if_icmp .ge 446, 3) := by decide +kernel
theorem dL_law_98 : decode cL_law 98 = .ok (.aload_n 1, 1) := by decide +kernel
theorem dL_law_99 : decode cL_law 99 = .ok (.iload 13, 2) := by decide +kernel
theorem dL_law_101 : decode cL_law 101 = .ok (.bipush 8, 2) := by decide +kernel
theorem dL_law_103 : decode cL_law 103 = .ok (.invokevirtual 105, 3) := by decide +kernel
theorem dL_law_106 : decode cL_law 106 = .ok (.istore 14, 2) := by decide +kernel
theorem dL_law_108 : decode cL_law 108 = .ok (.iload 8, 2) := by decide +kernel
theorem dL_law_110 : decode cL_law 110 = .ok (.iload 14, 2) := by decide +kernel
theorem dL_law_112 : decode cL_law 112 = .ok (.invokestatic 108, 3) := by decide +kernel
theorem dL_law_115 : decode cL_law 115 = .ok (.istore 8, 2) := by decide +kernel
theorem dL_law_117 : decode cL_law 117 = .ok (.iload 9, 2) := by decide +kernel
theorem dL_law_119 : decode cL_law 119 = .ok (.iload 14, 2) := by decide +kernel
theorem dL_law_121 : decode cL_law 121 = .ok (.invokestatic 113, 3) := by decide +kernel
theorem dL_law_124 : decode cL_law 124 = .ok (.istore 9, 2) := by decide +kernel
theorem dL_law_126 : decode cL_law 126 = .ok (.iload 10, 2) := by decide +kernel
theorem dL_law_128 : decode cL_law 128 = .ok (.iload 14, 2) := by decide +kernel
theorem dL_law_130 : decode cL_law 130 = .ok (.iadd, 1) := by decide +kernel
theorem dL_law_131 : decode cL_law 131 = .ok (.istore 10, 2) := by decide +kernel
theorem dL_law_133 : decode cL_law 133 = .ok (.iload 12, 2) := by decide +kernel
theorem dL_law_135 : decode cL_law 135 = .ok (.aload_n 1, 1) := by decide +kernel
theorem dL_law_136 : decode cL_law 136 = .ok (.iload 13, 2) := by decide +kernel
theorem dL_law_138 : decode cL_law 138 = .ok (.iconst 0, 1) := by decide +kernel
theorem dL_law_139 : decode cL_law 139 = .ok (.invokevirtual 105, 3) := by decide +kernel
theorem dL_law_142 : decode cL_law 142 = .ok (.invokestatic 108, 3) := by decide +kernel
theorem dL_law_145 : decode cL_law 145 = .ok (.istore 12, 2) := by decide +kernel
theorem dL_law_147 : decode cL_law 147 = .ok (.iload 11, 2) := by decide +kernel
theorem dL_law_149 : decode cL_law 149 = .ok (.aload_n 1, 1) := by decide +kernel
theorem dL_law_150 : decode cL_law 150 = .ok (.iload 13, 2) := by decide +kernel
theorem dL_law_152 : decode cL_law 152 = .ok (.iconst 4, 1) := by decide +kernel
theorem dL_law_153 : decode cL_law 153 = .ok (.invokevirtual 105, 3) := by decide +kernel
theorem dL_law_156 : decode cL_law 156 = .ok (.iconst 1, 1) := by decide +kernel
theorem dL_law_157 : decode cL_law 157 = .ok (.if_icmp .ne 18, 3) := by decide +kernel
theorem dL_law_160 : decode cL_law 160 = .ok (.aload_n 1, 1) := by decide +kernel
theorem dL_law_161 : decode cL_law 161 = .ok (.iload 13, 2) := by decide +kernel
theorem dL_law_163 : decode cL_law 163 = .ok (.iconst 2, 1) := by decide +kernel
theorem dL_law_164 : decode cL_law 164 = .ok (.invokevirtual 105, 3) := by decide +kernel
theorem dL_law_167 : decode cL_law 167 = .ok (.iconst 2, 1) := by decide +kernel
theorem dL_law_168 : decode cL_law 168 = .ok (.if_icmp .ne 7, 3) := by decide +kernel
theorem dL_law_171 : decode cL_law 171 = .ok (.iconst 1, 1) := by decide +kernel
theorem dL_law_172 : decode cL_law 172 = .ok (.goto 4, 3) := by decide +kernel
theorem dL_law_175 : decode cL_law 175 = .ok (.iconst 0, 1) := by decide +kernel
theorem dL_law_176 : decode cL_law 176 = .ok (.iadd, 1) := by decide +kernel
theorem dL_law_177 : decode cL_law 177 = .ok (.istore 11, 2) := by decide +kernel
theorem dL_law_179 : decode cL_law 179 = .ok (.iload 14, 2) := by decide +kernel
theorem dL_law_181 : decode cL_law 181 = .ok (.ifCond .lt 103, 3) := by decide +kernel
theorem dL_law_184 : decode cL_law 184 = .ok (.iload 14, 2) := by decide +kernel
theorem dL_law_186 : decode cL_law 186 = .ok (.aload_n 1, 1) := by decide +kernel
theorem dL_law_187 : decode cL_law 187 = .ok (.iload 13, 2) := by decide +kernel
theorem dL_law_189 : decode cL_law 189 = .ok (.bipush 7, 2) := by decide +kernel
theorem dL_law_191 : decode cL_law 191 = .ok (.invokevirtual 105, 3) := by decide +kernel
theorem dL_law_194 : decode cL_law 194 = .ok (.if_icmp .gt 90, 3) := by decide +kernel
theorem dL_law_197 : decode cL_law 197 = .ok (.aload_n 1, 1) := by decide +kernel
theorem dL_law_198 : decode cL_law 198 = .ok (.iload 13, 2) := by decide +kernel
theorem dL_law_200 : decode cL_law 200 = .ok (.bipush 7, 2) := by decide +kernel
theorem dL_law_202 : decode cL_law 202 = .ok (.invokevirtual 105, 3) := by decide +kernel
theorem dL_law_205 : decode cL_law 205 = .ok (.bipush 10, 2) := by decide +kernel
theorem dL_law_207 : decode cL_law 207 = .ok (.if_icmp .gt 77, 3) := by decide +kernel
theorem dL_law_210 : decode cL_law 210 = .ok (.aload_n 1, 1) := by decide +kernel
theorem dL_law_211 : decode cL_law 211 = .ok (.iload 13, 2) := by decide +kernel
theorem dL_law_213 : decode cL_law 213 = .ok (.bipush 9, 2) := by decide +kernel
theorem dL_law_215 : decode cL_law 215 = .ok (.invokevirtual 105, 3) := by decide +kernel
theorem dL_law_218 : decode cL_law 218 = .ok (.aload_n 1, 1) := by decide +kernel
theorem dL_law_219 : decode cL_law 219 = .ok (.iload 13, 2) := by decide +kernel
theorem dL_law_221 : decode cL_law 221 = .ok (.iconst 0, 1) := by decide +kernel
theorem dL_law_222 : decode cL_law 222 = .ok (.invokevirtual 105, 3) := by decide +kernel
theorem dL_law_225 : decode cL_law 225 = .ok (.if_icmp .gt 59, 3) := by decide +kernel
theorem dL_law_228 : decode cL_law 228 = .ok (.aload_n 1, 1) := by decide +kernel
theorem dL_law_229 : decode cL_law 229 = .ok (.iload 13, 2) := by decide +kernel
theorem dL_law_231 : decode cL_law 231 = .ok (.iconst 2, 1) := by decide +kernel
theorem dL_law_232 : decode cL_law 232 = .ok (.invokevirtual 105, 3) := by decide +kernel
theorem dL_law_235 : decode cL_law 235 = .ok (.ifCond .le 15, 3) := by decide +kernel
theorem dL_law_238 : decode cL_law 238 = .ok (.aload_n 1, 1) := by decide +kernel
theorem dL_law_239 : decode cL_law 239 = .ok (.iload 13, 2) := by decide +kernel
theorem dL_law_241 : decode cL_law 241 = .ok (.iconst 1, 1) := by decide +kernel
theorem dL_law_242 : decode cL_law 242 = .ok (.invokevirtual 105, 3) := by decide +kernel
theorem dL_law_245 : decode cL_law 245 = .ok (.iload 13, 2) := by decide +kernel
theorem dL_law_247 : decode cL_law 247 = .ok (.if_icmp .ne 37, 3) := by decide +kernel
theorem dL_law_250 : decode cL_law 250 = .ok (.aload_n 1, 1) := by decide +kernel
theorem dL_law_251 : decode cL_law 251 = .ok (.iload 13, 2) := by decide +kernel
theorem dL_law_253 : decode cL_law 253 = .ok (.iconst 4, 1) := by decide +kernel
theorem dL_law_254 : decode cL_law 254 = .ok (.invokevirtual 105, 3) := by decide +kernel
theorem dL_law_257 : decode cL_law 257 = .ok (.iconst 1, 1) := by decide +kernel
theorem dL_law_258 : decode cL_law 258 = .ok (.if_icmp .ne 28, 3) := by decide +kernel
theorem dL_law_261 : decode cL_law 261 = .ok (.aload_n 1, 1) := by decide +kernel
theorem dL_law_262 : decode cL_law 262 = .ok (.iload 13, 2) := by decide +kernel
theorem dL_law_264 : decode cL_law 264 = .ok (.iconst 2, 1) := by decide +kernel
theorem dL_law_265 : decode cL_law 265 = .ok (.invokevirtual 105, 3) := by decide +kernel
theorem dL_law_268 : decode cL_law 268 = .ok (.iconst 2, 1) := by decide +kernel
theorem dL_law_269 : decode cL_law 269 = .ok (.if_icmp .ge 17, 3) := by decide +kernel
theorem dL_law_272 : decode cL_law 272 = .ok (.aload_n 1, 1) := by decide +kernel
theorem dL_law_273 : decode cL_law 273 = .ok (.iload 13, 2) := by decide +kernel
theorem dL_law_275 : decode cL_law 275 = .ok (.bipush 6, 2) := by decide +kernel
theorem dL_law_277 : decode cL_law 277 = .ok (.invokevirtual 105, 3) := by decide +kernel
theorem dL_law_280 : decode cL_law 280 = .ok (.iconst 1, 1) := by decide +kernel
theorem dL_law_281 : decode cL_law 281 = .ok (.if_icmp .ge 5, 3) := by decide +kernel
theorem dL_law_284 : decode cL_law 284 = .ok (.iconst 0, 1) := by decide +kernel
theorem dL_law_285 : decode cL_law 285 = .ok (.ireturn, 1) := by decide +kernel
theorem dL_law_286 : decode cL_law 286 = .ok (.iconst 1, 1) := by decide +kernel
theorem dL_law_287 : decode cL_law 287 = .ok (.istore 15, 2) := by decide +kernel
theorem dL_law_289 : decode cL_law 289 = .ok (.iload 15, 2) := by decide +kernel
theorem dL_law_291 : decode cL_law 291 = .ok (.aload_n 1, 1) := by decide +kernel
theorem dL_law_292 : decode cL_law 292 = .ok (.iload 13, 2) := by decide +kernel
theorem dL_law_294 : decode cL_law 294 = .ok (.bipush 7, 2) := by decide +kernel
theorem dL_law_296 : decode cL_law 296 = .ok (.invokevirtual 105, 3) := by decide +kernel
theorem dL_law_299 : decode cL_law 299 = .ok (.if_icmp .ge 57, 3) := by decide +kernel
theorem dL_law_302 : decode cL_law 302 = .ok (.aload_n 1, 1) := by decide +kernel
theorem dL_law_303 : decode cL_law 303 = .ok (.iload 13, 2) := by decide +kernel
theorem dL_law_305 : decode cL_law 305 = .ok (.iload 15, 2) := by decide +kernel
theorem dL_law_307 : decode cL_law 307 = .ok (.iconst 0, 1) := by decide +kernel
theorem dL_law_308 : decode cL_law 308 = .ok (.invokevirtual 116, 3) := by decide +kernel
theorem dL_law_311 : decode cL_law 311 = .ok (.aload_n 1, 1) := by decide +kernel
theorem dL_law_312 : decode cL_law 312 = .ok (.iload 13, 2) := by decide +kernel
theorem dL_law_314 : decode cL_law 314 = .ok (.iload 15, 2) := by decide +kernel
theorem dL_law_316 : decode cL_law 316 = .ok (.iconst 1, 1) := by decide +kernel
theorem dL_law_317 : decode cL_law 317 = .ok (.isub, 1) := by decide +kernel
theorem dL_law_318 : decode cL_law 318 = .ok (.iconst 0, 1) := by decide +kernel
theorem dL_law_319 : decode cL_law 319 = .ok (.invokevirtual 116, 3) := by decide +kernel
theorem dL_law_322 : decode cL_law 322 = .ok (.if_icmp .lt 26, 3) := by decide +kernel
theorem dL_law_325 : decode cL_law 325 = .ok (.aload_n 1, 1) := by decide +kernel
theorem dL_law_326 : decode cL_law 326 = .ok (.iload 13, 2) := by decide +kernel
theorem dL_law_328 : decode cL_law 328 = .ok (.iload 15, 2) := by decide +kernel
theorem dL_law_330 : decode cL_law 330 = .ok (.iconst 2, 1) := by decide +kernel
theorem dL_law_331 : decode cL_law 331 = .ok (.invokevirtual 116, 3) := by decide +kernel
theorem dL_law_334 : decode cL_law 334 = .ok (.aload_n 1, 1) := by decide +kernel
theorem dL_law_335 : decode cL_law 335 = .ok (.iload 13, 2) := by decide +kernel
theorem dL_law_337 : decode cL_law 337 = .ok (.iload 15, 2) := by decide +kernel
theorem dL_law_339 : decode cL_law 339 = .ok (.iconst 1, 1) := by decide +kernel
theorem dL_law_340 : decode cL_law 340 = .ok (.isub, 1) := by decide +kernel
theorem dL_law_341 : decode cL_law 341 = .ok (.iconst 2, 1) := by decide +kernel
theorem dL_law_342 : decode cL_law 342 = .ok (.invokevirtual 116, 3) := by decide +kernel
theorem dL_law_345 : decode cL_law 345 = .ok (.if_icmp .le 5, 3) := by decide +kernel
theorem dL_law_348 : decode cL_law 348 = .ok (.iconst 0, 1) := by decide +kernel
theorem dL_law_349 : decode cL_law 349 = .ok (.ireturn, 1) := by decide +kernel
theorem dL_law_350 : decode cL_law 350 = .ok (.iinc 15 1, 3) := by decide +kernel
theorem dL_law_353 : decode cL_law 353 = .ok (.goto (-64), 3) := by decide +kernel
theorem dL_law_356 : decode cL_law 356 = .ok (.iconst 0, 1) := by decide +kernel
theorem dL_law_357 : decode cL_law 357 = .ok (.istore 15, 2) := by decide +kernel
theorem dL_law_359 : decode cL_law 359 = .ok (.iload 15, 2) := by decide +kernel
theorem dL_law_361 : decode cL_law 361 = .ok (.iload 13, 2) := by decide +kernel
theorem dL_law_363 : decode cL_law 363 = .ok (.if_icmp .ge 172, 3) := by decide +kernel
theorem dL_law_366 : decode cL_law 366 = .ok (.aload_n 1, 1) := by decide +kernel
theorem dL_law_367 : decode cL_law 367 = .ok (.iload 13, 2) := by decide +kernel
theorem dL_law_369 : decode cL_law 369 = .ok (.iload 15, 2) := by decide +kernel
theorem dL_law_371 : decode cL_law 371 = .ok (.invokevirtual 120, 3) := by decide +kernel
theorem dL_law_374 : decode cL_law 374 = .ok (.istore 16, 2) := by decide +kernel
theorem dL_law_376 : decode cL_law 376 = .ok (.aload_n 1, 1) := by decide +kernel
theorem dL_law_377 : decode cL_law 377 = .ok (.iload 13, 2) := by decide +kernel
theorem dL_law_379 : decode cL_law 379 = .ok (.iconst 2, 1) := by decide +kernel
theorem dL_law_380 : decode cL_law 380 = .ok (.invokevirtual 105, 3) := by decide +kernel
theorem dL_law_383 : decode cL_law 383 = .ok (.iconst 2, 1) := by decide +kernel
theorem dL_law_384 : decode cL_law 384 = .ok (.if_icmp .ne 31, 3) := by decide +kernel
theorem dL_law_387 : decode cL_law 387 = .ok (.aload_n 1, 1) := by decide +kernel
theorem dL_law_388 : decode cL_law 388 = .ok (.iload 15, 2) := by decide +kernel
theorem dL_law_390 : decode cL_law 390 = .ok (.iconst 2, 1) := by decide +kernel
theorem dL_law_391 : decode cL_law 391 = .ok (.invokevirtual 105, 3) := by decide +kernel
theorem dL_law_394 : decode cL_law 394 = .ok (.iconst 2, 1) := by decide +kernel
theorem dL_law_395 : decode cL_law 395 = .ok (.if_icmp .ne 20, 3) := by decide +kernel
theorem dL_law_398 : decode cL_law 398 = .ok (.aload_n 1, 1) := by decide +kernel
theorem dL_law_399 : decode cL_law 399 = .ok (.iload 13, 2) := by decide +kernel
theorem dL_law_401 : decode cL_law 401 = .ok (.iconst 0, 1) := by decide +kernel
theorem dL_law_402 : decode cL_law 402 = .ok (.invokevirtual 105, 3) := by decide +kernel
theorem dL_law_405 : decode cL_law 405 = .ok (.aload_n 1, 1) := by decide +kernel
theorem dL_law_406 : decode cL_law 406 = .ok (.iload 15, 2) := by decide +kernel
theorem dL_law_408 : decode cL_law 408 = .ok (.iconst 0, 1) := by decide +kernel
theorem dL_law_409 : decode cL_law 409 = .ok (.invokevirtual 105, 3) := by decide +kernel
theorem dL_law_412 : decode cL_law 412 = .ok (.if_icmp .eq 56, 3) := by decide +kernel
theorem dL_law_415 : decode cL_law 415 = .ok (.iload 16, 2) := by decide +kernel
theorem dL_law_417 : decode cL_law 417 = .ok (.iload 14, 2) := by decide +kernel
theorem dL_law_419 : decode cL_law 419 = .ok (.aload_n 1, 1) := by decide +kernel
theorem dL_law_420 : decode cL_law 420 = .ok (.iload 15, 2) := by decide +kernel
theorem dL_law_422 : decode cL_law 422 = .ok (.bipush 8, 2) := by decide +kernel
theorem dL_law_424 : decode cL_law 424 = .ok (.invokevirtual 105, 3) := by decide +kernel
theorem dL_law_427 : decode cL_law 427 = .ok (.invokestatic 113, 3) := by decide +kernel
theorem dL_law_430 : decode cL_law 430 = .ok (.if_icmp .lt 38, 3) := by decide +kernel
theorem dL_law_433 : decode cL_law 433 = .ok (.iload 16, 2) := by decide +kernel
theorem dL_law_435 : decode cL_law 435 = .ok (.aload_n 1, 1) := by decide +kernel
theorem dL_law_436 : decode cL_law 436 = .ok (.iload 15, 2) := by decide +kernel
theorem dL_law_438 : decode cL_law 438 = .ok (.iload 13, 2) := by decide +kernel
theorem dL_law_440 : decode cL_law 440 = .ok (.invokevirtual 120, 3) := by decide +kernel
theorem dL_law_443 : decode cL_law 443 = .ok (.if_icmp .ne 25, 3) := by decide +kernel
theorem dL_law_446 : decode cL_law 446 = .ok (.aload_n 1, 1) := by decide +kernel
theorem dL_law_447 : decode cL_law 447 = .ok (.iload 13, 2) := by decide +kernel
theorem dL_law_449 : decode cL_law 449 = .ok (.iload 15, 2) := by decide +kernel
theorem dL_law_451 : decode cL_law 451 = .ok (.invokevirtual 123, 3) := by decide +kernel
theorem dL_law_454 : decode cL_law 454 = .ok (.ifCond .ne 16, 3) := by decide +kernel
theorem dL_law_457 : decode cL_law 457 = .ok (.aload_n 1, 1) := by decide +kernel
theorem dL_law_458 : decode cL_law 458 = .ok (.iload 15, 2) := by decide +kernel
theorem dL_law_460 : decode cL_law 460 = .ok (.iload 13, 2) := by decide +kernel
theorem dL_law_462 : decode cL_law 462 = .ok (.invokevirtual 123, 3) := by decide +kernel
theorem dL_law_465 : decode cL_law 465 = .ok (.ifCond .ne 5, 3) := by decide +kernel
theorem dL_law_468 : decode cL_law 468 = .ok (.iconst 0, 1) := by decide +kernel
theorem dL_law_469 : decode cL_law 469 = .ok (.ireturn, 1) := by decide +kernel
theorem dL_law_470 : decode cL_law 470 = .ok (.iload 16, 2) := by decide +kernel
theorem dL_law_472 : decode cL_law 472 = .ok (.istore 17, 2) := by decide +kernel
theorem dL_law_474 : decode cL_law 474 = .ok (.iload 17, 2) := by decide +kernel
theorem dL_law_476 : decode cL_law 476 = .ok (.aload_n 1, 1) := by decide +kernel
theorem dL_law_477 : decode cL_law 477 = .ok (.iload 13, 2) := by decide +kernel
theorem dL_law_479 : decode cL_law 479 = .ok (.bipush 7, 2) := by decide +kernel
theorem dL_law_481 : decode cL_law 481 = .ok (.invokevirtual 105, 3) := by decide +kernel
theorem dL_law_484 : decode cL_law 484 = .ok (.if_icmp .ge 45, 3) := by decide +kernel
theorem dL_law_487 : decode cL_law 487 = .ok (.iload 17, 2) := by decide +kernel
theorem dL_law_489 : decode cL_law 489 = .ok (.aload_n 1, 1) := by decide +kernel
theorem dL_law_490 : decode cL_law 490 = .ok (.iload 15, 2) := by decide +kernel
theorem dL_law_492 : decode cL_law 492 = .ok (.bipush 7, 2) := by decide +kernel
theorem dL_law_494 : decode cL_law 494 = .ok (.invokevirtual 105, 3) := by decide +kernel
theorem dL_law_497 : decode cL_law 497 = .ok (.if_icmp .ge 32, 3) := by decide +kernel
theorem dL_law_500 : decode cL_law 500 = .ok (.aload_n 1, 1) := by decide +kernel
theorem dL_law_501 : decode cL_law 501 = .ok (.iload 13, 2) := by decide +kernel
theorem dL_law_503 : decode cL_law 503 = .ok (.iload 17, 2) := by decide +kernel
theorem dL_law_505 : decode cL_law 505 = .ok (.iconst 0, 1) := by decide +kernel
theorem dL_law_506 : decode cL_law 506 = .ok (.invokevirtual 116, 3) := by decide +kernel
theorem dL_law_509 : decode cL_law 509 = .ok (.aload_n 1, 1) := by decide +kernel
theorem dL_law_510 : decode cL_law 510 = .ok (.iload 15, 2) := by decide +kernel
theorem dL_law_512 : decode cL_law 512 = .ok (.iload 17, 2) := by decide +kernel
theorem dL_law_514 : decode cL_law 514 = .ok (.iconst 0, 1) := by decide +kernel
theorem dL_law_515 : decode cL_law 515 = .ok (.invokevirtual 116, 3) := by decide +kernel
theorem dL_law_518 : decode cL_law 518 = .ok (.if_icmp .ne 5, 3) := by decide +kernel
theorem dL_law_521 : decode cL_law 521 = .ok (.iconst 0, 1) := by decide +kernel
theorem dL_law_522 : decode cL_law 522 = .ok (.ireturn, 1) := by decide +kernel
theorem dL_law_523 : decode cL_law 523 = .ok (.iinc 17 1, 3) := by decide +kernel
theorem dL_law_526 : decode cL_law 526 = .ok (.goto (-52), 3) := by decide +kernel
theorem dL_law_529 : decode cL_law 529 = .ok (.iinc 15 1, 3) := by decide +kernel
theorem dL_law_532 : decode cL_law 532 = .ok (.goto (-173), 3) := by decide +kernel
theorem dL_law_535 : decode cL_law 535 = .ok (.iinc 13 1, 3) := by decide +kernel
theorem dL_law_538 : decode cL_law 538 = .ok (.goto (-446), 3) := by decide +kernel
theorem dL_law_541 : decode cL_law 541 = .ok (.iload 8, 2) := by decide +kernel
theorem dL_law_543 : decode cL_law 543 = .ok (.aload_n 1, 1) := by decide +kernel
theorem dL_law_544 : decode cL_law 544 = .ok (.bipush 8, 2) := by decide +kernel
theorem dL_law_546 : decode cL_law 546 = .ok (.invokevirtual 127, 3) := by decide +kernel
theorem dL_law_549 : decode cL_law 549 = .ok (.if_icmp .ne 87, 3) := by decide +kernel
theorem dL_law_552 : decode cL_law 552 = .ok (.iload 9, 2) := by decide +kernel
theorem dL_law_554 : decode cL_law 554 = .ok (.aload_n 1, 1) := by decide +kernel
theorem dL_law_555 : decode cL_law 555 = .ok (.bipush 9, 2) := by decide +kernel
theorem dL_law_557 : decode cL_law 557 = .ok (.invokevirtual 127, 3) := by decide +kernel
theorem dL_law_560 : decode cL_law 560 = .ok (.if_icmp .ne 76, 3) := by decide +kernel
theorem dL_law_563 : decode cL_law 563 = .ok (.aload_n 1, 1) := by decide +kernel
theorem dL_law_564 : decode cL_law 564 = .ok (.invokevirtual 130, 3) := by decide +kernel
theorem dL_law_567 : decode cL_law 567 = .ok (.iload 10, 2) := by decide +kernel
theorem dL_law_569 : decode cL_law 569 = .ok (.i2d, 1) := by decide +kernel
theorem dL_law_570 : decode cL_law 570 = .ok (.iload_n 3, 1) := by decide +kernel
theorem dL_law_571 : decode cL_law 571 = .ok (.i2d, 1) := by decide +kernel
theorem dL_law_572 : decode cL_law 572 = .ok (.ddiv, 1) := by decide +kernel
theorem dL_law_573 : decode cL_law 573 = .ok (.dcmp .l, 1) := by decide +kernel
theorem dL_law_574 : decode cL_law 574 = .ok (.ifCond .ne 62, 3) := by decide +kernel
theorem dL_law_577 : decode cL_law 577 = .ok (.iload 11, 2) := by decide +kernel
theorem dL_law_579 : decode cL_law 579 = .ok (.aload_n 1, 1) := by decide +kernel
theorem dL_law_580 : decode cL_law 580 = .ok (.iconst 3, 1) := by decide +kernel
theorem dL_law_581 : decode cL_law 581 = .ok (.invokevirtual 127, 3) := by decide +kernel
theorem dL_law_584 : decode cL_law 584 = .ok (.if_icmp .ne 52, 3) := by decide +kernel
theorem dL_law_587 : decode cL_law 587 = .ok (.iload 12, 2) := by decide +kernel
theorem dL_law_589 : decode cL_law 589 = .ok (.aload_n 1, 1) := by decide +kernel
theorem dL_law_590 : decode cL_law 590 = .ok (.iconst 4, 1) := by decide +kernel
theorem dL_law_591 : decode cL_law 591 = .ok (.invokevirtual 127, 3) := by decide +kernel
theorem dL_law_594 : decode cL_law 594 = .ok (.if_icmp .ne 42, 3) := by decide +kernel
theorem dL_law_597 : decode cL_law 597 = .ok (.aload_n 1, 1) := by decide +kernel
theorem dL_law_598 : decode cL_law 598 = .ok (.invokevirtual 134, 3) := by decide +kernel
theorem dL_law_601 : decode cL_law 601 = .ok (.ifCond .ge 7, 3) := by decide +kernel
theorem dL_law_604 : decode cL_law 604 = .ok (.iconst 1, 1) := by decide +kernel
theorem dL_law_605 : decode cL_law 605 = .ok (.goto 4, 3) := by decide +kernel
theorem dL_law_608 : decode cL_law 608 = .ok (.iconst 0, 1) := by decide +kernel
theorem dL_law_609 : decode cL_law 609 = .ok (.iload 11, 2) := by decide +kernel
theorem dL_law_611 : decode cL_law 611 = .ok (.ifCond .ne 7, 3) := by decide +kernel
theorem dL_law_614 : decode cL_law 614 = .ok (.iconst 1, 1) := by decide +kernel
theorem dL_law_615 : decode cL_law 615 = .ok (.goto 4, 3) := by decide +kernel
theorem dL_law_618 : decode cL_law 618 = .ok (.iconst 0, 1) := by decide +kernel
theorem dL_law_619 : decode cL_law 619 = .ok (.if_icmp .ne 17, 3) := by decide +kernel
theorem dL_law_622 : decode cL_law 622 = .ok (.aload_n 1, 1) := by decide +kernel
theorem dL_law_623 : decode cL_law 623 = .ok (.bipush 6, 2) := by decide +kernel
theorem dL_law_625 : decode cL_law 625 = .ok (.invokevirtual 127, 3) := by decide +kernel
theorem dL_law_628 : decode cL_law 628 = .ok (.aload_n 1, 1) := by decide +kernel
theorem dL_law_629 : decode cL_law 629 = .ok (.iconst 5, 1) := by decide +kernel
theorem dL_law_630 : decode cL_law 630 = .ok (.invokevirtual 127, 3) := by decide +kernel
theorem dL_law_633 : decode cL_law 633 = .ok (.if_icmp .le 5, 3) := by decide +kernel
theorem dL_law_636 : decode cL_law 636 = .ok (.iconst 0, 1) := by decide +kernel
theorem dL_law_637 : decode cL_law 637 = .ok (.ireturn, 1) := by decide +kernel
theorem dL_law_638 : decode cL_law 638 = .ok (.aload_n 1, 1) := by decide +kernel
theorem dL_law_639 : decode cL_law 639 = .ok (.invokevirtual 138, 3) := by decide +kernel
theorem dL_law_642 : decode cL_law 642 = .ok (.istore 13, 2) := by decide +kernel
theorem dL_law_644 : decode cL_law 644 = .ok (.iconst 1, 1) := by decide +kernel
theorem dL_law_645 : decode cL_law 645 = .ok (.iload 5, 2) := by decide +kernel
theorem dL_law_647 : decode cL_law 647 = .ok (.iconst 4, 1) := by decide +kernel
theorem dL_law_648 : decode cL_law 648 = .ok (.ishr, 1) := by decide +kernel
theorem dL_law_649 : decode cL_law 649 = .ok (.bipush 6, 2) := by decide +kernel
theorem dL_law_651 : decode cL_law 651 = .ok (.invokestatic 15, 3) := by decide +kernel
theorem dL_law_654 : decode cL_law 654 = .ok (.iadd, 1) := by decide +kernel
theorem dL_law_655 : decode cL_law 655 = .ok (.istore 14, 2) := by decide +kernel
theorem dL_law_657 : decode cL_law 657 = .ok (.bipush 10, 2) := by decide +kernel
theorem dL_law_659 : decode cL_law 659 = .ok (.newarray .int, 2) := by decide +kernel
theorem dL_law_661 : decode cL_law 661 = .ok (.astore 15, 2) := by decide +kernel
theorem dL_law_663 : decode cL_law 663 = .ok (.iconst 3, 1) := by decide +kernel
theorem dL_law_664 : decode cL_law 664 = .ok (.istore 16, 2) := by decide +kernel
theorem dL_law_666 : decode cL_law 666 = .ok (.iload 16, 2) := by decide +kernel
theorem dL_law_668 : decode cL_law 668 = .ok (.bipush 10, 2) := by decide +kernel
theorem dL_law_670 : decode cL_law 670 = .ok (.if_icmp .ge 22, 3) := by decide +kernel
theorem dL_law_673 : decode cL_law 673 = .ok (.aload 15, 2) := by decide +kernel
theorem dL_law_675 : decode cL_law 675 = .ok (.iload 16, 2) := by decide +kernel
theorem dL_law_677 : decode cL_law 677 = .ok (.aload_n 1, 1) := by decide +kernel
theorem dL_law_678 : decode cL_law 678 = .ok (.iload 14, 2) := by decide +kernel
theorem dL_law_680 : decode cL_law 680 = .ok (.iload 16, 2) := by decide +kernel
theorem dL_law_682 : decode cL_law 682 = .ok (.invokevirtual 141, 3) := by decide +kernel
theorem dL_law_685 : decode cL_law 685 = .ok (.iastore, 1) := by decide +kernel
theorem dL_law_686 : decode cL_law 686 = .ok (.iinc 16 1, 3) := by decide +kernel
theorem dL_law_689 : decode cL_law 689 = .ok (.goto (-23), 3) := by decide +kernel
theorem dL_law_692 : decode cL_law 692 = .ok (.aload_n 1, 1) := by decide +kernel
theorem dL_law_693 : decode cL_law 693 = .ok (.invokevirtual 101, 3) := by decide +kernel
theorem dL_law_696 : decode cL_law 696 = .ok (.lload 6, 2) := by decide +kernel
theorem dL_law_698 : decode cL_law 698 = .ok (.lcmp, 1) := by decide +kernel
theorem dL_law_699 : decode cL_law 699 = .ok (.ifCond .eq 5, 3) := by decide +kernel
theorem dL_law_702 : decode cL_law 702 = .ok (.iconst 0, 1) := by decide +kernel
theorem dL_law_703 : decode cL_law 703 = .ok (.ireturn, 1) := by decide +kernel
theorem dL_law_704 : decode cL_law 704 = .ok (.aload_n 1, 1) := by decide +kernel
theorem dL_law_705 : decode cL_law 705 = .ok (.bipush 6, 2) := by decide +kernel
theorem dL_law_707 : decode cL_law 707 = .ok (.invokevirtual 127, 3) := by decide +kernel
theorem dL_law_710 : decode cL_law 710 = .ok (.istore 16, 2) := by decide +kernel
theorem dL_law_712 : decode cL_law 712 = .ok (.iconst 0, 1) := by decide +kernel
theorem dL_law_713 : decode cL_law 713 = .ok (.istore 17, 2) := by decide +kernel
theorem dL_law_715 : decode cL_law 715 = .ok (.iload 17, 2) := by decide +kernel
theorem dL_law_717 : decode cL_law 717 = .ok (.iload 14, 2) := by decide +kernel
theorem dL_law_719 : decode cL_law 719 = .ok (.if_icmp .ge 257, 3) := by decide +kernel
theorem dL_law_722 : decode cL_law 722 = .ok (.iload_n 3, 1) := by decide +kernel
theorem dL_law_723 : decode cL_law 723 = .ok (.newarray .int, 2) := by decide +kernel
theorem dL_law_725 : decode cL_law 725 = .ok (.astore 18, 2) := by decide +kernel
theorem dL_law_727 : decode cL_law 727 = .ok (.iload_n 3, 1) := by decide +kernel
theorem dL_law_728 : decode cL_law 728 = .ok (.newarray .int, 2) := by decide +kernel
theorem dL_law_730 : decode cL_law 730 = .ok (.astore 19, 2) := by decide +kernel
theorem dL_law_732 : decode cL_law 732 = .ok (.iload_n 3, 1) := by decide +kernel
theorem dL_law_733 : decode cL_law 733 = .ok (.newarray .boolean, 2) := by decide +kernel
theorem dL_law_735 : decode cL_law 735 = .ok (.astore 20, 2) := by decide +kernel
theorem dL_law_737 : decode cL_law 737 = .ok (.iconst 0, 1) := by decide +kernel
theorem dL_law_738 : decode cL_law 738 = .ok (.istore 21, 2) := by decide +kernel
theorem dL_law_740 : decode cL_law 740 = .ok (.iload 21, 2) := by decide +kernel
theorem dL_law_742 : decode cL_law 742 = .ok (.iload_n 3, 1) := by decide +kernel
theorem dL_law_743 : decode cL_law 743 = .ok (.if_icmp .ge 66, 3) := by decide +kernel
theorem dL_law_746 : decode cL_law 746 = .ok (.aload 18, 2) := by decide +kernel
theorem dL_law_748 : decode cL_law 748 = .ok (.iload 21, 2) := by decide +kernel
theorem dL_law_750 : decode cL_law 750 = .ok (.aload_n 1, 1) := by decide +kernel
theorem dL_law_751 : decode cL_law 751 = .ok (.iload 21, 2) := by decide +kernel
theorem dL_law_753 : decode cL_law 753 = .ok (.iconst 0, 1) := by decide +kernel
theorem dL_law_754 : decode cL_law 754 = .ok (.invokevirtual 105, 3) := by decide +kernel
theorem dL_law_757 : decode cL_law 757 = .ok (.iastore, 1) := by decide +kernel
theorem dL_law_758 : decode cL_law 758 = .ok (.aload 19, 2) := by decide +kernel
theorem dL_law_760 : decode cL_law 760 = .ok (.iload 21, 2) := by decide +kernel
theorem dL_law_762 : decode cL_law 762 = .ok (.aload_n 1, 1) := by decide +kernel
theorem dL_law_763 : decode cL_law 763 = .ok (.iload 21, 2) := by decide +kernel
theorem dL_law_765 : decode cL_law 765 = .ok (.bipush 7, 2) := by decide +kernel
theorem dL_law_767 : decode cL_law 767 = .ok (.invokevirtual 105, 3) := by decide +kernel
theorem dL_law_770 : decode cL_law 770 = .ok (.iastore, 1) := by decide +kernel
theorem dL_law_771 : decode cL_law 771 = .ok (.aload 20, 2) := by decide +kernel
theorem dL_law_773 : decode cL_law 773 = .ok (.iload 21, 2) := by decide +kernel
theorem dL_law_775 : decode cL_law 775 = .ok (.aload_n 1, 1) := by decide +kernel
theorem dL_law_776 : decode cL_law 776 = .ok (.iload 21, 2) := by decide +kernel
theorem dL_law_778 : decode cL_law 778 = .ok (.iconst 2, 1) := by decide +kernel
theorem dL_law_779 : decode cL_law 779 = .ok (.invokevirtual 105, 3) := by decide +kernel
theorem dL_law_782 : decode cL_law 782 = .ok (.iconst 2, 1) := by decide +kernel
theorem dL_law_783 : decode cL_law 783 = .ok (.if_icmp .ne 18, 3) := by decide +kernel
theorem dL_law_786 : decode cL_law 786 = .ok (.aload_n 1, 1) := by decide +kernel
theorem dL_law_787 : decode cL_law 787 = .ok (.iload 21, 2) := by decide +kernel
theorem dL_law_789 : decode cL_law 789 = .ok (.iconst 4, 1) := by decide +kernel
theorem dL_law_790 : decode cL_law 790 = .ok (.invokevirtual 105, 3) := by decide +kernel
theorem dL_law_793 : decode cL_law 793 = .ok (.iconst 1, 1) := by decide +kernel
theorem dL_law_794 : decode cL_law 794 = .ok (.if_icmp .ne 7, 3) := by decide +kernel
theorem dL_law_797 : decode cL_law 797 = .ok (.iconst 1, 1) := by decide +kernel
theorem dL_law_798 : decode cL_law 798 = .ok (.goto 4, 3) := by decide +kernel
theorem dL_law_801 : decode cL_law 801 = .ok (.iconst 0, 1) := by decide +kernel
theorem dL_law_802 : decode cL_law 802 = .ok (.bastore, 1) := by decide +kernel
theorem dL_law_803 : decode cL_law 803 = .ok (.iinc 21 1, 3) := by decide +kernel
theorem dL_law_806 : decode cL_law 806 = .ok (.goto (-66), 3) := by decide +kernel
theorem dL_law_809 : decode cL_law 809 = .ok (.iload 16, 2) := by decide +kernel
theorem dL_law_811 : decode cL_law 811 = .ok (.aload_n 1, 1) := by decide +kernel
theorem dL_law_812 : decode cL_law 812 = .ok (.iconst 1, 1) := by decide +kernel
theorem dL_law_813 : decode cL_law 813 = .ok (.invokevirtual 78, 3) := by decide +kernel
theorem dL_law_816 : decode cL_law 816 = .ok (.iadd, 1) := by decide +kernel
theorem dL_law_817 : decode cL_law 817 = .ok (.istore 16, 2) := by decide +kernel
theorem dL_law_819 : decode cL_law 819 = .ok (.aload_n 2, 1) := by decide +kernel
theorem dL_law_820 : decode cL_law 820 = .ok (.invokevirtual 76, 3) := by decide +kernel
theorem dL_law_823 : decode cL_law 823 = .ok (.iconst 0, 1) := by decide +kernel
theorem dL_law_824 : decode cL_law 824 = .ok (.istore 21, 2) := by decide +kernel
theorem dL_law_826 : decode cL_law 826 = .ok (.iload 21, 2) := by decide +kernel
theorem dL_law_828 : decode cL_law 828 = .ok (.iload_n 3, 1) := by decide +kernel
theorem dL_law_829 : decode cL_law 829 = .ok (.if_icmp .ge 123, 3) := by decide +kernel
theorem dL_law_832 : decode cL_law 832 = .ok (.aload_n 1, 1) := by decide +kernel
theorem dL_law_833 : decode cL_law 833 = .ok (.iload 21, 2) := by decide +kernel
theorem dL_law_835 : decode cL_law 835 = .ok (.iconst 0, 1) := by decide +kernel
theorem dL_law_836 : decode cL_law 836 = .ok (.invokevirtual 105, 3) := by decide +kernel
theorem dL_law_839 : decode cL_law 839 = .ok (.aload 18, 2) := by decide +kernel
theorem dL_law_841 : decode cL_law 841 = .ok (.iload 21, 2) := by decide +kernel
theorem dL_law_843 : decode cL_law 843 = .ok (.iaload, 1) := by decide +kernel
theorem dL_law_844 : decode cL_law 844 = .ok (.if_icmp .lt 100, 3) := by decide +kernel
theorem dL_law_847 : decode cL_law 847 = .ok (.aload 20, 2) := by decide +kernel
theorem dL_law_849 : decode cL_law 849 = .ok (.iload 21, 2) := by decide +kernel
theorem dL_law_851 : decode cL_law 851 = .ok (.baload, 1) := by decide +kernel
theorem dL_law_852 : decode cL_law 852 = .ok (.ifCond .eq 30, 3) := by decide +kernel
theorem dL_law_855 : decode cL_law 855 = .ok (.aload_n 1, 1) := by decide +kernel
theorem dL_law_856 : decode cL_law 856 = .ok (.iload 21, 2) := by decide +kernel
theorem dL_law_858 : decode cL_law 858 = .ok (.iconst 2, 1) := by decide +kernel
theorem dL_law_859 : decode cL_law 859 = .ok (.invokevirtual 105, 3) := by decide +kernel
theorem dL_law_862 : decode cL_law 862 = .ok (.iconst 2, 1) := by decide +kernel
theorem dL_law_863 : decode cL_law 863 = .ok (.if_icmp .ne 19, 3) := by decide +kernel
theorem dL_law_866 : decode cL_law 866 = .ok (.aload_n 1, 1) := by decide +kernel
theorem dL_law_867 : decode cL_law 867 = .ok (.iload 21, 2) := by decide +kernel
theorem dL_law_869 : decode cL_law 869 = .ok (.bipush 7, 2) := by decide +kernel
theorem dL_law_871 : decode cL_law 871 = .ok (.invokevirtual 105, 3) := by decide +kernel
theorem dL_law_874 : decode cL_law 874 = .ok (.aload 19, 2) := by decide +kernel
theorem dL_law_876 : decode cL_law 876 = .ok (.iload 21, 2) := by decide +kernel
theorem dL_law_878 : decode cL_law 878 = .ok (.iaload, 1) := by decide +kernel
theorem dL_law_879 : decode cL_law 879 = .ok (.if_icmp .ne 65, 3) := by decide +kernel
theorem dL_law_882 : decode cL_law 882 = .ok (.aload_n 1, 1) := by decide +kernel
theorem dL_law_883 : decode cL_law 883 = .ok (.iload 21, 2) := by decide +kernel
theorem dL_law_885 : decode cL_law 885 = .ok (.bipush 7, 2) := by decide +kernel
theorem dL_law_887 : decode cL_law 887 = .ok (.invokevirtual 105, 3) := by decide +kernel
theorem dL_law_890 : decode cL_law 890 = .ok (.aload 19, 2) := by decide +kernel
theorem dL_law_892 : decode cL_law 892 = .ok (.iload 21, 2) := by decide +kernel
theorem dL_law_894 : decode cL_law 894 = .ok (.iaload, 1) := by decide +kernel
theorem dL_law_895 : decode cL_law 895 = .ok (.isub, 1) := by decide +kernel
theorem dL_law_896 : decode cL_law 896 = .ok (.invokestatic 144, 3) := by decide +kernel
theorem dL_law_899 : decode cL_law 899 = .ok (.iload_n 3, 1) := by decide +kernel
theorem dL_law_900 : decode cL_law 900 = .ok (.if_icmp .gt 44, 3) := by decide +kernel
theorem dL_law_903 : decode cL_law 903 = .ok (.aload_n 1, 1) := by decide +kernel
theorem dL_law_904 : decode cL_law 904 = .ok (.iload 21, 2) := by decide +kernel
theorem dL_law_906 : decode cL_law 906 = .ok (.iconst 4, 1) := by decide +kernel
theorem dL_law_907 : decode cL_law 907 = .ok (.invokevirtual 105, 3) := by decide +kernel
theorem dL_law_910 : decode cL_law 910 = .ok (.ifCond .ne 36, 3) := by decide +kernel
theorem dL_law_913 : decode cL_law 913 = .ok (.aload_n 1, 1) := by decide +kernel
theorem dL_law_914 : decode cL_law 914 = .ok (.iload 21, 2) := by decide +kernel
theorem dL_law_916 : decode cL_law 916 = .ok (.iconst 0, 1) := by decide +kernel
theorem dL_law_917 : decode cL_law 917 = .ok (.invokevirtual 105, 3) := by decide +kernel
theorem dL_law_920 : decode cL_law 920 = .ok (.aload 18, 2) := by decide +kernel
theorem dL_law_922 : decode cL_law 922 = .ok (.iload 21, 2) := by decide +kernel
theorem dL_law_924 : decode cL_law 924 = .ok (.iaload, 1) := by decide +kernel
theorem dL_law_925 : decode cL_law 925 = .ok (.if_icmp .ne 19, 3) := by decide +kernel
theorem dL_law_928 : decode cL_law 928 = .ok (.aload_n 1, 1) := by decide +kernel
theorem dL_law_929 : decode cL_law 929 = .ok (.iload 21, 2) := by decide +kernel
theorem dL_law_931 : decode cL_law 931 = .ok (.bipush 7, 2) := by decide +kernel
theorem dL_law_933 : decode cL_law 933 = .ok (.invokevirtual 105, 3) := by decide +kernel
theorem dL_law_936 : decode cL_law 936 = .ok (.aload 19, 2) := by decide +kernel
theorem dL_law_938 : decode cL_law 938 = .ok (.iload 21, 2) := by decide +kernel
theorem dL_law_940 : decode cL_law 940 = .ok (.iaload, 1) := by decide +kernel
theorem dL_law_941 : decode cL_law 941 = .ok (.if_icmp .eq 5, 3) := by decide +kernel
theorem dL_law_944 : decode cL_law 944 = .ok (.iconst 0, 1) := by decide +kernel
theorem dL_law_945 : decode cL_law 945 = .ok (.ireturn, 1) := by decide +kernel
theorem dL_law_946 : decode cL_law 946 = .ok (.iinc 21 1, 3) := by decide +kernel
theorem dL_law_949 : decode cL_law 949 = .ok (.goto (-123), 3) := by decide +kernel
theorem dL_law_952 : decode cL_law 952 = .ok (.iload 13, 2) := by decide +kernel
theorem dL_law_954 : decode cL_law 954 = .ok (.iload 17, 2) := by decide +kernel
theorem dL_law_956 : decode cL_law 956 = .ok (.iconst 1, 1) := by decide +kernel
theorem dL_law_957 : decode cL_law 957 = .ok (.iadd, 1) := by decide +kernel
theorem dL_law_958 : decode cL_law 958 = .ok (.if_icmp .ne 12, 3) := by decide +kernel
theorem dL_law_961 : decode cL_law 961 = .ok (.aload_n 1, 1) := by decide +kernel
theorem dL_law_962 : decode cL_law 962 = .ok (.invokevirtual 138, 3) := by decide +kernel
theorem dL_law_965 : decode cL_law 965 = .ok (.ifCond .eq 5, 3) := by decide +kernel
theorem dL_law_968 : decode cL_law 968 = .ok (.iconst 0, 1) := by decide +kernel
theorem dL_law_969 : decode cL_law 969 = .ok (.ireturn, 1) := by decide +kernel
theorem dL_law_970 : decode cL_law 970 = .ok (.iinc 17 1, 3) := by decide +kernel
theorem dL_law_973 : decode cL_law 973 = .ok (.goto (-258), 3) := by decide +kernel
theorem dL_law_976 : decode cL_law 976 = .ok (.aload_n 1, 1) := by decide +kernel
theorem dL_law_977 : decode cL_law 977 = .ok (.bipush 6, 2) := by decide +kernel
theorem dL_law_979 : decode cL_law 979 = .ok (.invokevirtual 127, 3) := by decide +kernel
theorem dL_law_982 : decode cL_law 982 = .ok (.iload 16, 2) := by decide +kernel
theorem dL_law_984 : decode cL_law 984 = .ok (.if_icmp .eq 5, 3) := by decide +kernel
theorem dL_law_987 : decode cL_law 987 = .ok (.iconst 0, 1) := by decide +kernel
theorem dL_law_988 : decode cL_law 988 = .ok (.ireturn, 1) := by decide +kernel
theorem dL_law_989 : decode cL_law 989 = .ok (.iconst 3, 1) := by decide +kernel
theorem dL_law_990 : decode cL_law 990 = .ok (.istore 17, 2) := by decide +kernel
theorem dL_law_992 : decode cL_law 992 = .ok (.iload 17, 2) := by decide +kernel
theorem dL_law_994 : decode cL_law 994 = .ok (.bipush 10, 2) := by decide +kernel
theorem dL_law_996 : decode cL_law 996 = .ok (.if_icmp .ge 25, 3) := by decide +kernel
theorem dL_law_999 : decode cL_law 999 = .ok (.aload_n 1, 1) := by decide +kernel
theorem dL_law_1000 : decode cL_law 1000 = .ok (.iload 17, 2) := by decide +kernel
theorem dL_law_1002 : decode cL_law 1002 = .ok (.invokevirtual 127, 3) := by decide +kernel
theorem dL_law_1005 : decode cL_law 1005 = .ok (.aload 15, 2) := by decide +kernel
theorem dL_law_1007 : decode cL_law 1007 = .ok (.iload 17, 2) := by decide +kernel
theorem dL_law_1009 : decode cL_law 1009 = .ok (.iaload, 1) := by decide +kernel
theorem dL_law_1010 : decode cL_law 1010 = .ok (.if_icmp .eq 5, 3) := by decide +kernel
theorem dL_law_1013 : decode cL_law 1013 = .ok (.iconst 0, 1) := by decide +kernel
theorem dL_law_1014 : decode cL_law 1014 = .ok (.ireturn, 1) := by decide +kernel
theorem dL_law_1015 : decode cL_law 1015 = .ok (.iinc 17 1, 3) := by decide +kernel
theorem dL_law_1018 : decode cL_law 1018 = .ok (.goto (-26), 3) := by decide +kernel
theorem dL_law_1021 : decode cL_law 1021 = .ok (.iinc 4 1, 3) := by decide +kernel
theorem dL_law_1024 : decode cL_law 1024 = .ok (.goto (-995), 3) := by decide +kernel
theorem dL_law_1027 : decode cL_law 1027 = .ok (.aload_n 2, 1) := by decide +kernel
theorem dL_law_1028 : decode cL_law 1028 = .ok (.aload_n 1, 1) := by decide +kernel
theorem dL_law_1029 : decode cL_law 1029 = .ok (.invokevirtual 147, 3) := by decide +kernel
theorem dL_law_1032 : decode cL_law 1032 = .ok (.ireturn, 1) := by decide +kernel
