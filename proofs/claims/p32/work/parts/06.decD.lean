theorem dL_plays_123 : decode cL_plays 123 = .ok (.iconst 2, 1) := by decide +kernel
theorem dL_plays_124 : decode cL_plays 124 = .ok (.if_icmp .ne 35, 3) := by decide +kernel
theorem dL_plays_127 : decode cL_plays 127 = .ok (.aload_n 0, 1) := by decide +kernel
theorem dL_plays_128 : decode cL_plays 128 = .ok (.iconst 2, 1) := by decide +kernel
theorem dL_plays_129 : decode cL_plays 129 = .ok (.invokevirtual 70, 3) := by decide +kernel
theorem dL_plays_132 : decode cL_plays 132 = .ok (.bipush (-2), 2) := by decide +kernel
theorem dL_plays_134 : decode cL_plays 134 = .ok (.if_icmp .ne 25, 3) := by decide +kernel
theorem dL_plays_137 : decode cL_plays 137 = .ok (.aload_n 0, 1) := by decide +kernel
theorem dL_plays_138 : decode cL_plays 138 = .ok (.invokevirtual 73, 3) := by decide +kernel
theorem dL_plays_141 : decode cL_plays 141 = .ok (.bipush (-2), 2) := by decide +kernel
theorem dL_plays_143 : decode cL_plays 143 = .ok (.if_icmp .ne 16, 3) := by decide +kernel
theorem dL_plays_146 : decode cL_plays 146 = .ok (.aload_n 0, 1) := by decide +kernel
theorem dL_plays_147 : decode cL_plays 147 = .ok (.invokevirtual 67, 3) := by decide +kernel
theorem dL_plays_150 : decode cL_plays 150 = .ok (.iload 5, 2) := by decide +kernel
theorem dL_plays_152 : decode cL_plays 152 = .ok (.if_icmp .ne 7, 3) := by decide +kernel
theorem dL_plays_155 : decode cL_plays 155 = .ok (.iconst 1, 1) := by decide +kernel
theorem dL_plays_156 : decode cL_plays 156 = .ok (.goto 4, 3) := by decide +kernel
theorem dL_plays_159 : decode cL_plays 159 = .ok (.iconst 0, 1) := by decide +kernel
theorem dL_plays_160 : decode cL_plays 160 = .ok (.ireturn, 1) := by decide +kernel
theorem dL_plays_161 : decode cL_plays 161 = .ok (.aload_n 0, 1) := by decide +kernel
theorem dL_plays_162 : decode cL_plays 162 = .ok (.iload_n 2, 1) := by decide +kernel
theorem dL_plays_163 : decode cL_plays 163 = .ok (.iconst 0, 1) := by decide +kernel
theorem dL_plays_164 : decode cL_plays 164 = .ok (.invokevirtual 38, 3) := by decide +kernel
theorem dL_plays_167 : decode cL_plays 167 = .ok (.istore 7, 2) := by decide +kernel
theorem dL_plays_169 : decode cL_plays 169 = .ok (.iload_n 3, 1) := by decide +kernel
theorem dL_plays_170 : decode cL_plays 170 = .ok (.ifCond .eq 25, 3) := by decide +kernel
theorem dL_plays_173 : decode cL_plays 173 = .ok (.aload_n 0, 1) := by decide +kernel
theorem dL_plays_174 : decode cL_plays 174 = .ok (.iconst 0, 1) := by decide +kernel
theorem dL_plays_175 : decode cL_plays 175 = .ok (.invokevirtual 70, 3) := by decide +kernel
theorem dL_plays_178 : decode cL_plays 178 = .ok (.bipush (-4), 2) := by decide +kernel
theorem dL_plays_180 : decode cL_plays 180 = .ok (.if_icmp .ne 15, 3) := by decide +kernel
theorem dL_plays_183 : decode cL_plays 183 = .ok (.aload_n 0, 1) := by decide +kernel
theorem dL_plays_184 : decode cL_plays 184 = .ok (.invokevirtual 73, 3) := by decide +kernel
theorem dL_plays_187 : decode cL_plays 187 = .ok (.iconst 2, 1) := by decide +kernel
theorem dL_plays_188 : decode cL_plays 188 = .ok (.if_icmp .ne 7, 3) := by decide +kernel
theorem dL_plays_191 : decode cL_plays 191 = .ok (.iconst 1, 1) := by decide +kernel
theorem dL_plays_192 : decode cL_plays 192 = .ok (.goto 4, 3) := by decide +kernel
theorem dL_plays_195 : decode cL_plays 195 = .ok (.iconst 0, 1) := by decide +kernel
theorem dL_plays_196 : decode cL_plays 196 = .ok (.istore_n 3, 1) := by decide +kernel
theorem dL_plays_197 : decode cL_plays 197 = .ok (.aload_n 0, 1) := by decide +kernel
theorem dL_plays_198 : decode cL_plays 198 = .ok (.iload 7, 2) := by decide +kernel
theorem dL_plays_200 : decode cL_plays 200 = .ok (.iconst 5, 1) := by decide +kernel
theorem dL_plays_201 : decode cL_plays 201 = .ok (.invokevirtual 15, 3) := by decide +kernel
theorem dL_plays_204 : decode cL_plays 204 = .ok (.istore 8, 2) := by decide +kernel
theorem dL_plays_206 : decode cL_plays 206 = .ok (.iload_n 3, 1) := by decide +kernel
theorem dL_plays_207 : decode cL_plays 207 = .ok (.ifCond .eq 69, 3) := by decide +kernel
theorem dL_plays_210 : decode cL_plays 210 = .ok (.aload_n 0, 1) := by decide +kernel
theorem dL_plays_211 : decode cL_plays 211 = .ok (.iload_n 1, 1) := by decide +kernel
theorem dL_plays_212 : decode cL_plays 212 = .ok (.iconst 4, 1) := by decide +kernel
theorem dL_plays_213 : decode cL_plays 213 = .ok (.invokevirtual 26, 3) := by decide +kernel
theorem dL_plays_216 : decode cL_plays 216 = .ok (.ifCond .ne 60, 3) := by decide +kernel
theorem dL_plays_219 : decode cL_plays 219 = .ok (.aload_n 0, 1) := by decide +kernel
theorem dL_plays_220 : decode cL_plays 220 = .ok (.iload_n 2, 1) := by decide +kernel
theorem dL_plays_221 : decode cL_plays 221 = .ok (.iconst 2, 1) := by decide +kernel
theorem dL_plays_222 : decode cL_plays 222 = .ok (.invokevirtual 38, 3) := by decide +kernel
theorem dL_plays_225 : decode cL_plays 225 = .ok (.ifCond .ne 51, 3) := by decide +kernel
theorem dL_plays_228 : decode cL_plays 228 = .ok (.aload_n 0, 1) := by decide +kernel
theorem dL_plays_229 : decode cL_plays 229 = .ok (.iload_n 2, 1) := by decide +kernel
theorem dL_plays_230 : decode cL_plays 230 = .ok (.iconst 3, 1) := by decide +kernel
theorem dL_plays_231 : decode cL_plays 231 = .ok (.invokevirtual 38, 3) := by decide +kernel
theorem dL_plays_234 : decode cL_plays 234 = .ok (.ifCond .ne 42, 3) := by decide +kernel
theorem dL_plays_237 : decode cL_plays 237 = .ok (.aload_n 0, 1) := by decide +kernel
theorem dL_plays_238 : decode cL_plays 238 = .ok (.invokevirtual 51, 3) := by decide +kernel
theorem dL_plays_241 : decode cL_plays 241 = .ok (.ifCond .lt 35, 3) := by decide +kernel
theorem dL_plays_244 : decode cL_plays 244 = .ok (.aload_n 0, 1) := by decide +kernel
theorem dL_plays_245 : decode cL_plays 245 = .ok (.iload_n 1, 1) := by decide +kernel
theorem dL_plays_246 : decode cL_plays 246 = .ok (.invokevirtual 58, 3) := by decide +kernel
theorem dL_plays_249 : decode cL_plays 249 = .ok (.ifCond .lt 27, 3) := by decide +kernel
theorem dL_plays_252 : decode cL_plays 252 = .ok (.aload_n 0, 1) := by decide +kernel
theorem dL_plays_253 : decode cL_plays 253 = .ok (.iload_n 2, 1) := by decide +kernel
theorem dL_plays_254 : decode cL_plays 254 = .ok (.invokevirtual 82, 3) := by decide +kernel
theorem dL_plays_257 : decode cL_plays 257 = .ok (.ifCond .lt 19, 3) := by decide +kernel
theorem dL_plays_260 : decode cL_plays 260 = .ok (.aload_n 0, 1) := by decide +kernel
theorem dL_plays_261 : decode cL_plays 261 = .ok (.iload 7, 2) := by decide +kernel
theorem dL_plays_263 : decode cL_plays 263 = .ok (.iconst 5, 1) := by decide +kernel
theorem dL_plays_264 : decode cL_plays 264 = .ok (.invokevirtual 15, 3) := by decide +kernel
theorem dL_plays_267 : decode cL_plays 267 = .ok (.iload 8, 2) := by decide +kernel
theorem dL_plays_269 : decode cL_plays 269 = .ok (.if_icmp .ne 7, 3) := by decide +kernel
theorem dL_plays_272 : decode cL_plays 272 = .ok (.iconst 1, 1) := by decide +kernel
theorem dL_plays_273 : decode cL_plays 273 = .ok (.goto 4, 3) := by decide +kernel
theorem dL_plays_276 : decode cL_plays 276 = .ok (.iconst 0, 1) := by decide +kernel
theorem dL_plays_277 : decode cL_plays 277 = .ok (.istore_n 3, 1) := by decide +kernel
theorem dL_plays_278 : decode cL_plays 278 = .ok (.aload_n 0, 1) := by decide +kernel
theorem dL_plays_279 : decode cL_plays 279 = .ok (.bipush 100, 2) := by decide +kernel
theorem dL_plays_281 : decode cL_plays 281 = .ok (.invokevirtual 64, 3) := by decide +kernel
theorem dL_plays_284 : decode cL_plays 284 = .ok (.pop, 1) := by decide +kernel
theorem dL_plays_285 : decode cL_plays 285 = .ok (.aload_n 0, 1) := by decide +kernel
theorem dL_plays_286 : decode cL_plays 286 = .ok (.iload_n 1, 1) := by decide +kernel
theorem dL_plays_287 : decode cL_plays 287 = .ok (.invokestatic 76, 3) := by decide +kernel
theorem dL_plays_290 : decode cL_plays 290 = .ok (.aload_n 0, 1) := by decide +kernel
theorem dL_plays_291 : decode cL_plays 291 = .ok (.bipush 44, 2) := by decide +kernel
theorem dL_plays_293 : decode cL_plays 293 = .ok (.invokevirtual 64, 3) := by decide +kernel
theorem dL_plays_296 : decode cL_plays 296 = .ok (.pop, 1) := by decide +kernel
theorem dL_plays_297 : decode cL_plays 297 = .ok (.aload_n 0, 1) := by decide +kernel
theorem dL_plays_298 : decode cL_plays 298 = .ok (.iload_n 2, 1) := by decide +kernel
theorem dL_plays_299 : decode cL_plays 299 = .ok (.invokestatic 76, 3) := by decide +kernel
theorem dL_plays_302 : decode cL_plays 302 = .ok (.aload_n 0, 1) := by decide +kernel
theorem dL_plays_303 : decode cL_plays 303 = .ok (.bipush 59, 2) := by decide +kernel
theorem dL_plays_305 : decode cL_plays 305 = .ok (.invokevirtual 64, 3) := by decide +kernel
theorem dL_plays_308 : decode cL_plays 308 = .ok (.istore 9, 2) := by decide +kernel
theorem dL_plays_310 : decode cL_plays 310 = .ok (.iload_n 3, 1) := by decide +kernel
theorem dL_plays_311 : decode cL_plays 311 = .ok (.ifCond .eq 45, 3) := by decide +kernel
theorem dL_plays_314 : decode cL_plays 314 = .ok (.aload_n 0, 1) := by decide +kernel
theorem dL_plays_315 : decode cL_plays 315 = .ok (.iconst 0, 1) := by decide +kernel
theorem dL_plays_316 : decode cL_plays 316 = .ok (.invokevirtual 70, 3) := by decide +kernel
theorem dL_plays_319 : decode cL_plays 319 = .ok (.iload 5, 2) := by decide +kernel
theorem dL_plays_321 : decode cL_plays 321 = .ok (.if_icmp .ne 35, 3) := by decide +kernel
theorem dL_plays_324 : decode cL_plays 324 = .ok (.aload_n 0, 1) := by decide +kernel
theorem dL_plays_325 : decode cL_plays 325 = .ok (.iconst 1, 1) := by decide +kernel
theorem dL_plays_326 : decode cL_plays 326 = .ok (.invokevirtual 70, 3) := by decide +kernel
theorem dL_plays_329 : decode cL_plays 329 = .ok (.iconst 2, 1) := by decide +kernel
theorem dL_plays_330 : decode cL_plays 330 = .ok (.if_icmp .ne 26, 3) := by decide +kernel
theorem dL_plays_333 : decode cL_plays 333 = .ok (.aload_n 0, 1) := by decide +kernel
theorem dL_plays_334 : decode cL_plays 334 = .ok (.iconst 2, 1) := by decide +kernel
theorem dL_plays_335 : decode cL_plays 335 = .ok (.invokevirtual 70, 3) := by decide +kernel
theorem dL_plays_338 : decode cL_plays 338 = .ok (.bipush (-2), 2) := by decide +kernel
theorem dL_plays_340 : decode cL_plays 340 = .ok (.if_icmp .ne 16, 3) := by decide +kernel
theorem dL_plays_343 : decode cL_plays 343 = .ok (.aload_n 0, 1) := by decide +kernel
theorem dL_plays_344 : decode cL_plays 344 = .ok (.invokevirtual 73, 3) := by decide +kernel
theorem dL_plays_347 : decode cL_plays 347 = .ok (.bipush (-2), 2) := by decide +kernel
theorem dL_plays_349 : decode cL_plays 349 = .ok (.if_icmp .ne 7, 3) := by decide +kernel
theorem dL_plays_352 : decode cL_plays 352 = .ok (.iconst 1, 1) := by decide +kernel
theorem dL_plays_353 : decode cL_plays 353 = .ok (.goto 4, 3) := by decide +kernel
theorem dL_plays_356 : decode cL_plays 356 = .ok (.iconst 0, 1) := by decide +kernel
theorem dL_plays_357 : decode cL_plays 357 = .ok (.istore_n 3, 1) := by decide +kernel
theorem dL_plays_358 : decode cL_plays 358 = .ok (.aload_n 0, 1) := by decide +kernel
theorem dL_plays_359 : decode cL_plays 359 = .ok (.invokevirtual 67, 3) := by decide +kernel
theorem dL_plays_362 : decode cL_plays 362 = .ok (.pop, 1) := by decide +kernel
theorem dL_plays_363 : decode cL_plays 363 = .ok (.aload_n 0, 1) := by decide +kernel
theorem dL_plays_364 : decode cL_plays 364 = .ok (.bipush 114, 2) := by decide +kernel
theorem dL_plays_366 : decode cL_plays 366 = .ok (.invokevirtual 64, 3) := by decide +kernel
theorem dL_plays_369 : decode cL_plays 369 = .ok (.pop, 1) := by decide +kernel
theorem dL_plays_370 : decode cL_plays 370 = .ok (.aload_n 0, 1) := by decide +kernel
theorem dL_plays_371 : decode cL_plays 371 = .ok (.iload_n 1, 1) := by decide +kernel
theorem dL_plays_372 : decode cL_plays 372 = .ok (.invokestatic 76, 3) := by decide +kernel
theorem dL_plays_375 : decode cL_plays 375 = .ok (.iload_n 3, 1) := by decide +kernel
theorem dL_plays_376 : decode cL_plays 376 = .ok (.ifCond .eq 77, 3) := by decide +kernel
theorem dL_plays_379 : decode cL_plays 379 = .ok (.aload_n 0, 1) := by decide +kernel
theorem dL_plays_380 : decode cL_plays 380 = .ok (.iconst 0, 1) := by decide +kernel
theorem dL_plays_381 : decode cL_plays 381 = .ok (.invokevirtual 70, 3) := by decide +kernel
theorem dL_plays_384 : decode cL_plays 384 = .ok (.ifCond .ne 69, 3) := by decide +kernel
theorem dL_plays_387 : decode cL_plays 387 = .ok (.aload_n 0, 1) := by decide +kernel
theorem dL_plays_388 : decode cL_plays 388 = .ok (.iconst 1, 1) := by decide +kernel
theorem dL_plays_389 : decode cL_plays 389 = .ok (.invokevirtual 70, 3) := by decide +kernel
theorem dL_plays_392 : decode cL_plays 392 = .ok (.iconst 1, 1) := by decide +kernel
theorem dL_plays_393 : decode cL_plays 393 = .ok (.if_icmp .ne 60, 3) := by decide +kernel
theorem dL_plays_396 : decode cL_plays 396 = .ok (.aload_n 0, 1) := by decide +kernel
theorem dL_plays_397 : decode cL_plays 397 = .ok (.iconst 2, 1) := by decide +kernel
theorem dL_plays_398 : decode cL_plays 398 = .ok (.invokevirtual 70, 3) := by decide +kernel
theorem dL_plays_401 : decode cL_plays 401 = .ok (.bipush (-4), 2) := by decide +kernel
theorem dL_plays_403 : decode cL_plays 403 = .ok (.if_icmp .ne 50, 3) := by decide +kernel
theorem dL_plays_406 : decode cL_plays 406 = .ok (.aload_n 0, 1) := by decide +kernel
theorem dL_plays_407 : decode cL_plays 407 = .ok (.bipush 59, 2) := by decide +kernel
theorem dL_plays_409 : decode cL_plays 409 = .ok (.invokevirtual 64, 3) := by decide +kernel
theorem dL_plays_412 : decode cL_plays 412 = .ok (.iload 4, 2) := by decide +kernel
theorem dL_plays_414 : decode cL_plays 414 = .ok (.if_icmp .ne 39, 3) := by decide +kernel
theorem dL_plays_417 : decode cL_plays 417 = .ok (.aload_n 0, 1) := by decide +kernel
theorem dL_plays_418 : decode cL_plays 418 = .ok (.bipush 116, 2) := by decide +kernel
theorem dL_plays_420 : decode cL_plays 420 = .ok (.invokevirtual 64, 3) := by decide +kernel
theorem dL_plays_423 : decode cL_plays 423 = .ok (.iload 4, 2) := by decide +kernel
theorem dL_plays_425 : decode cL_plays 425 = .ok (.iconst 1, 1) := by decide +kernel
theorem dL_plays_426 : decode cL_plays 426 = .ok (.iadd, 1) := by decide +kernel
theorem dL_plays_427 : decode cL_plays 427 = .ok (.if_icmp .ne 26, 3) := by decide +kernel
theorem dL_plays_430 : decode cL_plays 430 = .ok (.aload_n 0, 1) := by decide +kernel
theorem dL_plays_431 : decode cL_plays 431 = .ok (.iconst 0, 1) := by decide +kernel
theorem dL_plays_432 : decode cL_plays 432 = .ok (.invokevirtual 70, 3) := by decide +kernel
theorem dL_plays_435 : decode cL_plays 435 = .ok (.iload 4, 2) := by decide +kernel
theorem dL_plays_437 : decode cL_plays 437 = .ok (.if_icmp .ne 16, 3) := by decide +kernel
theorem dL_plays_440 : decode cL_plays 440 = .ok (.aload_n 0, 1) := by decide +kernel
theorem dL_plays_441 : decode cL_plays 441 = .ok (.iconst 1, 1) := by decide +kernel
theorem dL_plays_442 : decode cL_plays 442 = .ok (.invokevirtual 70, 3) := by decide +kernel
theorem dL_plays_445 : decode cL_plays 445 = .ok (.iconst 1, 1) := by decide +kernel
theorem dL_plays_446 : decode cL_plays 446 = .ok (.if_icmp .ne 7, 3) := by decide +kernel
theorem dL_plays_449 : decode cL_plays 449 = .ok (.iconst 1, 1) := by decide +kernel
theorem dL_plays_450 : decode cL_plays 450 = .ok (.goto 4, 3) := by decide +kernel
theorem dL_plays_453 : decode cL_plays 453 = .ok (.iconst 0, 1) := by decide +kernel
theorem dL_plays_454 : decode cL_plays 454 = .ok (.istore_n 3, 1) := by decide +kernel
theorem dL_plays_455 : decode cL_plays 455 = .ok (.iload_n 3, 1) := by decide +kernel
theorem dL_plays_456 : decode cL_plays 456 = .ok (.ifCond .eq 25, 3) := by decide +kernel
theorem dL_plays_459 : decode cL_plays 459 = .ok (.iload 9, 2) := by decide +kernel
theorem dL_plays_461 : decode cL_plays 461 = .ok (.iload 5, 2) := by decide +kernel
theorem dL_plays_463 : decode cL_plays 463 = .ok (.if_icmp .le 18, 3) := by decide +kernel
theorem dL_plays_466 : decode cL_plays 466 = .ok (.aload_n 0, 1) := by decide +kernel
theorem dL_plays_467 : decode cL_plays 467 = .ok (.invokevirtual 67, 3) := by decide +kernel
theorem dL_plays_470 : decode cL_plays 470 = .ok (.iload 4, 2) := by decide +kernel
theorem dL_plays_472 : decode cL_plays 472 = .ok (.iconst 1, 1) := by decide +kernel
theorem dL_plays_473 : decode cL_plays 473 = .ok (.iadd, 1) := by decide +kernel
theorem dL_plays_474 : decode cL_plays 474 = .ok (.if_icmp .ne 7, 3) := by decide +kernel
theorem dL_plays_477 : decode cL_plays 477 = .ok (.iconst 1, 1) := by decide +kernel
theorem dL_plays_478 : decode cL_plays 478 = .ok (.goto 4, 3) := by decide +kernel
theorem dL_plays_481 : decode cL_plays 481 = .ok (.iconst 0, 1) := by decide +kernel
theorem dL_plays_482 : decode cL_plays 482 = .ok (.ireturn, 1) := by decide +kernel
theorem dL_refuses_0 : decode cL_refuses 0 = .ok (.aload_n 0, 1) := by decide +kernel
theorem dL_refuses_1 : decode cL_refuses 1 = .ok (.bipush 10, 2) := by decide +kernel
theorem dL_refuses_3 : decode cL_refuses 3 = .ok (.invokevirtual 9, 3) := by decide +kernel
theorem dL_refuses_6 : decode cL_refuses 6 = .ok (.istore_n 1, 1) := by decide +kernel
theorem dL_refuses_7 : decode cL_refuses 7 = .ok (.aload_n 0, 1) := by decide +kernel
theorem dL_refuses_8 : decode cL_refuses 8 = .ok (.iconst 0, 1) := by decide +kernel
theorem dL_refuses_9 : decode cL_refuses 9 = .ok (.invokevirtual 9, 3) := by decide +kernel
theorem dL_refuses_12 : decode cL_refuses 12 = .ok (.istore_n 2, 1) := by decide +kernel
theorem dL_refuses_13 : decode cL_refuses 13 = .ok (.aload_n 0, 1) := by decide +kernel
theorem dL_refuses_14 : decode cL_refuses 14 = .ok (.iconst 1, 1) := by decide +kernel
theorem dL_refuses_15 : decode cL_refuses 15 = .ok (.invokevirtual 9, 3) := by decide +kernel
theorem dL_refuses_18 : decode cL_refuses 18 = .ok (.istore_n 3, 1) := by decide +kernel
theorem dL_refuses_19 : decode cL_refuses 19 = .ok (.aload_n 0, 1) := by decide +kernel
theorem dL_refuses_20 : decode cL_refuses 20 = .ok (.bipush 7, 2) := by decide +kernel
theorem dL_refuses_22 : decode cL_refuses 22 = .ok (.invokevirtual 9, 3) := by decide +kernel
theorem dL_refuses_25 : decode cL_refuses 25 = .ok (.istore 4, 2) := by decide +kernel
theorem dL_refuses_27 : decode cL_refuses 27 = .ok (.aload_n 0, 1) := by decide +kernel
theorem dL_refuses_28 : decode cL_refuses 28 = .ok (.iconst 4, 1) := by decide +kernel
theorem dL_refuses_29 : decode cL_refuses 29 = .ok (.bipush 10, 2) := by decide +kernel
theorem dL_refuses_31 : decode cL_refuses 31 = .ok (.invokevirtual 85, 3) := by decide +kernel
theorem dL_refuses_34 : decode cL_refuses 34 = .ok (.iconst (-1), 1) := by decide +kernel
theorem dL_refuses_35 : decode cL_refuses 35 = .ok (.if_icmp .ne 152, 3) := by decide +kernel
theorem dL_refuses_38 : decode cL_refuses 38 = .ok (.aload_n 0, 1) := by decide +kernel
theorem dL_refuses_39 : decode cL_refuses 39 = .ok (.iconst 0, 1) := by decide +kernel
theorem dL_refuses_40 : decode cL_refuses 40 = .ok (.bipush 9, 2) := by decide +kernel
theorem dL_refuses_42 : decode cL_refuses 42 = .ok (.invokevirtual 85, 3) := by decide +kernel
theorem dL_refuses_45 : decode cL_refuses 45 = .ok (.iconst (-1), 1) := by decide +kernel
theorem dL_refuses_46 : decode cL_refuses 46 = .ok (.if_icmp .ne 141, 3) := by decide +kernel
theorem dL_refuses_49 : decode cL_refuses 49 = .ok (.aload_n 0, 1) := by decide +kernel
theorem dL_refuses_50 : decode cL_refuses 50 = .ok (.iconst 0, 1) := by decide +kernel
theorem dL_refuses_51 : decode cL_refuses 51 = .ok (.sipush 1001, 3) := by decide +kernel
theorem dL_refuses_54 : decode cL_refuses 54 = .ok (.invokevirtual 85, 3) := by decide +kernel
theorem dL_refuses_57 : decode cL_refuses 57 = .ok (.iconst (-1), 1) := by decide +kernel
theorem dL_refuses_58 : decode cL_refuses 58 = .ok (.if_icmp .ne 129, 3) := by decide +kernel
theorem dL_refuses_61 : decode cL_refuses 61 = .ok (.aload_n 0, 1) := by decide +kernel
theorem dL_refuses_62 : decode cL_refuses 62 = .ok (.iload_n 2, 1) := by decide +kernel
theorem dL_refuses_63 : decode cL_refuses 63 = .ok (.iconst 1, 1) := by decide +kernel
theorem dL_refuses_64 : decode cL_refuses 64 = .ok (.invokevirtual 88, 3) := by decide +kernel
theorem dL_refuses_67 : decode cL_refuses 67 = .ok (.iconst (-1), 1) := by decide +kernel
theorem dL_refuses_68 : decode cL_refuses 68 = .ok (.if_icmp .ne 119, 3) := by decide +kernel
theorem dL_refuses_71 : decode cL_refuses 71 = .ok (.aload_n 0, 1) := by decide +kernel
theorem dL_refuses_72 : decode cL_refuses 72 = .ok (.iconst 0, 1) := by decide +kernel
theorem dL_refuses_73 : decode cL_refuses 73 = .ok (.iconst 0, 1) := by decide +kernel
theorem dL_refuses_74 : decode cL_refuses 74 = .ok (.invokevirtual 88, 3) := by decide +kernel
theorem dL_refuses_77 : decode cL_refuses 77 = .ok (.iconst (-1), 1) := by decide +kernel
theorem dL_refuses_78 : decode cL_refuses 78 = .ok (.if_icmp .ne 109, 3) := by decide +kernel
theorem dL_refuses_81 : decode cL_refuses 81 = .ok (.aload_n 0, 1) := by decide +kernel
theorem dL_refuses_82 : decode cL_refuses 82 = .ok (.iconst 0, 1) := by decide +kernel
theorem dL_refuses_83 : decode cL_refuses 83 = .ok (.ldc 91, 2) := by decide +kernel
theorem dL_refuses_85 : decode cL_refuses 85 = .ok (.invokevirtual 88, 3) := by decide +kernel
theorem dL_refuses_88 : decode cL_refuses 88 = .ok (.iconst (-1), 1) := by decide +kernel
theorem dL_refuses_89 : decode cL_refuses 89 = .ok (.if_icmp .ne 98, 3) := by decide +kernel
theorem dL_refuses_92 : decode cL_refuses 92 = .ok (.aload_n 0, 1) := by decide +kernel
theorem dL_refuses_93 : decode cL_refuses 93 = .ok (.iload_n 2, 1) := by decide +kernel
theorem dL_refuses_94 : decode cL_refuses 94 = .ok (.invokevirtual 82, 3) := by decide +kernel
theorem dL_refuses_97 : decode cL_refuses 97 = .ok (.iconst (-1), 1) := by decide +kernel
theorem dL_refuses_98 : decode cL_refuses 98 = .ok (.if_icmp .ne 89, 3) := by decide +kernel
theorem dL_refuses_101 : decode cL_refuses 101 = .ok (.aload_n 0, 1) := by decide +kernel
theorem dL_refuses_102 : decode cL_refuses 102 = .ok (.iconst 0, 1) := by decide +kernel
theorem dL_refuses_103 : decode cL_refuses 103 = .ok (.iconst 5, 1) := by decide +kernel
theorem dL_refuses_104 : decode cL_refuses 104 = .ok (.invokevirtual 38, 3) := by decide +kernel
theorem dL_refuses_107 : decode cL_refuses 107 = .ok (.iconst (-1), 1) := by decide +kernel
theorem dL_refuses_108 : decode cL_refuses 108 = .ok (.if_icmp .ne 79, 3) := by decide +kernel
theorem dL_refuses_111 : decode cL_refuses 111 = .ok (.aload_n 0, 1) := by decide +kernel
theorem dL_refuses_112 : decode cL_refuses 112 = .ok (.iconst (-1), 1) := by decide +kernel
theorem dL_refuses_113 : decode cL_refuses 113 = .ok (.invokevirtual 35, 3) := by decide +kernel
theorem dL_refuses_116 : decode cL_refuses 116 = .ok (.iconst (-1), 1) := by decide +kernel
theorem dL_refuses_117 : decode cL_refuses 117 = .ok (.if_icmp .ne 70, 3) := by decide +kernel
theorem dL_refuses_120 : decode cL_refuses 120 = .ok (.aload_n 0, 1) := by decide +kernel
theorem dL_refuses_121 : decode cL_refuses 121 = .ok (.iconst 2, 1) := by decide +kernel
theorem dL_refuses_122 : decode cL_refuses 122 = .ok (.bipush 100, 2) := by decide +kernel
theorem dL_refuses_124 : decode cL_refuses 124 = .ok (.invokevirtual 92, 3) := by decide +kernel
theorem dL_refuses_127 : decode cL_refuses 127 = .ok (.iconst (-1), 1) := by decide +kernel
theorem dL_refuses_128 : decode cL_refuses 128 = .ok (.if_icmp .ne 59, 3) := by decide +kernel
theorem dL_refuses_131 : decode cL_refuses 131 = .ok (.aload_n 0, 1) := by decide +kernel
theorem dL_refuses_132 : decode cL_refuses 132 = .ok (.iconst 0, 1) := by decide +kernel
theorem dL_refuses_133 : decode cL_refuses 133 = .ok (.bipush 99, 2) := by decide +kernel
theorem dL_refuses_135 : decode cL_refuses 135 = .ok (.invokevirtual 92, 3) := by decide +kernel
theorem dL_refuses_138 : decode cL_refuses 138 = .ok (.iconst (-1), 1) := by decide +kernel
theorem dL_refuses_139 : decode cL_refuses 139 = .ok (.if_icmp .ne 48, 3) := by decide +kernel
theorem dL_refuses_142 : decode cL_refuses 142 = .ok (.aload_n 0, 1) := by decide +kernel
theorem dL_refuses_143 : decode cL_refuses 143 = .ok (.iconst 0, 1) := by decide +kernel
theorem dL_refuses_144 : decode cL_refuses 144 = .ok (.sipush 5001, 3) := by decide +kernel
theorem dL_refuses_147 : decode cL_refuses 147 = .ok (.invokevirtual 92, 3) := by decide +kernel
theorem dL_refuses_150 : decode cL_refuses 150 = .ok (.iconst (-1), 1) := by decide +kernel
theorem dL_refuses_151 : decode cL_refuses 151 = .ok (.if_icmp .ne 36, 3) := by decide +kernel
theorem dL_refuses_154 : decode cL_refuses 154 = .ok (.aload_n 0, 1) := by decide +kernel
theorem dL_refuses_155 : decode cL_refuses 155 = .ok (.iload_n 3, 1) := by decide +kernel
theorem dL_refuses_156 : decode cL_refuses 156 = .ok (.iconst 0, 1) := by decide +kernel
theorem dL_refuses_157 : decode cL_refuses 157 = .ok (.invokevirtual 48, 3) := by decide +kernel
theorem dL_refuses_160 : decode cL_refuses 160 = .ok (.iconst (-1), 1) := by decide +kernel
theorem dL_refuses_161 : decode cL_refuses 161 = .ok (.if_icmp .ne 26, 3) := by decide +kernel
theorem dL_refuses_164 : decode cL_refuses 164 = .ok (.aload_n 0, 1) := by decide +kernel
theorem dL_refuses_165 : decode cL_refuses 165 = .ok (.iconst 0, 1) := by decide +kernel
theorem dL_refuses_166 : decode cL_refuses 166 = .ok (.iload_n 2, 1) := by decide +kernel
theorem dL_refuses_167 : decode cL_refuses 167 = .ok (.invokevirtual 48, 3) := by decide +kernel
theorem dL_refuses_170 : decode cL_refuses 170 = .ok (.iconst (-1), 1) := by decide +kernel
theorem dL_refuses_171 : decode cL_refuses 171 = .ok (.if_icmp .ne 16, 3) := by decide +kernel
theorem dL_refuses_174 : decode cL_refuses 174 = .ok (.aload_n 0, 1) := by decide +kernel
theorem dL_refuses_175 : decode cL_refuses 175 = .ok (.iconst (-1), 1) := by decide +kernel
theorem dL_refuses_176 : decode cL_refuses 176 = .ok (.invokevirtual 58, 3) := by decide +kernel
theorem dL_refuses_179 : decode cL_refuses 179 = .ok (.iconst (-1), 1) := by decide +kernel
theorem dL_refuses_180 : decode cL_refuses 180 = .ok (.if_icmp .ne 7, 3) := by decide +kernel
theorem dL_refuses_183 : decode cL_refuses 183 = .ok (.iconst 1, 1) := by decide +kernel
theorem dL_refuses_184 : decode cL_refuses 184 = .ok (.goto 4, 3) := by decide +kernel
theorem dL_refuses_187 : decode cL_refuses 187 = .ok (.iconst 0, 1) := by decide +kernel
theorem dL_refuses_188 : decode cL_refuses 188 = .ok (.istore 5, 2) := by decide +kernel
theorem dL_refuses_190 : decode cL_refuses 190 = .ok (.iload 5, 2) := by decide +kernel
theorem dL_refuses_192 : decode cL_refuses 192 = .ok (.ifCond .eq 153, 3) := by decide +kernel
theorem dL_refuses_195 : decode cL_refuses 195 = .ok (.aload_n 0, 1) := by decide +kernel
theorem dL_refuses_196 : decode cL_refuses 196 = .ok (.iload_n 3, 1) := by decide +kernel
theorem dL_refuses_197 : decode cL_refuses 197 = .ok (.iconst 0, 1) := by decide +kernel
theorem dL_refuses_198 : decode cL_refuses 198 = .ok (.invokevirtual 61, 3) := by decide +kernel
theorem dL_refuses_201 : decode cL_refuses 201 = .ok (.iconst (-1), 1) := by decide +kernel
theorem dL_refuses_202 : decode cL_refuses 202 = .ok (.if_icmp .ne 143, 3) := by decide +kernel
theorem dL_refuses_205 : decode cL_refuses 205 = .ok (.aload_n 0, 1) := by decide +kernel
theorem dL_refuses_206 : decode cL_refuses 206 = .ok (.iconst 0, 1) := by decide +kernel
theorem dL_refuses_207 : decode cL_refuses 207 = .ok (.iconst 2, 1) := by decide +kernel
theorem dL_refuses_208 : decode cL_refuses 208 = .ok (.invokevirtual 61, 3) := by decide +kernel
theorem dL_refuses_211 : decode cL_refuses 211 = .ok (.iconst (-1), 1) := by decide +kernel
theorem dL_refuses_212 : decode cL_refuses 212 = .ok (.if_icmp .ne 133, 3) := by decide +kernel
theorem dL_refuses_215 : decode cL_refuses 215 = .ok (.aload_n 0, 1) := by decide +kernel
theorem dL_refuses_216 : decode cL_refuses 216 = .ok (.iload_n 3, 1) := by decide +kernel
theorem dL_refuses_217 : decode cL_refuses 217 = .ok (.invokevirtual 45, 3) := by decide +kernel
theorem dL_refuses_220 : decode cL_refuses 220 = .ok (.iconst (-1), 1) := by decide +kernel
theorem dL_refuses_221 : decode cL_refuses 221 = .ok (.if_icmp .ne 124, 3) := by decide +kernel
theorem dL_refuses_224 : decode cL_refuses 224 = .ok (.aload_n 0, 1) := by decide +kernel
theorem dL_refuses_225 : decode cL_refuses 225 = .ok (.iconst 0, 1) := by decide +kernel
theorem dL_refuses_226 : decode cL_refuses 226 = .ok (.bipush 10, 2) := by decide +kernel
theorem dL_refuses_228 : decode cL_refuses 228 = .ok (.invokevirtual 26, 3) := by decide +kernel
theorem dL_refuses_231 : decode cL_refuses 231 = .ok (.iconst (-1), 1) := by decide +kernel
theorem dL_refuses_232 : decode cL_refuses 232 = .ok (.if_icmp .ne 113, 3) := by decide +kernel
theorem dL_refuses_235 : decode cL_refuses 235 = .ok (.aload_n 0, 1) := by decide +kernel
theorem dL_refuses_236 : decode cL_refuses 236 = .ok (.iconst 0, 1) := by decide +kernel
theorem dL_refuses_237 : decode cL_refuses 237 = .ok (.iconst 4, 1) := by decide +kernel
theorem dL_refuses_238 : decode cL_refuses 238 = .ok (.invokevirtual 95, 3) := by decide +kernel
theorem dL_refuses_241 : decode cL_refuses 241 = .ok (.iconst (-1), 1) := by decide +kernel
theorem dL_refuses_242 : decode cL_refuses 242 = .ok (.if_icmp .ne 103, 3) := by decide +kernel
theorem dL_refuses_245 : decode cL_refuses 245 = .ok (.aload_n 0, 1) := by decide +kernel
theorem dL_refuses_246 : decode cL_refuses 246 = .ok (.iload_n 3, 1) := by decide +kernel
theorem dL_refuses_247 : decode cL_refuses 247 = .ok (.iconst 0, 1) := by decide +kernel
theorem dL_refuses_248 : decode cL_refuses 248 = .ok (.invokevirtual 98, 3) := by decide +kernel
theorem dL_refuses_251 : decode cL_refuses 251 = .ok (.iconst (-1), 1) := by decide +kernel
theorem dL_refuses_252 : decode cL_refuses 252 = .ok (.if_icmp .ne 93, 3) := by decide +kernel
theorem dL_refuses_255 : decode cL_refuses 255 = .ok (.aload_n 0, 1) := by decide +kernel
theorem dL_refuses_256 : decode cL_refuses 256 = .ok (.iconst 4, 1) := by decide +kernel
theorem dL_refuses_257 : decode cL_refuses 257 = .ok (.invokevirtual 23, 3) := by decide +kernel
theorem dL_refuses_260 : decode cL_refuses 260 = .ok (.iconst (-1), 1) := by decide +kernel
theorem dL_refuses_261 : decode cL_refuses 261 = .ok (.if_icmp .ne 84, 3) := by decide +kernel
theorem dL_refuses_264 : decode cL_refuses 264 = .ok (.aload_n 0, 1) := by decide +kernel
theorem dL_refuses_265 : decode cL_refuses 265 = .ok (.sipush 20001, 3) := by decide +kernel
theorem dL_refuses_268 : decode cL_refuses 268 = .ok (.iconst 0, 1) := by decide +kernel
theorem dL_refuses_269 : decode cL_refuses 269 = .ok (.iconst 0, 1) := by decide +kernel
theorem dL_refuses_270 : decode cL_refuses 270 = .ok (.iconst 0, 1) := by decide +kernel
theorem dL_refuses_271 : decode cL_refuses 271 = .ok (.invokevirtual 101, 3) := by decide +kernel
theorem dL_refuses_274 : decode cL_refuses 274 = .ok (.iconst (-1), 1) := by decide +kernel
theorem dL_refuses_275 : decode cL_refuses 275 = .ok (.if_icmp .ne 70, 3) := by decide +kernel
theorem dL_refuses_278 : decode cL_refuses 278 = .ok (.aload_n 0, 1) := by decide +kernel
theorem dL_refuses_279 : decode cL_refuses 279 = .ok (.iconst 0, 1) := by decide +kernel
theorem dL_refuses_280 : decode cL_refuses 280 = .ok (.iconst 0, 1) := by decide +kernel
theorem dL_refuses_281 : decode cL_refuses 281 = .ok (.iconst 0, 1) := by decide +kernel
theorem dL_refuses_282 : decode cL_refuses 282 = .ok (.iconst (-1), 1) := by decide +kernel
theorem dL_refuses_283 : decode cL_refuses 283 = .ok (.invokevirtual 101, 3) := by decide +kernel
theorem dL_refuses_286 : decode cL_refuses 286 = .ok (.iconst (-1), 1) := by decide +kernel
theorem dL_refuses_287 : decode cL_refuses 287 = .ok (.if_icmp .ne 58, 3) := by decide +kernel
theorem dL_refuses_290 : decode cL_refuses 290 = .ok (.aload_n 0, 1) := by decide +kernel
theorem dL_refuses_291 : decode cL_refuses 291 = .ok (.iload_n 3, 1) := by decide +kernel
theorem dL_refuses_292 : decode cL_refuses 292 = .ok (.iconst 0, 1) := by decide +kernel
theorem dL_refuses_293 : decode cL_refuses 293 = .ok (.invokevirtual 105, 3) := by decide +kernel
theorem dL_refuses_296 : decode cL_refuses 296 = .ok (.iconst (-1), 1) := by decide +kernel
theorem dL_refuses_297 : decode cL_refuses 297 = .ok (.if_icmp .ne 48, 3) := by decide +kernel
theorem dL_refuses_300 : decode cL_refuses 300 = .ok (.aload_n 0, 1) := by decide +kernel
theorem dL_refuses_301 : decode cL_refuses 301 = .ok (.iconst 0, 1) := by decide +kernel
theorem dL_refuses_302 : decode cL_refuses 302 = .ok (.iload 4, 2) := by decide +kernel
theorem dL_refuses_304 : decode cL_refuses 304 = .ok (.invokevirtual 105, 3) := by decide +kernel
theorem dL_refuses_307 : decode cL_refuses 307 = .ok (.iconst (-1), 1) := by decide +kernel
theorem dL_refuses_308 : decode cL_refuses 308 = .ok (.if_icmp .ne 37, 3) := by decide +kernel
theorem dL_refuses_311 : decode cL_refuses 311 = .ok (.aload_n 0, 1) := by decide +kernel
theorem dL_refuses_312 : decode cL_refuses 312 = .ok (.iconst 0, 1) := by decide +kernel
theorem dL_refuses_313 : decode cL_refuses 313 = .ok (.bipush 7, 2) := by decide +kernel
theorem dL_refuses_315 : decode cL_refuses 315 = .ok (.invokevirtual 29, 3) := by decide +kernel
theorem dL_refuses_318 : decode cL_refuses 318 = .ok (.iconst (-1), 1) := by decide +kernel
theorem dL_refuses_319 : decode cL_refuses 319 = .ok (.if_icmp .ne 26, 3) := by decide +kernel
theorem dL_refuses_322 : decode cL_refuses 322 = .ok (.aload_n 0, 1) := by decide +kernel
theorem dL_refuses_323 : decode cL_refuses 323 = .ok (.iconst 0, 1) := by decide +kernel
theorem dL_refuses_324 : decode cL_refuses 324 = .ok (.iload_n 3, 1) := by decide +kernel
theorem dL_refuses_325 : decode cL_refuses 325 = .ok (.invokevirtual 32, 3) := by decide +kernel
theorem dL_refuses_328 : decode cL_refuses 328 = .ok (.iconst (-1), 1) := by decide +kernel
theorem dL_refuses_329 : decode cL_refuses 329 = .ok (.if_icmp .ne 16, 3) := by decide +kernel
theorem dL_refuses_332 : decode cL_refuses 332 = .ok (.aload_n 0, 1) := by decide +kernel
theorem dL_refuses_333 : decode cL_refuses 333 = .ok (.iconst 4, 1) := by decide +kernel
theorem dL_refuses_334 : decode cL_refuses 334 = .ok (.invokevirtual 20, 3) := by decide +kernel
theorem dL_refuses_337 : decode cL_refuses 337 = .ok (.iconst (-1), 1) := by decide +kernel
theorem dL_refuses_338 : decode cL_refuses 338 = .ok (.if_icmp .ne 7, 3) := by decide +kernel
theorem dL_refuses_341 : decode cL_refuses 341 = .ok (.iconst 1, 1) := by decide +kernel
theorem dL_refuses_342 : decode cL_refuses 342 = .ok (.goto 4, 3) := by decide +kernel
theorem dL_refuses_345 : decode cL_refuses 345 = .ok (.iconst 0, 1) := by decide +kernel
theorem dL_refuses_346 : decode cL_refuses 346 = .ok (.istore 5, 2) := by decide +kernel
theorem dL_refuses_348 : decode cL_refuses 348 = .ok (.iload 5, 2) := by decide +kernel
theorem dL_refuses_350 : decode cL_refuses 350 = .ok (.ifCond .eq 167, 3) := by decide +kernel
theorem dL_refuses_353 : decode cL_refuses 353 = .ok (.aload_n 0, 1) := by decide +kernel
theorem dL_refuses_354 : decode cL_refuses 354 = .ok (.iconst 0, 1) := by decide +kernel
theorem dL_refuses_355 : decode cL_refuses 355 = .ok (.iload 4, 2) := by decide +kernel
theorem dL_refuses_357 : decode cL_refuses 357 = .ok (.iconst 0, 1) := by decide +kernel
theorem dL_refuses_358 : decode cL_refuses 358 = .ok (.invokevirtual 41, 3) := by decide +kernel
theorem dL_refuses_361 : decode cL_refuses 361 = .ok (.iconst (-1), 1) := by decide +kernel
theorem dL_refuses_362 : decode cL_refuses 362 = .ok (.if_icmp .ne 155, 3) := by decide +kernel
theorem dL_refuses_365 : decode cL_refuses 365 = .ok (.aload_n 0, 1) := by decide +kernel
theorem dL_refuses_366 : decode cL_refuses 366 = .ok (.iconst 0, 1) := by decide +kernel
theorem dL_refuses_367 : decode cL_refuses 367 = .ok (.iconst 0, 1) := by decide +kernel
theorem dL_refuses_368 : decode cL_refuses 368 = .ok (.bipush (-2), 2) := by decide +kernel
theorem dL_refuses_370 : decode cL_refuses 370 = .ok (.invokevirtual 41, 3) := by decide +kernel
theorem dL_refuses_373 : decode cL_refuses 373 = .ok (.iconst (-1), 1) := by decide +kernel
theorem dL_refuses_374 : decode cL_refuses 374 = .ok (.if_icmp .ne 143, 3) := by decide +kernel
theorem dL_refuses_377 : decode cL_refuses 377 = .ok (.aload_n 0, 1) := by decide +kernel
theorem dL_refuses_378 : decode cL_refuses 378 = .ok (.iconst 0, 1) := by decide +kernel
theorem dL_refuses_379 : decode cL_refuses 379 = .ok (.iconst 0, 1) := by decide +kernel
theorem dL_refuses_380 : decode cL_refuses 380 = .ok (.iconst 0, 1) := by decide +kernel
theorem dL_refuses_381 : decode cL_refuses 381 = .ok (.invokevirtual 55, 3) := by decide +kernel
theorem dL_refuses_384 : decode cL_refuses 384 = .ok (.iconst (-1), 1) := by decide +kernel
theorem dL_refuses_385 : decode cL_refuses 385 = .ok (.if_icmp .ne 132, 3) := by decide +kernel
theorem dL_refuses_388 : decode cL_refuses 388 = .ok (.aload_n 0, 1) := by decide +kernel
theorem dL_refuses_389 : decode cL_refuses 389 = .ok (.iconst 0, 1) := by decide +kernel
theorem dL_refuses_390 : decode cL_refuses 390 = .ok (.iconst 0, 1) := by decide +kernel
theorem dL_refuses_391 : decode cL_refuses 391 = .ok (.bipush 31, 2) := by decide +kernel
theorem dL_refuses_393 : decode cL_refuses 393 = .ok (.invokevirtual 55, 3) := by decide +kernel
theorem dL_refuses_396 : decode cL_refuses 396 = .ok (.iconst (-1), 1) := by decide +kernel
theorem dL_refuses_397 : decode cL_refuses 397 = .ok (.if_icmp .ne 120, 3) := by decide +kernel
theorem dL_refuses_400 : decode cL_refuses 400 = .ok (.aload_n 0, 1) := by decide +kernel
theorem dL_refuses_401 : decode cL_refuses 401 = .ok (.iconst 4, 1) := by decide +kernel
theorem dL_refuses_402 : decode cL_refuses 402 = .ok (.iconst 0, 1) := by decide +kernel
theorem dL_refuses_403 : decode cL_refuses 403 = .ok (.invokevirtual 15, 3) := by decide +kernel
theorem dL_refuses_406 : decode cL_refuses 406 = .ok (.iconst (-1), 1) := by decide +kernel
theorem dL_refuses_407 : decode cL_refuses 407 = .ok (.if_icmp .ne 110, 3) := by decide +kernel
theorem dL_refuses_410 : decode cL_refuses 410 = .ok (.aload_n 0, 1) := by decide +kernel
theorem dL_refuses_411 : decode cL_refuses 411 = .ok (.iconst 0, 1) := by decide +kernel
theorem dL_refuses_412 : decode cL_refuses 412 = .ok (.bipush 6, 2) := by decide +kernel
theorem dL_refuses_414 : decode cL_refuses 414 = .ok (.invokevirtual 15, 3) := by decide +kernel
theorem dL_refuses_417 : decode cL_refuses 417 = .ok (.iconst (-1), 1) := by decide +kernel
theorem dL_refuses_418 : decode cL_refuses 418 = .ok (.if_icmp .ne 99, 3) := by decide +kernel
theorem dL_refuses_421 : decode cL_refuses 421 = .ok (.aload_n 0, 1) := by decide +kernel
theorem dL_refuses_422 : decode cL_refuses 422 = .ok (.bipush 12, 2) := by decide +kernel
theorem dL_refuses_424 : decode cL_refuses 424 = .ok (.invokevirtual 9, 3) := by decide +kernel
theorem dL_refuses_427 : decode cL_refuses 427 = .ok (.iconst (-1), 1) := by decide +kernel
theorem dL_refuses_428 : decode cL_refuses 428 = .ok (.if_icmp .ne 89, 3) := by decide +kernel
theorem dL_refuses_431 : decode cL_refuses 431 = .ok (.aload_n 0, 1) := by decide +kernel
theorem dL_refuses_432 : decode cL_refuses 432 = .ok (.bipush 27, 2) := by decide +kernel
theorem dL_refuses_434 : decode cL_refuses 434 = .ok (.invokevirtual 9, 3) := by decide +kernel
theorem dL_refuses_437 : decode cL_refuses 437 = .ok (.iconst (-1), 1) := by decide +kernel
theorem dL_refuses_438 : decode cL_refuses 438 = .ok (.if_icmp .ne 79, 3) := by decide +kernel
theorem dL_refuses_441 : decode cL_refuses 441 = .ok (.aload_n 0, 1) := by decide +kernel
theorem dL_refuses_442 : decode cL_refuses 442 = .ok (.bipush 7, 2) := by decide +kernel
theorem dL_refuses_444 : decode cL_refuses 444 = .ok (.iconst 1, 1) := by decide +kernel
theorem dL_refuses_445 : decode cL_refuses 445 = .ok (.invokevirtual 108, 3) := by decide +kernel
theorem dL_refuses_448 : decode cL_refuses 448 = .ok (.iconst (-1), 1) := by decide +kernel
theorem dL_refuses_449 : decode cL_refuses 449 = .ok (.if_icmp .ne 68, 3) := by decide +kernel
theorem dL_refuses_452 : decode cL_refuses 452 = .ok (.aload_n 0, 1) := by decide +kernel
theorem dL_refuses_453 : decode cL_refuses 453 = .ok (.iconst 0, 1) := by decide +kernel
theorem dL_refuses_454 : decode cL_refuses 454 = .ok (.iconst 0, 1) := by decide +kernel
theorem dL_refuses_455 : decode cL_refuses 455 = .ok (.invokevirtual 108, 3) := by decide +kernel
theorem dL_refuses_458 : decode cL_refuses 458 = .ok (.iconst (-1), 1) := by decide +kernel
theorem dL_refuses_459 : decode cL_refuses 459 = .ok (.if_icmp .ne 58, 3) := by decide +kernel
theorem dL_refuses_462 : decode cL_refuses 462 = .ok (.aload_n 0, 1) := by decide +kernel
theorem dL_refuses_463 : decode cL_refuses 463 = .ok (.iconst 2, 1) := by decide +kernel
theorem dL_refuses_464 : decode cL_refuses 464 = .ok (.bipush 9, 2) := by decide +kernel
theorem dL_refuses_466 : decode cL_refuses 466 = .ok (.invokevirtual 108, 3) := by decide +kernel
theorem dL_refuses_469 : decode cL_refuses 469 = .ok (.iconst (-1), 1) := by decide +kernel
theorem dL_refuses_470 : decode cL_refuses 470 = .ok (.if_icmp .ne 47, 3) := by decide +kernel
theorem dL_refuses_473 : decode cL_refuses 473 = .ok (.aload_n 0, 1) := by decide +kernel
theorem dL_refuses_474 : decode cL_refuses 474 = .ok (.iconst 5, 1) := by decide +kernel
theorem dL_refuses_475 : decode cL_refuses 475 = .ok (.bipush 51, 2) := by decide +kernel
theorem dL_refuses_477 : decode cL_refuses 477 = .ok (.invokevirtual 108, 3) := by decide +kernel
theorem dL_refuses_480 : decode cL_refuses 480 = .ok (.iconst (-1), 1) := by decide +kernel
theorem dL_refuses_481 : decode cL_refuses 481 = .ok (.if_icmp .ne 36, 3) := by decide +kernel
theorem dL_refuses_484 : decode cL_refuses 484 = .ok (.aload_n 0, 1) := by decide +kernel
theorem dL_refuses_485 : decode cL_refuses 485 = .ok (.bipush 31, 2) := by decide +kernel
theorem dL_refuses_487 : decode cL_refuses 487 = .ok (.invokevirtual 64, 3) := by decide +kernel
theorem dL_refuses_490 : decode cL_refuses 490 = .ok (.iconst (-1), 1) := by decide +kernel
theorem dL_refuses_491 : decode cL_refuses 491 = .ok (.if_icmp .ne 26, 3) := by decide +kernel
theorem dL_refuses_494 : decode cL_refuses 494 = .ok (.aload_n 0, 1) := by decide +kernel
theorem dL_refuses_495 : decode cL_refuses 495 = .ok (.bipush 127, 2) := by decide +kernel
theorem dL_refuses_497 : decode cL_refuses 497 = .ok (.invokevirtual 64, 3) := by decide +kernel
theorem dL_refuses_500 : decode cL_refuses 500 = .ok (.iconst (-1), 1) := by decide +kernel
theorem dL_refuses_501 : decode cL_refuses 501 = .ok (.if_icmp .ne 16, 3) := by decide +kernel
theorem dL_refuses_504 : decode cL_refuses 504 = .ok (.aload_n 0, 1) := by decide +kernel
theorem dL_refuses_505 : decode cL_refuses 505 = .ok (.iconst 3, 1) := by decide +kernel
theorem dL_refuses_506 : decode cL_refuses 506 = .ok (.invokevirtual 70, 3) := by decide +kernel
theorem dL_refuses_509 : decode cL_refuses 509 = .ok (.iconst (-1), 1) := by decide +kernel
theorem dL_refuses_510 : decode cL_refuses 510 = .ok (.if_icmp .ne 7, 3) := by decide +kernel
theorem dL_refuses_513 : decode cL_refuses 513 = .ok (.iconst 1, 1) := by decide +kernel
theorem dL_refuses_514 : decode cL_refuses 514 = .ok (.goto 4, 3) := by decide +kernel
theorem dL_refuses_517 : decode cL_refuses 517 = .ok (.iconst 0, 1) := by decide +kernel
theorem dL_refuses_518 : decode cL_refuses 518 = .ok (.istore 5, 2) := by decide +kernel
theorem dL_refuses_520 : decode cL_refuses 520 = .ok (.iload 5, 2) := by decide +kernel
theorem dL_refuses_522 : decode cL_refuses 522 = .ok (.ifCond .eq 46, 3) := by decide +kernel
theorem dL_refuses_525 : decode cL_refuses 525 = .ok (.aload_n 0, 1) := by decide +kernel
theorem dL_refuses_526 : decode cL_refuses 526 = .ok (.bipush 10, 2) := by decide +kernel
theorem dL_refuses_528 : decode cL_refuses 528 = .ok (.invokevirtual 9, 3) := by decide +kernel
theorem dL_refuses_531 : decode cL_refuses 531 = .ok (.iload_n 1, 1) := by decide +kernel
theorem dL_refuses_532 : decode cL_refuses 532 = .ok (.if_icmp .ne 36, 3) := by decide +kernel
theorem dL_refuses_535 : decode cL_refuses 535 = .ok (.aload_n 0, 1) := by decide +kernel
theorem dL_refuses_536 : decode cL_refuses 536 = .ok (.iconst 0, 1) := by decide +kernel
theorem dL_refuses_537 : decode cL_refuses 537 = .ok (.invokevirtual 9, 3) := by decide +kernel
theorem dL_refuses_540 : decode cL_refuses 540 = .ok (.iload_n 2, 1) := by decide +kernel
theorem dL_refuses_541 : decode cL_refuses 541 = .ok (.if_icmp .ne 27, 3) := by decide +kernel
theorem dL_refuses_544 : decode cL_refuses 544 = .ok (.aload_n 0, 1) := by decide +kernel
theorem dL_refuses_545 : decode cL_refuses 545 = .ok (.iconst 1, 1) := by decide +kernel
theorem dL_refuses_546 : decode cL_refuses 546 = .ok (.invokevirtual 9, 3) := by decide +kernel
theorem dL_refuses_549 : decode cL_refuses 549 = .ok (.iload_n 3, 1) := by decide +kernel
theorem dL_refuses_550 : decode cL_refuses 550 = .ok (.if_icmp .ne 18, 3) := by decide +kernel
theorem dL_refuses_553 : decode cL_refuses 553 = .ok (.aload_n 0, 1) := by decide +kernel
theorem dL_refuses_554 : decode cL_refuses 554 = .ok (.bipush 7, 2) := by decide +kernel
theorem dL_refuses_556 : decode cL_refuses 556 = .ok (.invokevirtual 9, 3) := by decide +kernel
theorem dL_refuses_559 : decode cL_refuses 559 = .ok (.iload 4, 2) := by decide +kernel
theorem dL_refuses_561 : decode cL_refuses 561 = .ok (.if_icmp .ne 7, 3) := by decide +kernel
theorem dL_refuses_564 : decode cL_refuses 564 = .ok (.iconst 1, 1) := by decide +kernel
theorem dL_refuses_565 : decode cL_refuses 565 = .ok (.goto 4, 3) := by decide +kernel
theorem dL_refuses_568 : decode cL_refuses 568 = .ok (.iconst 0, 1) := by decide +kernel
theorem dL_refuses_569 : decode cL_refuses 569 = .ok (.ireturn, 1) := by decide +kernel
theorem dL_acts_0 : decode cL_acts 0 = .ok (.iload_n 1, 1) := by decide +kernel
theorem dL_acts_1 : decode cL_acts 1 = .ok (.iconst 4, 1) := by decide +kernel
theorem dL_acts_2 : decode cL_acts 2 = .ok (.ishr, 1) := by decide +kernel
theorem dL_acts_3 : decode cL_acts 3 = .ok (.istore_n 2, 1) := by decide +kernel
theorem dL_acts_4 : decode cL_acts 4 = .ok (.iload_n 2, 1) := by decide +kernel
theorem dL_acts_5 : decode cL_acts 5 = .ok (.aload_n 0, 1) := by decide +kernel
theorem dL_acts_6 : decode cL_acts 6 = .ok (.iconst 1, 1) := by decide +kernel
theorem dL_acts_7 : decode cL_acts 7 = .ok (.invokevirtual 9, 3) := by decide +kernel
theorem dL_acts_10 : decode cL_acts 10 = .ok (.irem, 1) := by decide +kernel
theorem dL_acts_11 : decode cL_acts 11 = .ok (.istore_n 3, 1) := by decide +kernel
theorem dL_acts_12 : decode cL_acts 12 = .ok (.iload_n 2, 1) := by decide +kernel
theorem dL_acts_13 : decode cL_acts 13 = .ok (.bipush 32, 2) := by decide +kernel
theorem dL_acts_15 : decode cL_acts 15 = .ok (.idiv, 1) := by decide +kernel
theorem dL_acts_16 : decode cL_acts 16 = .ok (.aload_n 0, 1) := by decide +kernel
theorem dL_acts_17 : decode cL_acts 17 = .ok (.iconst 0, 1) := by decide +kernel
theorem dL_acts_18 : decode cL_acts 18 = .ok (.invokevirtual 9, 3) := by decide +kernel
theorem dL_acts_21 : decode cL_acts 21 = .ok (.irem, 1) := by decide +kernel
theorem dL_acts_22 : decode cL_acts 22 = .ok (.istore 4, 2) := by decide +kernel
theorem dL_acts_24 : decode cL_acts 24 = .ok (.iload_n 2, 1) := by decide +kernel
theorem dL_acts_25 : decode cL_acts 25 = .ok (.sipush 256, 3) := by decide +kernel
theorem dL_acts_28 : decode cL_acts 28 = .ok (.idiv, 1) := by decide +kernel
theorem dL_acts_29 : decode cL_acts 29 = .ok (.aload_n 0, 1) := by decide +kernel
theorem dL_acts_30 : decode cL_acts 30 = .ok (.bipush 7, 2) := by decide +kernel
theorem dL_acts_32 : decode cL_acts 32 = .ok (.invokevirtual 9, 3) := by decide +kernel
theorem dL_acts_35 : decode cL_acts 35 = .ok (.irem, 1) := by decide +kernel
theorem dL_acts_36 : decode cL_acts 36 = .ok (.istore 5, 2) := by decide +kernel
theorem dL_acts_38 : decode cL_acts 38 = .ok (.iload_n 1, 1) := by decide +kernel
theorem dL_acts_39 : decode cL_acts 39 = .ok (.bipush 15, 2) := by decide +kernel
theorem dL_acts_41 : decode cL_acts 41 = .ok (.iand, 1) := by decide +kernel
theorem dL_acts_42 : decode cL_acts 42 = .ok (.tableswitch 348 0 14 #[74, 102, 102, 130, 158, 158, 176, 192, 232, 248, 297, 297, 315, 323, 340], 74) := by decide +kernel
theorem dL_acts_116 : decode cL_acts 116 = .ok (.aload_n 0, 1) := by decide +kernel
theorem dL_acts_117 : decode cL_acts 117 = .ok (.iload_n 2, 1) := by decide +kernel
theorem dL_acts_118 : decode cL_acts 118 = .ok (.iconst 3, 1) := by decide +kernel
theorem dL_acts_119 : decode cL_acts 119 = .ok (.iand, 1) := by decide +kernel
theorem dL_acts_120 : decode cL_acts 120 = .ok (.bipush 10, 2) := by decide +kernel
theorem dL_acts_122 : decode cL_acts 122 = .ok (.iload_n 2, 1) := by decide +kernel
theorem dL_acts_123 : decode cL_acts 123 = .ok (.iconst 4, 1) := by decide +kernel
theorem dL_acts_124 : decode cL_acts 124 = .ok (.idiv, 1) := by decide +kernel
theorem dL_acts_125 : decode cL_acts 125 = .ok (.sipush 200, 3) := by decide +kernel
theorem dL_acts_128 : decode cL_acts 128 = .ok (.irem, 1) := by decide +kernel
theorem dL_acts_129 : decode cL_acts 129 = .ok (.iadd, 1) := by decide +kernel
theorem dL_acts_130 : decode cL_acts 130 = .ok (.invokevirtual 85, 3) := by decide +kernel
theorem dL_acts_133 : decode cL_acts 133 = .ok (.bipush (-3), 2) := by decide +kernel
theorem dL_acts_135 : decode cL_acts 135 = .ok (.if_icmp .lt 7, 3) := by decide +kernel
theorem dL_acts_138 : decode cL_acts 138 = .ok (.iconst 1, 1) := by decide +kernel
theorem dL_acts_139 : decode cL_acts 139 = .ok (.goto 4, 3) := by decide +kernel
theorem dL_acts_142 : decode cL_acts 142 = .ok (.iconst 0, 1) := by decide +kernel
theorem dL_acts_143 : decode cL_acts 143 = .ok (.ireturn, 1) := by decide +kernel
theorem dL_acts_144 : decode cL_acts 144 = .ok (.aload_n 0, 1) := by decide +kernel
theorem dL_acts_145 : decode cL_acts 145 = .ok (.iload 4, 2) := by decide +kernel
theorem dL_acts_147 : decode cL_acts 147 = .ok (.iconst 1, 1) := by decide +kernel
theorem dL_acts_148 : decode cL_acts 148 = .ok (.iload_n 2, 1) := by decide +kernel
theorem dL_acts_149 : decode cL_acts 149 = .ok (.sipush 256, 3) := by decide +kernel
theorem dL_acts_152 : decode cL_acts 152 = .ok (.idiv, 1) := by decide +kernel
theorem dL_acts_153 : decode cL_acts 153 = .ok (.sipush 20000, 3) := by decide +kernel
theorem dL_acts_156 : decode cL_acts 156 = .ok (.irem, 1) := by decide +kernel
theorem dL_acts_157 : decode cL_acts 157 = .ok (.iadd, 1) := by decide +kernel
theorem dL_acts_158 : decode cL_acts 158 = .ok (.invokevirtual 88, 3) := by decide +kernel
theorem dL_acts_161 : decode cL_acts 161 = .ok (.bipush (-3), 2) := by decide +kernel
theorem dL_acts_163 : decode cL_acts 163 = .ok (.if_icmp .lt 7, 3) := by decide +kernel
theorem dL_acts_166 : decode cL_acts 166 = .ok (.iconst 1, 1) := by decide +kernel
theorem dL_acts_167 : decode cL_acts 167 = .ok (.goto 4, 3) := by decide +kernel
theorem dL_acts_170 : decode cL_acts 170 = .ok (.iconst 0, 1) := by decide +kernel
theorem dL_acts_171 : decode cL_acts 171 = .ok (.ireturn, 1) := by decide +kernel
theorem dL_acts_172 : decode cL_acts 172 = .ok (.aload_n 0, 1) := by decide +kernel
theorem dL_acts_173 : decode cL_acts 173 = .ok (.iload_n 2, 1) := by decide +kernel
theorem dL_acts_174 : decode cL_acts 174 = .ok (.iconst 1, 1) := by decide +kernel
theorem dL_acts_175 : decode cL_acts 175 = .ok (.iand, 1) := by decide +kernel
theorem dL_acts_176 : decode cL_acts 176 = .ok (.bipush 100, 2) := by decide +kernel
theorem dL_acts_178 : decode cL_acts 178 = .ok (.iload_n 2, 1) := by decide +kernel
theorem dL_acts_179 : decode cL_acts 179 = .ok (.iconst 2, 1) := by decide +kernel
theorem dL_acts_180 : decode cL_acts 180 = .ok (.idiv, 1) := by decide +kernel
theorem dL_acts_181 : decode cL_acts 181 = .ok (.sipush 900, 3) := by decide +kernel
theorem dL_acts_184 : decode cL_acts 184 = .ok (.irem, 1) := by decide +kernel
theorem dL_acts_185 : decode cL_acts 185 = .ok (.iadd, 1) := by decide +kernel
theorem dL_acts_186 : decode cL_acts 186 = .ok (.invokevirtual 92, 3) := by decide +kernel
theorem dL_acts_189 : decode cL_acts 189 = .ok (.bipush (-3), 2) := by decide +kernel
theorem dL_acts_191 : decode cL_acts 191 = .ok (.if_icmp .lt 7, 3) := by decide +kernel
theorem dL_acts_194 : decode cL_acts 194 = .ok (.iconst 1, 1) := by decide +kernel
theorem dL_acts_195 : decode cL_acts 195 = .ok (.goto 4, 3) := by decide +kernel
theorem dL_acts_198 : decode cL_acts 198 = .ok (.iconst 0, 1) := by decide +kernel
theorem dL_acts_199 : decode cL_acts 199 = .ok (.ireturn, 1) := by decide +kernel
theorem dL_acts_200 : decode cL_acts 200 = .ok (.aload_n 0, 1) := by decide +kernel
theorem dL_acts_201 : decode cL_acts 201 = .ok (.iload_n 3, 1) := by decide +kernel
theorem dL_acts_202 : decode cL_acts 202 = .ok (.iload 4, 2) := by decide +kernel
theorem dL_acts_204 : decode cL_acts 204 = .ok (.invokevirtual 48, 3) := by decide +kernel
theorem dL_acts_207 : decode cL_acts 207 = .ok (.bipush (-2), 2) := by decide +kernel
theorem dL_acts_209 : decode cL_acts 209 = .ok (.if_icmp .lt 7, 3) := by decide +kernel
theorem dL_acts_212 : decode cL_acts 212 = .ok (.iconst 1, 1) := by decide +kernel
theorem dL_acts_213 : decode cL_acts 213 = .ok (.goto 4, 3) := by decide +kernel
theorem dL_acts_216 : decode cL_acts 216 = .ok (.iconst 0, 1) := by decide +kernel
theorem dL_acts_217 : decode cL_acts 217 = .ok (.ireturn, 1) := by decide +kernel
theorem dL_acts_218 : decode cL_acts 218 = .ok (.aload_n 0, 1) := by decide +kernel
theorem dL_acts_219 : decode cL_acts 219 = .ok (.iload_n 3, 1) := by decide +kernel
theorem dL_acts_220 : decode cL_acts 220 = .ok (.invokevirtual 58, 3) := by decide +kernel
theorem dL_acts_223 : decode cL_acts 223 = .ok (.bipush (-2), 2) := by decide +kernel
theorem dL_acts_225 : decode cL_acts 225 = .ok (.if_icmp .lt 7, 3) := by decide +kernel
theorem dL_acts_228 : decode cL_acts 228 = .ok (.iconst 1, 1) := by decide +kernel
theorem dL_acts_229 : decode cL_acts 229 = .ok (.goto 4, 3) := by decide +kernel
theorem dL_acts_232 : decode cL_acts 232 = .ok (.iconst 0, 1) := by decide +kernel
theorem dL_acts_233 : decode cL_acts 233 = .ok (.ireturn, 1) := by decide +kernel
theorem dL_acts_234 : decode cL_acts 234 = .ok (.aload_n 0, 1) := by decide +kernel
theorem dL_acts_235 : decode cL_acts 235 = .ok (.iload_n 3, 1) := by decide +kernel
theorem dL_acts_236 : decode cL_acts 236 = .ok (.aload_n 0, 1) := by decide +kernel
theorem dL_acts_237 : decode cL_acts 237 = .ok (.iload_n 3, 1) := by decide +kernel
theorem dL_acts_238 : decode cL_acts 238 = .ok (.iconst 0, 1) := by decide +kernel
theorem dL_acts_239 : decode cL_acts 239 = .ok (.invokevirtual 26, 3) := by decide +kernel
theorem dL_acts_242 : decode cL_acts 242 = .ok (.invokevirtual 61, 3) := by decide +kernel
theorem dL_acts_245 : decode cL_acts 245 = .ok (.bipush (-3), 2) := by decide +kernel
theorem dL_acts_247 : decode cL_acts 247 = .ok (.if_icmp .lt 25, 3) := by decide +kernel
theorem dL_acts_250 : decode cL_acts 250 = .ok (.aload_n 0, 1) := by decide +kernel
theorem dL_acts_251 : decode cL_acts 251 = .ok (.iload_n 3, 1) := by decide +kernel
theorem dL_acts_252 : decode cL_acts 252 = .ok (.iconst 1, 1) := by decide +kernel
theorem dL_acts_253 : decode cL_acts 253 = .ok (.aload_n 0, 1) := by decide +kernel
theorem dL_acts_254 : decode cL_acts 254 = .ok (.iload_n 3, 1) := by decide +kernel
theorem dL_acts_255 : decode cL_acts 255 = .ok (.iconst 0, 1) := by decide +kernel
theorem dL_acts_256 : decode cL_acts 256 = .ok (.invokevirtual 26, 3) := by decide +kernel
theorem dL_acts_259 : decode cL_acts 259 = .ok (.isub, 1) := by decide +kernel
theorem dL_acts_260 : decode cL_acts 260 = .ok (.invokevirtual 61, 3) := by decide +kernel
theorem dL_acts_263 : decode cL_acts 263 = .ok (.bipush (-2), 2) := by decide +kernel
theorem dL_acts_265 : decode cL_acts 265 = .ok (.if_icmp .ne 7, 3) := by decide +kernel
theorem dL_acts_268 : decode cL_acts 268 = .ok (.iconst 1, 1) := by decide +kernel
theorem dL_acts_269 : decode cL_acts 269 = .ok (.goto 4, 3) := by decide +kernel
theorem dL_acts_272 : decode cL_acts 272 = .ok (.iconst 0, 1) := by decide +kernel
theorem dL_acts_273 : decode cL_acts 273 = .ok (.ireturn, 1) := by decide +kernel
theorem dL_acts_274 : decode cL_acts 274 = .ok (.aload_n 0, 1) := by decide +kernel
theorem dL_acts_275 : decode cL_acts 275 = .ok (.iload_n 3, 1) := by decide +kernel
theorem dL_acts_276 : decode cL_acts 276 = .ok (.invokevirtual 45, 3) := by decide +kernel
theorem dL_acts_279 : decode cL_acts 279 = .ok (.bipush (-2), 2) := by decide +kernel
theorem dL_acts_281 : decode cL_acts 281 = .ok (.if_icmp .lt 7, 3) := by decide +kernel
theorem dL_acts_284 : decode cL_acts 284 = .ok (.iconst 1, 1) := by decide +kernel
theorem dL_acts_285 : decode cL_acts 285 = .ok (.goto 4, 3) := by decide +kernel
theorem dL_acts_288 : decode cL_acts 288 = .ok (.iconst 0, 1) := by decide +kernel
theorem dL_acts_289 : decode cL_acts 289 = .ok (.ireturn, 1) := by decide +kernel
theorem dL_acts_290 : decode cL_acts 290 = .ok (.aload_n 0, 1) := by decide +kernel
theorem dL_acts_291 : decode cL_acts 291 = .ok (.aload_n 0, 1) := by decide +kernel
theorem dL_acts_292 : decode cL_acts 292 = .ok (.iload_n 3, 1) := by decide +kernel
theorem dL_acts_293 : decode cL_acts 293 = .ok (.iconst 0, 1) := by decide +kernel
theorem dL_acts_294 : decode cL_acts 294 = .ok (.invokevirtual 95, 3) := by decide +kernel
theorem dL_acts_297 : decode cL_acts 297 = .ok (.aload_n 0, 1) := by decide +kernel
theorem dL_acts_298 : decode cL_acts 298 = .ok (.iload_n 3, 1) := by decide +kernel
theorem dL_acts_299 : decode cL_acts 299 = .ok (.iconst 1, 1) := by decide +kernel
theorem dL_acts_300 : decode cL_acts 300 = .ok (.invokevirtual 95, 3) := by decide +kernel
theorem dL_acts_303 : decode cL_acts 303 = .ok (.iload_n 2, 1) := by decide +kernel
theorem dL_acts_304 : decode cL_acts 304 = .ok (.sipush 256, 3) := by decide +kernel
theorem dL_acts_307 : decode cL_acts 307 = .ok (.idiv, 1) := by decide +kernel
theorem dL_acts_308 : decode cL_acts 308 = .ok (.sipush 300, 3) := by decide +kernel
theorem dL_acts_311 : decode cL_acts 311 = .ok (.irem, 1) := by decide +kernel
theorem dL_acts_312 : decode cL_acts 312 = .ok (.iadd, 1) := by decide +kernel
theorem dL_acts_313 : decode cL_acts 313 = .ok (.aload_n 0, 1) := by decide +kernel
theorem dL_acts_314 : decode cL_acts 314 = .ok (.iload_n 3, 1) := by decide +kernel
theorem dL_acts_315 : decode cL_acts 315 = .ok (.iconst 2, 1) := by decide +kernel
theorem dL_acts_316 : decode cL_acts 316 = .ok (.invokevirtual 95, 3) := by decide +kernel
theorem dL_acts_319 : decode cL_acts 319 = .ok (.aload_n 0, 1) := by decide +kernel
theorem dL_acts_320 : decode cL_acts 320 = .ok (.iload_n 3, 1) := by decide +kernel
theorem dL_acts_321 : decode cL_acts 321 = .ok (.iconst 3, 1) := by decide +kernel
theorem dL_acts_322 : decode cL_acts 322 = .ok (.invokevirtual 95, 3) := by decide +kernel
theorem dL_acts_325 : decode cL_acts 325 = .ok (.invokevirtual 101, 3) := by decide +kernel
theorem dL_acts_328 : decode cL_acts 328 = .ok (.bipush (-3), 2) := by decide +kernel
theorem dL_acts_330 : decode cL_acts 330 = .ok (.if_icmp .lt 7, 3) := by decide +kernel
theorem dL_acts_333 : decode cL_acts 333 = .ok (.iconst 1, 1) := by decide +kernel
theorem dL_acts_334 : decode cL_acts 334 = .ok (.goto 4, 3) := by decide +kernel
theorem dL_acts_337 : decode cL_acts 337 = .ok (.iconst 0, 1) := by decide +kernel
theorem dL_acts_338 : decode cL_acts 338 = .ok (.ireturn, 1) := by decide +kernel
theorem dL_acts_339 : decode cL_acts 339 = .ok (.aload_n 0, 1) := by decide +kernel
theorem dL_acts_340 : decode cL_acts 340 = .ok (.iload_n 3, 1) := by decide +kernel
theorem dL_acts_341 : decode cL_acts 341 = .ok (.iload 5, 2) := by decide +kernel
theorem dL_acts_343 : decode cL_acts 343 = .ok (.invokevirtual 105, 3) := by decide +kernel
theorem dL_acts_346 : decode cL_acts 346 = .ok (.bipush (-2), 2) := by decide +kernel
theorem dL_acts_348 : decode cL_acts 348 = .ok (.if_icmp .lt 7, 3) := by decide +kernel
theorem dL_acts_351 : decode cL_acts 351 = .ok (.iconst 1, 1) := by decide +kernel
theorem dL_acts_352 : decode cL_acts 352 = .ok (.goto 4, 3) := by decide +kernel
theorem dL_acts_355 : decode cL_acts 355 = .ok (.iconst 0, 1) := by decide +kernel
theorem dL_acts_356 : decode cL_acts 356 = .ok (.ireturn, 1) := by decide +kernel
theorem dL_acts_357 : decode cL_acts 357 = .ok (.aload_n 0, 1) := by decide +kernel
theorem dL_acts_358 : decode cL_acts 358 = .ok (.iload_n 3, 1) := by decide +kernel
theorem dL_acts_359 : decode cL_acts 359 = .ok (.iload 5, 2) := by decide +kernel
theorem dL_acts_361 : decode cL_acts 361 = .ok (.invokestatic 111, 3) := by decide +kernel
theorem dL_acts_364 : decode cL_acts 364 = .ok (.ireturn, 1) := by decide +kernel
theorem dL_acts_365 : decode cL_acts 365 = .ok (.aload_n 0, 1) := by decide +kernel
theorem dL_acts_366 : decode cL_acts 366 = .ok (.iload_n 3, 1) := by decide +kernel
theorem dL_acts_367 : decode cL_acts 367 = .ok (.iload 4, 2) := by decide +kernel
theorem dL_acts_369 : decode cL_acts 369 = .ok (.iconst 1, 1) := by decide +kernel
theorem dL_acts_370 : decode cL_acts 370 = .ok (.iload_n 2, 1) := by decide +kernel
theorem dL_acts_371 : decode cL_acts 371 = .ok (.ldc 115, 2) := by decide +kernel
theorem dL_acts_373 : decode cL_acts 373 = .ok (.idiv, 1) := by decide +kernel
theorem dL_acts_374 : decode cL_acts 374 = .ok (.bipush 9, 2) := by decide +kernel
theorem dL_acts_376 : decode cL_acts 376 = .ok (.irem, 1) := by decide +kernel
theorem dL_acts_377 : decode cL_acts 377 = .ok (.iadd, 1) := by decide +kernel
theorem dL_acts_378 : decode cL_acts 378 = .ok (.invokestatic 116, 3) := by decide +kernel
theorem dL_acts_381 : decode cL_acts 381 = .ok (.ireturn, 1) := by decide +kernel
theorem dL_acts_382 : decode cL_acts 382 = .ok (.aload_n 0, 1) := by decide +kernel
theorem dL_acts_383 : decode cL_acts 383 = .ok (.iload_n 3, 1) := by decide +kernel
theorem dL_acts_384 : decode cL_acts 384 = .ok (.iload 4, 2) := by decide +kernel
theorem dL_acts_386 : decode cL_acts 386 = .ok (.invokestatic 119, 3) := by decide +kernel
theorem dL_acts_389 : decode cL_acts 389 = .ok (.ireturn, 1) := by decide +kernel
theorem dL_acts_390 : decode cL_acts 390 = .ok (.iload_n 2, 1) := by decide +kernel
theorem dL_acts_391 : decode cL_acts 391 = .ok (.iconst 1, 1) := by decide +kernel
theorem dL_acts_392 : decode cL_acts 392 = .ok (.iand, 1) := by decide +kernel
theorem dL_acts_393 : decode cL_acts 393 = .ok (.ifCond .ne 20, 3) := by decide +kernel
theorem dL_acts_396 : decode cL_acts 396 = .ok (.aload_n 0, 1) := by decide +kernel
theorem dL_acts_397 : decode cL_acts 397 = .ok (.iload 4, 2) := by decide +kernel
theorem dL_acts_399 : decode cL_acts 399 = .ok (.invokevirtual 82, 3) := by decide +kernel
theorem dL_acts_402 : decode cL_acts 402 = .ok (.ifCond .lt 7, 3) := by decide +kernel
theorem dL_acts_405 : decode cL_acts 405 = .ok (.iconst 1, 1) := by decide +kernel
theorem dL_acts_406 : decode cL_acts 406 = .ok (.goto 27, 3) := by decide +kernel
theorem dL_acts_409 : decode cL_acts 409 = .ok (.iconst 0, 1) := by decide +kernel
theorem dL_acts_410 : decode cL_acts 410 = .ok (.goto 23, 3) := by decide +kernel
theorem dL_acts_413 : decode cL_acts 413 = .ok (.aload_n 0, 1) := by decide +kernel
theorem dL_acts_414 : decode cL_acts 414 = .ok (.iconst 4, 1) := by decide +kernel
theorem dL_acts_415 : decode cL_acts 415 = .ok (.iload_n 2, 1) := by decide +kernel
theorem dL_acts_416 : decode cL_acts 416 = .ok (.iconst 2, 1) := by decide +kernel
theorem dL_acts_417 : decode cL_acts 417 = .ok (.idiv, 1) := by decide +kernel
theorem dL_acts_418 : decode cL_acts 418 = .ok (.sipush 900, 3) := by decide +kernel
theorem dL_acts_421 : decode cL_acts 421 = .ok (.irem, 1) := by decide +kernel
theorem dL_acts_422 : decode cL_acts 422 = .ok (.invokevirtual 108, 3) := by decide +kernel
theorem dL_acts_425 : decode cL_acts 425 = .ok (.ifCond .lt 7, 3) := by decide +kernel
theorem dL_acts_428 : decode cL_acts 428 = .ok (.iconst 1, 1) := by decide +kernel
theorem dL_acts_429 : decode cL_acts 429 = .ok (.goto 4, 3) := by decide +kernel
theorem dL_acts_432 : decode cL_acts 432 = .ok (.iconst 0, 1) := by decide +kernel
theorem dL_acts_433 : decode cL_acts 433 = .ok (.ireturn, 1) := by decide +kernel
theorem dL_law_0 : decode cL_law 0 = .ok (.new 10, 3) := by decide +kernel
theorem dL_law_3 : decode cL_law 3 = .ok (.dup, 1) := by decide +kernel
theorem dL_law_4 : decode cL_law 4 = .ok (.invokespecial 122, 3) := by decide +kernel
theorem dL_law_7 : decode cL_law 7 = .ok (.astore_n 1, 1) := by decide +kernel
theorem dL_law_8 : decode cL_law 8 = .ok (.aload_n 1, 1) := by decide +kernel
theorem dL_law_9 : decode cL_law 9 = .ok (.invokevirtual 51, 3) := by decide +kernel
theorem dL_law_12 : decode cL_law 12 = .ok (.bipush (-2), 2) := by decide +kernel
theorem dL_law_14 : decode cL_law 14 = .ok (.if_icmp .ne 44, 3) := by decide +kernel
theorem dL_law_17 : decode cL_law 17 = .ok (.aload_n 1, 1) := by decide +kernel
theorem dL_law_18 : decode cL_law 18 = .ok (.iconst 0, 1) := by decide +kernel
theorem dL_law_19 : decode cL_law 19 = .ok (.invokevirtual 35, 3) := by decide +kernel
theorem dL_law_22 : decode cL_law 22 = .ok (.bipush (-4), 2) := by decide +kernel
theorem dL_law_24 : decode cL_law 24 = .ok (.if_icmp .ne 34, 3) := by decide +kernel
theorem dL_law_27 : decode cL_law 27 = .ok (.aload_n 1, 1) := by decide +kernel
theorem dL_law_28 : decode cL_law 28 = .ok (.iconst 0, 1) := by decide +kernel
theorem dL_law_29 : decode cL_law 29 = .ok (.invokevirtual 20, 3) := by decide +kernel
theorem dL_law_32 : decode cL_law 32 = .ok (.ifCond .ne 26, 3) := by decide +kernel
theorem dL_law_35 : decode cL_law 35 = .ok (.aload_n 1, 1) := by decide +kernel
theorem dL_law_36 : decode cL_law 36 = .ok (.bipush 23, 2) := by decide +kernel
theorem dL_law_38 : decode cL_law 38 = .ok (.invokevirtual 9, 3) := by decide +kernel
theorem dL_law_41 : decode cL_law 41 = .ok (.sipush 8000, 3) := by decide +kernel
theorem dL_law_44 : decode cL_law 44 = .ok (.if_icmp .ne 14, 3) := by decide +kernel
theorem dL_law_47 : decode cL_law 47 = .ok (.aload_n 1, 1) := by decide +kernel
theorem dL_law_48 : decode cL_law 48 = .ok (.invokestatic 123, 3) := by decide +kernel
theorem dL_law_51 : decode cL_law 51 = .ok (.ifCond .eq 7, 3) := by decide +kernel
theorem dL_law_54 : decode cL_law 54 = .ok (.iconst 1, 1) := by decide +kernel
theorem dL_law_55 : decode cL_law 55 = .ok (.goto 4, 3) := by decide +kernel
theorem dL_law_58 : decode cL_law 58 = .ok (.iconst 0, 1) := by decide +kernel
theorem dL_law_59 : decode cL_law 59 = .ok (.istore_n 2, 1) := by decide +kernel
theorem dL_law_60 : decode cL_law 60 = .ok (.iconst 0, 1) := by decide +kernel
theorem dL_law_61 : decode cL_law 61 = .ok (.istore_n 3, 1) := by decide +kernel
theorem dL_law_62 : decode cL_law 62 = .ok (.iload_n 3, 1) := by decide +kernel
theorem dL_law_63 : decode cL_law 63 = .ok (.iconst 2, 1) := by decide +kernel
theorem dL_law_64 : decode cL_law 64 = .ok (.if_icmp .ge 134, 3) := by decide +kernel
theorem dL_law_67 : decode cL_law 67 = .ok (.iload_n 2, 1) := by decide +kernel
theorem dL_law_68 : decode cL_law 68 = .ok (.ifCond .eq 130, 3) := by decide +kernel
theorem dL_law_71 : decode cL_law 71 = .ok (.aload_n 0, 1) := by decide +kernel
theorem dL_law_72 : decode cL_law 72 = .ok (.iload_n 3, 1) := by decide +kernel
theorem dL_law_73 : decode cL_law 73 = .ok (.invokestatic 127, 3) := by decide +kernel
theorem dL_law_76 : decode cL_law 76 = .ok (.istore 4, 2) := by decide +kernel
theorem dL_law_78 : decode cL_law 78 = .ok (.aload_n 1, 1) := by decide +kernel
theorem dL_law_79 : decode cL_law 79 = .ok (.iload_n 3, 1) := by decide +kernel
theorem dL_law_80 : decode cL_law 80 = .ok (.ifCond .ne 10, 3) := by decide +kernel
theorem dL_law_83 : decode cL_law 83 = .ok (.iload 4, 2) := by decide +kernel
theorem dL_law_85 : decode cL_law 85 = .ok (.iconst 3, 1) := by decide +kernel
theorem dL_law_86 : decode cL_law 86 = .ok (.iand, 1) := by decide +kernel
theorem dL_law_87 : decode cL_law 87 = .ok (.goto 4, 3) := by decide +kernel
theorem dL_law_90 : decode cL_law 90 = .ok (.iconst 3, 1) := by decide +kernel
theorem dL_law_91 : decode cL_law 91 = .ok (.bipush 10, 2) := by decide +kernel
theorem dL_law_93 : decode cL_law 93 = .ok (.iload 4, 2) := by decide +kernel
theorem dL_law_95 : decode cL_law 95 = .ok (.iconst 4, 1) := by decide +kernel
theorem dL_law_96 : decode cL_law 96 = .ok (.idiv, 1) := by decide +kernel
theorem dL_law_97 : decode cL_law 97 = .ok (.bipush 90, 2) := by decide +kernel
theorem dL_law_99 : decode cL_law 99 = .ok (.irem, 1) := by decide +kernel
theorem dL_law_100 : decode cL_law 100 = .ok (.iadd, 1) := by decide +kernel
theorem dL_law_101 : decode cL_law 101 = .ok (.invokevirtual 85, 3) := by decide +kernel
theorem dL_law_104 : decode cL_law 104 = .ok (.iload_n 3, 1) := by decide +kernel
theorem dL_law_105 : decode cL_law 105 = .ok (.if_icmp .ne 85, 3) := by decide +kernel
theorem dL_law_108 : decode cL_law 108 = .ok (.aload_n 1, 1) := by decide +kernel
theorem dL_law_109 : decode cL_law 109 = .ok (.iload_n 3, 1) := by decide +kernel
theorem dL_law_110 : decode cL_law 110 = .ok (.iconst 1, 1) := by decide +kernel
theorem dL_law_111 : decode cL_law 111 = .ok (.iload 4, 2) := by decide +kernel
theorem dL_law_113 : decode cL_law 113 = .ok (.sipush 512, 3) := by decide +kernel
theorem dL_law_116 : decode cL_law 116 = .ok (.idiv, 1) := by decide +kernel
theorem dL_law_117 : decode cL_law 117 = .ok (.sipush 30000, 3) := by decide +kernel
theorem dL_law_120 : decode cL_law 120 = .ok (.irem, 1) := by decide +kernel
theorem dL_law_121 : decode cL_law 121 = .ok (.iadd, 1) := by decide +kernel
theorem dL_law_122 : decode cL_law 122 = .ok (.invokevirtual 88, 3) := by decide +kernel
theorem dL_law_125 : decode cL_law 125 = .ok (.ifCond .le 65, 3) := by decide +kernel
theorem dL_law_128 : decode cL_law 128 = .ok (.aload_n 1, 1) := by decide +kernel
theorem dL_law_129 : decode cL_law 129 = .ok (.iload_n 3, 1) := by decide +kernel
theorem dL_law_130 : decode cL_law 130 = .ok (.bipush 100, 2) := by decide +kernel
theorem dL_law_132 : decode cL_law 132 = .ok (.iload 4, 2) := by decide +kernel
theorem dL_law_134 : decode cL_law 134 = .ok (.bipush 8, 2) := by decide +kernel
theorem dL_law_136 : decode cL_law 136 = .ok (.idiv, 1) := by decide +kernel
theorem dL_law_137 : decode cL_law 137 = .ok (.sipush 500, 3) := by decide +kernel
theorem dL_law_140 : decode cL_law 140 = .ok (.irem, 1) := by decide +kernel
theorem dL_law_141 : decode cL_law 141 = .ok (.iadd, 1) := by decide +kernel
theorem dL_law_142 : decode cL_law 142 = .ok (.invokevirtual 92, 3) := by decide +kernel
theorem dL_law_145 : decode cL_law 145 = .ok (.iload_n 3, 1) := by decide +kernel
theorem dL_law_146 : decode cL_law 146 = .ok (.if_icmp .ne 44, 3) := by decide +kernel
theorem dL_law_149 : decode cL_law 149 = .ok (.aload_n 1, 1) := by decide +kernel
theorem dL_law_150 : decode cL_law 150 = .ok (.iload 4, 2) := by decide +kernel
theorem dL_law_152 : decode cL_law 152 = .ok (.bipush 16, 2) := by decide +kernel
theorem dL_law_154 : decode cL_law 154 = .ok (.idiv, 1) := by decide +kernel
theorem dL_law_155 : decode cL_law 155 = .ok (.sipush 3000, 3) := by decide +kernel
theorem dL_law_158 : decode cL_law 158 = .ok (.irem, 1) := by decide +kernel
theorem dL_law_159 : decode cL_law 159 = .ok (.iconst 0, 1) := by decide +kernel
theorem dL_law_160 : decode cL_law 160 = .ok (.iload 4, 2) := by decide +kernel
theorem dL_law_162 : decode cL_law 162 = .ok (.bipush 64, 2) := by decide +kernel
theorem dL_law_164 : decode cL_law 164 = .ok (.idiv, 1) := by decide +kernel
theorem dL_law_165 : decode cL_law 165 = .ok (.sipush 500, 3) := by decide +kernel
theorem dL_law_168 : decode cL_law 168 = .ok (.irem, 1) := by decide +kernel
theorem dL_law_169 : decode cL_law 169 = .ok (.iload 4, 2) := by decide +kernel
theorem dL_law_171 : decode cL_law 171 = .ok (.sipush 1024, 3) := by decide +kernel
theorem dL_law_174 : decode cL_law 174 = .ok (.idiv, 1) := by decide +kernel
theorem dL_law_175 : decode cL_law 175 = .ok (.sipush 3000, 3) := by decide +kernel
theorem dL_law_178 : decode cL_law 178 = .ok (.irem, 1) := by decide +kernel
theorem dL_law_179 : decode cL_law 179 = .ok (.invokevirtual 101, 3) := by decide +kernel
theorem dL_law_182 : decode cL_law 182 = .ok (.iload_n 3, 1) := by decide +kernel
theorem dL_law_183 : decode cL_law 183 = .ok (.if_icmp .ne 7, 3) := by decide +kernel
theorem dL_law_186 : decode cL_law 186 = .ok (.iconst 1, 1) := by decide +kernel
theorem dL_law_187 : decode cL_law 187 = .ok (.goto 4, 3) := by decide +kernel
theorem dL_law_190 : decode cL_law 190 = .ok (.iconst 0, 1) := by decide +kernel
theorem dL_law_191 : decode cL_law 191 = .ok (.istore_n 2, 1) := by decide +kernel
theorem dL_law_192 : decode cL_law 192 = .ok (.iinc 3 1, 3) := by decide +kernel
theorem dL_law_195 : decode cL_law 195 = .ok (.goto (-133), 3) := by decide +kernel
theorem dL_law_198 : decode cL_law 198 = .ok (.iconst 2, 1) := by decide +kernel
theorem dL_law_199 : decode cL_law 199 = .ok (.istore_n 3, 1) := by decide +kernel
theorem dL_law_200 : decode cL_law 200 = .ok (.iload_n 3, 1) := by decide +kernel
theorem dL_law_201 : decode cL_law 201 = .ok (.bipush 20, 2) := by decide +kernel
theorem dL_law_203 : decode cL_law 203 = .ok (.if_icmp .ge 44, 3) := by decide +kernel
theorem dL_law_206 : decode cL_law 206 = .ok (.iload_n 2, 1) := by decide +kernel
theorem dL_law_207 : decode cL_law 207 = .ok (.ifCond .eq 40, 3) := by decide +kernel
theorem dL_law_210 : decode cL_law 210 = .ok (.aload_n 1, 1) := by decide +kernel
theorem dL_law_211 : decode cL_law 211 = .ok (.aload_n 0, 1) := by decide +kernel
theorem dL_law_212 : decode cL_law 212 = .ok (.iload_n 3, 1) := by decide +kernel
theorem dL_law_213 : decode cL_law 213 = .ok (.invokestatic 127, 3) := by decide +kernel
theorem dL_law_216 : decode cL_law 216 = .ok (.invokestatic 131, 3) := by decide +kernel
theorem dL_law_219 : decode cL_law 219 = .ok (.ifCond .eq 20, 3) := by decide +kernel
theorem dL_law_222 : decode cL_law 222 = .ok (.iload_n 3, 1) := by decide +kernel
theorem dL_law_223 : decode cL_law 223 = .ok (.iconst 3, 1) := by decide +kernel
theorem dL_law_224 : decode cL_law 224 = .ok (.irem, 1) := by decide +kernel
theorem dL_law_225 : decode cL_law 225 = .ok (.ifCond .ne 10, 3) := by decide +kernel
theorem dL_law_228 : decode cL_law 228 = .ok (.aload_n 1, 1) := by decide +kernel
theorem dL_law_229 : decode cL_law 229 = .ok (.invokestatic 123, 3) := by decide +kernel
theorem dL_law_232 : decode cL_law 232 = .ok (.ifCond .eq 7, 3) := by decide +kernel
theorem dL_law_235 : decode cL_law 235 = .ok (.iconst 1, 1) := by decide +kernel
theorem dL_law_236 : decode cL_law 236 = .ok (.goto 4, 3) := by decide +kernel
theorem dL_law_239 : decode cL_law 239 = .ok (.iconst 0, 1) := by decide +kernel
theorem dL_law_240 : decode cL_law 240 = .ok (.istore_n 2, 1) := by decide +kernel
theorem dL_law_241 : decode cL_law 241 = .ok (.iinc 3 1, 3) := by decide +kernel
theorem dL_law_244 : decode cL_law 244 = .ok (.goto (-44), 3) := by decide +kernel
theorem dL_law_247 : decode cL_law 247 = .ok (.iload_n 2, 1) := by decide +kernel
theorem dL_law_248 : decode cL_law 248 = .ok (.ifCond .eq 21, 3) := by decide +kernel
theorem dL_law_251 : decode cL_law 251 = .ok (.aload_n 1, 1) := by decide +kernel
theorem dL_law_252 : decode cL_law 252 = .ok (.invokestatic 123, 3) := by decide +kernel
theorem dL_law_255 : decode cL_law 255 = .ok (.ifCond .eq 14, 3) := by decide +kernel
theorem dL_law_258 : decode cL_law 258 = .ok (.aload_n 1, 1) := by decide +kernel
theorem dL_law_259 : decode cL_law 259 = .ok (.invokestatic 135, 3) := by decide +kernel
theorem dL_law_262 : decode cL_law 262 = .ok (.ifCond .eq 7, 3) := by decide +kernel
theorem dL_law_265 : decode cL_law 265 = .ok (.iconst 1, 1) := by decide +kernel
theorem dL_law_266 : decode cL_law 266 = .ok (.goto 4, 3) := by decide +kernel
theorem dL_law_269 : decode cL_law 269 = .ok (.iconst 0, 1) := by decide +kernel
theorem dL_law_270 : decode cL_law 270 = .ok (.ireturn, 1) := by decide +kernel
