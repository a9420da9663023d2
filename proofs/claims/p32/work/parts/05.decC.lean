theorem dL_cell_0 : decode cL_cell 0 = .ok (.iload_n 1, 1) := by decide +kernel
theorem dL_cell_1 : decode cL_cell 1 = .ok (.aload_n 0, 1) := by decide +kernel
theorem dL_cell_2 : decode cL_cell 2 = .ok (.arraylength, 1) := by decide +kernel
theorem dL_cell_3 : decode cL_cell 3 = .ok (.if_icmp .ge 9, 3) := by decide +kernel
theorem dL_cell_6 : decode cL_cell 6 = .ok (.aload_n 0, 1) := by decide +kernel
theorem dL_cell_7 : decode cL_cell 7 = .ok (.iload_n 1, 1) := by decide +kernel
theorem dL_cell_8 : decode cL_cell 8 = .ok (.iaload, 1) := by decide +kernel
theorem dL_cell_9 : decode cL_cell 9 = .ok (.goto 11, 3) := by decide +kernel
theorem dL_cell_12 : decode cL_cell 12 = .ok (.ldc 7, 2) := by decide +kernel
theorem dL_cell_14 : decode cL_cell 14 = .ok (.iload_n 1, 1) := by decide +kernel
theorem dL_cell_15 : decode cL_cell 15 = .ok (.imul, 1) := by decide +kernel
theorem dL_cell_16 : decode cL_cell 16 = .ok (.sipush 167, 3) := by decide +kernel
theorem dL_cell_19 : decode cL_cell 19 = .ok (.iadd, 1) := by decide +kernel
theorem dL_cell_20 : decode cL_cell 20 = .ok (.ldc 8, 2) := by decide +kernel
theorem dL_cell_22 : decode cL_cell 22 = .ok (.iand, 1) := by decide +kernel
theorem dL_cell_23 : decode cL_cell 23 = .ok (.ireturn, 1) := by decide +kernel
theorem dL_isSound_0 : decode cL_isSound 0 = .ok (.aload_n 0, 1) := by decide +kernel
theorem dL_isSound_1 : decode cL_isSound 1 = .ok (.bipush 10, 2) := by decide +kernel
theorem dL_isSound_3 : decode cL_isSound 3 = .ok (.invokevirtual 9, 3) := by decide +kernel
theorem dL_isSound_6 : decode cL_isSound 6 = .ok (.iconst 4, 1) := by decide +kernel
theorem dL_isSound_7 : decode cL_isSound 7 = .ok (.if_icmp .gt 70, 3) := by decide +kernel
theorem dL_isSound_10 : decode cL_isSound 10 = .ok (.aload_n 0, 1) := by decide +kernel
theorem dL_isSound_11 : decode cL_isSound 11 = .ok (.iconst 2, 1) := by decide +kernel
theorem dL_isSound_12 : decode cL_isSound 12 = .ok (.invokevirtual 9, 3) := by decide +kernel
theorem dL_isSound_15 : decode cL_isSound 15 = .ok (.aload_n 0, 1) := by decide +kernel
theorem dL_isSound_16 : decode cL_isSound 16 = .ok (.bipush 6, 2) := by decide +kernel
theorem dL_isSound_18 : decode cL_isSound 18 = .ok (.invokevirtual 9, 3) := by decide +kernel
theorem dL_isSound_21 : decode cL_isSound 21 = .ok (.iadd, 1) := by decide +kernel
theorem dL_isSound_22 : decode cL_isSound 22 = .ok (.aload_n 0, 1) := by decide +kernel
theorem dL_isSound_23 : decode cL_isSound 23 = .ok (.iconst 1, 1) := by decide +kernel
theorem dL_isSound_24 : decode cL_isSound 24 = .ok (.invokevirtual 9, 3) := by decide +kernel
theorem dL_isSound_27 : decode cL_isSound 27 = .ok (.if_icmp .ne 50, 3) := by decide +kernel
theorem dL_isSound_30 : decode cL_isSound 30 = .ok (.aload_n 0, 1) := by decide +kernel
theorem dL_isSound_31 : decode cL_isSound 31 = .ok (.iconst 3, 1) := by decide +kernel
theorem dL_isSound_32 : decode cL_isSound 32 = .ok (.invokevirtual 9, 3) := by decide +kernel
theorem dL_isSound_35 : decode cL_isSound 35 = .ok (.bipush 8, 2) := by decide +kernel
theorem dL_isSound_37 : decode cL_isSound 37 = .ok (.if_icmp .gt 40, 3) := by decide +kernel
theorem dL_isSound_40 : decode cL_isSound 40 = .ok (.aload_n 0, 1) := by decide +kernel
theorem dL_isSound_41 : decode cL_isSound 41 = .ok (.bipush 8, 2) := by decide +kernel
theorem dL_isSound_43 : decode cL_isSound 43 = .ok (.invokevirtual 9, 3) := by decide +kernel
theorem dL_isSound_46 : decode cL_isSound 46 = .ok (.bipush 8, 2) := by decide +kernel
theorem dL_isSound_48 : decode cL_isSound 48 = .ok (.if_icmp .gt 29, 3) := by decide +kernel
theorem dL_isSound_51 : decode cL_isSound 51 = .ok (.aload_n 0, 1) := by decide +kernel
theorem dL_isSound_52 : decode cL_isSound 52 = .ok (.bipush 6, 2) := by decide +kernel
theorem dL_isSound_54 : decode cL_isSound 54 = .ok (.invokevirtual 9, 3) := by decide +kernel
theorem dL_isSound_57 : decode cL_isSound 57 = .ok (.aload_n 0, 1) := by decide +kernel
theorem dL_isSound_58 : decode cL_isSound 58 = .ok (.bipush 7, 2) := by decide +kernel
theorem dL_isSound_60 : decode cL_isSound 60 = .ok (.invokevirtual 9, 3) := by decide +kernel
theorem dL_isSound_63 : decode cL_isSound 63 = .ok (.aload_n 0, 1) := by decide +kernel
theorem dL_isSound_64 : decode cL_isSound 64 = .ok (.bipush 8, 2) := by decide +kernel
theorem dL_isSound_66 : decode cL_isSound 66 = .ok (.invokevirtual 9, 3) := by decide +kernel
theorem dL_isSound_69 : decode cL_isSound 69 = .ok (.isub, 1) := by decide +kernel
theorem dL_isSound_70 : decode cL_isSound 70 = .ok (.if_icmp .ne 7, 3) := by decide +kernel
theorem dL_isSound_73 : decode cL_isSound 73 = .ok (.iconst 1, 1) := by decide +kernel
theorem dL_isSound_74 : decode cL_isSound 74 = .ok (.goto 4, 3) := by decide +kernel
theorem dL_isSound_77 : decode cL_isSound 77 = .ok (.iconst 0, 1) := by decide +kernel
theorem dL_isSound_78 : decode cL_isSound 78 = .ok (.istore_n 1, 1) := by decide +kernel
theorem dL_isSound_79 : decode cL_isSound 79 = .ok (.iconst 0, 1) := by decide +kernel
theorem dL_isSound_80 : decode cL_isSound 80 = .ok (.istore_n 2, 1) := by decide +kernel
theorem dL_isSound_81 : decode cL_isSound 81 = .ok (.iload_n 2, 1) := by decide +kernel
theorem dL_isSound_82 : decode cL_isSound 82 = .ok (.iconst 4, 1) := by decide +kernel
theorem dL_isSound_83 : decode cL_isSound 83 = .ok (.if_icmp .ge 146, 3) := by decide +kernel
theorem dL_isSound_86 : decode cL_isSound 86 = .ok (.iload_n 1, 1) := by decide +kernel
theorem dL_isSound_87 : decode cL_isSound 87 = .ok (.ifCond .eq 142, 3) := by decide +kernel
theorem dL_isSound_90 : decode cL_isSound 90 = .ok (.aload_n 0, 1) := by decide +kernel
theorem dL_isSound_91 : decode cL_isSound 91 = .ok (.iload_n 2, 1) := by decide +kernel
theorem dL_isSound_92 : decode cL_isSound 92 = .ok (.iconst 0, 1) := by decide +kernel
theorem dL_isSound_93 : decode cL_isSound 93 = .ok (.invokevirtual 15, 3) := by decide +kernel
theorem dL_isSound_96 : decode cL_isSound 96 = .ok (.aload_n 0, 1) := by decide +kernel
theorem dL_isSound_97 : decode cL_isSound 97 = .ok (.iload_n 2, 1) := by decide +kernel
theorem dL_isSound_98 : decode cL_isSound 98 = .ok (.iconst 1, 1) := by decide +kernel
theorem dL_isSound_99 : decode cL_isSound 99 = .ok (.invokevirtual 15, 3) := by decide +kernel
theorem dL_isSound_102 : decode cL_isSound 102 = .ok (.aload_n 0, 1) := by decide +kernel
theorem dL_isSound_103 : decode cL_isSound 103 = .ok (.iload_n 2, 1) := by decide +kernel
theorem dL_isSound_104 : decode cL_isSound 104 = .ok (.iconst 2, 1) := by decide +kernel
theorem dL_isSound_105 : decode cL_isSound 105 = .ok (.invokevirtual 15, 3) := by decide +kernel
theorem dL_isSound_108 : decode cL_isSound 108 = .ok (.iadd, 1) := by decide +kernel
theorem dL_isSound_109 : decode cL_isSound 109 = .ok (.aload_n 0, 1) := by decide +kernel
theorem dL_isSound_110 : decode cL_isSound 110 = .ok (.iload_n 2, 1) := by decide +kernel
theorem dL_isSound_111 : decode cL_isSound 111 = .ok (.iconst 3, 1) := by decide +kernel
theorem dL_isSound_112 : decode cL_isSound 112 = .ok (.invokevirtual 15, 3) := by decide +kernel
theorem dL_isSound_115 : decode cL_isSound 115 = .ok (.iadd, 1) := by decide +kernel
theorem dL_isSound_116 : decode cL_isSound 116 = .ok (.aload_n 0, 1) := by decide +kernel
theorem dL_isSound_117 : decode cL_isSound 117 = .ok (.iload_n 2, 1) := by decide +kernel
theorem dL_isSound_118 : decode cL_isSound 118 = .ok (.iconst 4, 1) := by decide +kernel
theorem dL_isSound_119 : decode cL_isSound 119 = .ok (.invokevirtual 15, 3) := by decide +kernel
theorem dL_isSound_122 : decode cL_isSound 122 = .ok (.iadd, 1) := by decide +kernel
theorem dL_isSound_123 : decode cL_isSound 123 = .ok (.aload_n 0, 1) := by decide +kernel
theorem dL_isSound_124 : decode cL_isSound 124 = .ok (.iload_n 2, 1) := by decide +kernel
theorem dL_isSound_125 : decode cL_isSound 125 = .ok (.iconst 5, 1) := by decide +kernel
theorem dL_isSound_126 : decode cL_isSound 126 = .ok (.invokevirtual 15, 3) := by decide +kernel
theorem dL_isSound_129 : decode cL_isSound 129 = .ok (.iadd, 1) := by decide +kernel
theorem dL_isSound_130 : decode cL_isSound 130 = .ok (.if_icmp .ne 91, 3) := by decide +kernel
theorem dL_isSound_133 : decode cL_isSound 133 = .ok (.aload_n 0, 1) := by decide +kernel
theorem dL_isSound_134 : decode cL_isSound 134 = .ok (.iload_n 2, 1) := by decide +kernel
theorem dL_isSound_135 : decode cL_isSound 135 = .ok (.iconst 0, 1) := by decide +kernel
theorem dL_isSound_136 : decode cL_isSound 136 = .ok (.invokevirtual 15, 3) := by decide +kernel
theorem dL_isSound_139 : decode cL_isSound 139 = .ok (.ldc 19, 2) := by decide +kernel
theorem dL_isSound_141 : decode cL_isSound 141 = .ok (.if_icmp .gt 80, 3) := by decide +kernel
theorem dL_isSound_144 : decode cL_isSound 144 = .ok (.aload_n 0, 1) := by decide +kernel
theorem dL_isSound_145 : decode cL_isSound 145 = .ok (.iload_n 2, 1) := by decide +kernel
theorem dL_isSound_146 : decode cL_isSound 146 = .ok (.invokevirtual 20, 3) := by decide +kernel
theorem dL_isSound_149 : decode cL_isSound 149 = .ok (.aload_n 0, 1) := by decide +kernel
theorem dL_isSound_150 : decode cL_isSound 150 = .ok (.iconst 2, 1) := by decide +kernel
theorem dL_isSound_151 : decode cL_isSound 151 = .ok (.invokevirtual 9, 3) := by decide +kernel
theorem dL_isSound_154 : decode cL_isSound 154 = .ok (.if_icmp .gt 67, 3) := by decide +kernel
theorem dL_isSound_157 : decode cL_isSound 157 = .ok (.aload_n 0, 1) := by decide +kernel
theorem dL_isSound_158 : decode cL_isSound 158 = .ok (.iconst 2, 1) := by decide +kernel
theorem dL_isSound_159 : decode cL_isSound 159 = .ok (.invokevirtual 9, 3) := by decide +kernel
theorem dL_isSound_162 : decode cL_isSound 162 = .ok (.ifCond .ne 7, 3) := by decide +kernel
theorem dL_isSound_165 : decode cL_isSound 165 = .ok (.iconst 1, 1) := by decide +kernel
theorem dL_isSound_166 : decode cL_isSound 166 = .ok (.goto 4, 3) := by decide +kernel
theorem dL_isSound_169 : decode cL_isSound 169 = .ok (.iconst 0, 1) := by decide +kernel
theorem dL_isSound_170 : decode cL_isSound 170 = .ok (.aload_n 0, 1) := by decide +kernel
theorem dL_isSound_171 : decode cL_isSound 171 = .ok (.iload_n 2, 1) := by decide +kernel
theorem dL_isSound_172 : decode cL_isSound 172 = .ok (.invokevirtual 20, 3) := by decide +kernel
theorem dL_isSound_175 : decode cL_isSound 175 = .ok (.ifCond .ne 7, 3) := by decide +kernel
theorem dL_isSound_178 : decode cL_isSound 178 = .ok (.iconst 1, 1) := by decide +kernel
theorem dL_isSound_179 : decode cL_isSound 179 = .ok (.goto 4, 3) := by decide +kernel
theorem dL_isSound_182 : decode cL_isSound 182 = .ok (.iconst 0, 1) := by decide +kernel
theorem dL_isSound_183 : decode cL_isSound 183 = .ok (.if_icmp .ne 38, 3) := by decide +kernel
theorem dL_isSound_186 : decode cL_isSound 186 = .ok (.aload_n 0, 1) := by decide +kernel
theorem dL_isSound_187 : decode cL_isSound 187 = .ok (.iconst 2, 1) := by decide +kernel
theorem dL_isSound_188 : decode cL_isSound 188 = .ok (.invokevirtual 9, 3) := by decide +kernel
theorem dL_isSound_191 : decode cL_isSound 191 = .ok (.ifCond .ne 7, 3) := by decide +kernel
theorem dL_isSound_194 : decode cL_isSound 194 = .ok (.iconst 1, 1) := by decide +kernel
theorem dL_isSound_195 : decode cL_isSound 195 = .ok (.goto 4, 3) := by decide +kernel
theorem dL_isSound_198 : decode cL_isSound 198 = .ok (.iconst 0, 1) := by decide +kernel
theorem dL_isSound_199 : decode cL_isSound 199 = .ok (.aload_n 0, 1) := by decide +kernel
theorem dL_isSound_200 : decode cL_isSound 200 = .ok (.iload_n 2, 1) := by decide +kernel
theorem dL_isSound_201 : decode cL_isSound 201 = .ok (.invokevirtual 23, 3) := by decide +kernel
theorem dL_isSound_204 : decode cL_isSound 204 = .ok (.bipush (-4), 2) := by decide +kernel
theorem dL_isSound_206 : decode cL_isSound 206 = .ok (.if_icmp .ne 7, 3) := by decide +kernel
theorem dL_isSound_209 : decode cL_isSound 209 = .ok (.iconst 1, 1) := by decide +kernel
theorem dL_isSound_210 : decode cL_isSound 210 = .ok (.goto 4, 3) := by decide +kernel
theorem dL_isSound_213 : decode cL_isSound 213 = .ok (.iconst 0, 1) := by decide +kernel
theorem dL_isSound_214 : decode cL_isSound 214 = .ok (.if_icmp .ne 7, 3) := by decide +kernel
theorem dL_isSound_217 : decode cL_isSound 217 = .ok (.iconst 1, 1) := by decide +kernel
theorem dL_isSound_218 : decode cL_isSound 218 = .ok (.goto 4, 3) := by decide +kernel
theorem dL_isSound_221 : decode cL_isSound 221 = .ok (.iconst 0, 1) := by decide +kernel
theorem dL_isSound_222 : decode cL_isSound 222 = .ok (.istore_n 1, 1) := by decide +kernel
theorem dL_isSound_223 : decode cL_isSound 223 = .ok (.iinc 2 1, 3) := by decide +kernel
theorem dL_isSound_226 : decode cL_isSound 226 = .ok (.goto (-145), 3) := by decide +kernel
theorem dL_isSound_229 : decode cL_isSound 229 = .ok (.iconst 0, 1) := by decide +kernel
theorem dL_isSound_230 : decode cL_isSound 230 = .ok (.istore_n 2, 1) := by decide +kernel
theorem dL_isSound_231 : decode cL_isSound 231 = .ok (.iconst 0, 1) := by decide +kernel
theorem dL_isSound_232 : decode cL_isSound 232 = .ok (.istore_n 3, 1) := by decide +kernel
theorem dL_isSound_233 : decode cL_isSound 233 = .ok (.iconst 0, 1) := by decide +kernel
theorem dL_isSound_234 : decode cL_isSound 234 = .ok (.istore 4, 2) := by decide +kernel
theorem dL_isSound_236 : decode cL_isSound 236 = .ok (.iconst 0, 1) := by decide +kernel
theorem dL_isSound_237 : decode cL_isSound 237 = .ok (.istore 5, 2) := by decide +kernel
theorem dL_isSound_239 : decode cL_isSound 239 = .ok (.iconst 0, 1) := by decide +kernel
theorem dL_isSound_240 : decode cL_isSound 240 = .ok (.istore 6, 2) := by decide +kernel
theorem dL_isSound_242 : decode cL_isSound 242 = .ok (.iconst 0, 1) := by decide +kernel
theorem dL_isSound_243 : decode cL_isSound 243 = .ok (.istore 7, 2) := by decide +kernel
theorem dL_isSound_245 : decode cL_isSound 245 = .ok (.iload 7, 2) := by decide +kernel
theorem dL_isSound_247 : decode cL_isSound 247 = .ok (.aload_n 0, 1) := by decide +kernel
theorem dL_isSound_248 : decode cL_isSound 248 = .ok (.iconst 1, 1) := by decide +kernel
theorem dL_isSound_249 : decode cL_isSound 249 = .ok (.invokevirtual 9, 3) := by decide +kernel
theorem dL_isSound_252 : decode cL_isSound 252 = .ok (.if_icmp .ge 215, 3) := by decide +kernel
theorem dL_isSound_255 : decode cL_isSound 255 = .ok (.iload_n 1, 1) := by decide +kernel
theorem dL_isSound_256 : decode cL_isSound 256 = .ok (.ifCond .eq 211, 3) := by decide +kernel
theorem dL_isSound_259 : decode cL_isSound 259 = .ok (.aload_n 0, 1) := by decide +kernel
theorem dL_isSound_260 : decode cL_isSound 260 = .ok (.iload 7, 2) := by decide +kernel
theorem dL_isSound_262 : decode cL_isSound 262 = .ok (.bipush 8, 2) := by decide +kernel
theorem dL_isSound_264 : decode cL_isSound 264 = .ok (.invokevirtual 26, 3) := by decide +kernel
theorem dL_isSound_267 : decode cL_isSound 267 = .ok (.ifCond .lt 7, 3) := by decide +kernel
theorem dL_isSound_270 : decode cL_isSound 270 = .ok (.iconst 1, 1) := by decide +kernel
theorem dL_isSound_271 : decode cL_isSound 271 = .ok (.goto 4, 3) := by decide +kernel
theorem dL_isSound_274 : decode cL_isSound 274 = .ok (.iconst 0, 1) := by decide +kernel
theorem dL_isSound_275 : decode cL_isSound 275 = .ok (.istore 8, 2) := by decide +kernel
theorem dL_isSound_277 : decode cL_isSound 277 = .ok (.aload_n 0, 1) := by decide +kernel
theorem dL_isSound_278 : decode cL_isSound 278 = .ok (.iload 7, 2) := by decide +kernel
theorem dL_isSound_280 : decode cL_isSound 280 = .ok (.iconst 5, 1) := by decide +kernel
theorem dL_isSound_281 : decode cL_isSound 281 = .ok (.invokevirtual 26, 3) := by decide +kernel
theorem dL_isSound_284 : decode cL_isSound 284 = .ok (.istore 9, 2) := by decide +kernel
theorem dL_isSound_286 : decode cL_isSound 286 = .ok (.iload_n 2, 1) := by decide +kernel
theorem dL_isSound_287 : decode cL_isSound 287 = .ok (.iload 9, 2) := by decide +kernel
theorem dL_isSound_289 : decode cL_isSound 289 = .ok (.iadd, 1) := by decide +kernel
theorem dL_isSound_290 : decode cL_isSound 290 = .ok (.istore_n 2, 1) := by decide +kernel
theorem dL_isSound_291 : decode cL_isSound 291 = .ok (.iload_n 3, 1) := by decide +kernel
theorem dL_isSound_292 : decode cL_isSound 292 = .ok (.iload 9, 2) := by decide +kernel
theorem dL_isSound_294 : decode cL_isSound 294 = .ok (.iconst 1, 1) := by decide +kernel
theorem dL_isSound_295 : decode cL_isSound 295 = .ok (.if_icmp .ne 17, 3) := by decide +kernel
theorem dL_isSound_298 : decode cL_isSound 298 = .ok (.aload_n 0, 1) := by decide +kernel
theorem dL_isSound_299 : decode cL_isSound 299 = .ok (.iload 7, 2) := by decide +kernel
theorem dL_isSound_301 : decode cL_isSound 301 = .ok (.iconst 0, 1) := by decide +kernel
theorem dL_isSound_302 : decode cL_isSound 302 = .ok (.invokevirtual 26, 3) := by decide +kernel
theorem dL_isSound_305 : decode cL_isSound 305 = .ok (.ifCond .ne 7, 3) := by decide +kernel
theorem dL_isSound_308 : decode cL_isSound 308 = .ok (.iconst 1, 1) := by decide +kernel
theorem dL_isSound_309 : decode cL_isSound 309 = .ok (.goto 4, 3) := by decide +kernel
theorem dL_isSound_312 : decode cL_isSound 312 = .ok (.iconst 0, 1) := by decide +kernel
theorem dL_isSound_313 : decode cL_isSound 313 = .ok (.iadd, 1) := by decide +kernel
theorem dL_isSound_314 : decode cL_isSound 314 = .ok (.istore_n 3, 1) := by decide +kernel
theorem dL_isSound_315 : decode cL_isSound 315 = .ok (.iload 4, 2) := by decide +kernel
theorem dL_isSound_317 : decode cL_isSound 317 = .ok (.iload 8, 2) := by decide +kernel
theorem dL_isSound_319 : decode cL_isSound 319 = .ok (.ifCond .eq 7, 3) := by decide +kernel
theorem dL_isSound_322 : decode cL_isSound 322 = .ok (.iconst 0, 1) := by decide +kernel
theorem dL_isSound_323 : decode cL_isSound 323 = .ok (.goto 11, 3) := by decide +kernel
theorem dL_isSound_326 : decode cL_isSound 326 = .ok (.aload_n 0, 1) := by decide +kernel
theorem dL_isSound_327 : decode cL_isSound 327 = .ok (.iload 7, 2) := by decide +kernel
theorem dL_isSound_329 : decode cL_isSound 329 = .ok (.bipush 6, 2) := by decide +kernel
theorem dL_isSound_331 : decode cL_isSound 331 = .ok (.invokevirtual 26, 3) := by decide +kernel
theorem dL_isSound_334 : decode cL_isSound 334 = .ok (.iadd, 1) := by decide +kernel
theorem dL_isSound_335 : decode cL_isSound 335 = .ok (.istore 4, 2) := by decide +kernel
theorem dL_isSound_337 : decode cL_isSound 337 = .ok (.iload 5, 2) := by decide +kernel
theorem dL_isSound_339 : decode cL_isSound 339 = .ok (.aload_n 0, 1) := by decide +kernel
theorem dL_isSound_340 : decode cL_isSound 340 = .ok (.iload 7, 2) := by decide +kernel
theorem dL_isSound_342 : decode cL_isSound 342 = .ok (.bipush 7, 2) := by decide +kernel
theorem dL_isSound_344 : decode cL_isSound 344 = .ok (.invokevirtual 26, 3) := by decide +kernel
theorem dL_isSound_347 : decode cL_isSound 347 = .ok (.iadd, 1) := by decide +kernel
theorem dL_isSound_348 : decode cL_isSound 348 = .ok (.istore 5, 2) := by decide +kernel
theorem dL_isSound_350 : decode cL_isSound 350 = .ok (.iload 6, 2) := by decide +kernel
theorem dL_isSound_352 : decode cL_isSound 352 = .ok (.aload_n 0, 1) := by decide +kernel
theorem dL_isSound_353 : decode cL_isSound 353 = .ok (.iload 7, 2) := by decide +kernel
theorem dL_isSound_355 : decode cL_isSound 355 = .ok (.bipush 9, 2) := by decide +kernel
theorem dL_isSound_357 : decode cL_isSound 357 = .ok (.invokevirtual 26, 3) := by decide +kernel
theorem dL_isSound_360 : decode cL_isSound 360 = .ok (.iadd, 1) := by decide +kernel
theorem dL_isSound_361 : decode cL_isSound 361 = .ok (.istore 6, 2) := by decide +kernel
theorem dL_isSound_363 : decode cL_isSound 363 = .ok (.iload 8, 2) := by decide +kernel
theorem dL_isSound_365 : decode cL_isSound 365 = .ok (.ifCond .eq 36, 3) := by decide +kernel
theorem dL_isSound_368 : decode cL_isSound 368 = .ok (.iload 9, 2) := by decide +kernel
theorem dL_isSound_370 : decode cL_isSound 370 = .ok (.ifCond .ne 89, 3) := by decide +kernel
theorem dL_isSound_373 : decode cL_isSound 373 = .ok (.aload_n 0, 1) := by decide +kernel
theorem dL_isSound_374 : decode cL_isSound 374 = .ok (.iload 7, 2) := by decide +kernel
theorem dL_isSound_376 : decode cL_isSound 376 = .ok (.bipush 6, 2) := by decide +kernel
theorem dL_isSound_378 : decode cL_isSound 378 = .ok (.invokevirtual 26, 3) := by decide +kernel
theorem dL_isSound_381 : decode cL_isSound 381 = .ok (.ifCond .ne 78, 3) := by decide +kernel
theorem dL_isSound_384 : decode cL_isSound 384 = .ok (.aload_n 0, 1) := by decide +kernel
theorem dL_isSound_385 : decode cL_isSound 385 = .ok (.aload_n 0, 1) := by decide +kernel
theorem dL_isSound_386 : decode cL_isSound 386 = .ok (.iload 7, 2) := by decide +kernel
theorem dL_isSound_388 : decode cL_isSound 388 = .ok (.bipush 8, 2) := by decide +kernel
theorem dL_isSound_390 : decode cL_isSound 390 = .ok (.invokevirtual 26, 3) := by decide +kernel
theorem dL_isSound_393 : decode cL_isSound 393 = .ok (.iconst 4, 1) := by decide +kernel
theorem dL_isSound_394 : decode cL_isSound 394 = .ok (.invokevirtual 29, 3) := by decide +kernel
theorem dL_isSound_397 : decode cL_isSound 397 = .ok (.iconst 1, 1) := by decide +kernel
theorem dL_isSound_398 : decode cL_isSound 398 = .ok (.if_icmp .ne 61, 3) := by decide +kernel
theorem dL_isSound_401 : decode cL_isSound 401 = .ok (.aload_n 0, 1) := by decide +kernel
theorem dL_isSound_402 : decode cL_isSound 402 = .ok (.iload 7, 2) := by decide +kernel
theorem dL_isSound_404 : decode cL_isSound 404 = .ok (.bipush 7, 2) := by decide +kernel
theorem dL_isSound_406 : decode cL_isSound 406 = .ok (.invokevirtual 26, 3) := by decide +kernel
theorem dL_isSound_409 : decode cL_isSound 409 = .ok (.ifCond .eq 14, 3) := by decide +kernel
theorem dL_isSound_412 : decode cL_isSound 412 = .ok (.aload_n 0, 1) := by decide +kernel
theorem dL_isSound_413 : decode cL_isSound 413 = .ok (.iload 7, 2) := by decide +kernel
theorem dL_isSound_415 : decode cL_isSound 415 = .ok (.bipush 6, 2) := by decide +kernel
theorem dL_isSound_417 : decode cL_isSound 417 = .ok (.invokevirtual 26, 3) := by decide +kernel
theorem dL_isSound_420 : decode cL_isSound 420 = .ok (.ifCond .ne 39, 3) := by decide +kernel
theorem dL_isSound_423 : decode cL_isSound 423 = .ok (.aload_n 0, 1) := by decide +kernel
theorem dL_isSound_424 : decode cL_isSound 424 = .ok (.iload 7, 2) := by decide +kernel
theorem dL_isSound_426 : decode cL_isSound 426 = .ok (.iload 7, 2) := by decide +kernel
theorem dL_isSound_428 : decode cL_isSound 428 = .ok (.invokevirtual 32, 3) := by decide +kernel
theorem dL_isSound_431 : decode cL_isSound 431 = .ok (.iconst 1, 1) := by decide +kernel
theorem dL_isSound_432 : decode cL_isSound 432 = .ok (.if_icmp .ne 27, 3) := by decide +kernel
theorem dL_isSound_435 : decode cL_isSound 435 = .ok (.aload_n 0, 1) := by decide +kernel
theorem dL_isSound_436 : decode cL_isSound 436 = .ok (.iload 7, 2) := by decide +kernel
theorem dL_isSound_438 : decode cL_isSound 438 = .ok (.iconst 3, 1) := by decide +kernel
theorem dL_isSound_439 : decode cL_isSound 439 = .ok (.invokevirtual 26, 3) := by decide +kernel
theorem dL_isSound_442 : decode cL_isSound 442 = .ok (.ifCond .lt 17, 3) := by decide +kernel
theorem dL_isSound_445 : decode cL_isSound 445 = .ok (.aload_n 0, 1) := by decide +kernel
theorem dL_isSound_446 : decode cL_isSound 446 = .ok (.iload 7, 2) := by decide +kernel
theorem dL_isSound_448 : decode cL_isSound 448 = .ok (.iconst 4, 1) := by decide +kernel
theorem dL_isSound_449 : decode cL_isSound 449 = .ok (.invokevirtual 26, 3) := by decide +kernel
theorem dL_isSound_452 : decode cL_isSound 452 = .ok (.ifCond .lt 7, 3) := by decide +kernel
theorem dL_isSound_455 : decode cL_isSound 455 = .ok (.iconst 1, 1) := by decide +kernel
theorem dL_isSound_456 : decode cL_isSound 456 = .ok (.goto 4, 3) := by decide +kernel
theorem dL_isSound_459 : decode cL_isSound 459 = .ok (.iconst 0, 1) := by decide +kernel
theorem dL_isSound_460 : decode cL_isSound 460 = .ok (.istore_n 1, 1) := by decide +kernel
theorem dL_isSound_461 : decode cL_isSound 461 = .ok (.iinc 7 1, 3) := by decide +kernel
theorem dL_isSound_464 : decode cL_isSound 464 = .ok (.goto (-219), 3) := by decide +kernel
theorem dL_isSound_467 : decode cL_isSound 467 = .ok (.iload_n 1, 1) := by decide +kernel
theorem dL_isSound_468 : decode cL_isSound 468 = .ok (.ifCond .eq 59, 3) := by decide +kernel
theorem dL_isSound_471 : decode cL_isSound 471 = .ok (.iload_n 2, 1) := by decide +kernel
theorem dL_isSound_472 : decode cL_isSound 472 = .ok (.aload_n 0, 1) := by decide +kernel
theorem dL_isSound_473 : decode cL_isSound 473 = .ok (.iconst 3, 1) := by decide +kernel
theorem dL_isSound_474 : decode cL_isSound 474 = .ok (.invokevirtual 9, 3) := by decide +kernel
theorem dL_isSound_477 : decode cL_isSound 477 = .ok (.if_icmp .ne 50, 3) := by decide +kernel
theorem dL_isSound_480 : decode cL_isSound 480 = .ok (.iload_n 3, 1) := by decide +kernel
theorem dL_isSound_481 : decode cL_isSound 481 = .ok (.iconst 4, 1) := by decide +kernel
theorem dL_isSound_482 : decode cL_isSound 482 = .ok (.if_icmp .gt 45, 3) := by decide +kernel
theorem dL_isSound_485 : decode cL_isSound 485 = .ok (.iload_n 2, 1) := by decide +kernel
theorem dL_isSound_486 : decode cL_isSound 486 = .ok (.iload_n 3, 1) := by decide +kernel
theorem dL_isSound_487 : decode cL_isSound 487 = .ok (.isub, 1) := by decide +kernel
theorem dL_isSound_488 : decode cL_isSound 488 = .ok (.iconst 4, 1) := by decide +kernel
theorem dL_isSound_489 : decode cL_isSound 489 = .ok (.if_icmp .gt 38, 3) := by decide +kernel
theorem dL_isSound_492 : decode cL_isSound 492 = .ok (.iload 4, 2) := by decide +kernel
theorem dL_isSound_494 : decode cL_isSound 494 = .ok (.aload_n 0, 1) := by decide +kernel
theorem dL_isSound_495 : decode cL_isSound 495 = .ok (.iconst 4, 1) := by decide +kernel
theorem dL_isSound_496 : decode cL_isSound 496 = .ok (.invokevirtual 9, 3) := by decide +kernel
theorem dL_isSound_499 : decode cL_isSound 499 = .ok (.if_icmp .ne 28, 3) := by decide +kernel
theorem dL_isSound_502 : decode cL_isSound 502 = .ok (.iload 5, 2) := by decide +kernel
theorem dL_isSound_504 : decode cL_isSound 504 = .ok (.aload_n 0, 1) := by decide +kernel
theorem dL_isSound_505 : decode cL_isSound 505 = .ok (.iconst 5, 1) := by decide +kernel
theorem dL_isSound_506 : decode cL_isSound 506 = .ok (.invokevirtual 9, 3) := by decide +kernel
theorem dL_isSound_509 : decode cL_isSound 509 = .ok (.if_icmp .ne 18, 3) := by decide +kernel
theorem dL_isSound_512 : decode cL_isSound 512 = .ok (.iload 6, 2) := by decide +kernel
theorem dL_isSound_514 : decode cL_isSound 514 = .ok (.aload_n 0, 1) := by decide +kernel
theorem dL_isSound_515 : decode cL_isSound 515 = .ok (.bipush 9, 2) := by decide +kernel
theorem dL_isSound_517 : decode cL_isSound 517 = .ok (.invokevirtual 9, 3) := by decide +kernel
theorem dL_isSound_520 : decode cL_isSound 520 = .ok (.if_icmp .ne 7, 3) := by decide +kernel
theorem dL_isSound_523 : decode cL_isSound 523 = .ok (.iconst 1, 1) := by decide +kernel
theorem dL_isSound_524 : decode cL_isSound 524 = .ok (.goto 4, 3) := by decide +kernel
theorem dL_isSound_527 : decode cL_isSound 527 = .ok (.iconst 0, 1) := by decide +kernel
theorem dL_isSound_528 : decode cL_isSound 528 = .ok (.istore_n 1, 1) := by decide +kernel
theorem dL_isSound_529 : decode cL_isSound 529 = .ok (.iconst 0, 1) := by decide +kernel
theorem dL_isSound_530 : decode cL_isSound 530 = .ok (.istore 7, 2) := by decide +kernel
theorem dL_isSound_532 : decode cL_isSound 532 = .ok (.iconst 0, 1) := by decide +kernel
theorem dL_isSound_533 : decode cL_isSound 533 = .ok (.istore 8, 2) := by decide +kernel
theorem dL_isSound_535 : decode cL_isSound 535 = .ok (.iload 8, 2) := by decide +kernel
theorem dL_isSound_537 : decode cL_isSound 537 = .ok (.aload_n 0, 1) := by decide +kernel
theorem dL_isSound_538 : decode cL_isSound 538 = .ok (.iconst 0, 1) := by decide +kernel
theorem dL_isSound_539 : decode cL_isSound 539 = .ok (.invokevirtual 9, 3) := by decide +kernel
theorem dL_isSound_542 : decode cL_isSound 542 = .ok (.if_icmp .ge 197, 3) := by decide +kernel
theorem dL_isSound_545 : decode cL_isSound 545 = .ok (.iload_n 1, 1) := by decide +kernel
theorem dL_isSound_546 : decode cL_isSound 546 = .ok (.ifCond .eq 193, 3) := by decide +kernel
theorem dL_isSound_549 : decode cL_isSound 549 = .ok (.aload_n 0, 1) := by decide +kernel
theorem dL_isSound_550 : decode cL_isSound 550 = .ok (.iload 8, 2) := by decide +kernel
theorem dL_isSound_552 : decode cL_isSound 552 = .ok (.invokevirtual 35, 3) := by decide +kernel
theorem dL_isSound_555 : decode cL_isSound 555 = .ok (.istore 9, 2) := by decide +kernel
theorem dL_isSound_557 : decode cL_isSound 557 = .ok (.iload 7, 2) := by decide +kernel
theorem dL_isSound_559 : decode cL_isSound 559 = .ok (.iconst 1, 1) := by decide +kernel
theorem dL_isSound_560 : decode cL_isSound 560 = .ok (.iload 9, 2) := by decide +kernel
theorem dL_isSound_562 : decode cL_isSound 562 = .ok (.ishl, 1) := by decide +kernel
theorem dL_isSound_563 : decode cL_isSound 563 = .ok (.ior, 1) := by decide +kernel
theorem dL_isSound_564 : decode cL_isSound 564 = .ok (.istore 7, 2) := by decide +kernel
theorem dL_isSound_566 : decode cL_isSound 566 = .ok (.aload_n 0, 1) := by decide +kernel
theorem dL_isSound_567 : decode cL_isSound 567 = .ok (.iload 8, 2) := by decide +kernel
theorem dL_isSound_569 : decode cL_isSound 569 = .ok (.iconst 1, 1) := by decide +kernel
theorem dL_isSound_570 : decode cL_isSound 570 = .ok (.iadd, 1) := by decide +kernel
theorem dL_isSound_571 : decode cL_isSound 571 = .ok (.invokevirtual 35, 3) := by decide +kernel
theorem dL_isSound_574 : decode cL_isSound 574 = .ok (.istore 10, 2) := by decide +kernel
theorem dL_isSound_576 : decode cL_isSound 576 = .ok (.aload_n 0, 1) := by decide +kernel
theorem dL_isSound_577 : decode cL_isSound 577 = .ok (.iload 9, 2) := by decide +kernel
theorem dL_isSound_579 : decode cL_isSound 579 = .ok (.iconst 2, 1) := by decide +kernel
theorem dL_isSound_580 : decode cL_isSound 580 = .ok (.invokevirtual 38, 3) := by decide +kernel
theorem dL_isSound_583 : decode cL_isSound 583 = .ok (.aload_n 0, 1) := by decide +kernel
theorem dL_isSound_584 : decode cL_isSound 584 = .ok (.iload 9, 2) := by decide +kernel
theorem dL_isSound_586 : decode cL_isSound 586 = .ok (.iconst 1, 1) := by decide +kernel
theorem dL_isSound_587 : decode cL_isSound 587 = .ok (.invokevirtual 38, 3) := by decide +kernel
theorem dL_isSound_590 : decode cL_isSound 590 = .ok (.idiv, 1) := by decide +kernel
theorem dL_isSound_591 : decode cL_isSound 591 = .ok (.istore 11, 2) := by decide +kernel
theorem dL_isSound_593 : decode cL_isSound 593 = .ok (.iload 9, 2) := by decide +kernel
theorem dL_isSound_595 : decode cL_isSound 595 = .ok (.ifCond .lt 95, 3) := by decide +kernel
theorem dL_isSound_598 : decode cL_isSound 598 = .ok (.iload 10, 2) := by decide +kernel
theorem dL_isSound_600 : decode cL_isSound 600 = .ok (.bipush (-4), 2) := by decide +kernel
theorem dL_isSound_602 : decode cL_isSound 602 = .ok (.if_icmp .eq 84, 3) := by decide +kernel
theorem dL_isSound_605 : decode cL_isSound 605 = .ok (.iload 11, 2) := by decide +kernel
theorem dL_isSound_607 : decode cL_isSound 607 = .ok (.aload_n 0, 1) := by decide +kernel
theorem dL_isSound_608 : decode cL_isSound 608 = .ok (.iload 10, 2) := by decide +kernel
theorem dL_isSound_610 : decode cL_isSound 610 = .ok (.iconst 2, 1) := by decide +kernel
theorem dL_isSound_611 : decode cL_isSound 611 = .ok (.invokevirtual 38, 3) := by decide +kernel
theorem dL_isSound_614 : decode cL_isSound 614 = .ok (.aload_n 0, 1) := by decide +kernel
theorem dL_isSound_615 : decode cL_isSound 615 = .ok (.iload 10, 2) := by decide +kernel
theorem dL_isSound_617 : decode cL_isSound 617 = .ok (.iconst 1, 1) := by decide +kernel
theorem dL_isSound_618 : decode cL_isSound 618 = .ok (.invokevirtual 38, 3) := by decide +kernel
theorem dL_isSound_621 : decode cL_isSound 621 = .ok (.idiv, 1) := by decide +kernel
theorem dL_isSound_622 : decode cL_isSound 622 = .ok (.if_icmp .gt 64, 3) := by decide +kernel
theorem dL_isSound_625 : decode cL_isSound 625 = .ok (.iload 11, 2) := by decide +kernel
theorem dL_isSound_627 : decode cL_isSound 627 = .ok (.aload_n 0, 1) := by decide +kernel
theorem dL_isSound_628 : decode cL_isSound 628 = .ok (.iload 10, 2) := by decide +kernel
theorem dL_isSound_630 : decode cL_isSound 630 = .ok (.iconst 2, 1) := by decide +kernel
theorem dL_isSound_631 : decode cL_isSound 631 = .ok (.invokevirtual 38, 3) := by decide +kernel
theorem dL_isSound_634 : decode cL_isSound 634 = .ok (.aload_n 0, 1) := by decide +kernel
theorem dL_isSound_635 : decode cL_isSound 635 = .ok (.iload 10, 2) := by decide +kernel
theorem dL_isSound_637 : decode cL_isSound 637 = .ok (.iconst 1, 1) := by decide +kernel
theorem dL_isSound_638 : decode cL_isSound 638 = .ok (.invokevirtual 38, 3) := by decide +kernel
theorem dL_isSound_641 : decode cL_isSound 641 = .ok (.idiv, 1) := by decide +kernel
theorem dL_isSound_642 : decode cL_isSound 642 = .ok (.if_icmp .ne 48, 3) := by decide +kernel
theorem dL_isSound_645 : decode cL_isSound 645 = .ok (.aload_n 0, 1) := by decide +kernel
theorem dL_isSound_646 : decode cL_isSound 646 = .ok (.iload 9, 2) := by decide +kernel
theorem dL_isSound_648 : decode cL_isSound 648 = .ok (.iconst 3, 1) := by decide +kernel
theorem dL_isSound_649 : decode cL_isSound 649 = .ok (.invokevirtual 38, 3) := by decide +kernel
theorem dL_isSound_652 : decode cL_isSound 652 = .ok (.aload_n 0, 1) := by decide +kernel
theorem dL_isSound_653 : decode cL_isSound 653 = .ok (.iload 10, 2) := by decide +kernel
theorem dL_isSound_655 : decode cL_isSound 655 = .ok (.iconst 3, 1) := by decide +kernel
theorem dL_isSound_656 : decode cL_isSound 656 = .ok (.invokevirtual 38, 3) := by decide +kernel
theorem dL_isSound_659 : decode cL_isSound 659 = .ok (.if_icmp .lt 27, 3) := by decide +kernel
theorem dL_isSound_662 : decode cL_isSound 662 = .ok (.aload_n 0, 1) := by decide +kernel
theorem dL_isSound_663 : decode cL_isSound 663 = .ok (.iload 9, 2) := by decide +kernel
theorem dL_isSound_665 : decode cL_isSound 665 = .ok (.iconst 3, 1) := by decide +kernel
theorem dL_isSound_666 : decode cL_isSound 666 = .ok (.invokevirtual 38, 3) := by decide +kernel
theorem dL_isSound_669 : decode cL_isSound 669 = .ok (.aload_n 0, 1) := by decide +kernel
theorem dL_isSound_670 : decode cL_isSound 670 = .ok (.iload 10, 2) := by decide +kernel
theorem dL_isSound_672 : decode cL_isSound 672 = .ok (.iconst 3, 1) := by decide +kernel
theorem dL_isSound_673 : decode cL_isSound 673 = .ok (.invokevirtual 38, 3) := by decide +kernel
theorem dL_isSound_676 : decode cL_isSound 676 = .ok (.if_icmp .ne 14, 3) := by decide +kernel
theorem dL_isSound_679 : decode cL_isSound 679 = .ok (.iload 9, 2) := by decide +kernel
theorem dL_isSound_681 : decode cL_isSound 681 = .ok (.iload 10, 2) := by decide +kernel
theorem dL_isSound_683 : decode cL_isSound 683 = .ok (.if_icmp .ge 7, 3) := by decide +kernel
theorem dL_isSound_686 : decode cL_isSound 686 = .ok (.iconst 1, 1) := by decide +kernel
theorem dL_isSound_687 : decode cL_isSound 687 = .ok (.goto 4, 3) := by decide +kernel
theorem dL_isSound_690 : decode cL_isSound 690 = .ok (.iconst 0, 1) := by decide +kernel
theorem dL_isSound_691 : decode cL_isSound 691 = .ok (.istore_n 1, 1) := by decide +kernel
theorem dL_isSound_692 : decode cL_isSound 692 = .ok (.iload_n 1, 1) := by decide +kernel
theorem dL_isSound_693 : decode cL_isSound 693 = .ok (.ifCond .eq 38, 3) := by decide +kernel
theorem dL_isSound_696 : decode cL_isSound 696 = .ok (.aload_n 0, 1) := by decide +kernel
theorem dL_isSound_697 : decode cL_isSound 697 = .ok (.iload 9, 2) := by decide +kernel
theorem dL_isSound_699 : decode cL_isSound 699 = .ok (.iconst 4, 1) := by decide +kernel
theorem dL_isSound_700 : decode cL_isSound 700 = .ok (.invokevirtual 38, 3) := by decide +kernel
theorem dL_isSound_703 : decode cL_isSound 703 = .ok (.aload_n 0, 1) := by decide +kernel
theorem dL_isSound_704 : decode cL_isSound 704 = .ok (.iload 9, 2) := by decide +kernel
theorem dL_isSound_706 : decode cL_isSound 706 = .ok (.iconst 3, 1) := by decide +kernel
theorem dL_isSound_707 : decode cL_isSound 707 = .ok (.invokevirtual 38, 3) := by decide +kernel
theorem dL_isSound_710 : decode cL_isSound 710 = .ok (.aload_n 0, 1) := by decide +kernel
theorem dL_isSound_711 : decode cL_isSound 711 = .ok (.bipush 22, 2) := by decide +kernel
theorem dL_isSound_713 : decode cL_isSound 713 = .ok (.invokevirtual 9, 3) := by decide +kernel
theorem dL_isSound_716 : decode cL_isSound 716 = .ok (.if_icmp .le 7, 3) := by decide +kernel
theorem dL_isSound_719 : decode cL_isSound 719 = .ok (.iconst 1, 1) := by decide +kernel
theorem dL_isSound_720 : decode cL_isSound 720 = .ok (.goto 4, 3) := by decide +kernel
theorem dL_isSound_723 : decode cL_isSound 723 = .ok (.iconst 0, 1) := by decide +kernel
theorem dL_isSound_724 : decode cL_isSound 724 = .ok (.if_icmp .ne 7, 3) := by decide +kernel
theorem dL_isSound_727 : decode cL_isSound 727 = .ok (.iconst 1, 1) := by decide +kernel
theorem dL_isSound_728 : decode cL_isSound 728 = .ok (.goto 4, 3) := by decide +kernel
theorem dL_isSound_731 : decode cL_isSound 731 = .ok (.iconst 0, 1) := by decide +kernel
theorem dL_isSound_732 : decode cL_isSound 732 = .ok (.istore_n 1, 1) := by decide +kernel
theorem dL_isSound_733 : decode cL_isSound 733 = .ok (.iinc 8 1, 3) := by decide +kernel
theorem dL_isSound_736 : decode cL_isSound 736 = .ok (.goto (-201), 3) := by decide +kernel
theorem dL_isSound_739 : decode cL_isSound 739 = .ok (.iload_n 1, 1) := by decide +kernel
theorem dL_isSound_740 : decode cL_isSound 740 = .ok (.ifCond .eq 78, 3) := by decide +kernel
theorem dL_isSound_743 : decode cL_isSound 743 = .ok (.iload 7, 2) := by decide +kernel
theorem dL_isSound_745 : decode cL_isSound 745 = .ok (.iconst 1, 1) := by decide +kernel
theorem dL_isSound_746 : decode cL_isSound 746 = .ok (.aload_n 0, 1) := by decide +kernel
theorem dL_isSound_747 : decode cL_isSound 747 = .ok (.iconst 0, 1) := by decide +kernel
theorem dL_isSound_748 : decode cL_isSound 748 = .ok (.invokevirtual 9, 3) := by decide +kernel
theorem dL_isSound_751 : decode cL_isSound 751 = .ok (.ishl, 1) := by decide +kernel
theorem dL_isSound_752 : decode cL_isSound 752 = .ok (.iconst 1, 1) := by decide +kernel
theorem dL_isSound_753 : decode cL_isSound 753 = .ok (.isub, 1) := by decide +kernel
theorem dL_isSound_754 : decode cL_isSound 754 = .ok (.if_icmp .ne 64, 3) := by decide +kernel
theorem dL_isSound_757 : decode cL_isSound 757 = .ok (.aload_n 0, 1) := by decide +kernel
theorem dL_isSound_758 : decode cL_isSound 758 = .ok (.aload_n 0, 1) := by decide +kernel
theorem dL_isSound_759 : decode cL_isSound 759 = .ok (.iconst 0, 1) := by decide +kernel
theorem dL_isSound_760 : decode cL_isSound 760 = .ok (.invokevirtual 9, 3) := by decide +kernel
theorem dL_isSound_763 : decode cL_isSound 763 = .ok (.invokevirtual 35, 3) := by decide +kernel
theorem dL_isSound_766 : decode cL_isSound 766 = .ok (.bipush (-4), 2) := by decide +kernel
theorem dL_isSound_768 : decode cL_isSound 768 = .ok (.if_icmp .ne 50, 3) := by decide +kernel
theorem dL_isSound_771 : decode cL_isSound 771 = .ok (.aload_n 0, 1) := by decide +kernel
theorem dL_isSound_772 : decode cL_isSound 772 = .ok (.aload_n 0, 1) := by decide +kernel
theorem dL_isSound_773 : decode cL_isSound 773 = .ok (.iconst 0, 1) := by decide +kernel
theorem dL_isSound_774 : decode cL_isSound 774 = .ok (.invokevirtual 9, 3) := by decide +kernel
theorem dL_isSound_777 : decode cL_isSound 777 = .ok (.iconst 0, 1) := by decide +kernel
theorem dL_isSound_778 : decode cL_isSound 778 = .ok (.invokevirtual 38, 3) := by decide +kernel
theorem dL_isSound_781 : decode cL_isSound 781 = .ok (.iconst (-1), 1) := by decide +kernel
theorem dL_isSound_782 : decode cL_isSound 782 = .ok (.if_icmp .ne 36, 3) := by decide +kernel
theorem dL_isSound_785 : decode cL_isSound 785 = .ok (.aload_n 0, 1) := by decide +kernel
theorem dL_isSound_786 : decode cL_isSound 786 = .ok (.aload_n 0, 1) := by decide +kernel
theorem dL_isSound_787 : decode cL_isSound 787 = .ok (.iconst 1, 1) := by decide +kernel
theorem dL_isSound_788 : decode cL_isSound 788 = .ok (.invokevirtual 9, 3) := by decide +kernel
theorem dL_isSound_791 : decode cL_isSound 791 = .ok (.iconst 0, 1) := by decide +kernel
theorem dL_isSound_792 : decode cL_isSound 792 = .ok (.invokevirtual 26, 3) := by decide +kernel
theorem dL_isSound_795 : decode cL_isSound 795 = .ok (.iconst (-1), 1) := by decide +kernel
theorem dL_isSound_796 : decode cL_isSound 796 = .ok (.if_icmp .ne 22, 3) := by decide +kernel
theorem dL_isSound_799 : decode cL_isSound 799 = .ok (.aload_n 0, 1) := by decide +kernel
theorem dL_isSound_800 : decode cL_isSound 800 = .ok (.aload_n 0, 1) := by decide +kernel
theorem dL_isSound_801 : decode cL_isSound 801 = .ok (.bipush 7, 2) := by decide +kernel
theorem dL_isSound_803 : decode cL_isSound 803 = .ok (.invokevirtual 9, 3) := by decide +kernel
theorem dL_isSound_806 : decode cL_isSound 806 = .ok (.iconst 0, 1) := by decide +kernel
theorem dL_isSound_807 : decode cL_isSound 807 = .ok (.invokevirtual 29, 3) := by decide +kernel
theorem dL_isSound_810 : decode cL_isSound 810 = .ok (.iconst (-1), 1) := by decide +kernel
theorem dL_isSound_811 : decode cL_isSound 811 = .ok (.if_icmp .ne 7, 3) := by decide +kernel
theorem dL_isSound_814 : decode cL_isSound 814 = .ok (.iconst 1, 1) := by decide +kernel
theorem dL_isSound_815 : decode cL_isSound 815 = .ok (.goto 4, 3) := by decide +kernel
theorem dL_isSound_818 : decode cL_isSound 818 = .ok (.iconst 0, 1) := by decide +kernel
theorem dL_isSound_819 : decode cL_isSound 819 = .ok (.ireturn, 1) := by decide +kernel
theorem dL_plans_0 : decode cL_plans 0 = .ok (.aload_n 0, 1) := by decide +kernel
theorem dL_plans_1 : decode cL_plans 1 = .ok (.iload_n 1, 1) := by decide +kernel
theorem dL_plans_2 : decode cL_plans 2 = .ok (.iload_n 2, 1) := by decide +kernel
theorem dL_plans_3 : decode cL_plans 3 = .ok (.iconst (-1), 1) := by decide +kernel
theorem dL_plans_4 : decode cL_plans 4 = .ok (.invokevirtual 41, 3) := by decide +kernel
theorem dL_plans_7 : decode cL_plans 7 = .ok (.istore_n 3, 1) := by decide +kernel
theorem dL_plans_8 : decode cL_plans 8 = .ok (.aload_n 0, 1) := by decide +kernel
theorem dL_plans_9 : decode cL_plans 9 = .ok (.iload_n 1, 1) := by decide +kernel
theorem dL_plans_10 : decode cL_plans 10 = .ok (.bipush 8, 2) := by decide +kernel
theorem dL_plans_12 : decode cL_plans 12 = .ok (.invokevirtual 26, 3) := by decide +kernel
theorem dL_plans_15 : decode cL_plans 15 = .ok (.ifCond .lt 15, 3) := by decide +kernel
theorem dL_plans_18 : decode cL_plans 18 = .ok (.iload_n 3, 1) := by decide +kernel
theorem dL_plans_19 : decode cL_plans 19 = .ok (.bipush (-2), 2) := by decide +kernel
theorem dL_plans_21 : decode cL_plans 21 = .ok (.if_icmp .ne 7, 3) := by decide +kernel
theorem dL_plans_24 : decode cL_plans 24 = .ok (.iconst 1, 1) := by decide +kernel
theorem dL_plans_25 : decode cL_plans 25 = .ok (.goto 4, 3) := by decide +kernel
theorem dL_plans_28 : decode cL_plans 28 = .ok (.iconst 0, 1) := by decide +kernel
theorem dL_plans_29 : decode cL_plans 29 = .ok (.ireturn, 1) := by decide +kernel
theorem dL_plans_30 : decode cL_plans 30 = .ok (.aload_n 0, 1) := by decide +kernel
theorem dL_plans_31 : decode cL_plans 31 = .ok (.iload_n 1, 1) := by decide +kernel
theorem dL_plans_32 : decode cL_plans 32 = .ok (.iconst 5, 1) := by decide +kernel
theorem dL_plans_33 : decode cL_plans 33 = .ok (.invokevirtual 26, 3) := by decide +kernel
theorem dL_plans_36 : decode cL_plans 36 = .ok (.iconst 1, 1) := by decide +kernel
theorem dL_plans_37 : decode cL_plans 37 = .ok (.if_icmp .ne 7, 3) := by decide +kernel
theorem dL_plans_40 : decode cL_plans 40 = .ok (.iconst 1, 1) := by decide +kernel
theorem dL_plans_41 : decode cL_plans 41 = .ok (.goto 4, 3) := by decide +kernel
theorem dL_plans_44 : decode cL_plans 44 = .ok (.iconst 0, 1) := by decide +kernel
theorem dL_plans_45 : decode cL_plans 45 = .ok (.istore 4, 2) := by decide +kernel
theorem dL_plans_47 : decode cL_plans 47 = .ok (.aload_n 0, 1) := by decide +kernel
theorem dL_plans_48 : decode cL_plans 48 = .ok (.iload_n 1, 1) := by decide +kernel
theorem dL_plans_49 : decode cL_plans 49 = .ok (.iload_n 2, 1) := by decide +kernel
theorem dL_plans_50 : decode cL_plans 50 = .ok (.iconst 0, 1) := by decide +kernel
theorem dL_plans_51 : decode cL_plans 51 = .ok (.invokevirtual 41, 3) := by decide +kernel
theorem dL_plans_54 : decode cL_plans 54 = .ok (.istore 5, 2) := by decide +kernel
theorem dL_plans_56 : decode cL_plans 56 = .ok (.aload_n 0, 1) := by decide +kernel
theorem dL_plans_57 : decode cL_plans 57 = .ok (.iload_n 1, 1) := by decide +kernel
theorem dL_plans_58 : decode cL_plans 58 = .ok (.iload_n 2, 1) := by decide +kernel
theorem dL_plans_59 : decode cL_plans 59 = .ok (.iconst 1, 1) := by decide +kernel
theorem dL_plans_60 : decode cL_plans 60 = .ok (.invokevirtual 41, 3) := by decide +kernel
theorem dL_plans_63 : decode cL_plans 63 = .ok (.istore 6, 2) := by decide +kernel
theorem dL_plans_65 : decode cL_plans 65 = .ok (.aload_n 0, 1) := by decide +kernel
theorem dL_plans_66 : decode cL_plans 66 = .ok (.iload_n 1, 1) := by decide +kernel
theorem dL_plans_67 : decode cL_plans 67 = .ok (.iload_n 2, 1) := by decide +kernel
theorem dL_plans_68 : decode cL_plans 68 = .ok (.iconst 2, 1) := by decide +kernel
theorem dL_plans_69 : decode cL_plans 69 = .ok (.invokevirtual 41, 3) := by decide +kernel
theorem dL_plans_72 : decode cL_plans 72 = .ok (.istore 7, 2) := by decide +kernel
theorem dL_plans_74 : decode cL_plans 74 = .ok (.aload_n 0, 1) := by decide +kernel
theorem dL_plans_75 : decode cL_plans 75 = .ok (.iload_n 1, 1) := by decide +kernel
theorem dL_plans_76 : decode cL_plans 76 = .ok (.iload_n 2, 1) := by decide +kernel
theorem dL_plans_77 : decode cL_plans 77 = .ok (.iconst 3, 1) := by decide +kernel
theorem dL_plans_78 : decode cL_plans 78 = .ok (.invokevirtual 41, 3) := by decide +kernel
theorem dL_plans_81 : decode cL_plans 81 = .ok (.istore 8, 2) := by decide +kernel
theorem dL_plans_83 : decode cL_plans 83 = .ok (.iload_n 3, 1) := by decide +kernel
theorem dL_plans_84 : decode cL_plans 84 = .ok (.iconst 4, 1) := by decide +kernel
theorem dL_plans_85 : decode cL_plans 85 = .ok (.if_icmp .gt 115, 3) := by decide +kernel
theorem dL_plans_88 : decode cL_plans 88 = .ok (.iload_n 3, 1) := by decide +kernel
theorem dL_plans_89 : decode cL_plans 89 = .ok (.iconst (-1), 1) := by decide +kernel
theorem dL_plans_90 : decode cL_plans 90 = .ok (.if_icmp .eq 110, 3) := by decide +kernel
theorem dL_plans_93 : decode cL_plans 93 = .ok (.iload_n 3, 1) := by decide +kernel
theorem dL_plans_94 : decode cL_plans 94 = .ok (.ifCond .le 7, 3) := by decide +kernel
theorem dL_plans_97 : decode cL_plans 97 = .ok (.iconst 1, 1) := by decide +kernel
theorem dL_plans_98 : decode cL_plans 98 = .ok (.goto 4, 3) := by decide +kernel
theorem dL_plans_101 : decode cL_plans 101 = .ok (.iconst 0, 1) := by decide +kernel
theorem dL_plans_102 : decode cL_plans 102 = .ok (.iload 5, 2) := by decide +kernel
theorem dL_plans_104 : decode cL_plans 104 = .ok (.ifCond .lt 7, 3) := by decide +kernel
theorem dL_plans_107 : decode cL_plans 107 = .ok (.iconst 1, 1) := by decide +kernel
theorem dL_plans_108 : decode cL_plans 108 = .ok (.goto 4, 3) := by decide +kernel
theorem dL_plans_111 : decode cL_plans 111 = .ok (.iconst 0, 1) := by decide +kernel
theorem dL_plans_112 : decode cL_plans 112 = .ok (.if_icmp .ne 88, 3) := by decide +kernel
theorem dL_plans_115 : decode cL_plans 115 = .ok (.iload_n 3, 1) := by decide +kernel
theorem dL_plans_116 : decode cL_plans 116 = .ok (.iconst 1, 1) := by decide +kernel
theorem dL_plans_117 : decode cL_plans 117 = .ok (.if_icmp .le 7, 3) := by decide +kernel
theorem dL_plans_120 : decode cL_plans 120 = .ok (.iconst 1, 1) := by decide +kernel
theorem dL_plans_121 : decode cL_plans 121 = .ok (.goto 4, 3) := by decide +kernel
theorem dL_plans_124 : decode cL_plans 124 = .ok (.iconst 0, 1) := by decide +kernel
theorem dL_plans_125 : decode cL_plans 125 = .ok (.iload 6, 2) := by decide +kernel
theorem dL_plans_127 : decode cL_plans 127 = .ok (.ifCond .lt 7, 3) := by decide +kernel
theorem dL_plans_130 : decode cL_plans 130 = .ok (.iconst 1, 1) := by decide +kernel
theorem dL_plans_131 : decode cL_plans 131 = .ok (.goto 4, 3) := by decide +kernel
theorem dL_plans_134 : decode cL_plans 134 = .ok (.iconst 0, 1) := by decide +kernel
theorem dL_plans_135 : decode cL_plans 135 = .ok (.if_icmp .ne 65, 3) := by decide +kernel
theorem dL_plans_138 : decode cL_plans 138 = .ok (.iload_n 3, 1) := by decide +kernel
theorem dL_plans_139 : decode cL_plans 139 = .ok (.iconst 2, 1) := by decide +kernel
theorem dL_plans_140 : decode cL_plans 140 = .ok (.if_icmp .le 7, 3) := by decide +kernel
theorem dL_plans_143 : decode cL_plans 143 = .ok (.iconst 1, 1) := by decide +kernel
theorem dL_plans_144 : decode cL_plans 144 = .ok (.goto 4, 3) := by decide +kernel
theorem dL_plans_147 : decode cL_plans 147 = .ok (.iconst 0, 1) := by decide +kernel
theorem dL_plans_148 : decode cL_plans 148 = .ok (.iload 7, 2) := by decide +kernel
theorem dL_plans_150 : decode cL_plans 150 = .ok (.ifCond .lt 7, 3) := by decide +kernel
theorem dL_plans_153 : decode cL_plans 153 = .ok (.iconst 1, 1) := by decide +kernel
theorem dL_plans_154 : decode cL_plans 154 = .ok (.goto 4, 3) := by decide +kernel
theorem dL_plans_157 : decode cL_plans 157 = .ok (.iconst 0, 1) := by decide +kernel
theorem dL_plans_158 : decode cL_plans 158 = .ok (.if_icmp .ne 42, 3) := by decide +kernel
theorem dL_plans_161 : decode cL_plans 161 = .ok (.iload_n 3, 1) := by decide +kernel
theorem dL_plans_162 : decode cL_plans 162 = .ok (.iconst 3, 1) := by decide +kernel
theorem dL_plans_163 : decode cL_plans 163 = .ok (.if_icmp .le 7, 3) := by decide +kernel
theorem dL_plans_166 : decode cL_plans 166 = .ok (.iconst 1, 1) := by decide +kernel
theorem dL_plans_167 : decode cL_plans 167 = .ok (.goto 4, 3) := by decide +kernel
theorem dL_plans_170 : decode cL_plans 170 = .ok (.iconst 0, 1) := by decide +kernel
theorem dL_plans_171 : decode cL_plans 171 = .ok (.iload 8, 2) := by decide +kernel
theorem dL_plans_173 : decode cL_plans 173 = .ok (.ifCond .lt 7, 3) := by decide +kernel
theorem dL_plans_176 : decode cL_plans 176 = .ok (.iconst 1, 1) := by decide +kernel
theorem dL_plans_177 : decode cL_plans 177 = .ok (.goto 4, 3) := by decide +kernel
theorem dL_plans_180 : decode cL_plans 180 = .ok (.iconst 0, 1) := by decide +kernel
theorem dL_plans_181 : decode cL_plans 181 = .ok (.if_icmp .ne 19, 3) := by decide +kernel
theorem dL_plans_184 : decode cL_plans 184 = .ok (.aload_n 0, 1) := by decide +kernel
theorem dL_plans_185 : decode cL_plans 185 = .ok (.iload_n 1, 1) := by decide +kernel
theorem dL_plans_186 : decode cL_plans 186 = .ok (.iload_n 2, 1) := by decide +kernel
theorem dL_plans_187 : decode cL_plans 187 = .ok (.iconst 4, 1) := by decide +kernel
theorem dL_plans_188 : decode cL_plans 188 = .ok (.invokevirtual 41, 3) := by decide +kernel
theorem dL_plans_191 : decode cL_plans 191 = .ok (.bipush (-4), 2) := by decide +kernel
theorem dL_plans_193 : decode cL_plans 193 = .ok (.if_icmp .ne 7, 3) := by decide +kernel
theorem dL_plans_196 : decode cL_plans 196 = .ok (.iconst 1, 1) := by decide +kernel
theorem dL_plans_197 : decode cL_plans 197 = .ok (.goto 4, 3) := by decide +kernel
theorem dL_plans_200 : decode cL_plans 200 = .ok (.iconst 0, 1) := by decide +kernel
theorem dL_plans_201 : decode cL_plans 201 = .ok (.istore 9, 2) := by decide +kernel
theorem dL_plans_203 : decode cL_plans 203 = .ok (.iload 9, 2) := by decide +kernel
theorem dL_plans_205 : decode cL_plans 205 = .ok (.ifCond .eq 20, 3) := by decide +kernel
theorem dL_plans_208 : decode cL_plans 208 = .ok (.iload 4, 2) := by decide +kernel
theorem dL_plans_210 : decode cL_plans 210 = .ok (.ifCond .eq 11, 3) := by decide +kernel
theorem dL_plans_213 : decode cL_plans 213 = .ok (.aload_n 0, 1) := by decide +kernel
theorem dL_plans_214 : decode cL_plans 214 = .ok (.iload_n 1, 1) := by decide +kernel
theorem dL_plans_215 : decode cL_plans 215 = .ok (.invokevirtual 45, 3) := by decide +kernel
theorem dL_plans_218 : decode cL_plans 218 = .ok (.ifCond .lt 7, 3) := by decide +kernel
theorem dL_plans_221 : decode cL_plans 221 = .ok (.iconst 1, 1) := by decide +kernel
theorem dL_plans_222 : decode cL_plans 222 = .ok (.goto 4, 3) := by decide +kernel
theorem dL_plans_225 : decode cL_plans 225 = .ok (.iconst 0, 1) := by decide +kernel
theorem dL_plans_226 : decode cL_plans 226 = .ok (.istore 9, 2) := by decide +kernel
theorem dL_plans_228 : decode cL_plans 228 = .ok (.aload_n 0, 1) := by decide +kernel
theorem dL_plans_229 : decode cL_plans 229 = .ok (.iload_n 2, 1) := by decide +kernel
theorem dL_plans_230 : decode cL_plans 230 = .ok (.iconst 5, 1) := by decide +kernel
theorem dL_plans_231 : decode cL_plans 231 = .ok (.invokevirtual 29, 3) := by decide +kernel
theorem dL_plans_234 : decode cL_plans 234 = .ok (.istore 10, 2) := by decide +kernel
theorem dL_plans_236 : decode cL_plans 236 = .ok (.iconst 0, 1) := by decide +kernel
theorem dL_plans_237 : decode cL_plans 237 = .ok (.istore 11, 2) := by decide +kernel
theorem dL_plans_239 : decode cL_plans 239 = .ok (.iload 11, 2) := by decide +kernel
theorem dL_plans_241 : decode cL_plans 241 = .ok (.aload_n 0, 1) := by decide +kernel
theorem dL_plans_242 : decode cL_plans 242 = .ok (.iconst 0, 1) := by decide +kernel
theorem dL_plans_243 : decode cL_plans 243 = .ok (.invokevirtual 9, 3) := by decide +kernel
theorem dL_plans_246 : decode cL_plans 246 = .ok (.if_icmp .ge 64, 3) := by decide +kernel
theorem dL_plans_249 : decode cL_plans 249 = .ok (.iload 9, 2) := by decide +kernel
theorem dL_plans_251 : decode cL_plans 251 = .ok (.ifCond .eq 59, 3) := by decide +kernel
theorem dL_plans_254 : decode cL_plans 254 = .ok (.iload_n 3, 1) := by decide +kernel
theorem dL_plans_255 : decode cL_plans 255 = .ok (.iconst 1, 1) := by decide +kernel
theorem dL_plans_256 : decode cL_plans 256 = .ok (.if_icmp .le 54, 3) := by decide +kernel
theorem dL_plans_259 : decode cL_plans 259 = .ok (.aload_n 0, 1) := by decide +kernel
theorem dL_plans_260 : decode cL_plans 260 = .ok (.iload 11, 2) := by decide +kernel
theorem dL_plans_262 : decode cL_plans 262 = .ok (.iconst 2, 1) := by decide +kernel
theorem dL_plans_263 : decode cL_plans 263 = .ok (.invokevirtual 38, 3) := by decide +kernel
theorem dL_plans_266 : decode cL_plans 266 = .ok (.ifCond .le 38, 3) := by decide +kernel
theorem dL_plans_269 : decode cL_plans 269 = .ok (.aload_n 0, 1) := by decide +kernel
theorem dL_plans_270 : decode cL_plans 270 = .ok (.iload_n 1, 1) := by decide +kernel
theorem dL_plans_271 : decode cL_plans 271 = .ok (.iload 11, 2) := by decide +kernel
theorem dL_plans_273 : decode cL_plans 273 = .ok (.invokevirtual 48, 3) := by decide +kernel
theorem dL_plans_276 : decode cL_plans 276 = .ok (.ifCond .lt 25, 3) := by decide +kernel
theorem dL_plans_279 : decode cL_plans 279 = .ok (.aload_n 0, 1) := by decide +kernel
theorem dL_plans_280 : decode cL_plans 280 = .ok (.iload_n 2, 1) := by decide +kernel
theorem dL_plans_281 : decode cL_plans 281 = .ok (.iconst 5, 1) := by decide +kernel
theorem dL_plans_282 : decode cL_plans 282 = .ok (.invokevirtual 29, 3) := by decide +kernel
theorem dL_plans_285 : decode cL_plans 285 = .ok (.iload 10, 2) := by decide +kernel
theorem dL_plans_287 : decode cL_plans 287 = .ok (.if_icmp .ne 14, 3) := by decide +kernel
theorem dL_plans_290 : decode cL_plans 290 = .ok (.aload_n 0, 1) := by decide +kernel
theorem dL_plans_291 : decode cL_plans 291 = .ok (.invokevirtual 51, 3) := by decide +kernel
theorem dL_plans_294 : decode cL_plans 294 = .ok (.ifCond .lt 7, 3) := by decide +kernel
theorem dL_plans_297 : decode cL_plans 297 = .ok (.iconst 1, 1) := by decide +kernel
theorem dL_plans_298 : decode cL_plans 298 = .ok (.goto 4, 3) := by decide +kernel
theorem dL_plans_301 : decode cL_plans 301 = .ok (.iconst 0, 1) := by decide +kernel
theorem dL_plans_302 : decode cL_plans 302 = .ok (.istore 9, 2) := by decide +kernel
theorem dL_plans_304 : decode cL_plans 304 = .ok (.iinc 11 1, 3) := by decide +kernel
theorem dL_plans_307 : decode cL_plans 307 = .ok (.goto (-68), 3) := by decide +kernel
theorem dL_plans_310 : decode cL_plans 310 = .ok (.iconst 0, 1) := by decide +kernel
theorem dL_plans_311 : decode cL_plans 311 = .ok (.istore 11, 2) := by decide +kernel
theorem dL_plans_313 : decode cL_plans 313 = .ok (.iload 11, 2) := by decide +kernel
theorem dL_plans_315 : decode cL_plans 315 = .ok (.iload_n 3, 1) := by decide +kernel
theorem dL_plans_316 : decode cL_plans 316 = .ok (.if_icmp .ge 78, 3) := by decide +kernel
theorem dL_plans_319 : decode cL_plans 319 = .ok (.iload 9, 2) := by decide +kernel
theorem dL_plans_321 : decode cL_plans 321 = .ok (.ifCond .eq 73, 3) := by decide +kernel
theorem dL_plans_324 : decode cL_plans 324 = .ok (.iload 11, 2) := by decide +kernel
theorem dL_plans_326 : decode cL_plans 326 = .ok (.ifCond .ne 8, 3) := by decide +kernel
theorem dL_plans_329 : decode cL_plans 329 = .ok (.iload 5, 2) := by decide +kernel
theorem dL_plans_331 : decode cL_plans 331 = .ok (.goto 27, 3) := by decide +kernel
theorem dL_plans_334 : decode cL_plans 334 = .ok (.iload 11, 2) := by decide +kernel
theorem dL_plans_336 : decode cL_plans 336 = .ok (.iconst 1, 1) := by decide +kernel
theorem dL_plans_337 : decode cL_plans 337 = .ok (.if_icmp .ne 8, 3) := by decide +kernel
theorem dL_plans_340 : decode cL_plans 340 = .ok (.iload 6, 2) := by decide +kernel
theorem dL_plans_342 : decode cL_plans 342 = .ok (.goto 16, 3) := by decide +kernel
theorem dL_plans_345 : decode cL_plans 345 = .ok (.iload 11, 2) := by decide +kernel
theorem dL_plans_347 : decode cL_plans 347 = .ok (.iconst 2, 1) := by decide +kernel
theorem dL_plans_348 : decode cL_plans 348 = .ok (.if_icmp .ne 8, 3) := by decide +kernel
theorem dL_plans_351 : decode cL_plans 351 = .ok (.iload 7, 2) := by decide +kernel
theorem dL_plans_353 : decode cL_plans 353 = .ok (.goto 5, 3) := by decide +kernel
theorem dL_plans_356 : decode cL_plans 356 = .ok (.iload 8, 2) := by decide +kernel
theorem dL_plans_358 : decode cL_plans 358 = .ok (.istore 12, 2) := by decide +kernel
theorem dL_plans_360 : decode cL_plans 360 = .ok (.aload_n 0, 1) := by decide +kernel
theorem dL_plans_361 : decode cL_plans 361 = .ok (.iload_n 2, 1) := by decide +kernel
theorem dL_plans_362 : decode cL_plans 362 = .ok (.iconst 5, 1) := by decide +kernel
theorem dL_plans_363 : decode cL_plans 363 = .ok (.invokevirtual 29, 3) := by decide +kernel
theorem dL_plans_366 : decode cL_plans 366 = .ok (.iload 10, 2) := by decide +kernel
theorem dL_plans_368 : decode cL_plans 368 = .ok (.if_icmp .ne 17, 3) := by decide +kernel
theorem dL_plans_371 : decode cL_plans 371 = .ok (.aload_n 0, 1) := by decide +kernel
theorem dL_plans_372 : decode cL_plans 372 = .ok (.iload_n 1, 1) := by decide +kernel
theorem dL_plans_373 : decode cL_plans 373 = .ok (.iload 12, 2) := by decide +kernel
theorem dL_plans_375 : decode cL_plans 375 = .ok (.invokevirtual 48, 3) := by decide +kernel
theorem dL_plans_378 : decode cL_plans 378 = .ok (.ifCond .lt 7, 3) := by decide +kernel
theorem dL_plans_381 : decode cL_plans 381 = .ok (.iconst 1, 1) := by decide +kernel
theorem dL_plans_382 : decode cL_plans 382 = .ok (.goto 4, 3) := by decide +kernel
theorem dL_plans_385 : decode cL_plans 385 = .ok (.iconst 0, 1) := by decide +kernel
theorem dL_plans_386 : decode cL_plans 386 = .ok (.istore 9, 2) := by decide +kernel
theorem dL_plans_388 : decode cL_plans 388 = .ok (.iinc 11 1, 3) := by decide +kernel
theorem dL_plans_391 : decode cL_plans 391 = .ok (.goto (-78), 3) := by decide +kernel
theorem dL_plans_394 : decode cL_plans 394 = .ok (.iload 9, 2) := by decide +kernel
theorem dL_plans_396 : decode cL_plans 396 = .ok (.ifCond .eq 35, 3) := by decide +kernel
theorem dL_plans_399 : decode cL_plans 399 = .ok (.iload_n 3, 1) := by decide +kernel
theorem dL_plans_400 : decode cL_plans 400 = .ok (.iconst 1, 1) := by decide +kernel
theorem dL_plans_401 : decode cL_plans 401 = .ok (.if_icmp .lt 26, 3) := by decide +kernel
theorem dL_plans_404 : decode cL_plans 404 = .ok (.aload_n 0, 1) := by decide +kernel
theorem dL_plans_405 : decode cL_plans 405 = .ok (.iload_n 2, 1) := by decide +kernel
theorem dL_plans_406 : decode cL_plans 406 = .ok (.iconst 5, 1) := by decide +kernel
theorem dL_plans_407 : decode cL_plans 407 = .ok (.invokevirtual 29, 3) := by decide +kernel
theorem dL_plans_410 : decode cL_plans 410 = .ok (.iload 10, 2) := by decide +kernel
theorem dL_plans_412 : decode cL_plans 412 = .ok (.iconst 1, 1) := by decide +kernel
theorem dL_plans_413 : decode cL_plans 413 = .ok (.iadd, 1) := by decide +kernel
theorem dL_plans_414 : decode cL_plans 414 = .ok (.if_icmp .ne 17, 3) := by decide +kernel
theorem dL_plans_417 : decode cL_plans 417 = .ok (.aload_n 0, 1) := by decide +kernel
theorem dL_plans_418 : decode cL_plans 418 = .ok (.iload_n 1, 1) := by decide +kernel
theorem dL_plans_419 : decode cL_plans 419 = .ok (.bipush 6, 2) := by decide +kernel
theorem dL_plans_421 : decode cL_plans 421 = .ok (.invokevirtual 26, 3) := by decide +kernel
theorem dL_plans_424 : decode cL_plans 424 = .ok (.ifCond .ne 7, 3) := by decide +kernel
theorem dL_plans_427 : decode cL_plans 427 = .ok (.iconst 1, 1) := by decide +kernel
theorem dL_plans_428 : decode cL_plans 428 = .ok (.goto 4, 3) := by decide +kernel
theorem dL_plans_431 : decode cL_plans 431 = .ok (.iconst 0, 1) := by decide +kernel
theorem dL_plans_432 : decode cL_plans 432 = .ok (.ireturn, 1) := by decide +kernel
theorem dL_takes_0 : decode cL_takes 0 = .ok (.aload_n 0, 1) := by decide +kernel
theorem dL_takes_1 : decode cL_takes 1 = .ok (.iload_n 1, 1) := by decide +kernel
theorem dL_takes_2 : decode cL_takes 2 = .ok (.iload_n 2, 1) := by decide +kernel
theorem dL_takes_3 : decode cL_takes 3 = .ok (.iload_n 3, 1) := by decide +kernel
theorem dL_takes_4 : decode cL_takes 4 = .ok (.invokevirtual 55, 3) := by decide +kernel
theorem dL_takes_7 : decode cL_takes 7 = .ok (.istore 4, 2) := by decide +kernel
theorem dL_takes_9 : decode cL_takes 9 = .ok (.aload_n 0, 1) := by decide +kernel
theorem dL_takes_10 : decode cL_takes 10 = .ok (.iload_n 1, 1) := by decide +kernel
theorem dL_takes_11 : decode cL_takes 11 = .ok (.bipush 8, 2) := by decide +kernel
theorem dL_takes_13 : decode cL_takes 13 = .ok (.invokevirtual 26, 3) := by decide +kernel
theorem dL_takes_16 : decode cL_takes 16 = .ok (.ifCond .lt 37, 3) := by decide +kernel
theorem dL_takes_19 : decode cL_takes 19 = .ok (.iload 4, 2) := by decide +kernel
theorem dL_takes_21 : decode cL_takes 21 = .ok (.bipush (-2), 2) := by decide +kernel
theorem dL_takes_23 : decode cL_takes 23 = .ok (.if_icmp .ne 28, 3) := by decide +kernel
theorem dL_takes_26 : decode cL_takes 26 = .ok (.aload_n 0, 1) := by decide +kernel
theorem dL_takes_27 : decode cL_takes 27 = .ok (.iload_n 1, 1) := by decide +kernel
theorem dL_takes_28 : decode cL_takes 28 = .ok (.iload_n 2, 1) := by decide +kernel
theorem dL_takes_29 : decode cL_takes 29 = .ok (.invokevirtual 48, 3) := by decide +kernel
theorem dL_takes_32 : decode cL_takes 32 = .ok (.bipush (-2), 2) := by decide +kernel
theorem dL_takes_34 : decode cL_takes 34 = .ok (.if_icmp .ne 17, 3) := by decide +kernel
theorem dL_takes_37 : decode cL_takes 37 = .ok (.aload_n 0, 1) := by decide +kernel
theorem dL_takes_38 : decode cL_takes 38 = .ok (.iload_n 1, 1) := by decide +kernel
theorem dL_takes_39 : decode cL_takes 39 = .ok (.invokevirtual 58, 3) := by decide +kernel
theorem dL_takes_42 : decode cL_takes 42 = .ok (.bipush (-2), 2) := by decide +kernel
theorem dL_takes_44 : decode cL_takes 44 = .ok (.if_icmp .ne 7, 3) := by decide +kernel
theorem dL_takes_47 : decode cL_takes 47 = .ok (.iconst 1, 1) := by decide +kernel
theorem dL_takes_48 : decode cL_takes 48 = .ok (.goto 4, 3) := by decide +kernel
theorem dL_takes_51 : decode cL_takes 51 = .ok (.iconst 0, 1) := by decide +kernel
theorem dL_takes_52 : decode cL_takes 52 = .ok (.ireturn, 1) := by decide +kernel
theorem dL_takes_53 : decode cL_takes 53 = .ok (.aload_n 0, 1) := by decide +kernel
theorem dL_takes_54 : decode cL_takes 54 = .ok (.iload_n 1, 1) := by decide +kernel
theorem dL_takes_55 : decode cL_takes 55 = .ok (.iconst 5, 1) := by decide +kernel
theorem dL_takes_56 : decode cL_takes 56 = .ok (.invokevirtual 26, 3) := by decide +kernel
theorem dL_takes_59 : decode cL_takes 59 = .ok (.iconst 1, 1) := by decide +kernel
theorem dL_takes_60 : decode cL_takes 60 = .ok (.if_icmp .ne 59, 3) := by decide +kernel
theorem dL_takes_63 : decode cL_takes 63 = .ok (.iload 4, 2) := by decide +kernel
theorem dL_takes_65 : decode cL_takes 65 = .ok (.ifCond .lt 52, 3) := by decide +kernel
theorem dL_takes_68 : decode cL_takes 68 = .ok (.aload_n 0, 1) := by decide +kernel
theorem dL_takes_69 : decode cL_takes 69 = .ok (.iload_n 1, 1) := by decide +kernel
theorem dL_takes_70 : decode cL_takes 70 = .ok (.iload_n 2, 1) := by decide +kernel
theorem dL_takes_71 : decode cL_takes 71 = .ok (.invokevirtual 48, 3) := by decide +kernel
theorem dL_takes_74 : decode cL_takes 74 = .ok (.bipush (-2), 2) := by decide +kernel
theorem dL_takes_76 : decode cL_takes 76 = .ok (.if_icmp .ne 41, 3) := by decide +kernel
theorem dL_takes_79 : decode cL_takes 79 = .ok (.aload_n 0, 1) := by decide +kernel
theorem dL_takes_80 : decode cL_takes 80 = .ok (.iload_n 1, 1) := by decide +kernel
theorem dL_takes_81 : decode cL_takes 81 = .ok (.invokevirtual 58, 3) := by decide +kernel
theorem dL_takes_84 : decode cL_takes 84 = .ok (.bipush (-2), 2) := by decide +kernel
theorem dL_takes_86 : decode cL_takes 86 = .ok (.if_icmp .ne 31, 3) := by decide +kernel
theorem dL_takes_89 : decode cL_takes 89 = .ok (.aload_n 0, 1) := by decide +kernel
theorem dL_takes_90 : decode cL_takes 90 = .ok (.iload_n 1, 1) := by decide +kernel
theorem dL_takes_91 : decode cL_takes 91 = .ok (.aload_n 0, 1) := by decide +kernel
theorem dL_takes_92 : decode cL_takes 92 = .ok (.iload_n 1, 1) := by decide +kernel
theorem dL_takes_93 : decode cL_takes 93 = .ok (.iconst 0, 1) := by decide +kernel
theorem dL_takes_94 : decode cL_takes 94 = .ok (.invokevirtual 26, 3) := by decide +kernel
theorem dL_takes_97 : decode cL_takes 97 = .ok (.invokevirtual 61, 3) := by decide +kernel
theorem dL_takes_100 : decode cL_takes 100 = .ok (.bipush (-2), 2) := by decide +kernel
theorem dL_takes_102 : decode cL_takes 102 = .ok (.if_icmp .ne 15, 3) := by decide +kernel
theorem dL_takes_105 : decode cL_takes 105 = .ok (.aload_n 0, 1) := by decide +kernel
theorem dL_takes_106 : decode cL_takes 106 = .ok (.iload_n 1, 1) := by decide +kernel
theorem dL_takes_107 : decode cL_takes 107 = .ok (.invokevirtual 45, 3) := by decide +kernel
theorem dL_takes_110 : decode cL_takes 110 = .ok (.ifCond .lt 7, 3) := by decide +kernel
theorem dL_takes_113 : decode cL_takes 113 = .ok (.iconst 1, 1) := by decide +kernel
theorem dL_takes_114 : decode cL_takes 114 = .ok (.goto 4, 3) := by decide +kernel
theorem dL_takes_117 : decode cL_takes 117 = .ok (.iconst 0, 1) := by decide +kernel
theorem dL_takes_118 : decode cL_takes 118 = .ok (.ireturn, 1) := by decide +kernel
theorem dL_takes_119 : decode cL_takes 119 = .ok (.aload_n 0, 1) := by decide +kernel
theorem dL_takes_120 : decode cL_takes 120 = .ok (.iload_n 1, 1) := by decide +kernel
theorem dL_takes_121 : decode cL_takes 121 = .ok (.iconst 3, 1) := by decide +kernel
theorem dL_takes_122 : decode cL_takes 122 = .ok (.invokevirtual 26, 3) := by decide +kernel
theorem dL_takes_125 : decode cL_takes 125 = .ok (.aload_n 0, 1) := by decide +kernel
theorem dL_takes_126 : decode cL_takes 126 = .ok (.iload_n 1, 1) := by decide +kernel
theorem dL_takes_127 : decode cL_takes 127 = .ok (.iconst 4, 1) := by decide +kernel
theorem dL_takes_128 : decode cL_takes 128 = .ok (.invokevirtual 26, 3) := by decide +kernel
theorem dL_takes_131 : decode cL_takes 131 = .ok (.iadd, 1) := by decide +kernel
theorem dL_takes_132 : decode cL_takes 132 = .ok (.istore 5, 2) := by decide +kernel
theorem dL_takes_134 : decode cL_takes 134 = .ok (.iconst 0, 1) := by decide +kernel
theorem dL_takes_135 : decode cL_takes 135 = .ok (.istore 6, 2) := by decide +kernel
theorem dL_takes_137 : decode cL_takes 137 = .ok (.iconst 0, 1) := by decide +kernel
theorem dL_takes_138 : decode cL_takes 138 = .ok (.istore 7, 2) := by decide +kernel
theorem dL_takes_140 : decode cL_takes 140 = .ok (.iload 7, 2) := by decide +kernel
theorem dL_takes_142 : decode cL_takes 142 = .ok (.iload_n 3, 1) := by decide +kernel
theorem dL_takes_143 : decode cL_takes 143 = .ok (.if_icmp .ge 29, 3) := by decide +kernel
theorem dL_takes_146 : decode cL_takes 146 = .ok (.aload_n 0, 1) := by decide +kernel
theorem dL_takes_147 : decode cL_takes 147 = .ok (.iload_n 2, 1) := by decide +kernel
theorem dL_takes_148 : decode cL_takes 148 = .ok (.iconst 2, 1) := by decide +kernel
theorem dL_takes_149 : decode cL_takes 149 = .ok (.invokevirtual 38, 3) := by decide +kernel
theorem dL_takes_152 : decode cL_takes 152 = .ok (.ifCond .le 20, 3) := by decide +kernel
theorem dL_takes_155 : decode cL_takes 155 = .ok (.iload 6, 2) := by decide +kernel
theorem dL_takes_157 : decode cL_takes 157 = .ok (.aload_n 0, 1) := by decide +kernel
theorem dL_takes_158 : decode cL_takes 158 = .ok (.iload_n 1, 1) := by decide +kernel
theorem dL_takes_159 : decode cL_takes 159 = .ok (.iload_n 2, 1) := by decide +kernel
theorem dL_takes_160 : decode cL_takes 160 = .ok (.invokevirtual 48, 3) := by decide +kernel
theorem dL_takes_163 : decode cL_takes 163 = .ok (.iadd, 1) := by decide +kernel
theorem dL_takes_164 : decode cL_takes 164 = .ok (.istore 6, 2) := by decide +kernel
theorem dL_takes_166 : decode cL_takes 166 = .ok (.iinc 7 1, 3) := by decide +kernel
theorem dL_takes_169 : decode cL_takes 169 = .ok (.goto (-29), 3) := by decide +kernel
theorem dL_takes_172 : decode cL_takes 172 = .ok (.iload 4, 2) := by decide +kernel
theorem dL_takes_174 : decode cL_takes 174 = .ok (.iload 6, 2) := by decide +kernel
theorem dL_takes_176 : decode cL_takes 176 = .ok (.if_icmp .ne 38, 3) := by decide +kernel
theorem dL_takes_179 : decode cL_takes 179 = .ok (.aload_n 0, 1) := by decide +kernel
theorem dL_takes_180 : decode cL_takes 180 = .ok (.iload_n 1, 1) := by decide +kernel
theorem dL_takes_181 : decode cL_takes 181 = .ok (.iconst 3, 1) := by decide +kernel
theorem dL_takes_182 : decode cL_takes 182 = .ok (.invokevirtual 26, 3) := by decide +kernel
theorem dL_takes_185 : decode cL_takes 185 = .ok (.aload_n 0, 1) := by decide +kernel
theorem dL_takes_186 : decode cL_takes 186 = .ok (.iload_n 1, 1) := by decide +kernel
theorem dL_takes_187 : decode cL_takes 187 = .ok (.iconst 4, 1) := by decide +kernel
theorem dL_takes_188 : decode cL_takes 188 = .ok (.invokevirtual 26, 3) := by decide +kernel
theorem dL_takes_191 : decode cL_takes 191 = .ok (.iadd, 1) := by decide +kernel
theorem dL_takes_192 : decode cL_takes 192 = .ok (.iload 5, 2) := by decide +kernel
theorem dL_takes_194 : decode cL_takes 194 = .ok (.iload 6, 2) := by decide +kernel
theorem dL_takes_196 : decode cL_takes 196 = .ok (.iadd, 1) := by decide +kernel
theorem dL_takes_197 : decode cL_takes 197 = .ok (.if_icmp .ne 17, 3) := by decide +kernel
theorem dL_takes_200 : decode cL_takes 200 = .ok (.aload_n 0, 1) := by decide +kernel
theorem dL_takes_201 : decode cL_takes 201 = .ok (.iload_n 1, 1) := by decide +kernel
theorem dL_takes_202 : decode cL_takes 202 = .ok (.invokevirtual 45, 3) := by decide +kernel
theorem dL_takes_205 : decode cL_takes 205 = .ok (.bipush (-2), 2) := by decide +kernel
theorem dL_takes_207 : decode cL_takes 207 = .ok (.if_icmp .ne 7, 3) := by decide +kernel
theorem dL_takes_210 : decode cL_takes 210 = .ok (.iconst 1, 1) := by decide +kernel
theorem dL_takes_211 : decode cL_takes 211 = .ok (.goto 4, 3) := by decide +kernel
theorem dL_takes_214 : decode cL_takes 214 = .ok (.iconst 0, 1) := by decide +kernel
theorem dL_takes_215 : decode cL_takes 215 = .ok (.ireturn, 1) := by decide +kernel
theorem dL_number_0 : decode cL_number 0 = .ok (.iload_n 1, 1) := by decide +kernel
theorem dL_number_1 : decode cL_number 1 = .ok (.bipush 9, 2) := by decide +kernel
theorem dL_number_3 : decode cL_number 3 = .ok (.if_icmp .le 15, 3) := by decide +kernel
theorem dL_number_6 : decode cL_number 6 = .ok (.aload_n 0, 1) := by decide +kernel
theorem dL_number_7 : decode cL_number 7 = .ok (.bipush 48, 2) := by decide +kernel
theorem dL_number_9 : decode cL_number 9 = .ok (.iload_n 1, 1) := by decide +kernel
theorem dL_number_10 : decode cL_number 10 = .ok (.bipush 10, 2) := by decide +kernel
theorem dL_number_12 : decode cL_number 12 = .ok (.idiv, 1) := by decide +kernel
theorem dL_number_13 : decode cL_number 13 = .ok (.iadd, 1) := by decide +kernel
theorem dL_number_14 : decode cL_number 14 = .ok (.invokevirtual 64, 3) := by decide +kernel
theorem dL_number_17 : decode cL_number 17 = .ok (.pop, 1) := by decide +kernel
theorem dL_number_18 : decode cL_number 18 = .ok (.aload_n 0, 1) := by decide +kernel
theorem dL_number_19 : decode cL_number 19 = .ok (.bipush 48, 2) := by decide +kernel
theorem dL_number_21 : decode cL_number 21 = .ok (.iload_n 1, 1) := by decide +kernel
theorem dL_number_22 : decode cL_number 22 = .ok (.bipush 10, 2) := by decide +kernel
theorem dL_number_24 : decode cL_number 24 = .ok (.irem, 1) := by decide +kernel
theorem dL_number_25 : decode cL_number 25 = .ok (.iadd, 1) := by decide +kernel
theorem dL_number_26 : decode cL_number 26 = .ok (.invokevirtual 64, 3) := by decide +kernel
theorem dL_number_29 : decode cL_number 29 = .ok (.pop, 1) := by decide +kernel
theorem dL_number_30 : decode cL_number 30 = .ok (.return_, 1) := by decide +kernel
theorem dL_plays_0 : decode cL_plays 0 = .ok (.aload_n 0, 1) := by decide +kernel
theorem dL_plays_1 : decode cL_plays 1 = .ok (.invokevirtual 67, 3) := by decide +kernel
theorem dL_plays_4 : decode cL_plays 4 = .ok (.pop, 1) := by decide +kernel
theorem dL_plays_5 : decode cL_plays 5 = .ok (.aload_n 0, 1) := by decide +kernel
theorem dL_plays_6 : decode cL_plays 6 = .ok (.iconst 0, 1) := by decide +kernel
theorem dL_plays_7 : decode cL_plays 7 = .ok (.invokevirtual 70, 3) := by decide +kernel
theorem dL_plays_10 : decode cL_plays 10 = .ok (.bipush (-4), 2) := by decide +kernel
theorem dL_plays_12 : decode cL_plays 12 = .ok (.if_icmp .ne 21, 3) := by decide +kernel
theorem dL_plays_15 : decode cL_plays 15 = .ok (.aload_n 0, 1) := by decide +kernel
theorem dL_plays_16 : decode cL_plays 16 = .ok (.invokevirtual 73, 3) := by decide +kernel
theorem dL_plays_19 : decode cL_plays 19 = .ok (.ifCond .ne 14, 3) := by decide +kernel
theorem dL_plays_22 : decode cL_plays 22 = .ok (.aload_n 0, 1) := by decide +kernel
theorem dL_plays_23 : decode cL_plays 23 = .ok (.invokevirtual 51, 3) := by decide +kernel
theorem dL_plays_26 : decode cL_plays 26 = .ok (.ifCond .lt 7, 3) := by decide +kernel
theorem dL_plays_29 : decode cL_plays 29 = .ok (.iconst 1, 1) := by decide +kernel
theorem dL_plays_30 : decode cL_plays 30 = .ok (.goto 4, 3) := by decide +kernel
theorem dL_plays_33 : decode cL_plays 33 = .ok (.iconst 0, 1) := by decide +kernel
theorem dL_plays_34 : decode cL_plays 34 = .ok (.istore_n 3, 1) := by decide +kernel
theorem dL_plays_35 : decode cL_plays 35 = .ok (.aload_n 0, 1) := by decide +kernel
theorem dL_plays_36 : decode cL_plays 36 = .ok (.bipush 114, 2) := by decide +kernel
theorem dL_plays_38 : decode cL_plays 38 = .ok (.invokevirtual 64, 3) := by decide +kernel
theorem dL_plays_41 : decode cL_plays 41 = .ok (.pop, 1) := by decide +kernel
theorem dL_plays_42 : decode cL_plays 42 = .ok (.aload_n 0, 1) := by decide +kernel
theorem dL_plays_43 : decode cL_plays 43 = .ok (.iload_n 1, 1) := by decide +kernel
theorem dL_plays_44 : decode cL_plays 44 = .ok (.invokestatic 76, 3) := by decide +kernel
theorem dL_plays_47 : decode cL_plays 47 = .ok (.aload_n 0, 1) := by decide +kernel
theorem dL_plays_48 : decode cL_plays 48 = .ok (.bipush 59, 2) := by decide +kernel
theorem dL_plays_50 : decode cL_plays 50 = .ok (.invokevirtual 64, 3) := by decide +kernel
theorem dL_plays_53 : decode cL_plays 53 = .ok (.istore 4, 2) := by decide +kernel
theorem dL_plays_55 : decode cL_plays 55 = .ok (.aload_n 0, 1) := by decide +kernel
theorem dL_plays_56 : decode cL_plays 56 = .ok (.bipush 101, 2) := by decide +kernel
theorem dL_plays_58 : decode cL_plays 58 = .ok (.invokevirtual 64, 3) := by decide +kernel
theorem dL_plays_61 : decode cL_plays 61 = .ok (.pop, 1) := by decide +kernel
theorem dL_plays_62 : decode cL_plays 62 = .ok (.aload_n 0, 1) := by decide +kernel
theorem dL_plays_63 : decode cL_plays 63 = .ok (.iload_n 2, 1) := by decide +kernel
theorem dL_plays_64 : decode cL_plays 64 = .ok (.invokestatic 76, 3) := by decide +kernel
theorem dL_plays_67 : decode cL_plays 67 = .ok (.aload_n 0, 1) := by decide +kernel
theorem dL_plays_68 : decode cL_plays 68 = .ok (.bipush 59, 2) := by decide +kernel
theorem dL_plays_70 : decode cL_plays 70 = .ok (.invokevirtual 64, 3) := by decide +kernel
theorem dL_plays_73 : decode cL_plays 73 = .ok (.istore 5, 2) := by decide +kernel
theorem dL_plays_75 : decode cL_plays 75 = .ok (.aload_n 0, 1) := by decide +kernel
theorem dL_plays_76 : decode cL_plays 76 = .ok (.iload_n 1, 1) := by decide +kernel
theorem dL_plays_77 : decode cL_plays 77 = .ok (.bipush 8, 2) := by decide +kernel
theorem dL_plays_79 : decode cL_plays 79 = .ok (.invokevirtual 26, 3) := by decide +kernel
theorem dL_plays_82 : decode cL_plays 82 = .ok (.ifCond .ge 16, 3) := by decide +kernel
theorem dL_plays_85 : decode cL_plays 85 = .ok (.aload_n 0, 1) := by decide +kernel
theorem dL_plays_86 : decode cL_plays 86 = .ok (.iload_n 1, 1) := by decide +kernel
theorem dL_plays_87 : decode cL_plays 87 = .ok (.iconst 5, 1) := by decide +kernel
theorem dL_plays_88 : decode cL_plays 88 = .ok (.invokevirtual 26, 3) := by decide +kernel
theorem dL_plays_91 : decode cL_plays 91 = .ok (.ifCond .ne 7, 3) := by decide +kernel
theorem dL_plays_94 : decode cL_plays 94 = .ok (.iconst 1, 1) := by decide +kernel
theorem dL_plays_95 : decode cL_plays 95 = .ok (.goto 4, 3) := by decide +kernel
theorem dL_plays_98 : decode cL_plays 98 = .ok (.iconst 0, 1) := by decide +kernel
theorem dL_plays_99 : decode cL_plays 99 = .ok (.istore 6, 2) := by decide +kernel
theorem dL_plays_101 : decode cL_plays 101 = .ok (.iload 6, 2) := by decide +kernel
theorem dL_plays_103 : decode cL_plays 103 = .ok (.ifCond .ne 58, 3) := by decide +kernel
theorem dL_plays_106 : decode cL_plays 106 = .ok (.iload_n 3, 1) := by decide +kernel
theorem dL_plays_107 : decode cL_plays 107 = .ok (.ifCond .eq 52, 3) := by decide +kernel
theorem dL_plays_110 : decode cL_plays 110 = .ok (.aload_n 0, 1) := by decide +kernel
theorem dL_plays_111 : decode cL_plays 111 = .ok (.iconst 0, 1) := by decide +kernel
theorem dL_plays_112 : decode cL_plays 112 = .ok (.invokevirtual 70, 3) := by decide +kernel
theorem dL_plays_115 : decode cL_plays 115 = .ok (.ifCond .ne 44, 3) := by decide +kernel
theorem dL_plays_118 : decode cL_plays 118 = .ok (.aload_n 0, 1) := by decide +kernel
theorem dL_plays_119 : decode cL_plays 119 = .ok (.iconst 1, 1) := by decide +kernel
theorem dL_plays_120 : decode cL_plays 120 = .ok (.invokevirtual 70, 3) := by decide +kernel
