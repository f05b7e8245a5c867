theorem dL_look_186 : decode cL_look 186 = .ok (.iconst 1, 1) := by decide +kernel
theorem dL_look_187 : decode cL_look 187 = .ok (.invokevirtual 89, 3) := by decide +kernel
theorem dL_look_190 : decode cL_look 190 = .ok (.i2l, 1) := by decide +kernel
theorem dL_look_191 : decode cL_look 191 = .ok (.ladd, 1) := by decide +kernel
theorem dL_look_192 : decode cL_look 192 = .ok (.lmul, 1) := by decide +kernel
theorem dL_look_193 : decode cL_look 193 = .ok (.aload_n 0, 1) := by decide +kernel
theorem dL_look_194 : decode cL_look 194 = .ok (.iconst 2, 1) := by decide +kernel
theorem dL_look_195 : decode cL_look 195 = .ok (.invokevirtual 89, 3) := by decide +kernel
theorem dL_look_198 : decode cL_look 198 = .ok (.i2l, 1) := by decide +kernel
theorem dL_look_199 : decode cL_look 199 = .ok (.ladd, 1) := by decide +kernel
theorem dL_look_200 : decode cL_look 200 = .ok (.lreturn, 1) := by decide +kernel
theorem dL_holds_0 : decode cL_holds 0 = .ok (.iconst 0, 1) := by decide +kernel
theorem dL_holds_1 : decode cL_holds 1 = .ok (.istore_n 1, 1) := by decide +kernel
theorem dL_holds_2 : decode cL_holds 2 = .ok (.iconst 0, 1) := by decide +kernel
theorem dL_holds_3 : decode cL_holds 3 = .ok (.istore_n 2, 1) := by decide +kernel
theorem dL_holds_4 : decode cL_holds 4 = .ok (.iconst 0, 1) := by decide +kernel
theorem dL_holds_5 : decode cL_holds 5 = .ok (.istore_n 3, 1) := by decide +kernel
theorem dL_holds_6 : decode cL_holds 6 = .ok (.iconst 0, 1) := by decide +kernel
theorem dL_holds_7 : decode cL_holds 7 = .ok (.istore 4, 2) := by decide +kernel
theorem dL_holds_9 : decode cL_holds 9 = .ok (.iconst 1, 1) := by decide +kernel
theorem dL_holds_10 : decode cL_holds 10 = .ok (.istore 5, 2) := by decide +kernel
theorem dL_holds_12 : decode cL_holds 12 = .ok (.iconst 0, 1) := by decide +kernel
theorem dL_holds_13 : decode cL_holds 13 = .ok (.istore 6, 2) := by decide +kernel
theorem dL_holds_15 : decode cL_holds 15 = .ok (.iload 6, 2) := by decide +kernel
theorem dL_holds_17 : decode cL_holds 17 = .ok (.iconst 3, 1) := by decide +kernel
theorem dL_holds_18 : decode cL_holds 18 = .ok (.if_icmp .ge 318, 3) := by decide +kernel
theorem dL_holds_21 : decode cL_holds 21 = .ok (.iload 5, 2) := by decide +kernel
theorem dL_holds_23 : decode cL_holds 23 = .ok (.ifCond .eq 313, 3) := by decide +kernel
theorem dL_holds_26 : decode cL_holds 26 = .ok (.iconst 0, 1) := by decide +kernel
theorem dL_holds_27 : decode cL_holds 27 = .ok (.istore 7, 2) := by decide +kernel
theorem dL_holds_29 : decode cL_holds 29 = .ok (.iconst 0, 1) := by decide +kernel
theorem dL_holds_30 : decode cL_holds 30 = .ok (.istore 8, 2) := by decide +kernel
theorem dL_holds_32 : decode cL_holds 32 = .ok (.iload 8, 2) := by decide +kernel
theorem dL_holds_34 : decode cL_holds 34 = .ok (.aload_n 0, 1) := by decide +kernel
theorem dL_holds_35 : decode cL_holds 35 = .ok (.iconst 1, 1) := by decide +kernel
theorem dL_holds_36 : decode cL_holds 36 = .ok (.invokevirtual 76, 3) := by decide +kernel
theorem dL_holds_39 : decode cL_holds 39 = .ok (.if_icmp .ge 187, 3) := by decide +kernel
theorem dL_holds_42 : decode cL_holds 42 = .ok (.iload 7, 2) := by decide +kernel
theorem dL_holds_44 : decode cL_holds 44 = .ok (.aload_n 0, 1) := by decide +kernel
theorem dL_holds_45 : decode cL_holds 45 = .ok (.iload 8, 2) := by decide +kernel
theorem dL_holds_47 : decode cL_holds 47 = .ok (.iload 6, 2) := by decide +kernel
theorem dL_holds_49 : decode cL_holds 49 = .ok (.iconst 2, 1) := by decide +kernel
theorem dL_holds_50 : decode cL_holds 50 = .ok (.invokestatic 84, 3) := by decide +kernel
theorem dL_holds_53 : decode cL_holds 53 = .ok (.iadd, 1) := by decide +kernel
theorem dL_holds_54 : decode cL_holds 54 = .ok (.istore 7, 2) := by decide +kernel
theorem dL_holds_56 : decode cL_holds 56 = .ok (.iload_n 1, 1) := by decide +kernel
theorem dL_holds_57 : decode cL_holds 57 = .ok (.aload_n 0, 1) := by decide +kernel
theorem dL_holds_58 : decode cL_holds 58 = .ok (.iload 8, 2) := by decide +kernel
theorem dL_holds_60 : decode cL_holds 60 = .ok (.iload 6, 2) := by decide +kernel
theorem dL_holds_62 : decode cL_holds 62 = .ok (.bipush 6, 2) := by decide +kernel
theorem dL_holds_64 : decode cL_holds 64 = .ok (.invokestatic 84, 3) := by decide +kernel
theorem dL_holds_67 : decode cL_holds 67 = .ok (.iadd, 1) := by decide +kernel
theorem dL_holds_68 : decode cL_holds 68 = .ok (.istore_n 1, 1) := by decide +kernel
theorem dL_holds_69 : decode cL_holds 69 = .ok (.iload 4, 2) := by decide +kernel
theorem dL_holds_71 : decode cL_holds 71 = .ok (.aload_n 0, 1) := by decide +kernel
theorem dL_holds_72 : decode cL_holds 72 = .ok (.iload 8, 2) := by decide +kernel
theorem dL_holds_74 : decode cL_holds 74 = .ok (.iload 6, 2) := by decide +kernel
theorem dL_holds_76 : decode cL_holds 76 = .ok (.bipush 9, 2) := by decide +kernel
theorem dL_holds_78 : decode cL_holds 78 = .ok (.invokestatic 84, 3) := by decide +kernel
theorem dL_holds_81 : decode cL_holds 81 = .ok (.iadd, 1) := by decide +kernel
theorem dL_holds_82 : decode cL_holds 82 = .ok (.istore 4, 2) := by decide +kernel
theorem dL_holds_84 : decode cL_holds 84 = .ok (.iload 5, 2) := by decide +kernel
theorem dL_holds_86 : decode cL_holds 86 = .ok (.ifCond .eq 131, 3) := by decide +kernel
theorem dL_holds_89 : decode cL_holds 89 = .ok (.aload_n 0, 1) := by decide +kernel
theorem dL_holds_90 : decode cL_holds 90 = .ok (.iload 8, 2) := by decide +kernel
theorem dL_holds_92 : decode cL_holds 92 = .ok (.iload 6, 2) := by decide +kernel
theorem dL_holds_94 : decode cL_holds 94 = .ok (.iconst 5, 1) := by decide +kernel
theorem dL_holds_95 : decode cL_holds 95 = .ok (.invokestatic 84, 3) := by decide +kernel
theorem dL_holds_98 : decode cL_holds 98 = .ok (.aload_n 0, 1) := by decide +kernel
theorem dL_holds_99 : decode cL_holds 99 = .ok (.iload 8, 2) := by decide +kernel
theorem dL_holds_101 : decode cL_holds 101 = .ok (.iload 6, 2) := by decide +kernel
theorem dL_holds_103 : decode cL_holds 103 = .ok (.iconst 3, 1) := by decide +kernel
theorem dL_holds_104 : decode cL_holds 104 = .ok (.invokestatic 84, 3) := by decide +kernel
theorem dL_holds_107 : decode cL_holds 107 = .ok (.aload_n 0, 1) := by decide +kernel
theorem dL_holds_108 : decode cL_holds 108 = .ok (.iload 8, 2) := by decide +kernel
theorem dL_holds_110 : decode cL_holds 110 = .ok (.iload 6, 2) := by decide +kernel
theorem dL_holds_112 : decode cL_holds 112 = .ok (.iconst 4, 1) := by decide +kernel
theorem dL_holds_113 : decode cL_holds 113 = .ok (.invokestatic 84, 3) := by decide +kernel
theorem dL_holds_116 : decode cL_holds 116 = .ok (.isub, 1) := by decide +kernel
theorem dL_holds_117 : decode cL_holds 117 = .ok (.if_icmp .ne 100, 3) := by decide +kernel
theorem dL_holds_120 : decode cL_holds 120 = .ok (.aload_n 0, 1) := by decide +kernel
theorem dL_holds_121 : decode cL_holds 121 = .ok (.iload 8, 2) := by decide +kernel
theorem dL_holds_123 : decode cL_holds 123 = .ok (.iload 6, 2) := by decide +kernel
theorem dL_holds_125 : decode cL_holds 125 = .ok (.iconst 5, 1) := by decide +kernel
theorem dL_holds_126 : decode cL_holds 126 = .ok (.invokestatic 84, 3) := by decide +kernel
theorem dL_holds_129 : decode cL_holds 129 = .ok (.ifCond .lt 88, 3) := by decide +kernel
theorem dL_holds_132 : decode cL_holds 132 = .ok (.aload_n 0, 1) := by decide +kernel
theorem dL_holds_133 : decode cL_holds 133 = .ok (.iload 8, 2) := by decide +kernel
theorem dL_holds_135 : decode cL_holds 135 = .ok (.iload 6, 2) := by decide +kernel
theorem dL_holds_137 : decode cL_holds 137 = .ok (.bipush 8, 2) := by decide +kernel
theorem dL_holds_139 : decode cL_holds 139 = .ok (.invokestatic 84, 3) := by decide +kernel
theorem dL_holds_142 : decode cL_holds 142 = .ok (.ifCond .lt 75, 3) := by decide +kernel
theorem dL_holds_145 : decode cL_holds 145 = .ok (.aload_n 0, 1) := by decide +kernel
theorem dL_holds_146 : decode cL_holds 146 = .ok (.iload 8, 2) := by decide +kernel
theorem dL_holds_148 : decode cL_holds 148 = .ok (.iload 6, 2) := by decide +kernel
theorem dL_holds_150 : decode cL_holds 150 = .ok (.bipush 9, 2) := by decide +kernel
theorem dL_holds_152 : decode cL_holds 152 = .ok (.invokestatic 84, 3) := by decide +kernel
theorem dL_holds_155 : decode cL_holds 155 = .ok (.ifCond .lt 62, 3) := by decide +kernel
theorem dL_holds_158 : decode cL_holds 158 = .ok (.aload_n 0, 1) := by decide +kernel
theorem dL_holds_159 : decode cL_holds 159 = .ok (.iload 8, 2) := by decide +kernel
theorem dL_holds_161 : decode cL_holds 161 = .ok (.iload 6, 2) := by decide +kernel
theorem dL_holds_163 : decode cL_holds 163 = .ok (.bipush 7, 2) := by decide +kernel
theorem dL_holds_165 : decode cL_holds 165 = .ok (.invokestatic 84, 3) := by decide +kernel
theorem dL_holds_168 : decode cL_holds 168 = .ok (.iconst 1, 1) := by decide +kernel
theorem dL_holds_169 : decode cL_holds 169 = .ok (.if_icmp .ne 7, 3) := by decide +kernel
theorem dL_holds_172 : decode cL_holds 172 = .ok (.iconst 1, 1) := by decide +kernel
theorem dL_holds_173 : decode cL_holds 173 = .ok (.goto 4, 3) := by decide +kernel
theorem dL_holds_176 : decode cL_holds 176 = .ok (.iconst 0, 1) := by decide +kernel
theorem dL_holds_177 : decode cL_holds 177 = .ok (.aload_n 0, 1) := by decide +kernel
theorem dL_holds_178 : decode cL_holds 178 = .ok (.iload 8, 2) := by decide +kernel
theorem dL_holds_180 : decode cL_holds 180 = .ok (.iload 6, 2) := by decide +kernel
theorem dL_holds_182 : decode cL_holds 182 = .ok (.bipush 6, 2) := by decide +kernel
theorem dL_holds_184 : decode cL_holds 184 = .ok (.invokestatic 84, 3) := by decide +kernel
theorem dL_holds_187 : decode cL_holds 187 = .ok (.ifCond .ne 7, 3) := by decide +kernel
theorem dL_holds_190 : decode cL_holds 190 = .ok (.iconst 1, 1) := by decide +kernel
theorem dL_holds_191 : decode cL_holds 191 = .ok (.goto 4, 3) := by decide +kernel
theorem dL_holds_194 : decode cL_holds 194 = .ok (.iconst 0, 1) := by decide +kernel
theorem dL_holds_195 : decode cL_holds 195 = .ok (.if_icmp .ne 22, 3) := by decide +kernel
theorem dL_holds_198 : decode cL_holds 198 = .ok (.aload_n 0, 1) := by decide +kernel
theorem dL_holds_199 : decode cL_holds 199 = .ok (.iload 8, 2) := by decide +kernel
theorem dL_holds_201 : decode cL_holds 201 = .ok (.iload 6, 2) := by decide +kernel
theorem dL_holds_203 : decode cL_holds 203 = .ok (.bipush 6, 2) := by decide +kernel
theorem dL_holds_205 : decode cL_holds 205 = .ok (.invokestatic 84, 3) := by decide +kernel
theorem dL_holds_208 : decode cL_holds 208 = .ok (.bipush 9, 2) := by decide +kernel
theorem dL_holds_210 : decode cL_holds 210 = .ok (.if_icmp .gt 7, 3) := by decide +kernel
theorem dL_holds_213 : decode cL_holds 213 = .ok (.iconst 1, 1) := by decide +kernel
theorem dL_holds_214 : decode cL_holds 214 = .ok (.goto 4, 3) := by decide +kernel
theorem dL_holds_217 : decode cL_holds 217 = .ok (.iconst 0, 1) := by decide +kernel
theorem dL_holds_218 : decode cL_holds 218 = .ok (.istore 5, 2) := by decide +kernel
theorem dL_holds_220 : decode cL_holds 220 = .ok (.iinc 8 1, 3) := by decide +kernel
theorem dL_holds_223 : decode cL_holds 223 = .ok (.goto (-191), 3) := by decide +kernel
theorem dL_holds_226 : decode cL_holds 226 = .ok (.iload_n 2, 1) := by decide +kernel
theorem dL_holds_227 : decode cL_holds 227 = .ok (.iload 7, 2) := by decide +kernel
theorem dL_holds_229 : decode cL_holds 229 = .ok (.iadd, 1) := by decide +kernel
theorem dL_holds_230 : decode cL_holds 230 = .ok (.istore_n 2, 1) := by decide +kernel
theorem dL_holds_231 : decode cL_holds 231 = .ok (.iload_n 3, 1) := by decide +kernel
theorem dL_holds_232 : decode cL_holds 232 = .ok (.aload_n 0, 1) := by decide +kernel
theorem dL_holds_233 : decode cL_holds 233 = .ok (.iload 6, 2) := by decide +kernel
theorem dL_holds_235 : decode cL_holds 235 = .ok (.iconst 1, 1) := by decide +kernel
theorem dL_holds_236 : decode cL_holds 236 = .ok (.invokestatic 79, 3) := by decide +kernel
theorem dL_holds_239 : decode cL_holds 239 = .ok (.iadd, 1) := by decide +kernel
theorem dL_holds_240 : decode cL_holds 240 = .ok (.istore_n 3, 1) := by decide +kernel
theorem dL_holds_241 : decode cL_holds 241 = .ok (.iload 5, 2) := by decide +kernel
theorem dL_holds_243 : decode cL_holds 243 = .ok (.ifCond .eq 84, 3) := by decide +kernel
theorem dL_holds_246 : decode cL_holds 246 = .ok (.aload_n 0, 1) := by decide +kernel
theorem dL_holds_247 : decode cL_holds 247 = .ok (.iload 6, 2) := by decide +kernel
theorem dL_holds_249 : decode cL_holds 249 = .ok (.iconst 1, 1) := by decide +kernel
theorem dL_holds_250 : decode cL_holds 250 = .ok (.invokestatic 79, 3) := by decide +kernel
theorem dL_holds_253 : decode cL_holds 253 = .ok (.aload_n 0, 1) := by decide +kernel
theorem dL_holds_254 : decode cL_holds 254 = .ok (.iload 6, 2) := by decide +kernel
theorem dL_holds_256 : decode cL_holds 256 = .ok (.iconst 2, 1) := by decide +kernel
theorem dL_holds_257 : decode cL_holds 257 = .ok (.invokestatic 79, 3) := by decide +kernel
theorem dL_holds_260 : decode cL_holds 260 = .ok (.iadd, 1) := by decide +kernel
theorem dL_holds_261 : decode cL_holds 261 = .ok (.aload_n 0, 1) := by decide +kernel
theorem dL_holds_262 : decode cL_holds 262 = .ok (.iload 6, 2) := by decide +kernel
theorem dL_holds_264 : decode cL_holds 264 = .ok (.iconst 0, 1) := by decide +kernel
theorem dL_holds_265 : decode cL_holds 265 = .ok (.invokestatic 79, 3) := by decide +kernel
theorem dL_holds_268 : decode cL_holds 268 = .ok (.if_icmp .gt 59, 3) := by decide +kernel
theorem dL_holds_271 : decode cL_holds 271 = .ok (.aload_n 0, 1) := by decide +kernel
theorem dL_holds_272 : decode cL_holds 272 = .ok (.iload 6, 2) := by decide +kernel
theorem dL_holds_274 : decode cL_holds 274 = .ok (.iconst 0, 1) := by decide +kernel
theorem dL_holds_275 : decode cL_holds 275 = .ok (.invokestatic 79, 3) := by decide +kernel
theorem dL_holds_278 : decode cL_holds 278 = .ok (.bipush 20, 2) := by decide +kernel
theorem dL_holds_280 : decode cL_holds 280 = .ok (.if_icmp .gt 47, 3) := by decide +kernel
theorem dL_holds_283 : decode cL_holds 283 = .ok (.aload_n 0, 1) := by decide +kernel
theorem dL_holds_284 : decode cL_holds 284 = .ok (.iload 6, 2) := by decide +kernel
theorem dL_holds_286 : decode cL_holds 286 = .ok (.iconst 2, 1) := by decide +kernel
theorem dL_holds_287 : decode cL_holds 287 = .ok (.invokestatic 79, 3) := by decide +kernel
theorem dL_holds_290 : decode cL_holds 290 = .ok (.iload 7, 2) := by decide +kernel
theorem dL_holds_292 : decode cL_holds 292 = .ok (.if_icmp .ne 35, 3) := by decide +kernel
theorem dL_holds_295 : decode cL_holds 295 = .ok (.aload_n 0, 1) := by decide +kernel
theorem dL_holds_296 : decode cL_holds 296 = .ok (.iload 6, 2) := by decide +kernel
theorem dL_holds_298 : decode cL_holds 298 = .ok (.iconst 3, 1) := by decide +kernel
theorem dL_holds_299 : decode cL_holds 299 = .ok (.invokestatic 79, 3) := by decide +kernel
theorem dL_holds_302 : decode cL_holds 302 = .ok (.aload_n 0, 1) := by decide +kernel
theorem dL_holds_303 : decode cL_holds 303 = .ok (.iload 6, 2) := by decide +kernel
theorem dL_holds_305 : decode cL_holds 305 = .ok (.iconst 0, 1) := by decide +kernel
theorem dL_holds_306 : decode cL_holds 306 = .ok (.invokestatic 79, 3) := by decide +kernel
theorem dL_holds_309 : decode cL_holds 309 = .ok (.aload_n 0, 1) := by decide +kernel
theorem dL_holds_310 : decode cL_holds 310 = .ok (.iload 6, 2) := by decide +kernel
theorem dL_holds_312 : decode cL_holds 312 = .ok (.iconst 1, 1) := by decide +kernel
theorem dL_holds_313 : decode cL_holds 313 = .ok (.invokestatic 79, 3) := by decide +kernel
theorem dL_holds_316 : decode cL_holds 316 = .ok (.isub, 1) := by decide +kernel
theorem dL_holds_317 : decode cL_holds 317 = .ok (.iload 7, 2) := by decide +kernel
theorem dL_holds_319 : decode cL_holds 319 = .ok (.isub, 1) := by decide +kernel
theorem dL_holds_320 : decode cL_holds 320 = .ok (.if_icmp .ne 7, 3) := by decide +kernel
theorem dL_holds_323 : decode cL_holds 323 = .ok (.iconst 1, 1) := by decide +kernel
theorem dL_holds_324 : decode cL_holds 324 = .ok (.goto 4, 3) := by decide +kernel
theorem dL_holds_327 : decode cL_holds 327 = .ok (.iconst 0, 1) := by decide +kernel
theorem dL_holds_328 : decode cL_holds 328 = .ok (.istore 5, 2) := by decide +kernel
theorem dL_holds_330 : decode cL_holds 330 = .ok (.iinc 6 1, 3) := by decide +kernel
theorem dL_holds_333 : decode cL_holds 333 = .ok (.goto (-318), 3) := by decide +kernel
theorem dL_holds_336 : decode cL_holds 336 = .ok (.iload 5, 2) := by decide +kernel
theorem dL_holds_338 : decode cL_holds 338 = .ok (.ifCond .eq 157, 3) := by decide +kernel
theorem dL_holds_341 : decode cL_holds 341 = .ok (.iload_n 1, 1) := by decide +kernel
theorem dL_holds_342 : decode cL_holds 342 = .ok (.aload_n 0, 1) := by decide +kernel
theorem dL_holds_343 : decode cL_holds 343 = .ok (.bipush 8, 2) := by decide +kernel
theorem dL_holds_345 : decode cL_holds 345 = .ok (.invokevirtual 76, 3) := by decide +kernel
theorem dL_holds_348 : decode cL_holds 348 = .ok (.if_icmp .ne 147, 3) := by decide +kernel
theorem dL_holds_351 : decode cL_holds 351 = .ok (.iload_n 2, 1) := by decide +kernel
theorem dL_holds_352 : decode cL_holds 352 = .ok (.aload_n 0, 1) := by decide +kernel
theorem dL_holds_353 : decode cL_holds 353 = .ok (.bipush 10, 2) := by decide +kernel
theorem dL_holds_355 : decode cL_holds 355 = .ok (.invokevirtual 76, 3) := by decide +kernel
theorem dL_holds_358 : decode cL_holds 358 = .ok (.if_icmp .ne 137, 3) := by decide +kernel
theorem dL_holds_361 : decode cL_holds 361 = .ok (.iload_n 3, 1) := by decide +kernel
theorem dL_holds_362 : decode cL_holds 362 = .ok (.aload_n 0, 1) := by decide +kernel
theorem dL_holds_363 : decode cL_holds 363 = .ok (.bipush 9, 2) := by decide +kernel
theorem dL_holds_365 : decode cL_holds 365 = .ok (.invokevirtual 76, 3) := by decide +kernel
theorem dL_holds_368 : decode cL_holds 368 = .ok (.if_icmp .ne 127, 3) := by decide +kernel
theorem dL_holds_371 : decode cL_holds 371 = .ok (.iload 4, 2) := by decide +kernel
theorem dL_holds_373 : decode cL_holds 373 = .ok (.aload_n 0, 1) := by decide +kernel
theorem dL_holds_374 : decode cL_holds 374 = .ok (.invokevirtual 92, 3) := by decide +kernel
theorem dL_holds_377 : decode cL_holds 377 = .ok (.if_icmp .ne 118, 3) := by decide +kernel
theorem dL_holds_380 : decode cL_holds 380 = .ok (.aload_n 0, 1) := by decide +kernel
theorem dL_holds_381 : decode cL_holds 381 = .ok (.iconst 5, 1) := by decide +kernel
theorem dL_holds_382 : decode cL_holds 382 = .ok (.invokevirtual 76, 3) := by decide +kernel
theorem dL_holds_385 : decode cL_holds 385 = .ok (.aload_n 0, 1) := by decide +kernel
theorem dL_holds_386 : decode cL_holds 386 = .ok (.bipush 6, 2) := by decide +kernel
theorem dL_holds_388 : decode cL_holds 388 = .ok (.invokevirtual 76, 3) := by decide +kernel
theorem dL_holds_391 : decode cL_holds 391 = .ok (.aload_n 0, 1) := by decide +kernel
theorem dL_holds_392 : decode cL_holds 392 = .ok (.bipush 7, 2) := by decide +kernel
theorem dL_holds_394 : decode cL_holds 394 = .ok (.invokevirtual 76, 3) := by decide +kernel
theorem dL_holds_397 : decode cL_holds 397 = .ok (.iadd, 1) := by decide +kernel
theorem dL_holds_398 : decode cL_holds 398 = .ok (.iload 4, 2) := by decide +kernel
theorem dL_holds_400 : decode cL_holds 400 = .ok (.iadd, 1) := by decide +kernel
theorem dL_holds_401 : decode cL_holds 401 = .ok (.if_icmp .ne 94, 3) := by decide +kernel
theorem dL_holds_404 : decode cL_holds 404 = .ok (.aload_n 0, 1) := by decide +kernel
theorem dL_holds_405 : decode cL_holds 405 = .ok (.iconst 2, 1) := by decide +kernel
theorem dL_holds_406 : decode cL_holds 406 = .ok (.invokevirtual 76, 3) := by decide +kernel
theorem dL_holds_409 : decode cL_holds 409 = .ok (.bipush 40, 2) := by decide +kernel
theorem dL_holds_411 : decode cL_holds 411 = .ok (.if_icmp .gt 84, 3) := by decide +kernel
theorem dL_holds_414 : decode cL_holds 414 = .ok (.aload_n 0, 1) := by decide +kernel
theorem dL_holds_415 : decode cL_holds 415 = .ok (.iconst 4, 1) := by decide +kernel
theorem dL_holds_416 : decode cL_holds 416 = .ok (.invokevirtual 76, 3) := by decide +kernel
theorem dL_holds_419 : decode cL_holds 419 = .ok (.aload_n 0, 1) := by decide +kernel
theorem dL_holds_420 : decode cL_holds 420 = .ok (.iconst 3, 1) := by decide +kernel
theorem dL_holds_421 : decode cL_holds 421 = .ok (.invokevirtual 76, 3) := by decide +kernel
theorem dL_holds_424 : decode cL_holds 424 = .ok (.if_icmp .gt 71, 3) := by decide +kernel
theorem dL_holds_427 : decode cL_holds 427 = .ok (.aload_n 0, 1) := by decide +kernel
theorem dL_holds_428 : decode cL_holds 428 = .ok (.invokevirtual 95, 3) := by decide +kernel
theorem dL_holds_431 : decode cL_holds 431 = .ok (.iconst (-1), 1) := by decide +kernel
theorem dL_holds_432 : decode cL_holds 432 = .ok (.if_icmp .eq 41, 3) := by decide +kernel
theorem dL_holds_435 : decode cL_holds 435 = .ok (.aload_n 0, 1) := by decide +kernel
theorem dL_holds_436 : decode cL_holds 436 = .ok (.aload_n 0, 1) := by decide +kernel
theorem dL_holds_437 : decode cL_holds 437 = .ok (.invokevirtual 95, 3) := by decide +kernel
theorem dL_holds_440 : decode cL_holds 440 = .ok (.iconst 0, 1) := by decide +kernel
theorem dL_holds_441 : decode cL_holds 441 = .ok (.bipush 6, 2) := by decide +kernel
theorem dL_holds_443 : decode cL_holds 443 = .ok (.invokestatic 84, 3) := by decide +kernel
theorem dL_holds_446 : decode cL_holds 446 = .ok (.aload_n 0, 1) := by decide +kernel
theorem dL_holds_447 : decode cL_holds 447 = .ok (.aload_n 0, 1) := by decide +kernel
theorem dL_holds_448 : decode cL_holds 448 = .ok (.invokevirtual 95, 3) := by decide +kernel
theorem dL_holds_451 : decode cL_holds 451 = .ok (.iconst 1, 1) := by decide +kernel
theorem dL_holds_452 : decode cL_holds 452 = .ok (.bipush 6, 2) := by decide +kernel
theorem dL_holds_454 : decode cL_holds 454 = .ok (.invokestatic 84, 3) := by decide +kernel
theorem dL_holds_457 : decode cL_holds 457 = .ok (.iadd, 1) := by decide +kernel
theorem dL_holds_458 : decode cL_holds 458 = .ok (.aload_n 0, 1) := by decide +kernel
theorem dL_holds_459 : decode cL_holds 459 = .ok (.aload_n 0, 1) := by decide +kernel
theorem dL_holds_460 : decode cL_holds 460 = .ok (.invokevirtual 95, 3) := by decide +kernel
theorem dL_holds_463 : decode cL_holds 463 = .ok (.iconst 2, 1) := by decide +kernel
theorem dL_holds_464 : decode cL_holds 464 = .ok (.bipush 6, 2) := by decide +kernel
theorem dL_holds_466 : decode cL_holds 466 = .ok (.invokestatic 84, 3) := by decide +kernel
theorem dL_holds_469 : decode cL_holds 469 = .ok (.iadd, 1) := by decide +kernel
theorem dL_holds_470 : decode cL_holds 470 = .ok (.ifCond .le 25, 3) := by decide +kernel
theorem dL_holds_473 : decode cL_holds 473 = .ok (.aload_n 0, 1) := by decide +kernel
theorem dL_holds_474 : decode cL_holds 474 = .ok (.invokevirtual 98, 3) := by decide +kernel
theorem dL_holds_477 : decode cL_holds 477 = .ok (.dconst 0, 1) := by decide +kernel
theorem dL_holds_478 : decode cL_holds 478 = .ok (.dcmp .l, 1) := by decide +kernel
theorem dL_holds_479 : decode cL_holds 479 = .ok (.ifCond .lt 16, 3) := by decide +kernel
theorem dL_holds_482 : decode cL_holds 482 = .ok (.aload_n 0, 1) := by decide +kernel
theorem dL_holds_483 : decode cL_holds 483 = .ok (.invokevirtual 98, 3) := by decide +kernel
theorem dL_holds_486 : decode cL_holds 486 = .ok (.dconst 1, 1) := by decide +kernel
theorem dL_holds_487 : decode cL_holds 487 = .ok (.dcmp .g, 1) := by decide +kernel
theorem dL_holds_488 : decode cL_holds 488 = .ok (.ifCond .gt 7, 3) := by decide +kernel
theorem dL_holds_491 : decode cL_holds 491 = .ok (.iconst 1, 1) := by decide +kernel
theorem dL_holds_492 : decode cL_holds 492 = .ok (.goto 4, 3) := by decide +kernel
theorem dL_holds_495 : decode cL_holds 495 = .ok (.iconst 0, 1) := by decide +kernel
theorem dL_holds_496 : decode cL_holds 496 = .ok (.ireturn, 1) := by decide +kernel
theorem dL_would_0 : decode cL_would 0 = .ok (.iload_n 1, 1) := by decide +kernel
theorem dL_would_1 : decode cL_would 1 = .ok (.bipush 62, 2) := by decide +kernel
theorem dL_would_3 : decode cL_would 3 = .ok (.invokestatic 102, 3) := by decide +kernel
theorem dL_would_6 : decode cL_would 6 = .ok (.istore_n 2, 1) := by decide +kernel
theorem dL_would_7 : decode cL_would 7 = .ok (.iload_n 1, 1) := by decide +kernel
theorem dL_would_8 : decode cL_would 8 = .ok (.bipush 6, 2) := by decide +kernel
theorem dL_would_10 : decode cL_would 10 = .ok (.ishr, 1) := by decide +kernel
theorem dL_would_11 : decode cL_would 11 = .ok (.iconst 5, 1) := by decide +kernel
theorem dL_would_12 : decode cL_would 12 = .ok (.invokestatic 102, 3) := by decide +kernel
theorem dL_would_15 : decode cL_would 15 = .ok (.istore_n 3, 1) := by decide +kernel
theorem dL_would_16 : decode cL_would 16 = .ok (.aload_n 0, 1) := by decide +kernel
theorem dL_would_17 : decode cL_would 17 = .ok (.iload_n 2, 1) := by decide +kernel
theorem dL_would_18 : decode cL_would 18 = .ok (.iload_n 3, 1) := by decide +kernel
theorem dL_would_19 : decode cL_would 19 = .ok (.invokestatic 105, 3) := by decide +kernel
theorem dL_would_22 : decode cL_would 22 = .ok (.istore 4, 2) := by decide +kernel
theorem dL_would_24 : decode cL_would 24 = .ok (.aload_n 0, 1) := by decide +kernel
theorem dL_would_25 : decode cL_would 25 = .ok (.invokevirtual 107, 3) := by decide +kernel
theorem dL_would_28 : decode cL_would 28 = .ok (.istore 5, 2) := by decide +kernel
theorem dL_would_30 : decode cL_would 30 = .ok (.iload_n 2, 1) := by decide +kernel
theorem dL_would_31 : decode cL_would 31 = .ok (.ifCond .eq 14, 3) := by decide +kernel
theorem dL_would_34 : decode cL_would 34 = .ok (.iload_n 2, 1) := by decide +kernel
theorem dL_would_35 : decode cL_would 35 = .ok (.bipush 61, 2) := by decide +kernel
theorem dL_would_37 : decode cL_would 37 = .ok (.if_icmp .eq 8, 3) := by decide +kernel
