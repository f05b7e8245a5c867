theorem dL_goes_131 : decode cL_goes 131 = .ok (.if_icmp .ne 7, 3) := by decide +kernel
theorem dL_goes_134 : decode cL_goes 134 = .ok (.iconst 1, 1) := by decide +kernel
theorem dL_goes_135 : decode cL_goes 135 = .ok (.goto 4, 3) := by decide +kernel
theorem dL_goes_138 : decode cL_goes 138 = .ok (.iconst 0, 1) := by decide +kernel
theorem dL_goes_139 : decode cL_goes 139 = .ok (.ireturn, 1) := by decide +kernel
theorem dL_goes_140 : decode cL_goes 140 = .ok (.iload_n 1, 1) := by decide +kernel
theorem dL_goes_141 : decode cL_goes 141 = .ok (.bipush 6, 2) := by decide +kernel
theorem dL_goes_143 : decode cL_goes 143 = .ok (.if_icmp .ge 65, 3) := by decide +kernel
theorem dL_goes_146 : decode cL_goes 146 = .ok (.aload_n 0, 1) := by decide +kernel
theorem dL_goes_147 : decode cL_goes 147 = .ok (.iconst 4, 1) := by decide +kernel
theorem dL_goes_148 : decode cL_goes 148 = .ok (.invokevirtual 76, 3) := by decide +kernel
theorem dL_goes_151 : decode cL_goes 151 = .ok (.istore 8, 2) := by decide +kernel
theorem dL_goes_153 : decode cL_goes 153 = .ok (.aload_n 0, 1) := by decide +kernel
theorem dL_goes_154 : decode cL_goes 154 = .ok (.iload_n 3, 1) := by decide +kernel
theorem dL_goes_155 : decode cL_goes 155 = .ok (.iload 4, 2) := by decide +kernel
theorem dL_goes_157 : decode cL_goes 157 = .ok (.invokestatic 128, 3) := by decide +kernel
theorem dL_goes_160 : decode cL_goes 160 = .ok (.istore 9, 2) := by decide +kernel
theorem dL_goes_162 : decode cL_goes 162 = .ok (.iload 9, 2) := by decide +kernel
theorem dL_goes_164 : decode cL_goes 164 = .ok (.iload 5, 2) := by decide +kernel
theorem dL_goes_166 : decode cL_goes 166 = .ok (.ifCond .eq 8, 3) := by decide +kernel
theorem dL_goes_169 : decode cL_goes 169 = .ok (.bipush (-101), 2) := by decide +kernel
theorem dL_goes_171 : decode cL_goes 171 = .ok (.goto 28, 3) := by decide +kernel
theorem dL_goes_174 : decode cL_goes 174 = .ok (.iload 7, 2) := by decide +kernel
theorem dL_goes_176 : decode cL_goes 176 = .ok (.bipush 40, 2) := by decide +kernel
theorem dL_goes_178 : decode cL_goes 178 = .ok (.if_icmp .ne 8, 3) := by decide +kernel
theorem dL_goes_181 : decode cL_goes 181 = .ok (.bipush (-103), 2) := by decide +kernel
theorem dL_goes_183 : decode cL_goes 183 = .ok (.goto 16, 3) := by decide +kernel
theorem dL_goes_186 : decode cL_goes 186 = .ok (.iload 7, 2) := by decide +kernel
theorem dL_goes_188 : decode cL_goes 188 = .ok (.iconst 1, 1) := by decide +kernel
theorem dL_goes_189 : decode cL_goes 189 = .ok (.iadd, 1) := by decide +kernel
theorem dL_goes_190 : decode cL_goes 190 = .ok (.aload_n 0, 1) := by decide +kernel
theorem dL_goes_191 : decode cL_goes 191 = .ok (.iconst 4, 1) := by decide +kernel
theorem dL_goes_192 : decode cL_goes 192 = .ok (.invokevirtual 76, 3) := by decide +kernel
theorem dL_goes_195 : decode cL_goes 195 = .ok (.iload 8, 2) := by decide +kernel
theorem dL_goes_197 : decode cL_goes 197 = .ok (.isub, 1) := by decide +kernel
theorem dL_goes_198 : decode cL_goes 198 = .ok (.isub, 1) := by decide +kernel
theorem dL_goes_199 : decode cL_goes 199 = .ok (.if_icmp .ne 7, 3) := by decide +kernel
theorem dL_goes_202 : decode cL_goes 202 = .ok (.iconst 1, 1) := by decide +kernel
theorem dL_goes_203 : decode cL_goes 203 = .ok (.goto 4, 3) := by decide +kernel
theorem dL_goes_206 : decode cL_goes 206 = .ok (.iconst 0, 1) := by decide +kernel
theorem dL_goes_207 : decode cL_goes 207 = .ok (.ireturn, 1) := by decide +kernel
theorem dL_goes_208 : decode cL_goes 208 = .ok (.iload_n 1, 1) := by decide +kernel
theorem dL_goes_209 : decode cL_goes 209 = .ok (.bipush 9, 2) := by decide +kernel
theorem dL_goes_211 : decode cL_goes 211 = .ok (.if_icmp .ge 65, 3) := by decide +kernel
theorem dL_goes_214 : decode cL_goes 214 = .ok (.iload 5, 2) := by decide +kernel
theorem dL_goes_216 : decode cL_goes 216 = .ok (.ifCond .eq 7, 3) := by decide +kernel
theorem dL_goes_219 : decode cL_goes 219 = .ok (.iconst 0, 1) := by decide +kernel
theorem dL_goes_220 : decode cL_goes 220 = .ok (.goto 12, 3) := by decide +kernel
theorem dL_goes_223 : decode cL_goes 223 = .ok (.aload_n 0, 1) := by decide +kernel
theorem dL_goes_224 : decode cL_goes 224 = .ok (.iload_n 3, 1) := by decide +kernel
theorem dL_goes_225 : decode cL_goes 225 = .ok (.iload 4, 2) := by decide +kernel
theorem dL_goes_227 : decode cL_goes 227 = .ok (.bipush 6, 2) := by decide +kernel
theorem dL_goes_229 : decode cL_goes 229 = .ok (.invokestatic 84, 3) := by decide +kernel
theorem dL_goes_232 : decode cL_goes 232 = .ok (.istore 8, 2) := by decide +kernel
theorem dL_goes_234 : decode cL_goes 234 = .ok (.aload_n 0, 1) := by decide +kernel
theorem dL_goes_235 : decode cL_goes 235 = .ok (.iload_n 3, 1) := by decide +kernel
theorem dL_goes_236 : decode cL_goes 236 = .ok (.iload 4, 2) := by decide +kernel
theorem dL_goes_238 : decode cL_goes 238 = .ok (.invokestatic 130, 3) := by decide +kernel
theorem dL_goes_241 : decode cL_goes 241 = .ok (.iload 5, 2) := by decide +kernel
theorem dL_goes_243 : decode cL_goes 243 = .ok (.ifCond .eq 8, 3) := by decide +kernel
theorem dL_goes_246 : decode cL_goes 246 = .ok (.bipush (-101), 2) := by decide +kernel
theorem dL_goes_248 : decode cL_goes 248 = .ok (.goto 19, 3) := by decide +kernel
theorem dL_goes_251 : decode cL_goes 251 = .ok (.iload 8, 2) := by decide +kernel
theorem dL_goes_253 : decode cL_goes 253 = .ok (.bipush 9, 2) := by decide +kernel
theorem dL_goes_255 : decode cL_goes 255 = .ok (.if_icmp .ne 8, 3) := by decide +kernel
theorem dL_goes_258 : decode cL_goes 258 = .ok (.bipush (-103), 2) := by decide +kernel
theorem dL_goes_260 : decode cL_goes 260 = .ok (.goto 7, 3) := by decide +kernel
theorem dL_goes_263 : decode cL_goes 263 = .ok (.iload 8, 2) := by decide +kernel
theorem dL_goes_265 : decode cL_goes 265 = .ok (.iconst 1, 1) := by decide +kernel
theorem dL_goes_266 : decode cL_goes 266 = .ok (.iadd, 1) := by decide +kernel
theorem dL_goes_267 : decode cL_goes 267 = .ok (.if_icmp .ne 7, 3) := by decide +kernel
theorem dL_goes_270 : decode cL_goes 270 = .ok (.iconst 1, 1) := by decide +kernel
theorem dL_goes_271 : decode cL_goes 271 = .ok (.goto 4, 3) := by decide +kernel
theorem dL_goes_274 : decode cL_goes 274 = .ok (.iconst 0, 1) := by decide +kernel
theorem dL_goes_275 : decode cL_goes 275 = .ok (.ireturn, 1) := by decide +kernel
theorem dL_goes_276 : decode cL_goes 276 = .ok (.iload_n 1, 1) := by decide +kernel
theorem dL_goes_277 : decode cL_goes 277 = .ok (.bipush 9, 2) := by decide +kernel
theorem dL_goes_279 : decode cL_goes 279 = .ok (.if_icmp .ne 62, 3) := by decide +kernel
theorem dL_goes_282 : decode cL_goes 282 = .ok (.iload 4, 2) := by decide +kernel
theorem dL_goes_284 : decode cL_goes 284 = .ok (.iconst 3, 1) := by decide +kernel
theorem dL_goes_285 : decode cL_goes 285 = .ok (.if_icmp .ne 7, 3) := by decide +kernel
theorem dL_goes_288 : decode cL_goes 288 = .ok (.iconst 0, 1) := by decide +kernel
theorem dL_goes_289 : decode cL_goes 289 = .ok (.goto 10, 3) := by decide +kernel
theorem dL_goes_292 : decode cL_goes 292 = .ok (.aload_n 0, 1) := by decide +kernel
theorem dL_goes_293 : decode cL_goes 293 = .ok (.iload 4, 2) := by decide +kernel
theorem dL_goes_295 : decode cL_goes 295 = .ok (.iconst 1, 1) := by decide +kernel
theorem dL_goes_296 : decode cL_goes 296 = .ok (.invokestatic 79, 3) := by decide +kernel
theorem dL_goes_299 : decode cL_goes 299 = .ok (.istore 8, 2) := by decide +kernel
theorem dL_goes_301 : decode cL_goes 301 = .ok (.aload_n 0, 1) := by decide +kernel
theorem dL_goes_302 : decode cL_goes 302 = .ok (.iload 4, 2) := by decide +kernel
theorem dL_goes_304 : decode cL_goes 304 = .ok (.invokestatic 132, 3) := by decide +kernel
theorem dL_goes_307 : decode cL_goes 307 = .ok (.iload 4, 2) := by decide +kernel
theorem dL_goes_309 : decode cL_goes 309 = .ok (.iconst 3, 1) := by decide +kernel
theorem dL_goes_310 : decode cL_goes 310 = .ok (.if_icmp .ne 8, 3) := by decide +kernel
theorem dL_goes_313 : decode cL_goes 313 = .ok (.bipush (-101), 2) := by decide +kernel
theorem dL_goes_315 : decode cL_goes 315 = .ok (.goto 17, 3) := by decide +kernel
theorem dL_goes_318 : decode cL_goes 318 = .ok (.iload 8, 2) := by decide +kernel
theorem dL_goes_320 : decode cL_goes 320 = .ok (.ifCond .ne 8, 3) := by decide +kernel
theorem dL_goes_323 : decode cL_goes 323 = .ok (.bipush (-103), 2) := by decide +kernel
theorem dL_goes_325 : decode cL_goes 325 = .ok (.goto 7, 3) := by decide +kernel
theorem dL_goes_328 : decode cL_goes 328 = .ok (.iload 8, 2) := by decide +kernel
theorem dL_goes_330 : decode cL_goes 330 = .ok (.iconst 1, 1) := by decide +kernel
theorem dL_goes_331 : decode cL_goes 331 = .ok (.isub, 1) := by decide +kernel
theorem dL_goes_332 : decode cL_goes 332 = .ok (.if_icmp .ne 7, 3) := by decide +kernel
theorem dL_goes_335 : decode cL_goes 335 = .ok (.iconst 1, 1) := by decide +kernel
theorem dL_goes_336 : decode cL_goes 336 = .ok (.goto 4, 3) := by decide +kernel
theorem dL_goes_339 : decode cL_goes 339 = .ok (.iconst 0, 1) := by decide +kernel
theorem dL_goes_340 : decode cL_goes 340 = .ok (.ireturn, 1) := by decide +kernel
theorem dL_goes_341 : decode cL_goes 341 = .ok (.iload_n 2, 1) := by decide +kernel
theorem dL_goes_342 : decode cL_goes 342 = .ok (.bipush 6, 2) := by decide +kernel
theorem dL_goes_344 : decode cL_goes 344 = .ok (.ishr, 1) := by decide +kernel
theorem dL_goes_345 : decode cL_goes 345 = .ok (.bipush 22, 2) := by decide +kernel
theorem dL_goes_347 : decode cL_goes 347 = .ok (.invokestatic 102, 3) := by decide +kernel
theorem dL_goes_350 : decode cL_goes 350 = .ok (.istore 8, 2) := by decide +kernel
theorem dL_goes_352 : decode cL_goes 352 = .ok (.iload 4, 2) := by decide +kernel
theorem dL_goes_354 : decode cL_goes 354 = .ok (.iconst 3, 1) := by decide +kernel
theorem dL_goes_355 : decode cL_goes 355 = .ok (.if_icmp .ne 7, 3) := by decide +kernel
theorem dL_goes_358 : decode cL_goes 358 = .ok (.iconst 0, 1) := by decide +kernel
theorem dL_goes_359 : decode cL_goes 359 = .ok (.goto 18, 3) := by decide +kernel
theorem dL_goes_362 : decode cL_goes 362 = .ok (.aload_n 0, 1) := by decide +kernel
theorem dL_goes_363 : decode cL_goes 363 = .ok (.iload 4, 2) := by decide +kernel
theorem dL_goes_365 : decode cL_goes 365 = .ok (.iconst 1, 1) := by decide +kernel
theorem dL_goes_366 : decode cL_goes 366 = .ok (.invokestatic 79, 3) := by decide +kernel
theorem dL_goes_369 : decode cL_goes 369 = .ok (.aload_n 0, 1) := by decide +kernel
theorem dL_goes_370 : decode cL_goes 370 = .ok (.iload 4, 2) := by decide +kernel
theorem dL_goes_372 : decode cL_goes 372 = .ok (.iconst 2, 1) := by decide +kernel
theorem dL_goes_373 : decode cL_goes 373 = .ok (.invokestatic 79, 3) := by decide +kernel
theorem dL_goes_376 : decode cL_goes 376 = .ok (.iadd, 1) := by decide +kernel
theorem dL_goes_377 : decode cL_goes 377 = .ok (.istore 9, 2) := by decide +kernel
theorem dL_goes_379 : decode cL_goes 379 = .ok (.iload 4, 2) := by decide +kernel
theorem dL_goes_381 : decode cL_goes 381 = .ok (.iconst 3, 1) := by decide +kernel
theorem dL_goes_382 : decode cL_goes 382 = .ok (.if_icmp .ne 7, 3) := by decide +kernel
theorem dL_goes_385 : decode cL_goes 385 = .ok (.iconst 0, 1) := by decide +kernel
theorem dL_goes_386 : decode cL_goes 386 = .ok (.goto 10, 3) := by decide +kernel
theorem dL_goes_389 : decode cL_goes 389 = .ok (.aload_n 0, 1) := by decide +kernel
theorem dL_goes_390 : decode cL_goes 390 = .ok (.iload 4, 2) := by decide +kernel
theorem dL_goes_392 : decode cL_goes 392 = .ok (.iconst 0, 1) := by decide +kernel
theorem dL_goes_393 : decode cL_goes 393 = .ok (.invokestatic 79, 3) := by decide +kernel
theorem dL_goes_396 : decode cL_goes 396 = .ok (.istore 10, 2) := by decide +kernel
theorem dL_goes_398 : decode cL_goes 398 = .ok (.aload_n 0, 1) := by decide +kernel
theorem dL_goes_399 : decode cL_goes 399 = .ok (.iload 4, 2) := by decide +kernel
theorem dL_goes_401 : decode cL_goes 401 = .ok (.iload 8, 2) := by decide +kernel
theorem dL_goes_403 : decode cL_goes 403 = .ok (.invokestatic 134, 3) := by decide +kernel
theorem dL_goes_406 : decode cL_goes 406 = .ok (.iload 4, 2) := by decide +kernel
theorem dL_goes_408 : decode cL_goes 408 = .ok (.iconst 3, 1) := by decide +kernel
theorem dL_goes_409 : decode cL_goes 409 = .ok (.if_icmp .ne 8, 3) := by decide +kernel
theorem dL_goes_412 : decode cL_goes 412 = .ok (.bipush (-101), 2) := by decide +kernel
theorem dL_goes_414 : decode cL_goes 414 = .ok (.goto 29, 3) := by decide +kernel
theorem dL_goes_417 : decode cL_goes 417 = .ok (.iload 8, 2) := by decide +kernel
theorem dL_goes_419 : decode cL_goes 419 = .ok (.bipush 21, 2) := by decide +kernel
theorem dL_goes_421 : decode cL_goes 421 = .ok (.if_icmp .ne 8, 3) := by decide +kernel
theorem dL_goes_424 : decode cL_goes 424 = .ok (.bipush (-102), 2) := by decide +kernel
theorem dL_goes_426 : decode cL_goes 426 = .ok (.goto 17, 3) := by decide +kernel
theorem dL_goes_429 : decode cL_goes 429 = .ok (.iload 8, 2) := by decide +kernel
theorem dL_goes_431 : decode cL_goes 431 = .ok (.iload 9, 2) := by decide +kernel
theorem dL_goes_433 : decode cL_goes 433 = .ok (.if_icmp .ge 8, 3) := by decide +kernel
theorem dL_goes_436 : decode cL_goes 436 = .ok (.bipush (-103), 2) := by decide +kernel
theorem dL_goes_438 : decode cL_goes 438 = .ok (.goto 5, 3) := by decide +kernel
theorem dL_goes_441 : decode cL_goes 441 = .ok (.iload 10, 2) := by decide +kernel
theorem dL_goes_443 : decode cL_goes 443 = .ok (.if_icmp .ne 7, 3) := by decide +kernel
theorem dL_goes_446 : decode cL_goes 446 = .ok (.iconst 1, 1) := by decide +kernel
theorem dL_goes_447 : decode cL_goes 447 = .ok (.goto 4, 3) := by decide +kernel
theorem dL_goes_450 : decode cL_goes 450 = .ok (.iconst 0, 1) := by decide +kernel
theorem dL_goes_451 : decode cL_goes 451 = .ok (.ireturn, 1) := by decide +kernel
theorem dL_acts_0 : decode cL_acts 0 = .ok (.iload_n 1, 1) := by decide +kernel
theorem dL_acts_1 : decode cL_acts 1 = .ok (.bipush 20, 2) := by decide +kernel
theorem dL_acts_3 : decode cL_acts 3 = .ok (.invokestatic 102, 3) := by decide +kernel
theorem dL_acts_6 : decode cL_acts 6 = .ok (.istore_n 3, 1) := by decide +kernel
theorem dL_acts_7 : decode cL_acts 7 = .ok (.iload_n 3, 1) := by decide +kernel
theorem dL_acts_8 : decode cL_acts 8 = .ok (.ifCond .ne 36, 3) := by decide +kernel
theorem dL_acts_11 : decode cL_acts 11 = .ok (.aload_n 0, 1) := by decide +kernel
theorem dL_acts_12 : decode cL_acts 12 = .ok (.iconst 1, 1) := by decide +kernel
theorem dL_acts_13 : decode cL_acts 13 = .ok (.invokevirtual 76, 3) := by decide +kernel
theorem dL_acts_16 : decode cL_acts 16 = .ok (.istore 4, 2) := by decide +kernel
theorem dL_acts_18 : decode cL_acts 18 = .ok (.aload_n 0, 1) := by decide +kernel
theorem dL_acts_19 : decode cL_acts 19 = .ok (.invokestatic 136, 3) := by decide +kernel
theorem dL_acts_22 : decode cL_acts 22 = .ok (.iload 4, 2) := by decide +kernel
theorem dL_acts_24 : decode cL_acts 24 = .ok (.iconst 4, 1) := by decide +kernel
theorem dL_acts_25 : decode cL_acts 25 = .ok (.if_icmp .ne 8, 3) := by decide +kernel
theorem dL_acts_28 : decode cL_acts 28 = .ok (.bipush (-103), 2) := by decide +kernel
theorem dL_acts_30 : decode cL_acts 30 = .ok (.goto 5, 3) := by decide +kernel
theorem dL_acts_33 : decode cL_acts 33 = .ok (.iload 4, 2) := by decide +kernel
theorem dL_acts_35 : decode cL_acts 35 = .ok (.if_icmp .ne 7, 3) := by decide +kernel
theorem dL_acts_38 : decode cL_acts 38 = .ok (.iconst 1, 1) := by decide +kernel
theorem dL_acts_39 : decode cL_acts 39 = .ok (.goto 4, 3) := by decide +kernel
theorem dL_acts_42 : decode cL_acts 42 = .ok (.iconst 0, 1) := by decide +kernel
theorem dL_acts_43 : decode cL_acts 43 = .ok (.ireturn, 1) := by decide +kernel
theorem dL_acts_44 : decode cL_acts 44 = .ok (.iload_n 3, 1) := by decide +kernel
theorem dL_acts_45 : decode cL_acts 45 = .ok (.bipush 12, 2) := by decide +kernel
theorem dL_acts_47 : decode cL_acts 47 = .ok (.if_icmp .ge 12, 3) := by decide +kernel
theorem dL_acts_50 : decode cL_acts 50 = .ok (.aload_n 0, 1) := by decide +kernel
theorem dL_acts_51 : decode cL_acts 51 = .ok (.iload_n 3, 1) := by decide +kernel
theorem dL_acts_52 : decode cL_acts 52 = .ok (.iconst 1, 1) := by decide +kernel
theorem dL_acts_53 : decode cL_acts 53 = .ok (.isub, 1) := by decide +kernel
theorem dL_acts_54 : decode cL_acts 54 = .ok (.iload_n 2, 1) := by decide +kernel
theorem dL_acts_55 : decode cL_acts 55 = .ok (.invokestatic 138, 3) := by decide +kernel
theorem dL_acts_58 : decode cL_acts 58 = .ok (.ireturn, 1) := by decide +kernel
theorem dL_acts_59 : decode cL_acts 59 = .ok (.iload_n 3, 1) := by decide +kernel
theorem dL_acts_60 : decode cL_acts 60 = .ok (.bipush 12, 2) := by decide +kernel
theorem dL_acts_62 : decode cL_acts 62 = .ok (.if_icmp .ne 124, 3) := by decide +kernel
theorem dL_acts_65 : decode cL_acts 65 = .ok (.iload_n 2, 1) := by decide +kernel
theorem dL_acts_66 : decode cL_acts 66 = .ok (.iconst 4, 1) := by decide +kernel
theorem dL_acts_67 : decode cL_acts 67 = .ok (.invokestatic 102, 3) := by decide +kernel
theorem dL_acts_70 : decode cL_acts 70 = .ok (.istore 4, 2) := by decide +kernel
theorem dL_acts_72 : decode cL_acts 72 = .ok (.iload_n 2, 1) := by decide +kernel
theorem dL_acts_73 : decode cL_acts 73 = .ok (.iconst 2, 1) := by decide +kernel
theorem dL_acts_74 : decode cL_acts 74 = .ok (.ishr, 1) := by decide +kernel
theorem dL_acts_75 : decode cL_acts 75 = .ok (.iload 4, 2) := by decide +kernel
theorem dL_acts_77 : decode cL_acts 77 = .ok (.iconst 1, 1) := by decide +kernel
theorem dL_acts_78 : decode cL_acts 78 = .ok (.if_icmp .ne 8, 3) := by decide +kernel
theorem dL_acts_81 : decode cL_acts 81 = .ok (.bipush 101, 2) := by decide +kernel
theorem dL_acts_83 : decode cL_acts 83 = .ok (.goto 5, 3) := by decide +kernel
theorem dL_acts_86 : decode cL_acts 86 = .ok (.bipush 11, 2) := by decide +kernel
theorem dL_acts_88 : decode cL_acts 88 = .ok (.invokestatic 102, 3) := by decide +kernel
theorem dL_acts_91 : decode cL_acts 91 = .ok (.istore 5, 2) := by decide +kernel
theorem dL_acts_93 : decode cL_acts 93 = .ok (.iload 4, 2) := by decide +kernel
theorem dL_acts_95 : decode cL_acts 95 = .ok (.ifCond .ne 8, 3) := by decide +kernel
theorem dL_acts_98 : decode cL_acts 98 = .ok (.iload 5, 2) := by decide +kernel
theorem dL_acts_100 : decode cL_acts 100 = .ok (.ifCond .eq 21, 3) := by decide +kernel
theorem dL_acts_103 : decode cL_acts 103 = .ok (.iload 5, 2) := by decide +kernel
theorem dL_acts_105 : decode cL_acts 105 = .ok (.iload 4, 2) := by decide +kernel
theorem dL_acts_107 : decode cL_acts 107 = .ok (.iconst 1, 1) := by decide +kernel
theorem dL_acts_108 : decode cL_acts 108 = .ok (.if_icmp .ne 8, 3) := by decide +kernel
theorem dL_acts_111 : decode cL_acts 111 = .ok (.bipush 99, 2) := by decide +kernel
theorem dL_acts_113 : decode cL_acts 113 = .ok (.goto 5, 3) := by decide +kernel
theorem dL_acts_116 : decode cL_acts 116 = .ok (.bipush 9, 2) := by decide +kernel
theorem dL_acts_118 : decode cL_acts 118 = .ok (.if_icmp .le 7, 3) := by decide +kernel
theorem dL_acts_121 : decode cL_acts 121 = .ok (.iconst 1, 1) := by decide +kernel
theorem dL_acts_122 : decode cL_acts 122 = .ok (.goto 4, 3) := by decide +kernel
theorem dL_acts_125 : decode cL_acts 125 = .ok (.iconst 0, 1) := by decide +kernel
theorem dL_acts_126 : decode cL_acts 126 = .ok (.istore 6, 2) := by decide +kernel
theorem dL_acts_128 : decode cL_acts 128 = .ok (.iload 4, 2) := by decide +kernel
theorem dL_acts_130 : decode cL_acts 130 = .ok (.iconst 3, 1) := by decide +kernel
theorem dL_acts_131 : decode cL_acts 131 = .ok (.if_icmp .ne 7, 3) := by decide +kernel
theorem dL_acts_134 : decode cL_acts 134 = .ok (.iconst 0, 1) := by decide +kernel
theorem dL_acts_135 : decode cL_acts 135 = .ok (.goto 9, 3) := by decide +kernel
theorem dL_acts_138 : decode cL_acts 138 = .ok (.aload_n 0, 1) := by decide +kernel
theorem dL_acts_139 : decode cL_acts 139 = .ok (.iload 4, 2) := by decide +kernel
theorem dL_acts_141 : decode cL_acts 141 = .ok (.invokevirtual 89, 3) := by decide +kernel
theorem dL_acts_144 : decode cL_acts 144 = .ok (.istore 7, 2) := by decide +kernel
theorem dL_acts_146 : decode cL_acts 146 = .ok (.aload_n 0, 1) := by decide +kernel
theorem dL_acts_147 : decode cL_acts 147 = .ok (.iload 4, 2) := by decide +kernel
theorem dL_acts_149 : decode cL_acts 149 = .ok (.iload 5, 2) := by decide +kernel
theorem dL_acts_151 : decode cL_acts 151 = .ok (.invokestatic 142, 3) := by decide +kernel
theorem dL_acts_154 : decode cL_acts 154 = .ok (.iload 4, 2) := by decide +kernel
theorem dL_acts_156 : decode cL_acts 156 = .ok (.iconst 3, 1) := by decide +kernel
theorem dL_acts_157 : decode cL_acts 157 = .ok (.if_icmp .ne 8, 3) := by decide +kernel
theorem dL_acts_160 : decode cL_acts 160 = .ok (.bipush (-101), 2) := by decide +kernel
theorem dL_acts_162 : decode cL_acts 162 = .ok (.goto 15, 3) := by decide +kernel
theorem dL_acts_165 : decode cL_acts 165 = .ok (.iload 6, 2) := by decide +kernel
theorem dL_acts_167 : decode cL_acts 167 = .ok (.ifCond .eq 8, 3) := by decide +kernel
theorem dL_acts_170 : decode cL_acts 170 = .ok (.bipush (-102), 2) := by decide +kernel
theorem dL_acts_172 : decode cL_acts 172 = .ok (.goto 5, 3) := by decide +kernel
theorem dL_acts_175 : decode cL_acts 175 = .ok (.iload 7, 2) := by decide +kernel
theorem dL_acts_177 : decode cL_acts 177 = .ok (.if_icmp .ne 7, 3) := by decide +kernel
theorem dL_acts_180 : decode cL_acts 180 = .ok (.iconst 1, 1) := by decide +kernel
theorem dL_acts_181 : decode cL_acts 181 = .ok (.goto 4, 3) := by decide +kernel
theorem dL_acts_184 : decode cL_acts 184 = .ok (.iconst 0, 1) := by decide +kernel
theorem dL_acts_185 : decode cL_acts 185 = .ok (.ireturn, 1) := by decide +kernel
theorem dL_acts_186 : decode cL_acts 186 = .ok (.iload_n 3, 1) := by decide +kernel
theorem dL_acts_187 : decode cL_acts 187 = .ok (.bipush 18, 2) := by decide +kernel
theorem dL_acts_189 : decode cL_acts 189 = .ok (.if_icmp .ge 116, 3) := by decide +kernel
theorem dL_acts_192 : decode cL_acts 192 = .ok (.iload_n 2, 1) := by decide +kernel
theorem dL_acts_193 : decode cL_acts 193 = .ok (.iload_n 2, 1) := by decide +kernel
theorem dL_acts_194 : decode cL_acts 194 = .ok (.bipush 7, 2) := by decide +kernel
theorem dL_acts_196 : decode cL_acts 196 = .ok (.ishr, 1) := by decide +kernel
theorem dL_acts_197 : decode cL_acts 197 = .ok (.iconst 4, 1) := by decide +kernel
theorem dL_acts_198 : decode cL_acts 198 = .ok (.invokestatic 102, 3) := by decide +kernel
theorem dL_acts_201 : decode cL_acts 201 = .ok (.ifCond .ne 8, 3) := by decide +kernel
theorem dL_acts_204 : decode cL_acts 204 = .ok (.bipush 62, 2) := by decide +kernel
theorem dL_acts_206 : decode cL_acts 206 = .ok (.goto 4, 3) := by decide +kernel
theorem dL_acts_209 : decode cL_acts 209 = .ok (.iconst 5, 1) := by decide +kernel
theorem dL_acts_210 : decode cL_acts 210 = .ok (.invokestatic 102, 3) := by decide +kernel
theorem dL_acts_213 : decode cL_acts 213 = .ok (.istore 4, 2) := by decide +kernel
theorem dL_acts_215 : decode cL_acts 215 = .ok (.aload_n 0, 1) := by decide +kernel
theorem dL_acts_216 : decode cL_acts 216 = .ok (.iload 4, 2) := by decide +kernel
theorem dL_acts_218 : decode cL_acts 218 = .ok (.iconst 0, 1) := by decide +kernel
theorem dL_acts_219 : decode cL_acts 219 = .ok (.invokestatic 105, 3) := by decide +kernel
theorem dL_acts_222 : decode cL_acts 222 = .ok (.istore 5, 2) := by decide +kernel
theorem dL_acts_224 : decode cL_acts 224 = .ok (.aload_n 0, 1) := by decide +kernel
theorem dL_acts_225 : decode cL_acts 225 = .ok (.iconst 5, 1) := by decide +kernel
theorem dL_acts_226 : decode cL_acts 226 = .ok (.invokevirtual 76, 3) := by decide +kernel
theorem dL_acts_229 : decode cL_acts 229 = .ok (.istore 6, 2) := by decide +kernel
theorem dL_acts_231 : decode cL_acts 231 = .ok (.aload_n 0, 1) := by decide +kernel
theorem dL_acts_232 : decode cL_acts 232 = .ok (.iconst 0, 1) := by decide +kernel
theorem dL_acts_233 : decode cL_acts 233 = .ok (.invokevirtual 76, 3) := by decide +kernel
theorem dL_acts_236 : decode cL_acts 236 = .ok (.istore 7, 2) := by decide +kernel
theorem dL_acts_238 : decode cL_acts 238 = .ok (.aload_n 0, 1) := by decide +kernel
theorem dL_acts_239 : decode cL_acts 239 = .ok (.iload 4, 2) := by decide +kernel
theorem dL_acts_241 : decode cL_acts 241 = .ok (.invokestatic 144, 3) := by decide +kernel
theorem dL_acts_244 : decode cL_acts 244 = .ok (.istore 8, 2) := by decide +kernel
theorem dL_acts_246 : decode cL_acts 246 = .ok (.iload 8, 2) := by decide +kernel
theorem dL_acts_248 : decode cL_acts 248 = .ok (.iload 5, 2) := by decide +kernel
theorem dL_acts_250 : decode cL_acts 250 = .ok (.if_icmp .ne 53, 3) := by decide +kernel
theorem dL_acts_253 : decode cL_acts 253 = .ok (.iload 8, 2) := by decide +kernel
theorem dL_acts_255 : decode cL_acts 255 = .ok (.ifCond .ge 18, 3) := by decide +kernel
theorem dL_acts_258 : decode cL_acts 258 = .ok (.iload 4, 2) := by decide +kernel
theorem dL_acts_260 : decode cL_acts 260 = .ok (.ifCond .eq 39, 3) := by decide +kernel
theorem dL_acts_263 : decode cL_acts 263 = .ok (.iload 4, 2) := by decide +kernel
theorem dL_acts_265 : decode cL_acts 265 = .ok (.bipush 61, 2) := by decide +kernel
