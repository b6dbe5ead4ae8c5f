theorem dL_isDone_376 : decode cL_isDone 376 = .ok (.iload 6, 2) := by decide +kernel
theorem dL_isDone_378 : decode cL_isDone 378 = .ok (.bipush 37, 2) := by decide +kernel
theorem dL_isDone_380 : decode cL_isDone 380 = .ok (.if_icmp .ge 100, 3) := by decide +kernel
theorem dL_isDone_383 : decode cL_isDone 383 = .ok (.iload 8, 2) := by decide +kernel
theorem dL_isDone_385 : decode cL_isDone 385 = .ok (.bipush 30, 2) := by decide +kernel
theorem dL_isDone_387 : decode cL_isDone 387 = .ok (.irem, 1) := by decide +kernel
theorem dL_isDone_388 : decode cL_isDone 388 = .ok (.ifCond .ne 8, 3) := by decide +kernel
theorem dL_isDone_391 : decode cL_isDone 391 = .ok (.bipush 101, 2) := by decide +kernel
theorem dL_isDone_393 : decode cL_isDone 393 = .ok (.goto 10, 3) := by decide +kernel
theorem dL_isDone_396 : decode cL_isDone 396 = .ok (.iconst 1, 1) := by decide +kernel
theorem dL_isDone_397 : decode cL_isDone 397 = .ok (.iload 8, 2) := by decide +kernel
theorem dL_isDone_399 : decode cL_isDone 399 = .ok (.bipush 20, 2) := by decide +kernel
theorem dL_isDone_401 : decode cL_isDone 401 = .ok (.irem, 1) := by decide +kernel
theorem dL_isDone_402 : decode cL_isDone 402 = .ok (.iadd, 1) := by decide +kernel
theorem dL_isDone_403 : decode cL_isDone 403 = .ok (.istore 10, 2) := by decide +kernel
theorem dL_isDone_405 : decode cL_isDone 405 = .ok (.aload_n 0, 1) := by decide +kernel
theorem dL_isDone_406 : decode cL_isDone 406 = .ok (.iconst 5, 1) := by decide +kernel
theorem dL_isDone_407 : decode cL_isDone 407 = .ok (.iload 10, 2) := by decide +kernel
theorem dL_isDone_409 : decode cL_isDone 409 = .ok (.iconst 0, 1) := by decide +kernel
theorem dL_isDone_410 : decode cL_isDone 410 = .ok (.iconst 0, 1) := by decide +kernel
theorem dL_isDone_411 : decode cL_isDone 411 = .ok (.iconst 0, 1) := by decide +kernel
theorem dL_isDone_412 : decode cL_isDone 412 = .ok (.invokestatic 80, 3) := by decide +kernel
theorem dL_isDone_415 : decode cL_isDone 415 = .ok (.istore 11, 2) := by decide +kernel
theorem dL_isDone_417 : decode cL_isDone 417 = .ok (.aload 5, 2) := by decide +kernel
theorem dL_isDone_419 : decode cL_isDone 419 = .ok (.iconst 0, 1) := by decide +kernel
theorem dL_isDone_420 : decode cL_isDone 420 = .ok (.dup2, 1) := by decide +kernel
theorem dL_isDone_421 : decode cL_isDone 421 = .ok (.iaload, 1) := by decide +kernel
theorem dL_isDone_422 : decode cL_isDone 422 = .ok (.iload 10, 2) := by decide +kernel
theorem dL_isDone_424 : decode cL_isDone 424 = .ok (.bipush 101, 2) := by decide +kernel
theorem dL_isDone_426 : decode cL_isDone 426 = .ok (.if_icmp .ge 8, 3) := by decide +kernel
theorem dL_isDone_429 : decode cL_isDone 429 = .ok (.iload 10, 2) := by decide +kernel
theorem dL_isDone_431 : decode cL_isDone 431 = .ok (.goto 4, 3) := by decide +kernel
theorem dL_isDone_434 : decode cL_isDone 434 = .ok (.iconst 0, 1) := by decide +kernel
theorem dL_isDone_435 : decode cL_isDone 435 = .ok (.iadd, 1) := by decide +kernel
theorem dL_isDone_436 : decode cL_isDone 436 = .ok (.iastore, 1) := by decide +kernel
theorem dL_isDone_437 : decode cL_isDone 437 = .ok (.iload 10, 2) := by decide +kernel
theorem dL_isDone_439 : decode cL_isDone 439 = .ok (.bipush 101, 2) := by decide +kernel
theorem dL_isDone_441 : decode cL_isDone 441 = .ok (.if_icmp .ge 26, 3) := by decide +kernel
theorem dL_isDone_444 : decode cL_isDone 444 = .ok (.iload 11, 2) := by decide +kernel
theorem dL_isDone_446 : decode cL_isDone 446 = .ok (.ifCond .lt 17, 3) := by decide +kernel
theorem dL_isDone_449 : decode cL_isDone 449 = .ok (.iload 11, 2) := by decide +kernel
theorem dL_isDone_451 : decode cL_isDone 451 = .ok (.bipush 10, 2) := by decide +kernel
theorem dL_isDone_453 : decode cL_isDone 453 = .ok (.iload 10, 2) := by decide +kernel
theorem dL_isDone_455 : decode cL_isDone 455 = .ok (.imul, 1) := by decide +kernel
theorem dL_isDone_456 : decode cL_isDone 456 = .ok (.if_icmp .gt 7, 3) := by decide +kernel
theorem dL_isDone_459 : decode cL_isDone 459 = .ok (.iconst 1, 1) := by decide +kernel
theorem dL_isDone_460 : decode cL_isDone 460 = .ok (.goto 19, 3) := by decide +kernel
theorem dL_isDone_463 : decode cL_isDone 463 = .ok (.iconst 0, 1) := by decide +kernel
theorem dL_isDone_464 : decode cL_isDone 464 = .ok (.goto 15, 3) := by decide +kernel
theorem dL_isDone_467 : decode cL_isDone 467 = .ok (.iload 11, 2) := by decide +kernel
theorem dL_isDone_469 : decode cL_isDone 469 = .ok (.bipush (-20), 2) := by decide +kernel
theorem dL_isDone_471 : decode cL_isDone 471 = .ok (.if_icmp .ne 7, 3) := by decide +kernel
theorem dL_isDone_474 : decode cL_isDone 474 = .ok (.iconst 1, 1) := by decide +kernel
theorem dL_isDone_475 : decode cL_isDone 475 = .ok (.goto 4, 3) := by decide +kernel
theorem dL_isDone_478 : decode cL_isDone 478 = .ok (.iconst 0, 1) := by decide +kernel
theorem dL_isDone_479 : decode cL_isDone 479 = .ok (.ireturn, 1) := by decide +kernel
theorem dL_isDone_480 : decode cL_isDone 480 = .ok (.aload_n 0, 1) := by decide +kernel
theorem dL_isDone_481 : decode cL_isDone 481 = .ok (.aload_n 3, 1) := by decide +kernel
theorem dL_isDone_482 : decode cL_isDone 482 = .ok (.aload 4, 2) := by decide +kernel
theorem dL_isDone_484 : decode cL_isDone 484 = .ok (.invokestatic 117, 3) := by decide +kernel
theorem dL_isDone_487 : decode cL_isDone 487 = .ok (.ireturn, 1) := by decide +kernel
theorem dL_law_0 : decode cL_law 0 = .ok (.new 9, 3) := by decide +kernel
theorem dL_law_3 : decode cL_law 3 = .ok (.dup, 1) := by decide +kernel
theorem dL_law_4 : decode cL_law 4 = .ok (.invokespecial 120, 3) := by decide +kernel
theorem dL_law_7 : decode cL_law 7 = .ok (.astore_n 1, 1) := by decide +kernel
theorem dL_law_8 : decode cL_law 8 = .ok (.bipush 64, 2) := by decide +kernel
theorem dL_law_10 : decode cL_law 10 = .ok (.newarray .int, 2) := by decide +kernel
theorem dL_law_12 : decode cL_law 12 = .ok (.astore_n 2, 1) := by decide +kernel
theorem dL_law_13 : decode cL_law 13 = .ok (.bipush 20, 2) := by decide +kernel
theorem dL_law_15 : decode cL_law 15 = .ok (.newarray .int, 2) := by decide +kernel
theorem dL_law_17 : decode cL_law 17 = .ok (.astore_n 3, 1) := by decide +kernel
theorem dL_law_18 : decode cL_law 18 = .ok (.iconst 3, 1) := by decide +kernel
theorem dL_law_19 : decode cL_law 19 = .ok (.newarray .int, 2) := by decide +kernel
theorem dL_law_21 : decode cL_law 21 = .ok (.astore 4, 2) := by decide +kernel
theorem dL_law_23 : decode cL_law 23 = .ok (.aload 4, 2) := by decide +kernel
theorem dL_law_25 : decode cL_law 25 = .ok (.iconst 1, 1) := by decide +kernel
theorem dL_law_26 : decode cL_law 26 = .ok (.iconst 1, 1) := by decide +kernel
theorem dL_law_27 : decode cL_law 27 = .ok (.iastore, 1) := by decide +kernel
theorem dL_law_28 : decode cL_law 28 = .ok (.aload_n 1, 1) := by decide +kernel
theorem dL_law_29 : decode cL_law 29 = .ok (.aload_n 2, 1) := by decide +kernel
theorem dL_law_30 : decode cL_law 30 = .ok (.aload_n 3, 1) := by decide +kernel
theorem dL_law_31 : decode cL_law 31 = .ok (.aload 4, 2) := by decide +kernel
theorem dL_law_33 : decode cL_law 33 = .ok (.iconst 0, 1) := by decide +kernel
theorem dL_law_34 : decode cL_law 34 = .ok (.iconst 1, 1) := by decide +kernel
theorem dL_law_35 : decode cL_law 35 = .ok (.invokestatic 121, 3) := by decide +kernel
theorem dL_law_38 : decode cL_law 38 = .ok (.istore 5, 2) := by decide +kernel
theorem dL_law_40 : decode cL_law 40 = .ok (.iconst 0, 1) := by decide +kernel
theorem dL_law_41 : decode cL_law 41 = .ok (.istore 6, 2) := by decide +kernel
theorem dL_law_43 : decode cL_law 43 = .ok (.iload 6, 2) := by decide +kernel
theorem dL_law_45 : decode cL_law 45 = .ok (.bipush 60, 2) := by decide +kernel
theorem dL_law_47 : decode cL_law 47 = .ok (.if_icmp .ge 72, 3) := by decide +kernel
theorem dL_law_50 : decode cL_law 50 = .ok (.iload 5, 2) := by decide +kernel
theorem dL_law_52 : decode cL_law 52 = .ok (.ifCond .eq 67, 3) := by decide +kernel
theorem dL_law_55 : decode cL_law 55 = .ok (.aload_n 1, 1) := by decide +kernel
theorem dL_law_56 : decode cL_law 56 = .ok (.aload_n 0, 1) := by decide +kernel
theorem dL_law_57 : decode cL_law 57 = .ok (.iconst 4, 1) := by decide +kernel
theorem dL_law_58 : decode cL_law 58 = .ok (.iload 6, 2) := by decide +kernel
theorem dL_law_60 : decode cL_law 60 = .ok (.imul, 1) := by decide +kernel
theorem dL_law_61 : decode cL_law 61 = .ok (.aload_n 2, 1) := by decide +kernel
theorem dL_law_62 : decode cL_law 62 = .ok (.aload_n 3, 1) := by decide +kernel
theorem dL_law_63 : decode cL_law 63 = .ok (.aload 4, 2) := by decide +kernel
theorem dL_law_65 : decode cL_law 65 = .ok (.invokestatic 125, 3) := by decide +kernel
theorem dL_law_68 : decode cL_law 68 = .ok (.ifCond .eq 42, 3) := by decide +kernel
theorem dL_law_71 : decode cL_law 71 = .ok (.aload_n 1, 1) := by decide +kernel
theorem dL_law_72 : decode cL_law 72 = .ok (.aload_n 2, 1) := by decide +kernel
theorem dL_law_73 : decode cL_law 73 = .ok (.aload_n 3, 1) := by decide +kernel
theorem dL_law_74 : decode cL_law 74 = .ok (.aload 4, 2) := by decide +kernel
theorem dL_law_76 : decode cL_law 76 = .ok (.aload_n 0, 1) := by decide +kernel
theorem dL_law_77 : decode cL_law 77 = .ok (.iconst 4, 1) := by decide +kernel
theorem dL_law_78 : decode cL_law 78 = .ok (.iload 6, 2) := by decide +kernel
theorem dL_law_80 : decode cL_law 80 = .ok (.imul, 1) := by decide +kernel
theorem dL_law_81 : decode cL_law 81 = .ok (.iconst 1, 1) := by decide +kernel
theorem dL_law_82 : decode cL_law 82 = .ok (.iadd, 1) := by decide +kernel
theorem dL_law_83 : decode cL_law 83 = .ok (.bipush 10, 2) := by decide +kernel
theorem dL_law_85 : decode cL_law 85 = .ok (.invokestatic 102, 3) := by decide +kernel
theorem dL_law_88 : decode cL_law 88 = .ok (.aload_n 0, 1) := by decide +kernel
theorem dL_law_89 : decode cL_law 89 = .ok (.iconst 4, 1) := by decide +kernel
theorem dL_law_90 : decode cL_law 90 = .ok (.iload 6, 2) := by decide +kernel
theorem dL_law_92 : decode cL_law 92 = .ok (.imul, 1) := by decide +kernel
theorem dL_law_93 : decode cL_law 93 = .ok (.iconst 2, 1) := by decide +kernel
theorem dL_law_94 : decode cL_law 94 = .ok (.iadd, 1) := by decide +kernel
theorem dL_law_95 : decode cL_law 95 = .ok (.bipush 10, 2) := by decide +kernel
theorem dL_law_97 : decode cL_law 97 = .ok (.invokestatic 102, 3) := by decide +kernel
theorem dL_law_100 : decode cL_law 100 = .ok (.invokestatic 121, 3) := by decide +kernel
theorem dL_law_103 : decode cL_law 103 = .ok (.ifCond .eq 7, 3) := by decide +kernel
theorem dL_law_106 : decode cL_law 106 = .ok (.iconst 1, 1) := by decide +kernel
theorem dL_law_107 : decode cL_law 107 = .ok (.goto 4, 3) := by decide +kernel
theorem dL_law_110 : decode cL_law 110 = .ok (.iconst 0, 1) := by decide +kernel
theorem dL_law_111 : decode cL_law 111 = .ok (.istore 5, 2) := by decide +kernel
theorem dL_law_113 : decode cL_law 113 = .ok (.iinc 6 1, 3) := by decide +kernel
theorem dL_law_116 : decode cL_law 116 = .ok (.goto (-73), 3) := by decide +kernel
theorem dL_law_119 : decode cL_law 119 = .ok (.iload 5, 2) := by decide +kernel
theorem dL_law_121 : decode cL_law 121 = .ok (.ifCond .eq 132, 3) := by decide +kernel
theorem dL_law_124 : decode cL_law 124 = .ok (.aload_n 1, 1) := by decide +kernel
theorem dL_law_125 : decode cL_law 125 = .ok (.aload_n 2, 1) := by decide +kernel
theorem dL_law_126 : decode cL_law 126 = .ok (.aload_n 3, 1) := by decide +kernel
theorem dL_law_127 : decode cL_law 127 = .ok (.invokestatic 117, 3) := by decide +kernel
theorem dL_law_130 : decode cL_law 130 = .ok (.ifCond .eq 123, 3) := by decide +kernel
theorem dL_law_133 : decode cL_law 133 = .ok (.aload_n 1, 1) := by decide +kernel
theorem dL_law_134 : decode cL_law 134 = .ok (.iconst 0, 1) := by decide +kernel
theorem dL_law_135 : decode cL_law 135 = .ok (.iconst (-1), 1) := by decide +kernel
theorem dL_law_136 : decode cL_law 136 = .ok (.iconst 0, 1) := by decide +kernel
theorem dL_law_137 : decode cL_law 137 = .ok (.iconst 1, 1) := by decide +kernel
theorem dL_law_138 : decode cL_law 138 = .ok (.iconst 0, 1) := by decide +kernel
theorem dL_law_139 : decode cL_law 139 = .ok (.invokestatic 80, 3) := by decide +kernel
theorem dL_law_142 : decode cL_law 142 = .ok (.bipush (-20), 2) := by decide +kernel
theorem dL_law_144 : decode cL_law 144 = .ok (.if_icmp .ne 109, 3) := by decide +kernel
theorem dL_law_147 : decode cL_law 147 = .ok (.aload_n 1, 1) := by decide +kernel
theorem dL_law_148 : decode cL_law 148 = .ok (.iconst 0, 1) := by decide +kernel
theorem dL_law_149 : decode cL_law 149 = .ok (.iconst 0, 1) := by decide +kernel
theorem dL_law_150 : decode cL_law 150 = .ok (.iconst 0, 1) := by decide +kernel
theorem dL_law_151 : decode cL_law 151 = .ok (.iconst 0, 1) := by decide +kernel
theorem dL_law_152 : decode cL_law 152 = .ok (.iconst 0, 1) := by decide +kernel
theorem dL_law_153 : decode cL_law 153 = .ok (.invokestatic 80, 3) := by decide +kernel
theorem dL_law_156 : decode cL_law 156 = .ok (.bipush (-20), 2) := by decide +kernel
theorem dL_law_158 : decode cL_law 158 = .ok (.if_icmp .ne 95, 3) := by decide +kernel
theorem dL_law_161 : decode cL_law 161 = .ok (.aload_n 1, 1) := by decide +kernel
theorem dL_law_162 : decode cL_law 162 = .ok (.iconst 1, 1) := by decide +kernel
theorem dL_law_163 : decode cL_law 163 = .ok (.iconst (-1), 1) := by decide +kernel
theorem dL_law_164 : decode cL_law 164 = .ok (.iconst 0, 1) := by decide +kernel
theorem dL_law_165 : decode cL_law 165 = .ok (.iconst 0, 1) := by decide +kernel
theorem dL_law_166 : decode cL_law 166 = .ok (.iconst 0, 1) := by decide +kernel
theorem dL_law_167 : decode cL_law 167 = .ok (.invokestatic 80, 3) := by decide +kernel
theorem dL_law_170 : decode cL_law 170 = .ok (.bipush (-30), 2) := by decide +kernel
theorem dL_law_172 : decode cL_law 172 = .ok (.if_icmp .ne 81, 3) := by decide +kernel
theorem dL_law_175 : decode cL_law 175 = .ok (.aload_n 1, 1) := by decide +kernel
theorem dL_law_176 : decode cL_law 176 = .ok (.iconst 2, 1) := by decide +kernel
theorem dL_law_177 : decode cL_law 177 = .ok (.iconst 0, 1) := by decide +kernel
theorem dL_law_178 : decode cL_law 178 = .ok (.iconst (-1), 1) := by decide +kernel
theorem dL_law_179 : decode cL_law 179 = .ok (.bipush 101, 2) := by decide +kernel
theorem dL_law_181 : decode cL_law 181 = .ok (.iconst 0, 1) := by decide +kernel
theorem dL_law_182 : decode cL_law 182 = .ok (.invokestatic 80, 3) := by decide +kernel
theorem dL_law_185 : decode cL_law 185 = .ok (.bipush (-30), 2) := by decide +kernel
theorem dL_law_187 : decode cL_law 187 = .ok (.if_icmp .ne 66, 3) := by decide +kernel
theorem dL_law_190 : decode cL_law 190 = .ok (.aload_n 1, 1) := by decide +kernel
theorem dL_law_191 : decode cL_law 191 = .ok (.iconst 3, 1) := by decide +kernel
theorem dL_law_192 : decode cL_law 192 = .ok (.bipush 10, 2) := by decide +kernel
theorem dL_law_194 : decode cL_law 194 = .ok (.iconst 0, 1) := by decide +kernel
theorem dL_law_195 : decode cL_law 195 = .ok (.iconst 0, 1) := by decide +kernel
theorem dL_law_196 : decode cL_law 196 = .ok (.iconst 0, 1) := by decide +kernel
theorem dL_law_197 : decode cL_law 197 = .ok (.invokestatic 80, 3) := by decide +kernel
theorem dL_law_200 : decode cL_law 200 = .ok (.bipush (-30), 2) := by decide +kernel
theorem dL_law_202 : decode cL_law 202 = .ok (.if_icmp .ne 51, 3) := by decide +kernel
theorem dL_law_205 : decode cL_law 205 = .ok (.aload_n 1, 1) := by decide +kernel
theorem dL_law_206 : decode cL_law 206 = .ok (.iconst 4, 1) := by decide +kernel
theorem dL_law_207 : decode cL_law 207 = .ok (.iconst (-1), 1) := by decide +kernel
theorem dL_law_208 : decode cL_law 208 = .ok (.iconst 0, 1) := by decide +kernel
theorem dL_law_209 : decode cL_law 209 = .ok (.iconst 0, 1) := by decide +kernel
theorem dL_law_210 : decode cL_law 210 = .ok (.iconst 0, 1) := by decide +kernel
theorem dL_law_211 : decode cL_law 211 = .ok (.invokestatic 80, 3) := by decide +kernel
theorem dL_law_214 : decode cL_law 214 = .ok (.bipush (-30), 2) := by decide +kernel
theorem dL_law_216 : decode cL_law 216 = .ok (.if_icmp .ne 37, 3) := by decide +kernel
theorem dL_law_219 : decode cL_law 219 = .ok (.aload_n 1, 1) := by decide +kernel
theorem dL_law_220 : decode cL_law 220 = .ok (.iconst 5, 1) := by decide +kernel
theorem dL_law_221 : decode cL_law 221 = .ok (.iconst 0, 1) := by decide +kernel
theorem dL_law_222 : decode cL_law 222 = .ok (.iconst 0, 1) := by decide +kernel
theorem dL_law_223 : decode cL_law 223 = .ok (.iconst 0, 1) := by decide +kernel
theorem dL_law_224 : decode cL_law 224 = .ok (.iconst 0, 1) := by decide +kernel
theorem dL_law_225 : decode cL_law 225 = .ok (.invokestatic 80, 3) := by decide +kernel
theorem dL_law_228 : decode cL_law 228 = .ok (.bipush (-20), 2) := by decide +kernel
theorem dL_law_230 : decode cL_law 230 = .ok (.if_icmp .ne 23, 3) := by decide +kernel
theorem dL_law_233 : decode cL_law 233 = .ok (.aload_n 1, 1) := by decide +kernel
theorem dL_law_234 : decode cL_law 234 = .ok (.bipush 6, 2) := by decide +kernel
theorem dL_law_236 : decode cL_law 236 = .ok (.iconst 0, 1) := by decide +kernel
theorem dL_law_237 : decode cL_law 237 = .ok (.bipush 10, 2) := by decide +kernel
theorem dL_law_239 : decode cL_law 239 = .ok (.iconst 0, 1) := by decide +kernel
theorem dL_law_240 : decode cL_law 240 = .ok (.iconst 0, 1) := by decide +kernel
theorem dL_law_241 : decode cL_law 241 = .ok (.invokestatic 80, 3) := by decide +kernel
theorem dL_law_244 : decode cL_law 244 = .ok (.bipush (-30), 2) := by decide +kernel
theorem dL_law_246 : decode cL_law 246 = .ok (.if_icmp .ne 7, 3) := by decide +kernel
theorem dL_law_249 : decode cL_law 249 = .ok (.iconst 1, 1) := by decide +kernel
theorem dL_law_250 : decode cL_law 250 = .ok (.goto 4, 3) := by decide +kernel
theorem dL_law_253 : decode cL_law 253 = .ok (.iconst 0, 1) := by decide +kernel
theorem dL_law_254 : decode cL_law 254 = .ok (.ireturn, 1) := by decide +kernel
