theorem dL_rules_0 : decode cL_rules 0 = .ok (.new 8, 3) := by decide +kernel
theorem dL_rules_3 : decode cL_rules 3 = .ok (.dup, 1) := by decide +kernel
theorem dL_rules_4 : decode cL_rules 4 = .ok (.invokespecial 91, 3) := by decide +kernel
theorem dL_rules_7 : decode cL_rules 7 = .ok (.astore_n 0, 1) := by decide +kernel
theorem dL_rules_8 : decode cL_rules 8 = .ok (.iconst 0, 1) := by decide +kernel
theorem dL_rules_9 : decode cL_rules 9 = .ok (.istore_n 1, 1) := by decide +kernel
theorem dL_rules_10 : decode cL_rules 10 = .ok (.iload_n 1, 1) := by decide +kernel
theorem dL_rules_11 : decode cL_rules 11 = .ok (.iconst 4, 1) := by decide +kernel
theorem dL_rules_12 : decode cL_rules 12 = .ok (.if_icmp .ge 36, 3) := by decide +kernel
theorem dL_rules_15 : decode cL_rules 15 = .ok (.aload_n 0, 1) := by decide +kernel
theorem dL_rules_16 : decode cL_rules 16 = .ok (.iconst 0, 1) := by decide +kernel
theorem dL_rules_17 : decode cL_rules 17 = .ok (.iload_n 1, 1) := by decide +kernel
theorem dL_rules_18 : decode cL_rules 18 = .ok (.bipush 50, 2) := by decide +kernel
theorem dL_rules_20 : decode cL_rules 20 = .ok (.iload_n 1, 1) := by decide +kernel
theorem dL_rules_21 : decode cL_rules 21 = .ok (.iadd, 1) := by decide +kernel
theorem dL_rules_22 : decode cL_rules 22 = .ok (.invokevirtual 7, 3) := by decide +kernel
theorem dL_rules_25 : decode cL_rules 25 = .ok (.iload_n 1, 1) := by decide +kernel
theorem dL_rules_26 : decode cL_rules 26 = .ok (.iconst 1, 1) := by decide +kernel
theorem dL_rules_27 : decode cL_rules 27 = .ok (.iadd, 1) := by decide +kernel
theorem dL_rules_28 : decode cL_rules 28 = .ok (.if_icmp .ne 12, 3) := by decide +kernel
theorem dL_rules_31 : decode cL_rules 31 = .ok (.aload_n 0, 1) := by decide +kernel
theorem dL_rules_32 : decode cL_rules 32 = .ok (.iload_n 1, 1) := by decide +kernel
theorem dL_rules_33 : decode cL_rules 33 = .ok (.iload_n 1, 1) := by decide +kernel
theorem dL_rules_34 : decode cL_rules 34 = .ok (.invokevirtual 30, 3) := by decide +kernel
theorem dL_rules_37 : decode cL_rules 37 = .ok (.ifCond .eq 5, 3) := by decide +kernel
theorem dL_rules_40 : decode cL_rules 40 = .ok (.iconst 0, 1) := by decide +kernel
theorem dL_rules_41 : decode cL_rules 41 = .ok (.ireturn, 1) := by decide +kernel
theorem dL_rules_42 : decode cL_rules 42 = .ok (.iinc 1 1, 3) := by decide +kernel
theorem dL_rules_45 : decode cL_rules 45 = .ok (.goto (-35), 3) := by decide +kernel
theorem dL_rules_48 : decode cL_rules 48 = .ok (.aload_n 0, 1) := by decide +kernel
theorem dL_rules_49 : decode cL_rules 49 = .ok (.iconst 0, 1) := by decide +kernel
theorem dL_rules_50 : decode cL_rules 50 = .ok (.iconst 0, 1) := by decide +kernel
theorem dL_rules_51 : decode cL_rules 51 = .ok (.invokevirtual 20, 3) := by decide +kernel
theorem dL_rules_54 : decode cL_rules 54 = .ok (.iconst 1, 1) := by decide +kernel
theorem dL_rules_55 : decode cL_rules 55 = .ok (.if_icmp .ne 35, 3) := by decide +kernel
theorem dL_rules_58 : decode cL_rules 58 = .ok (.aload_n 0, 1) := by decide +kernel
theorem dL_rules_59 : decode cL_rules 59 = .ok (.iconst 0, 1) := by decide +kernel
theorem dL_rules_60 : decode cL_rules 60 = .ok (.bipush 23, 2) := by decide +kernel
theorem dL_rules_62 : decode cL_rules 62 = .ok (.invokevirtual 20, 3) := by decide +kernel
theorem dL_rules_65 : decode cL_rules 65 = .ok (.iconst 2, 1) := by decide +kernel
theorem dL_rules_66 : decode cL_rules 66 = .ok (.if_icmp .ne 24, 3) := by decide +kernel
theorem dL_rules_69 : decode cL_rules 69 = .ok (.aload_n 0, 1) := by decide +kernel
theorem dL_rules_70 : decode cL_rules 70 = .ok (.iconst 0, 1) := by decide +kernel
theorem dL_rules_71 : decode cL_rules 71 = .ok (.iconst 0, 1) := by decide +kernel
theorem dL_rules_72 : decode cL_rules 72 = .ok (.iconst 3, 1) := by decide +kernel
theorem dL_rules_73 : decode cL_rules 73 = .ok (.bipush 10, 2) := by decide +kernel
theorem dL_rules_75 : decode cL_rules 75 = .ok (.invokevirtual 26, 3) := by decide +kernel
theorem dL_rules_78 : decode cL_rules 78 = .ok (.ifCond .ne 12, 3) := by decide +kernel
theorem dL_rules_81 : decode cL_rules 81 = .ok (.aload_n 0, 1) := by decide +kernel
theorem dL_rules_82 : decode cL_rules 82 = .ok (.invokevirtual 92, 3) := by decide +kernel
theorem dL_rules_85 : decode cL_rules 85 = .ok (.bipush 8, 2) := by decide +kernel
theorem dL_rules_87 : decode cL_rules 87 = .ok (.if_icmp .eq 5, 3) := by decide +kernel
theorem dL_rules_90 : decode cL_rules 90 = .ok (.iconst 0, 1) := by decide +kernel
theorem dL_rules_91 : decode cL_rules 91 = .ok (.ireturn, 1) := by decide +kernel
theorem dL_rules_92 : decode cL_rules 92 = .ok (.iconst 0, 1) := by decide +kernel
theorem dL_rules_93 : decode cL_rules 93 = .ok (.istore_n 1, 1) := by decide +kernel
theorem dL_rules_94 : decode cL_rules 94 = .ok (.iload_n 1, 1) := by decide +kernel
theorem dL_rules_95 : decode cL_rules 95 = .ok (.iconst 4, 1) := by decide +kernel
theorem dL_rules_96 : decode cL_rules 96 = .ok (.if_icmp .ge 61, 3) := by decide +kernel
theorem dL_rules_99 : decode cL_rules 99 = .ok (.aload_n 0, 1) := by decide +kernel
theorem dL_rules_100 : decode cL_rules 100 = .ok (.iconst 1, 1) := by decide +kernel
theorem dL_rules_101 : decode cL_rules 101 = .ok (.iconst 0, 1) := by decide +kernel
theorem dL_rules_102 : decode cL_rules 102 = .ok (.iload_n 1, 1) := by decide +kernel
theorem dL_rules_103 : decode cL_rules 103 = .ok (.bipush 20, 2) := by decide +kernel
theorem dL_rules_105 : decode cL_rules 105 = .ok (.iload_n 1, 1) := by decide +kernel
theorem dL_rules_106 : decode cL_rules 106 = .ok (.iadd, 1) := by decide +kernel
theorem dL_rules_107 : decode cL_rules 107 = .ok (.invokevirtual 26, 3) := by decide +kernel
theorem dL_rules_110 : decode cL_rules 110 = .ok (.iload_n 1, 1) := by decide +kernel
theorem dL_rules_111 : decode cL_rules 111 = .ok (.iconst 3, 1) := by decide +kernel
theorem dL_rules_112 : decode cL_rules 112 = .ok (.if_icmp .ne 8, 3) := by decide +kernel
theorem dL_rules_115 : decode cL_rules 115 = .ok (.bipush 10, 2) := by decide +kernel
theorem dL_rules_117 : decode cL_rules 117 = .ok (.goto 4, 3) := by decide +kernel
theorem dL_rules_120 : decode cL_rules 120 = .ok (.iconst 0, 1) := by decide +kernel
theorem dL_rules_121 : decode cL_rules 121 = .ok (.if_icmp .ne 28, 3) := by decide +kernel
theorem dL_rules_124 : decode cL_rules 124 = .ok (.aload_n 0, 1) := by decide +kernel
theorem dL_rules_125 : decode cL_rules 125 = .ok (.iconst 2, 1) := by decide +kernel
theorem dL_rules_126 : decode cL_rules 126 = .ok (.iconst 0, 1) := by decide +kernel
theorem dL_rules_127 : decode cL_rules 127 = .ok (.iload_n 1, 1) := by decide +kernel
theorem dL_rules_128 : decode cL_rules 128 = .ok (.bipush 24, 2) := by decide +kernel
theorem dL_rules_130 : decode cL_rules 130 = .ok (.iload_n 1, 1) := by decide +kernel
theorem dL_rules_131 : decode cL_rules 131 = .ok (.isub, 1) := by decide +kernel
theorem dL_rules_132 : decode cL_rules 132 = .ok (.invokevirtual 26, 3) := by decide +kernel
theorem dL_rules_135 : decode cL_rules 135 = .ok (.iload_n 1, 1) := by decide +kernel
theorem dL_rules_136 : decode cL_rules 136 = .ok (.iconst 3, 1) := by decide +kernel
theorem dL_rules_137 : decode cL_rules 137 = .ok (.if_icmp .ne 8, 3) := by decide +kernel
theorem dL_rules_140 : decode cL_rules 140 = .ok (.bipush 10, 2) := by decide +kernel
theorem dL_rules_142 : decode cL_rules 142 = .ok (.goto 4, 3) := by decide +kernel
theorem dL_rules_145 : decode cL_rules 145 = .ok (.iconst 0, 1) := by decide +kernel
theorem dL_rules_146 : decode cL_rules 146 = .ok (.if_icmp .eq 5, 3) := by decide +kernel
theorem dL_rules_149 : decode cL_rules 149 = .ok (.iconst 0, 1) := by decide +kernel
theorem dL_rules_150 : decode cL_rules 150 = .ok (.ireturn, 1) := by decide +kernel
theorem dL_rules_151 : decode cL_rules 151 = .ok (.iinc 1 1, 3) := by decide +kernel
theorem dL_rules_154 : decode cL_rules 154 = .ok (.goto (-60), 3) := by decide +kernel
theorem dL_rules_157 : decode cL_rules 157 = .ok (.aload_n 0, 1) := by decide +kernel
theorem dL_rules_158 : decode cL_rules 158 = .ok (.invokevirtual 99, 3) := by decide +kernel
theorem dL_rules_161 : decode cL_rules 161 = .ok (.iconst 1, 1) := by decide +kernel
theorem dL_rules_162 : decode cL_rules 162 = .ok (.if_icmp .ne 124, 3) := by decide +kernel
theorem dL_rules_165 : decode cL_rules 165 = .ok (.aload_n 0, 1) := by decide +kernel
theorem dL_rules_166 : decode cL_rules 166 = .ok (.iconst 0, 1) := by decide +kernel
theorem dL_rules_167 : decode cL_rules 167 = .ok (.iconst 1, 1) := by decide +kernel
theorem dL_rules_168 : decode cL_rules 168 = .ok (.iconst 0, 1) := by decide +kernel
theorem dL_rules_169 : decode cL_rules 169 = .ok (.iconst 0, 1) := by decide +kernel
theorem dL_rules_170 : decode cL_rules 170 = .ok (.invokestatic 106, 3) := by decide +kernel
theorem dL_rules_173 : decode cL_rules 173 = .ok (.ifCond .eq 113, 3) := by decide +kernel
theorem dL_rules_176 : decode cL_rules 176 = .ok (.aload_n 0, 1) := by decide +kernel
theorem dL_rules_177 : decode cL_rules 177 = .ok (.iconst 3, 1) := by decide +kernel
theorem dL_rules_178 : decode cL_rules 178 = .ok (.iconst 0, 1) := by decide +kernel
theorem dL_rules_179 : decode cL_rules 179 = .ok (.iconst 0, 1) := by decide +kernel
theorem dL_rules_180 : decode cL_rules 180 = .ok (.invokevirtual 47, 3) := by decide +kernel
theorem dL_rules_183 : decode cL_rules 183 = .ok (.bipush 20, 2) := by decide +kernel
theorem dL_rules_185 : decode cL_rules 185 = .ok (.if_icmp .ne 101, 3) := by decide +kernel
theorem dL_rules_188 : decode cL_rules 188 = .ok (.aload_n 0, 1) := by decide +kernel
theorem dL_rules_189 : decode cL_rules 189 = .ok (.iconst 3, 1) := by decide +kernel
theorem dL_rules_190 : decode cL_rules 190 = .ok (.iconst 0, 1) := by decide +kernel
theorem dL_rules_191 : decode cL_rules 191 = .ok (.iconst 1, 1) := by decide +kernel
theorem dL_rules_192 : decode cL_rules 192 = .ok (.invokevirtual 47, 3) := by decide +kernel
theorem dL_rules_195 : decode cL_rules 195 = .ok (.bipush 21, 2) := by decide +kernel
theorem dL_rules_197 : decode cL_rules 197 = .ok (.if_icmp .ne 89, 3) := by decide +kernel
theorem dL_rules_200 : decode cL_rules 200 = .ok (.aload_n 0, 1) := by decide +kernel
theorem dL_rules_201 : decode cL_rules 201 = .ok (.iconst 3, 1) := by decide +kernel
theorem dL_rules_202 : decode cL_rules 202 = .ok (.iconst 0, 1) := by decide +kernel
theorem dL_rules_203 : decode cL_rules 203 = .ok (.iconst 2, 1) := by decide +kernel
theorem dL_rules_204 : decode cL_rules 204 = .ok (.invokevirtual 47, 3) := by decide +kernel
theorem dL_rules_207 : decode cL_rules 207 = .ok (.bipush 22, 2) := by decide +kernel
theorem dL_rules_209 : decode cL_rules 209 = .ok (.if_icmp .ne 77, 3) := by decide +kernel
theorem dL_rules_212 : decode cL_rules 212 = .ok (.aload_n 0, 1) := by decide +kernel
theorem dL_rules_213 : decode cL_rules 213 = .ok (.iconst 3, 1) := by decide +kernel
theorem dL_rules_214 : decode cL_rules 214 = .ok (.iconst 0, 1) := by decide +kernel
theorem dL_rules_215 : decode cL_rules 215 = .ok (.iconst 3, 1) := by decide +kernel
theorem dL_rules_216 : decode cL_rules 216 = .ok (.invokevirtual 47, 3) := by decide +kernel
theorem dL_rules_219 : decode cL_rules 219 = .ok (.bipush 34, 2) := by decide +kernel
theorem dL_rules_221 : decode cL_rules 221 = .ok (.if_icmp .ne 65, 3) := by decide +kernel
theorem dL_rules_224 : decode cL_rules 224 = .ok (.aload_n 0, 1) := by decide +kernel
theorem dL_rules_225 : decode cL_rules 225 = .ok (.iconst 2, 1) := by decide +kernel
theorem dL_rules_226 : decode cL_rules 226 = .ok (.iconst 0, 1) := by decide +kernel
theorem dL_rules_227 : decode cL_rules 227 = .ok (.iconst 2, 1) := by decide +kernel
theorem dL_rules_228 : decode cL_rules 228 = .ok (.bipush 40, 2) := by decide +kernel
theorem dL_rules_230 : decode cL_rules 230 = .ok (.invokevirtual 26, 3) := by decide +kernel
theorem dL_rules_233 : decode cL_rules 233 = .ok (.bipush 22, 2) := by decide +kernel
theorem dL_rules_235 : decode cL_rules 235 = .ok (.if_icmp .ne 51, 3) := by decide +kernel
theorem dL_rules_238 : decode cL_rules 238 = .ok (.aload_n 0, 1) := by decide +kernel
theorem dL_rules_239 : decode cL_rules 239 = .ok (.invokevirtual 99, 3) := by decide +kernel
theorem dL_rules_242 : decode cL_rules 242 = .ok (.iconst 1, 1) := by decide +kernel
theorem dL_rules_243 : decode cL_rules 243 = .ok (.if_icmp .ne 43, 3) := by decide +kernel
theorem dL_rules_246 : decode cL_rules 246 = .ok (.aload_n 0, 1) := by decide +kernel
theorem dL_rules_247 : decode cL_rules 247 = .ok (.iconst 3, 1) := by decide +kernel
theorem dL_rules_248 : decode cL_rules 248 = .ok (.iconst 0, 1) := by decide +kernel
theorem dL_rules_249 : decode cL_rules 249 = .ok (.iconst 2, 1) := by decide +kernel
theorem dL_rules_250 : decode cL_rules 250 = .ok (.invokevirtual 47, 3) := by decide +kernel
theorem dL_rules_253 : decode cL_rules 253 = .ok (.bipush 40, 2) := by decide +kernel
theorem dL_rules_255 : decode cL_rules 255 = .ok (.if_icmp .ne 31, 3) := by decide +kernel
theorem dL_rules_258 : decode cL_rules 258 = .ok (.aload_n 0, 1) := by decide +kernel
theorem dL_rules_259 : decode cL_rules 259 = .ok (.iconst 0, 1) := by decide +kernel
theorem dL_rules_260 : decode cL_rules 260 = .ok (.iconst 1, 1) := by decide +kernel
theorem dL_rules_261 : decode cL_rules 261 = .ok (.invokevirtual 69, 3) := by decide +kernel
theorem dL_rules_264 : decode cL_rules 264 = .ok (.ifCond .ne 22, 3) := by decide +kernel
theorem dL_rules_267 : decode cL_rules 267 = .ok (.aload_n 0, 1) := by decide +kernel
theorem dL_rules_268 : decode cL_rules 268 = .ok (.iconst 3, 1) := by decide +kernel
theorem dL_rules_269 : decode cL_rules 269 = .ok (.iconst 0, 1) := by decide +kernel
theorem dL_rules_270 : decode cL_rules 270 = .ok (.iconst 0, 1) := by decide +kernel
theorem dL_rules_271 : decode cL_rules 271 = .ok (.invokevirtual 47, 3) := by decide +kernel
theorem dL_rules_274 : decode cL_rules 274 = .ok (.bipush 20, 2) := by decide +kernel
theorem dL_rules_276 : decode cL_rules 276 = .ok (.if_icmp .ne 10, 3) := by decide +kernel
theorem dL_rules_279 : decode cL_rules 279 = .ok (.aload_n 0, 1) := by decide +kernel
theorem dL_rules_280 : decode cL_rules 280 = .ok (.invokestatic 102, 3) := by decide +kernel
theorem dL_rules_283 : decode cL_rules 283 = .ok (.ifCond .ne 5, 3) := by decide +kernel
theorem dL_rules_286 : decode cL_rules 286 = .ok (.iconst 0, 1) := by decide +kernel
theorem dL_rules_287 : decode cL_rules 287 = .ok (.ireturn, 1) := by decide +kernel
theorem dL_rules_288 : decode cL_rules 288 = .ok (.aload_n 0, 1) := by decide +kernel
theorem dL_rules_289 : decode cL_rules 289 = .ok (.iconst 1, 1) := by decide +kernel
theorem dL_rules_290 : decode cL_rules 290 = .ok (.iconst 3, 1) := by decide +kernel
theorem dL_rules_291 : decode cL_rules 291 = .ok (.invokevirtual 20, 3) := by decide +kernel
theorem dL_rules_294 : decode cL_rules 294 = .ok (.iconst 3, 1) := by decide +kernel
theorem dL_rules_295 : decode cL_rules 295 = .ok (.if_icmp .ne 142, 3) := by decide +kernel
theorem dL_rules_298 : decode cL_rules 298 = .ok (.aload_n 0, 1) := by decide +kernel
theorem dL_rules_299 : decode cL_rules 299 = .ok (.iconst 2, 1) := by decide +kernel
theorem dL_rules_300 : decode cL_rules 300 = .ok (.iconst 3, 1) := by decide +kernel
theorem dL_rules_301 : decode cL_rules 301 = .ok (.invokevirtual 20, 3) := by decide +kernel
theorem dL_rules_304 : decode cL_rules 304 = .ok (.iconst 3, 1) := by decide +kernel
theorem dL_rules_305 : decode cL_rules 305 = .ok (.if_icmp .ne 132, 3) := by decide +kernel
theorem dL_rules_308 : decode cL_rules 308 = .ok (.aload_n 0, 1) := by decide +kernel
theorem dL_rules_309 : decode cL_rules 309 = .ok (.iconst 1, 1) := by decide +kernel
theorem dL_rules_310 : decode cL_rules 310 = .ok (.iconst 3, 1) := by decide +kernel
theorem dL_rules_311 : decode cL_rules 311 = .ok (.iconst 0, 1) := by decide +kernel
theorem dL_rules_312 : decode cL_rules 312 = .ok (.bipush 9, 2) := by decide +kernel
theorem dL_rules_314 : decode cL_rules 314 = .ok (.invokevirtual 26, 3) := by decide +kernel
theorem dL_rules_317 : decode cL_rules 317 = .ok (.ifCond .ne 120, 3) := by decide +kernel
theorem dL_rules_320 : decode cL_rules 320 = .ok (.aload_n 0, 1) := by decide +kernel
theorem dL_rules_321 : decode cL_rules 321 = .ok (.iconst 2, 1) := by decide +kernel
theorem dL_rules_322 : decode cL_rules 322 = .ok (.iconst 3, 1) := by decide +kernel
theorem dL_rules_323 : decode cL_rules 323 = .ok (.iconst 0, 1) := by decide +kernel
theorem dL_rules_324 : decode cL_rules 324 = .ok (.bipush 9, 2) := by decide +kernel
theorem dL_rules_326 : decode cL_rules 326 = .ok (.invokevirtual 26, 3) := by decide +kernel
theorem dL_rules_329 : decode cL_rules 329 = .ok (.ifCond .ne 108, 3) := by decide +kernel
theorem dL_rules_332 : decode cL_rules 332 = .ok (.aload_n 0, 1) := by decide +kernel
theorem dL_rules_333 : decode cL_rules 333 = .ok (.iconst 1, 1) := by decide +kernel
theorem dL_rules_334 : decode cL_rules 334 = .ok (.iconst 3, 1) := by decide +kernel
theorem dL_rules_335 : decode cL_rules 335 = .ok (.iconst 3, 1) := by decide +kernel
theorem dL_rules_336 : decode cL_rules 336 = .ok (.iconst 4, 1) := by decide +kernel
theorem dL_rules_337 : decode cL_rules 337 = .ok (.invokevirtual 26, 3) := by decide +kernel
theorem dL_rules_340 : decode cL_rules 340 = .ok (.ifCond .ne 97, 3) := by decide +kernel
theorem dL_rules_343 : decode cL_rules 343 = .ok (.aload_n 0, 1) := by decide +kernel
theorem dL_rules_344 : decode cL_rules 344 = .ok (.iconst 2, 1) := by decide +kernel
theorem dL_rules_345 : decode cL_rules 345 = .ok (.iconst 3, 1) := by decide +kernel
theorem dL_rules_346 : decode cL_rules 346 = .ok (.iconst 3, 1) := by decide +kernel
theorem dL_rules_347 : decode cL_rules 347 = .ok (.iconst 5, 1) := by decide +kernel
theorem dL_rules_348 : decode cL_rules 348 = .ok (.invokevirtual 26, 3) := by decide +kernel
theorem dL_rules_351 : decode cL_rules 351 = .ok (.ifCond .ne 86, 3) := by decide +kernel
theorem dL_rules_354 : decode cL_rules 354 = .ok (.aload_n 0, 1) := by decide +kernel
theorem dL_rules_355 : decode cL_rules 355 = .ok (.invokevirtual 99, 3) := by decide +kernel
theorem dL_rules_358 : decode cL_rules 358 = .ok (.iconst 1, 1) := by decide +kernel
theorem dL_rules_359 : decode cL_rules 359 = .ok (.if_icmp .ne 78, 3) := by decide +kernel
theorem dL_rules_362 : decode cL_rules 362 = .ok (.aload_n 0, 1) := by decide +kernel
theorem dL_rules_363 : decode cL_rules 363 = .ok (.iconst 3, 1) := by decide +kernel
theorem dL_rules_364 : decode cL_rules 364 = .ok (.iconst 3, 1) := by decide +kernel
theorem dL_rules_365 : decode cL_rules 365 = .ok (.iconst 0, 1) := by decide +kernel
theorem dL_rules_366 : decode cL_rules 366 = .ok (.invokevirtual 47, 3) := by decide +kernel
theorem dL_rules_369 : decode cL_rules 369 = .ok (.bipush 9, 2) := by decide +kernel
theorem dL_rules_371 : decode cL_rules 371 = .ok (.if_icmp .ne 66, 3) := by decide +kernel
theorem dL_rules_374 : decode cL_rules 374 = .ok (.aload_n 0, 1) := by decide +kernel
theorem dL_rules_375 : decode cL_rules 375 = .ok (.iconst 3, 1) := by decide +kernel
theorem dL_rules_376 : decode cL_rules 376 = .ok (.iconst 3, 1) := by decide +kernel
theorem dL_rules_377 : decode cL_rules 377 = .ok (.iconst 3, 1) := by decide +kernel
theorem dL_rules_378 : decode cL_rules 378 = .ok (.invokevirtual 47, 3) := by decide +kernel
theorem dL_rules_381 : decode cL_rules 381 = .ok (.bipush 9, 2) := by decide +kernel
theorem dL_rules_383 : decode cL_rules 383 = .ok (.if_icmp .ne 54, 3) := by decide +kernel
theorem dL_rules_386 : decode cL_rules 386 = .ok (.aload_n 0, 1) := by decide +kernel
theorem dL_rules_387 : decode cL_rules 387 = .ok (.iconst 2, 1) := by decide +kernel
theorem dL_rules_388 : decode cL_rules 388 = .ok (.iconst 3, 1) := by decide +kernel
theorem dL_rules_389 : decode cL_rules 389 = .ok (.iconst 0, 1) := by decide +kernel
theorem dL_rules_390 : decode cL_rules 390 = .ok (.iconst 0, 1) := by decide +kernel
theorem dL_rules_391 : decode cL_rules 391 = .ok (.invokevirtual 26, 3) := by decide +kernel
theorem dL_rules_394 : decode cL_rules 394 = .ok (.bipush 9, 2) := by decide +kernel
theorem dL_rules_396 : decode cL_rules 396 = .ok (.if_icmp .ne 41, 3) := by decide +kernel
theorem dL_rules_399 : decode cL_rules 399 = .ok (.aload_n 0, 1) := by decide +kernel
theorem dL_rules_400 : decode cL_rules 400 = .ok (.invokevirtual 99, 3) := by decide +kernel
theorem dL_rules_403 : decode cL_rules 403 = .ok (.iconst 2, 1) := by decide +kernel
theorem dL_rules_404 : decode cL_rules 404 = .ok (.if_icmp .ne 33, 3) := by decide +kernel
theorem dL_rules_407 : decode cL_rules 407 = .ok (.aload_n 0, 1) := by decide +kernel
theorem dL_rules_408 : decode cL_rules 408 = .ok (.iconst 1, 1) := by decide +kernel
theorem dL_rules_409 : decode cL_rules 409 = .ok (.iconst 1, 1) := by decide +kernel
theorem dL_rules_410 : decode cL_rules 410 = .ok (.iconst 3, 1) := by decide +kernel
theorem dL_rules_411 : decode cL_rules 411 = .ok (.iconst 0, 1) := by decide +kernel
theorem dL_rules_412 : decode cL_rules 412 = .ok (.invokestatic 106, 3) := by decide +kernel
theorem dL_rules_415 : decode cL_rules 415 = .ok (.ifCond .eq 22, 3) := by decide +kernel
theorem dL_rules_418 : decode cL_rules 418 = .ok (.aload_n 0, 1) := by decide +kernel
theorem dL_rules_419 : decode cL_rules 419 = .ok (.iconst 3, 1) := by decide +kernel
theorem dL_rules_420 : decode cL_rules 420 = .ok (.iconst 3, 1) := by decide +kernel
theorem dL_rules_421 : decode cL_rules 421 = .ok (.iconst 0, 1) := by decide +kernel
theorem dL_rules_422 : decode cL_rules 422 = .ok (.invokevirtual 47, 3) := by decide +kernel
theorem dL_rules_425 : decode cL_rules 425 = .ok (.bipush 9, 2) := by decide +kernel
theorem dL_rules_427 : decode cL_rules 427 = .ok (.if_icmp .ne 10, 3) := by decide +kernel
theorem dL_rules_430 : decode cL_rules 430 = .ok (.aload_n 0, 1) := by decide +kernel
theorem dL_rules_431 : decode cL_rules 431 = .ok (.invokestatic 102, 3) := by decide +kernel
theorem dL_rules_434 : decode cL_rules 434 = .ok (.ifCond .ne 5, 3) := by decide +kernel
theorem dL_rules_437 : decode cL_rules 437 = .ok (.iconst 0, 1) := by decide +kernel
theorem dL_rules_438 : decode cL_rules 438 = .ok (.ireturn, 1) := by decide +kernel
theorem dL_rules_439 : decode cL_rules 439 = .ok (.aload_n 0, 1) := by decide +kernel
theorem dL_rules_440 : decode cL_rules 440 = .ok (.iconst 1, 1) := by decide +kernel
theorem dL_rules_441 : decode cL_rules 441 = .ok (.iconst 1, 1) := by decide +kernel
theorem dL_rules_442 : decode cL_rules 442 = .ok (.invokevirtual 33, 3) := by decide +kernel
theorem dL_rules_445 : decode cL_rules 445 = .ok (.ifCond .eq 231, 3) := by decide +kernel
theorem dL_rules_448 : decode cL_rules 448 = .ok (.aload_n 0, 1) := by decide +kernel
theorem dL_rules_449 : decode cL_rules 449 = .ok (.iconst 1, 1) := by decide +kernel
theorem dL_rules_450 : decode cL_rules 450 = .ok (.iconst 1, 1) := by decide +kernel
theorem dL_rules_451 : decode cL_rules 451 = .ok (.invokevirtual 33, 3) := by decide +kernel
theorem dL_rules_454 : decode cL_rules 454 = .ok (.ifCond .ne 222, 3) := by decide +kernel
theorem dL_rules_457 : decode cL_rules 457 = .ok (.aload_n 0, 1) := by decide +kernel
theorem dL_rules_458 : decode cL_rules 458 = .ok (.iconst 1, 1) := by decide +kernel
theorem dL_rules_459 : decode cL_rules 459 = .ok (.iconst 0, 1) := by decide +kernel
theorem dL_rules_460 : decode cL_rules 460 = .ok (.iconst 1, 1) := by decide +kernel
theorem dL_rules_461 : decode cL_rules 461 = .ok (.iconst (-1), 1) := by decide +kernel
theorem dL_rules_462 : decode cL_rules 462 = .ok (.invokevirtual 26, 3) := by decide +kernel
theorem dL_rules_465 : decode cL_rules 465 = .ok (.bipush 21, 2) := by decide +kernel
theorem dL_rules_467 : decode cL_rules 467 = .ok (.if_icmp .ne 209, 3) := by decide +kernel
theorem dL_rules_470 : decode cL_rules 470 = .ok (.aload_n 0, 1) := by decide +kernel
theorem dL_rules_471 : decode cL_rules 471 = .ok (.iconst 2, 1) := by decide +kernel
theorem dL_rules_472 : decode cL_rules 472 = .ok (.iconst 3, 1) := by decide +kernel
theorem dL_rules_473 : decode cL_rules 473 = .ok (.iconst 1, 1) := by decide +kernel
theorem dL_rules_474 : decode cL_rules 474 = .ok (.bipush 23, 2) := by decide +kernel
theorem dL_rules_476 : decode cL_rules 476 = .ok (.invokevirtual 26, 3) := by decide +kernel
theorem dL_rules_479 : decode cL_rules 479 = .ok (.ifCond .ne 197, 3) := by decide +kernel
theorem dL_rules_482 : decode cL_rules 482 = .ok (.aload_n 0, 1) := by decide +kernel
theorem dL_rules_483 : decode cL_rules 483 = .ok (.iconst 1, 1) := by decide +kernel
theorem dL_rules_484 : decode cL_rules 484 = .ok (.iconst 3, 1) := by decide +kernel
theorem dL_rules_485 : decode cL_rules 485 = .ok (.iconst 1, 1) := by decide +kernel
theorem dL_rules_486 : decode cL_rules 486 = .ok (.bipush 23, 2) := by decide +kernel
theorem dL_rules_488 : decode cL_rules 488 = .ok (.invokevirtual 26, 3) := by decide +kernel
theorem dL_rules_491 : decode cL_rules 491 = .ok (.ifCond .ne 185, 3) := by decide +kernel
theorem dL_rules_494 : decode cL_rules 494 = .ok (.aload_n 0, 1) := by decide +kernel
theorem dL_rules_495 : decode cL_rules 495 = .ok (.invokevirtual 99, 3) := by decide +kernel
theorem dL_rules_498 : decode cL_rules 498 = .ok (.iconst 2, 1) := by decide +kernel
theorem dL_rules_499 : decode cL_rules 499 = .ok (.if_icmp .ne 177, 3) := by decide +kernel
theorem dL_rules_502 : decode cL_rules 502 = .ok (.aload_n 0, 1) := by decide +kernel
theorem dL_rules_503 : decode cL_rules 503 = .ok (.iconst 3, 1) := by decide +kernel
theorem dL_rules_504 : decode cL_rules 504 = .ok (.iconst 0, 1) := by decide +kernel
theorem dL_rules_505 : decode cL_rules 505 = .ok (.iconst 1, 1) := by decide +kernel
theorem dL_rules_506 : decode cL_rules 506 = .ok (.invokevirtual 47, 3) := by decide +kernel
theorem dL_rules_509 : decode cL_rules 509 = .ok (.iconst (-1), 1) := by decide +kernel
theorem dL_rules_510 : decode cL_rules 510 = .ok (.if_icmp .ne 166, 3) := by decide +kernel
theorem dL_rules_513 : decode cL_rules 513 = .ok (.aload_n 0, 1) := by decide +kernel
theorem dL_rules_514 : decode cL_rules 514 = .ok (.iconst 1, 1) := by decide +kernel
theorem dL_rules_515 : decode cL_rules 515 = .ok (.bipush 23, 2) := by decide +kernel
theorem dL_rules_517 : decode cL_rules 517 = .ok (.invokevirtual 23, 3) := by decide +kernel
theorem dL_rules_520 : decode cL_rules 520 = .ok (.iconst 2, 1) := by decide +kernel
theorem dL_rules_521 : decode cL_rules 521 = .ok (.if_icmp .ne 155, 3) := by decide +kernel
theorem dL_rules_524 : decode cL_rules 524 = .ok (.aload_n 0, 1) := by decide +kernel
theorem dL_rules_525 : decode cL_rules 525 = .ok (.invokevirtual 99, 3) := by decide +kernel
theorem dL_rules_528 : decode cL_rules 528 = .ok (.iconst 3, 1) := by decide +kernel
theorem dL_rules_529 : decode cL_rules 529 = .ok (.if_icmp .ne 147, 3) := by decide +kernel
theorem dL_rules_532 : decode cL_rules 532 = .ok (.aload_n 0, 1) := by decide +kernel
theorem dL_rules_533 : decode cL_rules 533 = .ok (.iconst 2, 1) := by decide +kernel
theorem dL_rules_534 : decode cL_rules 534 = .ok (.bipush 6, 2) := by decide +kernel
theorem dL_rules_536 : decode cL_rules 536 = .ok (.iconst 3, 1) := by decide +kernel
theorem dL_rules_537 : decode cL_rules 537 = .ok (.iconst 1, 1) := by decide +kernel
theorem dL_rules_538 : decode cL_rules 538 = .ok (.invokestatic 106, 3) := by decide +kernel
theorem dL_rules_541 : decode cL_rules 541 = .ok (.ifCond .eq 135, 3) := by decide +kernel
theorem dL_rules_544 : decode cL_rules 544 = .ok (.aload_n 0, 1) := by decide +kernel
theorem dL_rules_545 : decode cL_rules 545 = .ok (.iconst 3, 1) := by decide +kernel
theorem dL_rules_546 : decode cL_rules 546 = .ok (.invokevirtual 41, 3) := by decide +kernel
theorem dL_rules_549 : decode cL_rules 549 = .ok (.bipush 9, 2) := by decide +kernel
theorem dL_rules_551 : decode cL_rules 551 = .ok (.if_icmp .ne 125, 3) := by decide +kernel
theorem dL_rules_554 : decode cL_rules 554 = .ok (.aload_n 0, 1) := by decide +kernel
theorem dL_rules_555 : decode cL_rules 555 = .ok (.iconst 1, 1) := by decide +kernel
theorem dL_rules_556 : decode cL_rules 556 = .ok (.iconst 2, 1) := by decide +kernel
theorem dL_rules_557 : decode cL_rules 557 = .ok (.bipush 50, 2) := by decide +kernel
theorem dL_rules_559 : decode cL_rules 559 = .ok (.invokevirtual 17, 3) := by decide +kernel
theorem dL_rules_562 : decode cL_rules 562 = .ok (.bipush 52, 2) := by decide +kernel
theorem dL_rules_564 : decode cL_rules 564 = .ok (.if_icmp .ne 112, 3) := by decide +kernel
theorem dL_rules_567 : decode cL_rules 567 = .ok (.aload_n 0, 1) := by decide +kernel
theorem dL_rules_568 : decode cL_rules 568 = .ok (.iconst 2, 1) := by decide +kernel
theorem dL_rules_569 : decode cL_rules 569 = .ok (.iconst 3, 1) := by decide +kernel
theorem dL_rules_570 : decode cL_rules 570 = .ok (.bipush 50, 2) := by decide +kernel
theorem dL_rules_572 : decode cL_rules 572 = .ok (.invokevirtual 17, 3) := by decide +kernel
theorem dL_rules_575 : decode cL_rules 575 = .ok (.bipush 53, 2) := by decide +kernel
theorem dL_rules_577 : decode cL_rules 577 = .ok (.if_icmp .ne 99, 3) := by decide +kernel
theorem dL_rules_580 : decode cL_rules 580 = .ok (.aload_n 0, 1) := by decide +kernel
theorem dL_rules_581 : decode cL_rules 581 = .ok (.invokevirtual 99, 3) := by decide +kernel
theorem dL_rules_584 : decode cL_rules 584 = .ok (.iconst 5, 1) := by decide +kernel
theorem dL_rules_585 : decode cL_rules 585 = .ok (.if_icmp .ne 91, 3) := by decide +kernel
theorem dL_rules_588 : decode cL_rules 588 = .ok (.aload_n 0, 1) := by decide +kernel
theorem dL_rules_589 : decode cL_rules 589 = .ok (.iconst 2, 1) := by decide +kernel
theorem dL_rules_590 : decode cL_rules 590 = .ok (.iconst 5, 1) := by decide +kernel
theorem dL_rules_591 : decode cL_rules 591 = .ok (.iconst (-1), 1) := by decide +kernel
theorem dL_rules_592 : decode cL_rules 592 = .ok (.iconst 2, 1) := by decide +kernel
theorem dL_rules_593 : decode cL_rules 593 = .ok (.invokestatic 106, 3) := by decide +kernel
theorem dL_rules_596 : decode cL_rules 596 = .ok (.ifCond .eq 80, 3) := by decide +kernel
theorem dL_rules_599 : decode cL_rules 599 = .ok (.aload_n 0, 1) := by decide +kernel
theorem dL_rules_600 : decode cL_rules 600 = .ok (.iconst 3, 1) := by decide +kernel
theorem dL_rules_601 : decode cL_rules 601 = .ok (.iconst 5, 1) := by decide +kernel
theorem dL_rules_602 : decode cL_rules 602 = .ok (.iconst (-1), 1) := by decide +kernel
theorem dL_rules_603 : decode cL_rules 603 = .ok (.iconst 3, 1) := by decide +kernel
theorem dL_rules_604 : decode cL_rules 604 = .ok (.invokestatic 106, 3) := by decide +kernel
theorem dL_rules_607 : decode cL_rules 607 = .ok (.ifCond .eq 69, 3) := by decide +kernel
theorem dL_rules_610 : decode cL_rules 610 = .ok (.aload_n 0, 1) := by decide +kernel
theorem dL_rules_611 : decode cL_rules 611 = .ok (.iconst 4, 1) := by decide +kernel
theorem dL_rules_612 : decode cL_rules 612 = .ok (.bipush 6, 2) := by decide +kernel
theorem dL_rules_614 : decode cL_rules 614 = .ok (.iconst 3, 1) := by decide +kernel
theorem dL_rules_615 : decode cL_rules 615 = .ok (.iconst 1, 1) := by decide +kernel
theorem dL_rules_616 : decode cL_rules 616 = .ok (.invokestatic 106, 3) := by decide +kernel
theorem dL_rules_619 : decode cL_rules 619 = .ok (.ifCond .eq 57, 3) := by decide +kernel
theorem dL_rules_622 : decode cL_rules 622 = .ok (.aload_n 0, 1) := by decide +kernel
theorem dL_rules_623 : decode cL_rules 623 = .ok (.iconst 3, 1) := by decide +kernel
theorem dL_rules_624 : decode cL_rules 624 = .ok (.iconst 2, 1) := by decide +kernel
theorem dL_rules_625 : decode cL_rules 625 = .ok (.invokevirtual 44, 3) := by decide +kernel
theorem dL_rules_628 : decode cL_rules 628 = .ok (.bipush 50, 2) := by decide +kernel
theorem dL_rules_630 : decode cL_rules 630 = .ok (.if_icmp .ne 46, 3) := by decide +kernel
theorem dL_rules_633 : decode cL_rules 633 = .ok (.aload_n 0, 1) := by decide +kernel
theorem dL_rules_634 : decode cL_rules 634 = .ok (.iconst 4, 1) := by decide +kernel
theorem dL_rules_635 : decode cL_rules 635 = .ok (.iconst 1, 1) := by decide +kernel
theorem dL_rules_636 : decode cL_rules 636 = .ok (.invokevirtual 69, 3) := by decide +kernel
theorem dL_rules_639 : decode cL_rules 639 = .ok (.iconst 4, 1) := by decide +kernel
theorem dL_rules_640 : decode cL_rules 640 = .ok (.if_icmp .ne 36, 3) := by decide +kernel
theorem dL_rules_643 : decode cL_rules 643 = .ok (.aload_n 0, 1) := by decide +kernel
theorem dL_rules_644 : decode cL_rules 644 = .ok (.iconst 3, 1) := by decide +kernel
theorem dL_rules_645 : decode cL_rules 645 = .ok (.iconst 3, 1) := by decide +kernel
theorem dL_rules_646 : decode cL_rules 646 = .ok (.iconst 1, 1) := by decide +kernel
theorem dL_rules_647 : decode cL_rules 647 = .ok (.invokevirtual 47, 3) := by decide +kernel
theorem dL_rules_650 : decode cL_rules 650 = .ok (.bipush 23, 2) := by decide +kernel
theorem dL_rules_652 : decode cL_rules 652 = .ok (.if_icmp .ne 24, 3) := by decide +kernel
theorem dL_rules_655 : decode cL_rules 655 = .ok (.aload_n 0, 1) := by decide +kernel
theorem dL_rules_656 : decode cL_rules 656 = .ok (.iconst 2, 1) := by decide +kernel
theorem dL_rules_657 : decode cL_rules 657 = .ok (.iconst 2, 1) := by decide +kernel
theorem dL_rules_658 : decode cL_rules 658 = .ok (.invokevirtual 69, 3) := by decide +kernel
theorem dL_rules_661 : decode cL_rules 661 = .ok (.iconst 3, 1) := by decide +kernel
theorem dL_rules_662 : decode cL_rules 662 = .ok (.if_icmp .ne 14, 3) := by decide +kernel
theorem dL_rules_665 : decode cL_rules 665 = .ok (.aload_n 0, 1) := by decide +kernel
theorem dL_rules_666 : decode cL_rules 666 = .ok (.iconst 3, 1) := by decide +kernel
theorem dL_rules_667 : decode cL_rules 667 = .ok (.iconst 2, 1) := by decide +kernel
theorem dL_rules_668 : decode cL_rules 668 = .ok (.invokevirtual 44, 3) := by decide +kernel
theorem dL_rules_671 : decode cL_rules 671 = .ok (.bipush 50, 2) := by decide +kernel
theorem dL_rules_673 : decode cL_rules 673 = .ok (.if_icmp .eq 5, 3) := by decide +kernel
theorem dL_rules_676 : decode cL_rules 676 = .ok (.iconst 0, 1) := by decide +kernel
theorem dL_rules_677 : decode cL_rules 677 = .ok (.ireturn, 1) := by decide +kernel
theorem dL_rules_678 : decode cL_rules 678 = .ok (.aload_n 0, 1) := by decide +kernel
theorem dL_rules_679 : decode cL_rules 679 = .ok (.iconst 1, 1) := by decide +kernel
theorem dL_rules_680 : decode cL_rules 680 = .ok (.iconst 5, 1) := by decide +kernel
theorem dL_rules_681 : decode cL_rules 681 = .ok (.iconst 1, 1) := by decide +kernel
theorem dL_rules_682 : decode cL_rules 682 = .ok (.invokevirtual 7, 3) := by decide +kernel
theorem dL_rules_685 : decode cL_rules 685 = .ok (.iconst 5, 1) := by decide +kernel
theorem dL_rules_686 : decode cL_rules 686 = .ok (.if_icmp .ne 134, 3) := by decide +kernel
theorem dL_rules_689 : decode cL_rules 689 = .ok (.aload_n 0, 1) := by decide +kernel
theorem dL_rules_690 : decode cL_rules 690 = .ok (.iconst 2, 1) := by decide +kernel
theorem dL_rules_691 : decode cL_rules 691 = .ok (.iconst 5, 1) := by decide +kernel
theorem dL_rules_692 : decode cL_rules 692 = .ok (.iconst 2, 1) := by decide +kernel
theorem dL_rules_693 : decode cL_rules 693 = .ok (.invokevirtual 7, 3) := by decide +kernel
theorem dL_rules_696 : decode cL_rules 696 = .ok (.iconst 5, 1) := by decide +kernel
theorem dL_rules_697 : decode cL_rules 697 = .ok (.if_icmp .ne 123, 3) := by decide +kernel
theorem dL_rules_700 : decode cL_rules 700 = .ok (.aload_n 0, 1) := by decide +kernel
theorem dL_rules_701 : decode cL_rules 701 = .ok (.iconst 2, 1) := by decide +kernel
theorem dL_rules_702 : decode cL_rules 702 = .ok (.bipush 7, 2) := by decide +kernel
theorem dL_rules_704 : decode cL_rules 704 = .ok (.iconst 3, 1) := by decide +kernel
theorem dL_rules_705 : decode cL_rules 705 = .ok (.invokevirtual 7, 3) := by decide +kernel
theorem dL_rules_708 : decode cL_rules 708 = .ok (.bipush 6, 2) := by decide +kernel
theorem dL_rules_710 : decode cL_rules 710 = .ok (.if_icmp .ne 110, 3) := by decide +kernel
theorem dL_rules_713 : decode cL_rules 713 = .ok (.aload_n 0, 1) := by decide +kernel
theorem dL_rules_714 : decode cL_rules 714 = .ok (.iconst 2, 1) := by decide +kernel
theorem dL_rules_715 : decode cL_rules 715 = .ok (.iconst 0, 1) := by decide +kernel
theorem dL_rules_716 : decode cL_rules 716 = .ok (.bipush 7, 2) := by decide +kernel
theorem dL_rules_718 : decode cL_rules 718 = .ok (.bipush 6, 2) := by decide +kernel
theorem dL_rules_720 : decode cL_rules 720 = .ok (.invokevirtual 26, 3) := by decide +kernel
theorem dL_rules_723 : decode cL_rules 723 = .ok (.ifCond .ne 97, 3) := by decide +kernel
theorem dL_rules_726 : decode cL_rules 726 = .ok (.aload_n 0, 1) := by decide +kernel
theorem dL_rules_727 : decode cL_rules 727 = .ok (.invokevirtual 99, 3) := by decide +kernel
theorem dL_rules_730 : decode cL_rules 730 = .ok (.bipush 6, 2) := by decide +kernel
theorem dL_rules_732 : decode cL_rules 732 = .ok (.if_icmp .ne 88, 3) := by decide +kernel
theorem dL_rules_735 : decode cL_rules 735 = .ok (.aload_n 0, 1) := by decide +kernel
theorem dL_rules_736 : decode cL_rules 736 = .ok (.iconst 0, 1) := by decide +kernel
theorem dL_rules_737 : decode cL_rules 737 = .ok (.iconst 4, 1) := by decide +kernel
theorem dL_rules_738 : decode cL_rules 738 = .ok (.iconst (-1), 1) := by decide +kernel
theorem dL_rules_739 : decode cL_rules 739 = .ok (.iconst 5, 1) := by decide +kernel
theorem dL_rules_740 : decode cL_rules 740 = .ok (.invokestatic 106, 3) := by decide +kernel
theorem dL_rules_743 : decode cL_rules 743 = .ok (.ifCond .eq 77, 3) := by decide +kernel
theorem dL_rules_746 : decode cL_rules 746 = .ok (.aload_n 0, 1) := by decide +kernel
theorem dL_rules_747 : decode cL_rules 747 = .ok (.iconst 3, 1) := by decide +kernel
theorem dL_rules_748 : decode cL_rules 748 = .ok (.iconst 5, 1) := by decide +kernel
theorem dL_rules_749 : decode cL_rules 749 = .ok (.invokevirtual 44, 3) := by decide +kernel
theorem dL_rules_752 : decode cL_rules 752 = .ok (.iconst 1, 1) := by decide +kernel
theorem dL_rules_753 : decode cL_rules 753 = .ok (.if_icmp .ne 67, 3) := by decide +kernel
theorem dL_rules_756 : decode cL_rules 756 = .ok (.aload_n 0, 1) := by decide +kernel
theorem dL_rules_757 : decode cL_rules 757 = .ok (.iconst 3, 1) := by decide +kernel
theorem dL_rules_758 : decode cL_rules 758 = .ok (.iconst 0, 1) := by decide +kernel
theorem dL_rules_759 : decode cL_rules 759 = .ok (.bipush 7, 2) := by decide +kernel
theorem dL_rules_761 : decode cL_rules 761 = .ok (.invokevirtual 47, 3) := by decide +kernel
theorem dL_rules_764 : decode cL_rules 764 = .ok (.bipush 6, 2) := by decide +kernel
theorem dL_rules_766 : decode cL_rules 766 = .ok (.if_icmp .ne 54, 3) := by decide +kernel
theorem dL_rules_769 : decode cL_rules 769 = .ok (.aload_n 0, 1) := by decide +kernel
theorem dL_rules_770 : decode cL_rules 770 = .ok (.iconst 0, 1) := by decide +kernel
theorem dL_rules_771 : decode cL_rules 771 = .ok (.iconst 2, 1) := by decide +kernel
theorem dL_rules_772 : decode cL_rules 772 = .ok (.invokevirtual 69, 3) := by decide +kernel
theorem dL_rules_775 : decode cL_rules 775 = .ok (.iconst 5, 1) := by decide +kernel
theorem dL_rules_776 : decode cL_rules 776 = .ok (.if_icmp .ne 44, 3) := by decide +kernel
theorem dL_rules_779 : decode cL_rules 779 = .ok (.aload_n 0, 1) := by decide +kernel
theorem dL_rules_780 : decode cL_rules 780 = .ok (.iconst 3, 1) := by decide +kernel
theorem dL_rules_781 : decode cL_rules 781 = .ok (.iconst 5, 1) := by decide +kernel
theorem dL_rules_782 : decode cL_rules 782 = .ok (.invokevirtual 44, 3) := by decide +kernel
theorem dL_rules_785 : decode cL_rules 785 = .ok (.iconst 2, 1) := by decide +kernel
theorem dL_rules_786 : decode cL_rules 786 = .ok (.if_icmp .ne 34, 3) := by decide +kernel
theorem dL_rules_789 : decode cL_rules 789 = .ok (.aload_n 0, 1) := by decide +kernel
theorem dL_rules_790 : decode cL_rules 790 = .ok (.iconst 3, 1) := by decide +kernel
theorem dL_rules_791 : decode cL_rules 791 = .ok (.invokevirtual 37, 3) := by decide +kernel
theorem dL_rules_794 : decode cL_rules 794 = .ok (.sipush 175, 3) := by decide +kernel
theorem dL_rules_797 : decode cL_rules 797 = .ok (.if_icmp .ne 23, 3) := by decide +kernel
theorem dL_rules_800 : decode cL_rules 800 = .ok (.aload_n 0, 1) := by decide +kernel
theorem dL_rules_801 : decode cL_rules 801 = .ok (.invokestatic 102, 3) := by decide +kernel
theorem dL_rules_804 : decode cL_rules 804 = .ok (.ifCond .eq 16, 3) := by decide +kernel
theorem dL_rules_807 : decode cL_rules 807 = .ok (.aload_n 0, 1) := by decide +kernel
theorem dL_rules_808 : decode cL_rules 808 = .ok (.iconst 3, 1) := by decide +kernel
theorem dL_rules_809 : decode cL_rules 809 = .ok (.iconst 5, 1) := by decide +kernel
theorem dL_rules_810 : decode cL_rules 810 = .ok (.invokestatic 95, 3) := by decide +kernel
theorem dL_rules_813 : decode cL_rules 813 = .ok (.ifCond .eq 7, 3) := by decide +kernel
theorem dL_rules_816 : decode cL_rules 816 = .ok (.iconst 1, 1) := by decide +kernel
theorem dL_rules_817 : decode cL_rules 817 = .ok (.goto 4, 3) := by decide +kernel
theorem dL_rules_820 : decode cL_rules 820 = .ok (.iconst 0, 1) := by decide +kernel
theorem dL_rules_821 : decode cL_rules 821 = .ok (.ireturn, 1) := by decide +kernel
set_option maxRecDepth 20000 in
theorem ggL_rules_X2_init : GoodIn wsL_rules wsX2_init := goodIn_r _ [6, 7, 8, 9, 10, 11, 12, 13, 14, 15, 16, 17, 18, 19, 20, 21, 22, 23, 24, 25, 26, 27, 28, 29, 30, 31, 32, 33, 34, 35, 36, 37, 38, 39, 40, 41, 407, 408, 409, 410, 399, 400, 401, 402, 403, 404, 405, 406, 411, 412, 413, 414, 415, 416] (by decide +kernel) (by decide +kernel)
set_option maxRecDepth 20000 in
theorem gL_rules_X2_init : GoodIn wsL_rules (wsX2_init) := ggL_rules_X2_init
set_option maxRecDepth 20000 in
theorem ggL_rules_X2_addColumn : GoodIn wsL_rules wsX2_addColumn := goodIn_ca (goodIn_ca (goodIn_ca (goodIn_r _ [45, 46, 47, 25, 48, 49, 50, 3, 51, 52, 53, 54, 55, 56, 57, 13, 14, 15, 16, 58, 59, 60, 61, 62, 63, 64, 65, 66, 67, 68, 69, 12, 70, 71, 29, 72, 73, 74, 31, 75, 76, 77, 78, 79, 80, 81, 82, 83, 84, 399, 400, 401, 402, 403, 404, 405, 406, 407, 408, 409, 410] (by decide +kernel) (by decide +kernel)) (goodIn_sub (fun _ h => List.mem_cons_of_mem _ (List.mem_append_left _ (List.mem_append_left _ (List.mem_append_right _ h)))) (by decide +kernel))) (goodIn_sub (fun _ h => List.mem_cons_of_mem _ (List.mem_append_left _ (List.mem_append_right _ h))) (by decide +kernel))) (goodIn_sub (fun _ h => List.mem_cons_of_mem _ (List.mem_append_right _ h)) (by decide +kernel))
set_option maxRecDepth 20000 in
theorem gL_rules_X2_addColumn : GoodIn wsL_rules (wsV RL 7 RX2 yX2_addColumn wsX2_addColumn) := goodIn_app (goodIn_of _ (by decide +kernel)) ggL_rules_X2_addColumn
set_option maxRecDepth 20000 in
theorem ggL_rules_X2_setRule : GoodIn wsL_rules wsX2_setRule := goodIn_ca (goodIn_ca (goodIn_r _ [88, 67, 68, 18, 25, 58, 59, 3, 60, 52, 53, 61, 62, 63, 399, 400, 401, 402, 403, 404, 405, 406] (by decide +kernel) (by decide +kernel)) (goodIn_sub (fun _ h => List.mem_cons_of_mem _ (List.mem_append_right _ h)) (by decide +kernel))) (goodIn_sub (fun _ h => List.mem_cons_of_mem _ (List.mem_append_left _ (List.mem_append_right _ h))) (by decide +kernel))
set_option maxRecDepth 20000 in
theorem gL_rules_X2_setRule : GoodIn wsL_rules (wsV RL 30 RX2 yX2_setRule wsX2_setRule) := goodIn_app (goodIn_of _ (by decide +kernel)) ggL_rules_X2_setRule
set_option maxRecDepth 20000 in
theorem ggL_rules_X2_addRow : GoodIn wsL_rules wsX2_addRow := goodIn_ca (goodIn_ca (goodIn_r _ [92, 46, 47, 25, 48, 49, 50, 3, 51, 52, 53, 54, 55, 56, 57, 13, 14, 15, 16, 93, 94, 95, 96, 97, 98, 99, 12, 100, 101, 30, 102, 103, 104, 105, 106, 107, 78, 79, 80, 81, 82, 83, 84, 399, 400, 401, 402, 403, 404, 405, 406, 407, 408, 409, 410] (by decide +kernel) (by decide +kernel)) (goodIn_sub (fun _ h => List.mem_cons_of_mem _ (List.mem_append_left _ (List.mem_append_left _ (List.mem_append_right _ h)))) (by decide +kernel))) (goodIn_sub (fun _ h => List.mem_cons_of_mem _ (List.mem_append_left _ (List.mem_append_right _ h))) (by decide +kernel))
set_option maxRecDepth 20000 in
theorem gL_rules_X2_addRow : GoodIn wsL_rules (wsV RL 20 RX2 yX2_addRow wsX2_addRow) := goodIn_app (goodIn_of _ (by decide +kernel)) ggL_rules_X2_addRow
set_option maxRecDepth 20000 in
theorem ggL_rules_X2_set : GoodIn wsL_rules wsX2_set := goodIn_ca (goodIn_ca (goodIn_r _ [111, 67, 68, 25, 48, 49, 50, 3, 51, 52, 53, 54, 55, 56, 57, 13, 14, 15, 16, 112, 113, 114, 99, 12, 100, 101, 30, 115, 116, 117, 69, 70, 71, 29, 118, 119, 120, 32, 121, 122, 123, 124, 125, 126, 127, 128, 129, 399, 400, 401, 402, 403, 404, 405, 406, 407, 408, 409, 410] (by decide +kernel) (by decide +kernel)) (goodIn_sub (fun _ h => List.mem_cons_of_mem _ (List.mem_append_right _ h)) (by decide +kernel))) (goodIn_sub (fun _ h => List.mem_cons_of_mem _ (List.mem_append_left _ (List.mem_append_right _ h))) (by decide +kernel))
set_option maxRecDepth 20000 in
theorem gL_rules_X2_set : GoodIn wsL_rules (wsV RL 26 RX2 yX2_set wsX2_set) := goodIn_app (goodIn_of _ (by decide +kernel)) ggL_rules_X2_set
set_option maxRecDepth 20000 in
theorem ggL_rules_X2_fork : GoodIn wsL_rules wsX2_fork := goodIn_r _ [133, 14, 13, 15, 16, 24, 25, 134, 12, 135, 136, 29, 30, 31, 137, 138, 139, 140, 32, 141, 142, 143, 144, 145, 146, 147, 148, 23, 149, 150, 36, 37, 151, 152, 153, 154, 75, 76, 77, 78, 79, 80, 81, 82, 83, 84, 155, 105, 106, 107, 399, 400, 401, 402, 403, 404, 405, 406, 407, 408, 409, 410, 411, 412, 413, 414, 415, 416] (by decide +kernel) (by decide +kernel)
set_option maxRecDepth 20000 in
theorem gL_rules_X2_fork : GoodIn wsL_rules (wsV RL 92 RX2 yX2_fork wsX2_fork) := goodIn_app (goodIn_of _ (by decide +kernel)) ggL_rules_X2_fork
set_option maxRecDepth 20000 in
theorem ggL_rules_X2_merge : GoodIn wsL_rules wsX2_merge := goodIn_r _ [159, 16, 24, 25, 141, 12, 142, 143, 29, 30, 31, 32, 144, 145, 146, 147, 148, 23, 149, 150, 36, 37, 160, 161, 162, 3, 163, 14, 15, 13, 164, 165, 166, 167, 69, 70, 71, 168, 169, 170, 171, 172, 173, 174, 126, 175, 176, 177, 178, 179, 180, 181, 182, 121, 122, 123, 124, 125, 99, 100, 101, 183, 184, 185, 186, 72, 73, 74, 62, 63, 187, 188, 189, 38, 39, 40, 41, 190, 191, 192, 193, 194, 195, 196, 197, 198, 199, 200, 201, 202, 203, 204, 102, 103, 104, 97, 98, 205, 206, 207, 208, 209, 210, 211, 212, 18, 61, 213, 214, 215, 216, 118, 119, 120, 217, 218, 219, 220, 221, 222, 223, 224, 127, 128, 129, 225, 226, 227, 228, 229, 230, 231, 232, 233, 234, 235, 236, 237, 238, 239, 240, 20, 399, 400, 401, 402, 403, 404, 405, 406, 411, 412, 413, 414, 415, 416, 407, 408, 409, 410] (by decide +kernel) (by decide +kernel)
set_option maxRecDepth 20000 in
theorem gL_rules_X2_merge : GoodIn wsL_rules (wsV RL 99 RX2 yX2_merge wsX2_merge) := goodIn_app (goodIn_of _ (by decide +kernel)) ggL_rules_X2_merge
set_option maxRecDepth 20000 in
theorem gq_rules_wsL_is_r1 : GoodIn wsL_rules wsL_is_r1 := (goodIn_r wsL_is_r1 [245, 246, 247, 3, 248, 24, 249, 250, 251, 252, 52, 53, 253, 23, 254, 255, 36, 256, 257, 258, 38, 259, 260, 261] (by decide +kernel) (by decide +kernel) : GoodIn wsL_rules wsL_is_r1)
set_option maxRecDepth 20000 in
theorem gq_rules_wsL_is_r2 : GoodIn wsL_rules wsL_is_r2 := (goodIn_r wsL_is_r2 [262, 263, 264, 265, 266, 39, 267, 268, 269, 270, 271, 272, 273, 40] (by decide +kernel) (by decide +kernel) : GoodIn wsL_rules wsL_is_r2)
set_option maxRecDepth 20000 in
theorem ggL_rules_L_is : GoodIn wsL_rules wsL_is := goodIn_ca (gi_c (List.mem_cons_of_mem _ (List.mem_append_left _ (List.mem_append_left _ (List.mem_append_left _ (List.mem_append_left _ (List.mem_append_left _ (List.mem_append_left _ (List.mem_append_right _ (List.mem_append_right _ (List.mem_append_right _ (List.mem_append_right _ (List.mem_append_right _ (List.mem_append_right _ (List.mem_append_right _ (List.mem_append_right _ (List.mem_append_right _ (List.mem_append_right _ (List.mem_append_left _ (List.mem_of_getElem? (l := wsL_rules_r11) (i := 3) rfl))))))))))))))))))) rfl (goodIn_app (goodIn_app (goodIn_app gq_rules_wsL_is_r1 gq_rules_wsL_is_r2) (goodIn_r wsX20 [399, 400, 401, 402, 403, 404, 405, 406] (by decide +kernel) (by decide +kernel) : GoodIn wsL_rules wsX20)) (goodIn_r wsX00 [411, 412, 413, 414, 415, 416] (by decide +kernel) (by decide +kernel) : GoodIn wsL_rules wsX00))) (goodIn_sub (fun _ h => List.mem_cons_of_mem _ (List.mem_append_left _ (List.mem_append_right _ h))) (by decide +kernel))
set_option maxRecDepth 20000 in
theorem gL_rules_L_is : GoodIn wsL_rules (va_wsS RL 106 yL_is wsL_is) := goodIn_app (goodIn_of _ (by decide +kernel)) ggL_rules_L_is
set_option maxRecDepth 20000 in
theorem ggL_rules_X2_get : GoodIn wsL_rules wsX2_get := goodIn_ca (goodIn_r _ [277, 54, 55, 56, 3, 57, 52, 53, 13, 14, 15, 16, 112, 113, 114, 99, 12, 100, 101, 30, 115, 116, 117, 69, 70, 71, 29, 118, 119, 120, 32, 121, 122, 123, 124, 125, 126, 399, 400, 401, 402, 403, 404, 405, 406, 407, 408, 409, 410] (by decide +kernel) (by decide +kernel)) (goodIn_sub (fun _ h => List.mem_cons_of_mem _ (List.mem_append_left _ (List.mem_append_right _ h))) (by decide +kernel))
set_option maxRecDepth 20000 in
theorem gL_rules_X2_get : GoodIn wsL_rules (wsV RL 47 RX2 yX2_get wsX2_get) := goodIn_app (goodIn_of _ (by decide +kernel)) ggL_rules_X2_get
set_option maxRecDepth 20000 in
theorem ggL_rules_X2_settle : GoodIn wsL_rules wsX2_settle := goodIn_ca (goodIn_ca (goodIn_r _ [281, 46, 47, 25, 24, 249, 250, 251, 3, 252, 52, 53, 253, 23, 254, 255, 36, 282, 283, 284, 285, 14, 15, 286, 287, 288, 41, 259, 256, 257, 258, 38, 264, 265, 266, 39, 271, 272, 273, 40, 289, 290, 291, 292, 16, 118, 12, 119, 120, 32, 121, 122, 123, 124, 125, 99, 100, 101, 30, 126, 69, 70, 71, 29, 127, 128, 129, 293, 294, 295, 296, 297, 298, 299, 31, 176, 177, 178, 300, 301, 302, 303, 304, 305, 37, 399, 400, 401, 402, 403, 404, 405, 406, 411, 412, 413, 414, 415, 416, 407, 408, 409, 410] (by decide +kernel) (by decide +kernel)) (goodIn_sub (fun _ h => List.mem_cons_of_mem _ (List.mem_append_left _ (List.mem_append_left _ (List.mem_append_right _ h)))) (by decide +kernel))) (goodIn_sub (fun _ h => List.mem_cons_of_mem _ (List.mem_append_left _ (List.mem_append_right _ h))) (by decide +kernel))
set_option maxRecDepth 20000 in
theorem gL_rules_X2_settle : GoodIn wsL_rules (wsV RL 69 RX2 yX2_settle wsX2_settle) := goodIn_app (goodIn_of _ (by decide +kernel)) ggL_rules_X2_settle
set_option maxRecDepth 20000 in
theorem gq_rules_wsL_agrees_r1 : GoodIn wsL_rules wsL_agrees_r1 := ((goodIn_app (goodIn_r [Cond.methodLink RL 85 yL_act, Cond.static yL_act, Cond.initialized RL] [309, 310, 243] (by decide +kernel) (by decide +kernel)) (gi_c (List.mem_cons_of_mem _ (List.mem_append_left _ (List.mem_append_left _ (List.mem_append_left _ (List.mem_append_left _ (List.mem_append_left _ (List.mem_append_left _ (List.mem_append_right _ (List.mem_append_right _ (List.mem_append_right _ (List.mem_append_right _ (List.mem_append_right _ (List.mem_append_right _ (List.mem_append_right _ (List.mem_append_right _ (List.mem_append_right _ (List.mem_append_right _ (List.mem_append_right _ (List.mem_append_right _ (List.mem_append_left _ (List.mem_of_getElem? (l := wsL_rules_r13) (i := 22) rfl))))))))))))))))))))) rfl (goodIn_app (goodIn_r [Cond.classLink RL 72 "java/lang/IndexOutOfBoundsException", Cond.classLink RL 74 "java/lang/IllegalArgumentException", Cond.classLink RL 76 "java/lang/IllegalStateException", Cond.methodLink RL 7 yX2_addColumn, Cond.instanceMethod yX2_addColumn, Cond.selects RX2 yX2_addColumn yX2_addColumn, Cond.initialized RX2, Cond.code yX2_addColumn cX2_addColumn 5 (some .int), Cond.classLink RX2 59 "java/lang/IllegalStateException", Cond.initialized "java/lang/IllegalStateException", Cond.fieldLink RX2 40 "TableSplice" "fresh" "Z", Cond.methodLink RX2 44 yX2_tableToFill, Cond.instanceMethod yX2_tableToFill, Cond.selects RX2 yX2_tableToFill yX2_tableToFill, Cond.code yX2_tableToFill cX2_tableToFill 2 (some (.object "TableSplice$Table")), Cond.classLink RX2 220 "java/lang/IndexOutOfBoundsException", Cond.initialized "java/lang/IndexOutOfBoundsException", Cond.methodLink RX2 123 yX2_tableToRead, Cond.instanceMethod yX2_tableToRead, Cond.selects RX2 yX2_tableToRead yX2_tableToRead] [312, 313, 314, 42, 43, 44, 3, 45, 46, 47, 25, 48, 49, 50, 51, 52, 53, 54, 55, 56] (by decide +kernel) (by decide +kernel)) gi_n))) : GoodIn wsL_rules wsL_agrees_r1)
set_option maxRecDepth 20000 in
theorem gq_rules_wsL_agrees_r2 : GoodIn wsL_rules wsL_agrees_r2 := (goodIn_r wsL_agrees_r2 [57, 13, 14, 15, 16, 58, 59, 60, 61, 62, 63, 64, 65, 66, 67, 68, 69, 12, 70, 71, 29, 72, 73, 74] (by decide +kernel) (by decide +kernel) : GoodIn wsL_rules wsL_agrees_r2)
set_option maxRecDepth 20000 in
theorem gq_rules_wsL_agrees_r3 : GoodIn wsL_rules wsL_agrees_r3 := (goodIn_r wsL_agrees_r3 [31, 75, 76, 77, 78, 79, 80, 81, 82, 83, 84, 315, 316, 317, 318, 115, 116, 117, 176, 177, 178, 126, 297, 298] (by decide +kernel) (by decide +kernel) : GoodIn wsL_rules wsL_agrees_r3)
set_option maxRecDepth 20000 in
theorem gq_rules_wsL_agrees_r4 : GoodIn wsL_rules wsL_agrees_r4 := (goodIn_r wsL_agrees_r4 [299, 296, 127, 128, 129, 32, 121, 122, 123, 124, 125, 99, 100, 101, 30, 319, 320, 321, 322, 300, 301, 302, 89, 90] (by decide +kernel) (by decide +kernel) : GoodIn wsL_rules wsL_agrees_r4)
set_option maxRecDepth 20000 in
theorem gq_rules_wsL_agrees_r5 : GoodIn wsL_rules wsL_agrees_r5 := (goodIn_r wsL_agrees_r5 [91, 92, 93, 94, 95, 96, 97, 98, 102, 103, 104, 105, 106, 107, 323, 324, 325, 326, 112, 113, 114, 293, 294, 295] (by decide +kernel) (by decide +kernel) : GoodIn wsL_rules wsL_agrees_r5)
set_option maxRecDepth 20000 in
theorem gq_rules_wsL_agrees_r6 : GoodIn wsL_rules wsL_agrees_r6 := (goodIn_r wsL_agrees_r6 [108, 109, 110, 111, 118, 119, 120, 85, 86, 87, 88, 18, 327, 328, 329, 330, 20, 331, 332, 333, 334, 335, 336, 337] (by decide +kernel) (by decide +kernel) : GoodIn wsL_rules wsL_agrees_r6)
set_option maxRecDepth 20000 in
theorem gq_rules_wsL_agrees_r7 : GoodIn wsL_rules wsL_agrees_r7 := (goodIn_r wsL_agrees_r7 [338, 339, 340, 341, 342, 274, 275, 276, 277, 343, 344, 345, 346, 282, 283, 284, 285, 347, 348, 349, 171, 172, 173, 174] (by decide +kernel) (by decide +kernel) : GoodIn wsL_rules wsL_agrees_r7)
set_option maxRecDepth 20000 in
theorem gq_rules_wsL_agrees_r8 : GoodIn wsL_rules wsL_agrees_r8 := (goodIn_r wsL_agrees_r8 [175, 350, 202, 203, 204, 179, 180, 181, 182, 351, 352, 353, 354, 24, 134, 135, 136, 137, 138, 139, 140, 355, 131, 132] (by decide +kernel) (by decide +kernel) : GoodIn wsL_rules wsL_agrees_r8)
set_option maxRecDepth 20000 in
theorem gq_rules_wsL_agrees_r9 : GoodIn wsL_rules wsL_agrees_r9 := (goodIn_r wsL_agrees_r9 [133, 141, 142, 143, 144, 145, 146, 147, 148, 23, 149, 150, 36, 37, 151, 152, 153, 154, 155, 356, 357, 358, 359, 360] (by decide +kernel) (by decide +kernel) : GoodIn wsL_rules wsL_agrees_r9)
set_option maxRecDepth 20000 in
theorem gq_rules_wsL_agrees_r10 : GoodIn wsL_rules wsL_agrees_r10 := (goodIn_r wsL_agrees_r10 [361, 362, 363, 364, 365, 366, 367, 368, 369, 370, 371, 372, 373, 374, 375, 168, 169, 170, 376, 377, 378, 379, 380, 381] (by decide +kernel) (by decide +kernel) : GoodIn wsL_rules wsL_agrees_r10)
set_option maxRecDepth 20000 in
theorem gq_rules_wsL_agrees_r11 : GoodIn wsL_rules wsL_agrees_r11 := (goodIn_r wsL_agrees_r11 [382, 383, 221, 222, 223, 224, 384, 385, 386, 245, 246, 247, 248, 249, 250, 251, 252, 253, 254, 255, 256, 257, 258, 38] (by decide +kernel) (by decide +kernel) : GoodIn wsL_rules wsL_agrees_r11)
set_option maxRecDepth 20000 in
theorem gq_rules_wsL_agrees_r12 : GoodIn wsL_rules wsL_agrees_r12 := (goodIn_r wsL_agrees_r12 [259, 260, 261, 262, 263, 264, 265, 266, 39, 267, 268, 269, 270, 271, 272, 273, 40, 278, 279, 280, 281, 286, 287, 288] (by decide +kernel) (by decide +kernel) : GoodIn wsL_rules wsL_agrees_r12)
set_option maxRecDepth 20000 in
theorem gq_rules_wsL_agrees_r13 : GoodIn wsL_rules wsL_agrees_r13 := (goodIn_r wsL_agrees_r13 [41, 289, 290, 291, 292, 303, 304, 305] (by decide +kernel) (by decide +kernel) : GoodIn wsL_rules wsL_agrees_r13)
set_option maxRecDepth 20000 in
theorem ggL_rules_L_agrees : GoodIn wsL_rules wsL_agrees := goodIn_ca (goodIn_ca (goodIn_ca (gi_c (List.mem_cons_of_mem _ (List.mem_append_left _ (List.mem_append_left _ (List.mem_append_left _ (List.mem_append_left _ (List.mem_append_left _ (List.mem_append_left _ (List.mem_append_right _ (List.mem_append_right _ (List.mem_append_right _ (List.mem_append_right _ (List.mem_append_right _ (List.mem_append_right _ (List.mem_append_right _ (List.mem_append_right _ (List.mem_append_right _ (List.mem_append_right _ (List.mem_append_right _ (List.mem_append_right _ (List.mem_append_left _ (List.mem_of_getElem? (l := wsL_rules_r13) (i := 19) rfl))))))))))))))))))))) rfl (goodIn_app (goodIn_app (goodIn_app (goodIn_app gq_rules_wsL_agrees_r1 (goodIn_app gq_rules_wsL_agrees_r2 (goodIn_app gq_rules_wsL_agrees_r3 (goodIn_app gq_rules_wsL_agrees_r4 (goodIn_app gq_rules_wsL_agrees_r5 (goodIn_app gq_rules_wsL_agrees_r6 (goodIn_app gq_rules_wsL_agrees_r7 (goodIn_app gq_rules_wsL_agrees_r8 (goodIn_app gq_rules_wsL_agrees_r9 (goodIn_app gq_rules_wsL_agrees_r10 (goodIn_app gq_rules_wsL_agrees_r11 (goodIn_app gq_rules_wsL_agrees_r12 gq_rules_wsL_agrees_r13)))))))))))) (goodIn_r wsX20 [399, 400, 401, 402, 403, 404, 405, 406] (by decide +kernel) (by decide +kernel) : GoodIn wsL_rules wsX20)) (goodIn_r wsX10 [407, 408, 409, 410] (by decide +kernel) (by decide +kernel) : GoodIn wsL_rules wsX10)) (goodIn_r wsX00 [411, 412, 413, 414, 415, 416] (by decide +kernel) (by decide +kernel) : GoodIn wsL_rules wsX00))) (goodIn_sub (fun _ h => List.mem_cons_of_mem _ (List.mem_append_left _ (List.mem_append_left _ (List.mem_append_right _ h)))) (by decide +kernel))) (goodIn_sub (fun _ h => List.mem_cons_of_mem _ (List.mem_append_left _ (List.mem_append_right _ h))) (by decide +kernel))) (goodIn_sub (fun _ h => List.mem_cons_of_mem _ (List.mem_append_right _ h)) (by decide +kernel))
set_option maxRecDepth 20000 in
theorem gL_rules_L_agrees : GoodIn wsL_rules (va_wsS RL 102 yL_agrees wsL_agrees) := goodIn_app (goodIn_of _ (by decide +kernel)) ggL_rules_L_agrees
set_option maxRecDepth 20000 in
theorem ggL_rules_X2_setReference : GoodIn wsL_rules wsX2_setReference := goodIn_ca (goodIn_r _ [330, 20, 25, 58, 59, 3, 60, 52, 53, 61, 62, 63, 399, 400, 401, 402, 403, 404, 405, 406] (by decide +kernel) (by decide +kernel)) (goodIn_sub (fun _ h => List.mem_cons_of_mem _ (List.mem_append_left _ (List.mem_append_right _ h))) (by decide +kernel))
set_option maxRecDepth 20000 in
theorem gL_rules_X2_setReference : GoodIn wsL_rules (wsV RL 33 RX2 yX2_setReference wsX2_setReference) := goodIn_app (goodIn_of _ (by decide +kernel)) ggL_rules_X2_setReference
set_option maxRecDepth 20000 in
theorem ggL_rules_X2_removeRow : GoodIn wsL_rules wsX2_removeRow := goodIn_ca (goodIn_r _ [326, 25, 48, 49, 50, 3, 51, 52, 53, 54, 55, 56, 57, 13, 14, 15, 16, 112, 113, 114, 99, 12, 100, 101, 30, 293, 294, 295, 125, 296, 127, 128, 129, 32, 121, 122, 123, 124, 126, 69, 70, 71, 29, 105, 106, 107, 78, 79, 80, 81, 82, 83, 84, 399, 400, 401, 402, 403, 404, 405, 406, 407, 408, 409, 410] (by decide +kernel) (by decide +kernel)) (goodIn_sub (fun _ h => List.mem_cons_of_mem _ (List.mem_append_left _ (List.mem_append_right _ h))) (by decide +kernel))
set_option maxRecDepth 20000 in
theorem gL_rules_X2_removeRow : GoodIn wsL_rules (wsV RL 23 RX2 yX2_removeRow wsX2_removeRow) := goodIn_app (goodIn_of _ (by decide +kernel)) ggL_rules_X2_removeRow
set_option maxRecDepth 20000 in
theorem ggL_rules_X2_rows : GoodIn wsL_rules wsX2_rows := goodIn_ca (goodIn_r _ [338, 54, 55, 56, 3, 57, 52, 53, 13, 14, 15, 16, 407, 408, 409, 410, 399, 400, 401, 402, 403, 404, 405, 406] (by decide +kernel) (by decide +kernel)) (goodIn_sub (fun _ h => List.mem_cons_of_mem _ (List.mem_append_left _ (List.mem_append_right _ h))) (by decide +kernel))
set_option maxRecDepth 20000 in
theorem gL_rules_X2_rows : GoodIn wsL_rules (wsV RL 41 RX2 yX2_rows wsX2_rows) := goodIn_app (goodIn_of _ (by decide +kernel)) ggL_rules_X2_rows
set_option maxRecDepth 20000 in
theorem ggL_rules_X2_rename : GoodIn wsL_rules wsX2_rename := goodIn_ca (goodIn_ca (goodIn_r _ [322, 25, 48, 49, 50, 3, 51, 52, 53, 54, 55, 56, 57, 13, 14, 15, 16, 115, 116, 117, 69, 12, 70, 71, 29, 64, 65, 66, 67, 68, 176, 177, 178, 31, 126, 300, 301, 302, 399, 400, 401, 402, 403, 404, 405, 406, 407, 408, 409, 410] (by decide +kernel) (by decide +kernel)) (goodIn_sub (fun _ h => List.mem_cons_of_mem _ (List.mem_append_left _ (List.mem_append_right _ h))) (by decide +kernel))) (goodIn_sub (fun _ h => List.mem_cons_of_mem _ (List.mem_append_right _ h)) (by decide +kernel))
set_option maxRecDepth 20000 in
theorem gL_rules_X2_rename : GoodIn wsL_rules (wsV RL 17 RX2 yX2_rename wsX2_rename) := goodIn_app (goodIn_of _ (by decide +kernel)) ggL_rules_X2_rename
set_option maxRecDepth 20000 in
theorem ggL_rules_X2_name : GoodIn wsL_rules wsX2_name := goodIn_ca (goodIn_r _ [342, 54, 55, 56, 3, 57, 52, 53, 13, 14, 15, 16, 115, 116, 117, 69, 12, 70, 71, 29, 176, 177, 178, 31, 126, 399, 400, 401, 402, 403, 404, 405, 406, 407, 408, 409, 410] (by decide +kernel) (by decide +kernel)) (goodIn_sub (fun _ h => List.mem_cons_of_mem _ (List.mem_append_left _ (List.mem_append_right _ h))) (by decide +kernel))
set_option maxRecDepth 20000 in
theorem gL_rules_X2_name : GoodIn wsL_rules (wsV RL 44 RX2 yX2_name wsX2_name) := goodIn_app (goodIn_of _ (by decide +kernel)) ggL_rules_X2_name
set_option maxRecDepth 20000 in
theorem ggL_rules_X2_columns : GoodIn wsL_rules wsX2_columns := goodIn_ca (goodIn_r _ [334, 54, 55, 56, 3, 57, 52, 53, 13, 14, 15, 16, 407, 408, 409, 410, 399, 400, 401, 402, 403, 404, 405, 406] (by decide +kernel) (by decide +kernel)) (goodIn_sub (fun _ h => List.mem_cons_of_mem _ (List.mem_append_left _ (List.mem_append_right _ h))) (by decide +kernel))
set_option maxRecDepth 20000 in
theorem gL_rules_X2_columns : GoodIn wsL_rules (wsV RL 37 RX2 yX2_columns wsX2_columns) := goodIn_app (goodIn_of _ (by decide +kernel)) ggL_rules_X2_columns
set_option maxRecDepth 20000 in
theorem gq_rules_wsL_refuses_r1 : GoodIn wsL_rules wsL_refuses_r1 := ((goodIn_app (goodIn_r [Cond.constant RL 84 (2147483647), Cond.methodLink RL 78 yX2_conflicts, Cond.instanceMethod yX2_conflicts, Cond.selects RX2 yX2_conflicts yX2_conflicts, Cond.initialized RX2, Cond.code yX2_conflicts cX2_conflicts 1 (some .int), Cond.fieldLink RX2 36 "TableSplice" "list" "LTableSplice$ConflictList;", Cond.methodLink RL 81 yX2_open, Cond.instanceMethod yX2_open, Cond.selects RX2 yX2_open yX2_open, Cond.code yX2_open cX2_open 1 (some .int), Cond.methodLink RL 85 yL_act, Cond.static yL_act, Cond.initialized RL] [390, 391, 392, 393, 3, 394, 24, 395, 396, 397, 398, 309, 310, 243] (by decide +kernel) (by decide +kernel)) (gi_c (List.mem_cons_of_mem _ (List.mem_append_left _ (List.mem_append_left _ (List.mem_append_left _ (List.mem_append_left _ (List.mem_append_left _ (List.mem_append_left _ (List.mem_append_right _ (List.mem_append_right _ (List.mem_append_right _ (List.mem_append_right _ (List.mem_append_right _ (List.mem_append_right _ (List.mem_append_right _ (List.mem_append_right _ (List.mem_append_right _ (List.mem_append_right _ (List.mem_append_right _ (List.mem_append_right _ (List.mem_append_left _ (List.mem_of_getElem? (l := wsL_rules_r13) (i := 22) rfl))))))))))))))))))))) rfl (goodIn_app (goodIn_r [Cond.classLink RL 72 "java/lang/IndexOutOfBoundsException", Cond.classLink RL 74 "java/lang/IllegalArgumentException", Cond.classLink RL 76 "java/lang/IllegalStateException", Cond.methodLink RL 7 yX2_addColumn, Cond.instanceMethod yX2_addColumn, Cond.selects RX2 yX2_addColumn yX2_addColumn, Cond.code yX2_addColumn cX2_addColumn 5 (some .int), Cond.classLink RX2 59 "java/lang/IllegalStateException", Cond.initialized "java/lang/IllegalStateException"] [312, 313, 314, 42, 43, 44, 45, 46, 47] (by decide +kernel) (by decide +kernel)) gi_n))) : GoodIn wsL_rules wsL_refuses_r1)
set_option maxRecDepth 20000 in
theorem gq_rules_wsL_refuses_r2 : GoodIn wsL_rules wsL_refuses_r2 := (goodIn_r wsL_refuses_r2 [25, 48, 49, 50, 51, 52, 53, 54, 55, 56, 57, 13, 14, 15, 16, 58, 59, 60, 61, 62, 63, 64, 65, 66] (by decide +kernel) (by decide +kernel) : GoodIn wsL_rules wsL_refuses_r2)
set_option maxRecDepth 20000 in
theorem gq_rules_wsL_refuses_r3 : GoodIn wsL_rules wsL_refuses_r3 := (goodIn_r wsL_refuses_r3 [67, 68, 69, 12, 70, 71, 29, 72, 73, 74, 31, 75, 76, 77, 78, 79, 80, 81, 82, 83, 84, 315, 316, 317] (by decide +kernel) (by decide +kernel) : GoodIn wsL_rules wsL_refuses_r3)
set_option maxRecDepth 20000 in
theorem gq_rules_wsL_refuses_r4 : GoodIn wsL_rules wsL_refuses_r4 := (goodIn_r wsL_refuses_r4 [318, 115, 116, 117, 176, 177, 178, 126, 297, 298, 299, 296, 127, 128, 129, 32, 121, 122, 123, 124, 125, 99, 100, 101] (by decide +kernel) (by decide +kernel) : GoodIn wsL_rules wsL_refuses_r4)
set_option maxRecDepth 20000 in
theorem gq_rules_wsL_refuses_r5 : GoodIn wsL_rules wsL_refuses_r5 := (goodIn_r wsL_refuses_r5 [30, 319, 320, 321, 322, 300, 301, 302, 89, 90, 91, 92, 93, 94, 95, 96, 97, 98, 102, 103, 104, 105, 106, 107] (by decide +kernel) (by decide +kernel) : GoodIn wsL_rules wsL_refuses_r5)
set_option maxRecDepth 20000 in
theorem gq_rules_wsL_refuses_r6 : GoodIn wsL_rules wsL_refuses_r6 := (goodIn_r wsL_refuses_r6 [323, 324, 325, 326, 112, 113, 114, 293, 294, 295, 108, 109, 110, 111, 118, 119, 120, 85, 86, 87, 88, 18, 327, 328] (by decide +kernel) (by decide +kernel) : GoodIn wsL_rules wsL_refuses_r6)
set_option maxRecDepth 20000 in
theorem gq_rules_wsL_refuses_r7 : GoodIn wsL_rules wsL_refuses_r7 := (goodIn_r wsL_refuses_r7 [329, 330, 20, 331, 332, 333, 334, 335, 336, 337, 338, 339, 340, 341, 342, 274, 275, 276, 277, 343, 344, 345, 346, 282] (by decide +kernel) (by decide +kernel) : GoodIn wsL_rules wsL_refuses_r7)
set_option maxRecDepth 20000 in
theorem gq_rules_wsL_refuses_r8 : GoodIn wsL_rules wsL_refuses_r8 := (goodIn_r wsL_refuses_r8 [283, 284, 285, 347, 348, 349, 171, 172, 173, 174, 175, 350, 202, 203, 204, 179, 180, 181, 182, 351, 352, 353, 354, 134] (by decide +kernel) (by decide +kernel) : GoodIn wsL_rules wsL_refuses_r8)
set_option maxRecDepth 20000 in
theorem gq_rules_wsL_refuses_r9 : GoodIn wsL_rules wsL_refuses_r9 := (goodIn_r wsL_refuses_r9 [135, 136, 137, 138, 139, 140, 355, 131, 132, 133, 141, 142, 143, 144, 145, 146, 147, 148, 23, 149, 150, 36, 37, 151] (by decide +kernel) (by decide +kernel) : GoodIn wsL_rules wsL_refuses_r9)
set_option maxRecDepth 20000 in
theorem gq_rules_wsL_refuses_r10 : GoodIn wsL_rules wsL_refuses_r10 := (goodIn_r wsL_refuses_r10 [152, 153, 154, 155, 356, 357, 358, 359, 360, 361, 362, 363, 364, 365, 366, 367, 368, 369, 370, 371, 372, 373, 374, 375] (by decide +kernel) (by decide +kernel) : GoodIn wsL_rules wsL_refuses_r10)
set_option maxRecDepth 20000 in
theorem gq_rules_wsL_refuses_r11 : GoodIn wsL_rules wsL_refuses_r11 := (goodIn_r wsL_refuses_r11 [168, 169, 170, 376, 377, 378, 379, 380, 381, 382, 383, 221, 222, 223, 224, 384, 385, 386, 245, 246, 247, 248, 249, 250] (by decide +kernel) (by decide +kernel) : GoodIn wsL_rules wsL_refuses_r11)
set_option maxRecDepth 20000 in
theorem gq_rules_wsL_refuses_r12 : GoodIn wsL_rules wsL_refuses_r12 := (goodIn_r wsL_refuses_r12 [251, 252, 253, 254, 255, 256, 257, 258, 38, 259, 260, 261, 262, 263, 264, 265, 266, 39, 267, 268, 269, 270, 271, 272] (by decide +kernel) (by decide +kernel) : GoodIn wsL_rules wsL_refuses_r12)
set_option maxRecDepth 20000 in
theorem gq_rules_wsL_refuses_r13 : GoodIn wsL_rules wsL_refuses_r13 := (goodIn_r wsL_refuses_r13 [273, 40, 278, 279, 280, 281, 286, 287, 288, 41, 289, 290, 291, 292, 303, 304, 305] (by decide +kernel) (by decide +kernel) : GoodIn wsL_rules wsL_refuses_r13)
set_option maxRecDepth 20000 in
theorem ggL_rules_L_refuses : GoodIn wsL_rules wsL_refuses := goodIn_ca (goodIn_ca (goodIn_ca (gi_c (List.mem_cons_of_mem _ (List.mem_append_left _ (List.mem_append_left _ (List.mem_append_left _ (List.mem_append_left _ (List.mem_append_left _ (List.mem_append_left _ (List.mem_append_right _ (List.mem_append_right _ (List.mem_append_right _ (List.mem_append_right _ (List.mem_append_right _ (List.mem_append_right _ (List.mem_append_right _ (List.mem_append_right _ (List.mem_append_right _ (List.mem_append_right _ (List.mem_append_right _ (List.mem_append_right _ (List.mem_append_right _ (List.mem_append_right _ (List.mem_append_right _ (List.mem_append_right _ (List.mem_of_getElem? (l := wsL_rules_r17) (i := 4) rfl)))))))))))))))))))))))) rfl (goodIn_app (goodIn_app (goodIn_app (goodIn_app gq_rules_wsL_refuses_r1 (goodIn_app gq_rules_wsL_refuses_r2 (goodIn_app gq_rules_wsL_refuses_r3 (goodIn_app gq_rules_wsL_refuses_r4 (goodIn_app gq_rules_wsL_refuses_r5 (goodIn_app gq_rules_wsL_refuses_r6 (goodIn_app gq_rules_wsL_refuses_r7 (goodIn_app gq_rules_wsL_refuses_r8 (goodIn_app gq_rules_wsL_refuses_r9 (goodIn_app gq_rules_wsL_refuses_r10 (goodIn_app gq_rules_wsL_refuses_r11 (goodIn_app gq_rules_wsL_refuses_r12 gq_rules_wsL_refuses_r13)))))))))))) (goodIn_r wsX20 [399, 400, 401, 402, 403, 404, 405, 406] (by decide +kernel) (by decide +kernel) : GoodIn wsL_rules wsX20)) (goodIn_r wsX00 [411, 412, 413, 414, 415, 416] (by decide +kernel) (by decide +kernel) : GoodIn wsL_rules wsX00)) (goodIn_r wsX10 [407, 408, 409, 410] (by decide +kernel) (by decide +kernel) : GoodIn wsL_rules wsX10))) (goodIn_sub (fun _ h => List.mem_cons_of_mem _ (List.mem_append_left _ (List.mem_append_left _ (List.mem_append_right _ h)))) (by decide +kernel))) (goodIn_sub (fun _ h => List.mem_cons_of_mem _ (List.mem_append_left _ (List.mem_append_right _ h))) (by decide +kernel))) (goodIn_sub (fun _ h => List.mem_cons_of_mem _ (List.mem_append_right _ h)) (by decide +kernel))
set_option maxRecDepth 20000 in
theorem gL_rules_L_refuses : GoodIn wsL_rules (va_wsS RL 95 yL_refuses wsL_refuses) := goodIn_app (goodIn_of _ (by decide +kernel)) ggL_rules_L_refuses
