theorem dL_odds_0 : decode cL_odds 0 = .ok (.new 8, 3) := by decide +kernel
theorem dL_odds_3 : decode cL_odds 3 = .ok (.dup, 1) := by decide +kernel
theorem dL_odds_4 : decode cL_odds 4 = .ok (.invokespecial 91, 3) := by decide +kernel
theorem dL_odds_7 : decode cL_odds 7 = .ok (.astore_n 0, 1) := by decide +kernel
theorem dL_odds_8 : decode cL_odds 8 = .ok (.aload_n 0, 1) := by decide +kernel
theorem dL_odds_9 : decode cL_odds 9 = .ok (.iconst 0, 1) := by decide +kernel
theorem dL_odds_10 : decode cL_odds 10 = .ok (.invokevirtual 37, 3) := by decide +kernel
theorem dL_odds_13 : decode cL_odds 13 = .ok (.ifCond .ne 262, 3) := by decide +kernel
theorem dL_odds_16 : decode cL_odds 16 = .ok (.aload_n 0, 1) := by decide +kernel
theorem dL_odds_17 : decode cL_odds 17 = .ok (.iconst 3, 1) := by decide +kernel
theorem dL_odds_18 : decode cL_odds 18 = .ok (.invokevirtual 41, 3) := by decide +kernel
theorem dL_odds_21 : decode cL_odds 21 = .ok (.ifCond .ne 254, 3) := by decide +kernel
theorem dL_odds_24 : decode cL_odds 24 = .ok (.aload_n 0, 1) := by decide +kernel
theorem dL_odds_25 : decode cL_odds 25 = .ok (.invokevirtual 78, 3) := by decide +kernel
theorem dL_odds_28 : decode cL_odds 28 = .ok (.ifCond .ne 247, 3) := by decide +kernel
theorem dL_odds_31 : decode cL_odds 31 = .ok (.aload_n 0, 1) := by decide +kernel
theorem dL_odds_32 : decode cL_odds 32 = .ok (.invokevirtual 81, 3) := by decide +kernel
theorem dL_odds_35 : decode cL_odds 35 = .ok (.ifCond .ne 240, 3) := by decide +kernel
theorem dL_odds_38 : decode cL_odds 38 = .ok (.aload_n 0, 1) := by decide +kernel
theorem dL_odds_39 : decode cL_odds 39 = .ok (.bipush 13, 2) := by decide +kernel
theorem dL_odds_41 : decode cL_odds 41 = .ok (.iconst 0, 1) := by decide +kernel
theorem dL_odds_42 : decode cL_odds 42 = .ok (.iconst 0, 1) := by decide +kernel
theorem dL_odds_43 : decode cL_odds 43 = .ok (.iconst 0, 1) := by decide +kernel
theorem dL_odds_44 : decode cL_odds 44 = .ok (.iconst 0, 1) := by decide +kernel
theorem dL_odds_45 : decode cL_odds 45 = .ok (.invokestatic 85, 3) := by decide +kernel
theorem dL_odds_48 : decode cL_odds 48 = .ok (.sipush (-20003), 3) := by decide +kernel
theorem dL_odds_51 : decode cL_odds 51 = .ok (.if_icmp .ne 224, 3) := by decide +kernel
theorem dL_odds_54 : decode cL_odds 54 = .ok (.aload_n 0, 1) := by decide +kernel
theorem dL_odds_55 : decode cL_odds 55 = .ok (.iconst 0, 1) := by decide +kernel
theorem dL_odds_56 : decode cL_odds 56 = .ok (.iconst 0, 1) := by decide +kernel
theorem dL_odds_57 : decode cL_odds 57 = .ok (.bipush 10, 2) := by decide +kernel
theorem dL_odds_59 : decode cL_odds 59 = .ok (.invokevirtual 7, 3) := by decide +kernel
theorem dL_odds_62 : decode cL_odds 62 = .ok (.iconst 1, 1) := by decide +kernel
theorem dL_odds_63 : decode cL_odds 63 = .ok (.if_icmp .ne 212, 3) := by decide +kernel
theorem dL_odds_66 : decode cL_odds 66 = .ok (.aload_n 0, 1) := by decide +kernel
theorem dL_odds_67 : decode cL_odds 67 = .ok (.iconst 0, 1) := by decide +kernel
theorem dL_odds_68 : decode cL_odds 68 = .ok (.iconst 1, 1) := by decide +kernel
theorem dL_odds_69 : decode cL_odds 69 = .ok (.bipush 11, 2) := by decide +kernel
theorem dL_odds_71 : decode cL_odds 71 = .ok (.invokevirtual 7, 3) := by decide +kernel
theorem dL_odds_74 : decode cL_odds 74 = .ok (.iconst 2, 1) := by decide +kernel
theorem dL_odds_75 : decode cL_odds 75 = .ok (.if_icmp .ne 200, 3) := by decide +kernel
theorem dL_odds_78 : decode cL_odds 78 = .ok (.aload_n 0, 1) := by decide +kernel
theorem dL_odds_79 : decode cL_odds 79 = .ok (.iconst 0, 1) := by decide +kernel
theorem dL_odds_80 : decode cL_odds 80 = .ok (.iconst 2, 1) := by decide +kernel
theorem dL_odds_81 : decode cL_odds 81 = .ok (.bipush 12, 2) := by decide +kernel
theorem dL_odds_83 : decode cL_odds 83 = .ok (.invokevirtual 7, 3) := by decide +kernel
theorem dL_odds_86 : decode cL_odds 86 = .ok (.iconst 3, 1) := by decide +kernel
theorem dL_odds_87 : decode cL_odds 87 = .ok (.if_icmp .ne 188, 3) := by decide +kernel
theorem dL_odds_90 : decode cL_odds 90 = .ok (.aload_n 0, 1) := by decide +kernel
theorem dL_odds_91 : decode cL_odds 91 = .ok (.iconst 0, 1) := by decide +kernel
theorem dL_odds_92 : decode cL_odds 92 = .ok (.iconst 5, 1) := by decide +kernel
theorem dL_odds_93 : decode cL_odds 93 = .ok (.invokevirtual 20, 3) := by decide +kernel
theorem dL_odds_96 : decode cL_odds 96 = .ok (.iconst 1, 1) := by decide +kernel
theorem dL_odds_97 : decode cL_odds 97 = .ok (.if_icmp .ne 178, 3) := by decide +kernel
theorem dL_odds_100 : decode cL_odds 100 = .ok (.aload_n 0, 1) := by decide +kernel
theorem dL_odds_101 : decode cL_odds 101 = .ok (.iconst 0, 1) := by decide +kernel
theorem dL_odds_102 : decode cL_odds 102 = .ok (.bipush 6, 2) := by decide +kernel
theorem dL_odds_104 : decode cL_odds 104 = .ok (.invokevirtual 20, 3) := by decide +kernel
theorem dL_odds_107 : decode cL_odds 107 = .ok (.iconst 2, 1) := by decide +kernel
theorem dL_odds_108 : decode cL_odds 108 = .ok (.if_icmp .ne 167, 3) := by decide +kernel
theorem dL_odds_111 : decode cL_odds 111 = .ok (.aload_n 0, 1) := by decide +kernel
theorem dL_odds_112 : decode cL_odds 112 = .ok (.iconst 0, 1) := by decide +kernel
theorem dL_odds_113 : decode cL_odds 113 = .ok (.iconst 5, 1) := by decide +kernel
theorem dL_odds_114 : decode cL_odds 114 = .ok (.iconst 0, 1) := by decide +kernel
theorem dL_odds_115 : decode cL_odds 115 = .ok (.bipush 100, 2) := by decide +kernel
theorem dL_odds_117 : decode cL_odds 117 = .ok (.invokevirtual 26, 3) := by decide +kernel
theorem dL_odds_120 : decode cL_odds 120 = .ok (.ifCond .ne 155, 3) := by decide +kernel
theorem dL_odds_123 : decode cL_odds 123 = .ok (.aload_n 0, 1) := by decide +kernel
theorem dL_odds_124 : decode cL_odds 124 = .ok (.iconst 0, 1) := by decide +kernel
theorem dL_odds_125 : decode cL_odds 125 = .ok (.bipush 6, 2) := by decide +kernel
theorem dL_odds_127 : decode cL_odds 127 = .ok (.iconst 1, 1) := by decide +kernel
theorem dL_odds_128 : decode cL_odds 128 = .ok (.bipush 7, 2) := by decide +kernel
theorem dL_odds_130 : decode cL_odds 130 = .ok (.invokevirtual 26, 3) := by decide +kernel
theorem dL_odds_133 : decode cL_odds 133 = .ok (.ifCond .ne 142, 3) := by decide +kernel
theorem dL_odds_136 : decode cL_odds 136 = .ok (.aload_n 0, 1) := by decide +kernel
theorem dL_odds_137 : decode cL_odds 137 = .ok (.iconst 1, 1) := by decide +kernel
theorem dL_odds_138 : decode cL_odds 138 = .ok (.invokevirtual 50, 3) := by decide +kernel
theorem dL_odds_141 : decode cL_odds 141 = .ok (.iconst 5, 1) := by decide +kernel
theorem dL_odds_142 : decode cL_odds 142 = .ok (.if_icmp .ne 133, 3) := by decide +kernel
theorem dL_odds_145 : decode cL_odds 145 = .ok (.aload_n 0, 1) := by decide +kernel
theorem dL_odds_146 : decode cL_odds 146 = .ok (.invokevirtual 92, 3) := by decide +kernel
theorem dL_odds_149 : decode cL_odds 149 = .ok (.bipush 6, 2) := by decide +kernel
theorem dL_odds_151 : decode cL_odds 151 = .ok (.if_icmp .ne 124, 3) := by decide +kernel
theorem dL_odds_154 : decode cL_odds 154 = .ok (.aload_n 0, 1) := by decide +kernel
theorem dL_odds_155 : decode cL_odds 155 = .ok (.iconst 1, 1) := by decide +kernel
theorem dL_odds_156 : decode cL_odds 156 = .ok (.invokevirtual 37, 3) := by decide +kernel
theorem dL_odds_159 : decode cL_odds 159 = .ok (.bipush 7, 2) := by decide +kernel
theorem dL_odds_161 : decode cL_odds 161 = .ok (.if_icmp .ne 114, 3) := by decide +kernel
theorem dL_odds_164 : decode cL_odds 164 = .ok (.aload_n 0, 1) := by decide +kernel
theorem dL_odds_165 : decode cL_odds 165 = .ok (.iconst 2, 1) := by decide +kernel
theorem dL_odds_166 : decode cL_odds 166 = .ok (.invokevirtual 41, 3) := by decide +kernel
theorem dL_odds_169 : decode cL_odds 169 = .ok (.bipush 96, 2) := by decide +kernel
theorem dL_odds_171 : decode cL_odds 171 = .ok (.if_icmp .ne 104, 3) := by decide +kernel
theorem dL_odds_174 : decode cL_odds 174 = .ok (.aload_n 0, 1) := by decide +kernel
theorem dL_odds_175 : decode cL_odds 175 = .ok (.iconst 1, 1) := by decide +kernel
theorem dL_odds_176 : decode cL_odds 176 = .ok (.invokevirtual 50, 3) := by decide +kernel
theorem dL_odds_179 : decode cL_odds 179 = .ok (.ifCond .ne 96, 3) := by decide +kernel
theorem dL_odds_182 : decode cL_odds 182 = .ok (.aload_n 0, 1) := by decide +kernel
theorem dL_odds_183 : decode cL_odds 183 = .ok (.iconst 2, 1) := by decide +kernel
theorem dL_odds_184 : decode cL_odds 184 = .ok (.iconst 5, 1) := by decide +kernel
theorem dL_odds_185 : decode cL_odds 185 = .ok (.iconst 0, 1) := by decide +kernel
theorem dL_odds_186 : decode cL_odds 186 = .ok (.invokevirtual 47, 3) := by decide +kernel
theorem dL_odds_189 : decode cL_odds 189 = .ok (.bipush 100, 2) := by decide +kernel
theorem dL_odds_191 : decode cL_odds 191 = .ok (.if_icmp .ne 84, 3) := by decide +kernel
theorem dL_odds_194 : decode cL_odds 194 = .ok (.aload_n 0, 1) := by decide +kernel
theorem dL_odds_195 : decode cL_odds 195 = .ok (.iconst 3, 1) := by decide +kernel
theorem dL_odds_196 : decode cL_odds 196 = .ok (.invokevirtual 37, 3) := by decide +kernel
theorem dL_odds_199 : decode cL_odds 199 = .ok (.ifCond .ne 76, 3) := by decide +kernel
theorem dL_odds_202 : decode cL_odds 202 = .ok (.aload_n 0, 1) := by decide +kernel
theorem dL_odds_203 : decode cL_odds 203 = .ok (.iconst 5, 1) := by decide +kernel
theorem dL_odds_204 : decode cL_odds 204 = .ok (.iconst 2, 1) := by decide +kernel
theorem dL_odds_205 : decode cL_odds 205 = .ok (.invokestatic 95, 3) := by decide +kernel
theorem dL_odds_208 : decode cL_odds 208 = .ok (.ifCond .eq 67, 3) := by decide +kernel
theorem dL_odds_211 : decode cL_odds 211 = .ok (.aload_n 0, 1) := by decide +kernel
theorem dL_odds_212 : decode cL_odds 212 = .ok (.invokevirtual 99, 3) := by decide +kernel
theorem dL_odds_215 : decode cL_odds 215 = .ok (.ifCond .ne 60, 3) := by decide +kernel
theorem dL_odds_218 : decode cL_odds 218 = .ok (.aload_n 0, 1) := by decide +kernel
theorem dL_odds_219 : decode cL_odds 219 = .ok (.iconst 3, 1) := by decide +kernel
theorem dL_odds_220 : decode cL_odds 220 = .ok (.invokevirtual 37, 3) := by decide +kernel
theorem dL_odds_223 : decode cL_odds 223 = .ok (.bipush 7, 2) := by decide +kernel
theorem dL_odds_225 : decode cL_odds 225 = .ok (.if_icmp .ne 50, 3) := by decide +kernel
theorem dL_odds_228 : decode cL_odds 228 = .ok (.aload_n 0, 1) := by decide +kernel
theorem dL_odds_229 : decode cL_odds 229 = .ok (.iconst 3, 1) := by decide +kernel
theorem dL_odds_230 : decode cL_odds 230 = .ok (.iconst 5, 1) := by decide +kernel
theorem dL_odds_231 : decode cL_odds 231 = .ok (.iconst 0, 1) := by decide +kernel
theorem dL_odds_232 : decode cL_odds 232 = .ok (.invokevirtual 47, 3) := by decide +kernel
theorem dL_odds_235 : decode cL_odds 235 = .ok (.bipush 100, 2) := by decide +kernel
theorem dL_odds_237 : decode cL_odds 237 = .ok (.if_icmp .ne 38, 3) := by decide +kernel
theorem dL_odds_240 : decode cL_odds 240 = .ok (.aload_n 0, 1) := by decide +kernel
theorem dL_odds_241 : decode cL_odds 241 = .ok (.iconst 3, 1) := by decide +kernel
theorem dL_odds_242 : decode cL_odds 242 = .ok (.iconst 2, 1) := by decide +kernel
theorem dL_odds_243 : decode cL_odds 243 = .ok (.invokevirtual 44, 3) := by decide +kernel
theorem dL_odds_246 : decode cL_odds 246 = .ok (.bipush 12, 2) := by decide +kernel
theorem dL_odds_248 : decode cL_odds 248 = .ok (.if_icmp .ne 27, 3) := by decide +kernel
theorem dL_odds_251 : decode cL_odds 251 = .ok (.aload_n 0, 1) := by decide +kernel
theorem dL_odds_252 : decode cL_odds 252 = .ok (.invokestatic 102, 3) := by decide +kernel
theorem dL_odds_255 : decode cL_odds 255 = .ok (.ifCond .eq 20, 3) := by decide +kernel
theorem dL_odds_258 : decode cL_odds 258 = .ok (.aload_n 0, 1) := by decide +kernel
theorem dL_odds_259 : decode cL_odds 259 = .ok (.invokevirtual 53, 3) := by decide +kernel
theorem dL_odds_262 : decode cL_odds 262 = .ok (.bipush 6, 2) := by decide +kernel
theorem dL_odds_264 : decode cL_odds 264 = .ok (.if_icmp .ne 11, 3) := by decide +kernel
theorem dL_odds_267 : decode cL_odds 267 = .ok (.aload_n 0, 1) := by decide +kernel
theorem dL_odds_268 : decode cL_odds 268 = .ok (.iconst 3, 1) := by decide +kernel
theorem dL_odds_269 : decode cL_odds 269 = .ok (.invokevirtual 37, 3) := by decide +kernel
theorem dL_odds_272 : decode cL_odds 272 = .ok (.ifCond .eq 5, 3) := by decide +kernel
theorem dL_odds_275 : decode cL_odds 275 = .ok (.iconst 0, 1) := by decide +kernel
theorem dL_odds_276 : decode cL_odds 276 = .ok (.ireturn, 1) := by decide +kernel
theorem dL_odds_277 : decode cL_odds 277 = .ok (.aload_n 0, 1) := by decide +kernel
theorem dL_odds_278 : decode cL_odds 278 = .ok (.iconst 1, 1) := by decide +kernel
theorem dL_odds_279 : decode cL_odds 279 = .ok (.iconst 5, 1) := by decide +kernel
theorem dL_odds_280 : decode cL_odds 280 = .ok (.iconst 0, 1) := by decide +kernel
theorem dL_odds_281 : decode cL_odds 281 = .ok (.bipush 101, 2) := by decide +kernel
theorem dL_odds_283 : decode cL_odds 283 = .ok (.invokevirtual 26, 3) := by decide +kernel
theorem dL_odds_286 : decode cL_odds 286 = .ok (.bipush 100, 2) := by decide +kernel
theorem dL_odds_288 : decode cL_odds 288 = .ok (.if_icmp .ne 301, 3) := by decide +kernel
theorem dL_odds_291 : decode cL_odds 291 = .ok (.aload_n 0, 1) := by decide +kernel
theorem dL_odds_292 : decode cL_odds 292 = .ok (.iconst 1, 1) := by decide +kernel
theorem dL_odds_293 : decode cL_odds 293 = .ok (.iconst 1, 1) := by decide +kernel
theorem dL_odds_294 : decode cL_odds 294 = .ok (.bipush 20, 2) := by decide +kernel
theorem dL_odds_296 : decode cL_odds 296 = .ok (.invokevirtual 17, 3) := by decide +kernel
theorem dL_odds_299 : decode cL_odds 299 = .ok (.bipush 11, 2) := by decide +kernel
theorem dL_odds_301 : decode cL_odds 301 = .ok (.if_icmp .ne 288, 3) := by decide +kernel
theorem dL_odds_304 : decode cL_odds 304 = .ok (.aload_n 0, 1) := by decide +kernel
theorem dL_odds_305 : decode cL_odds 305 = .ok (.iconst 1, 1) := by decide +kernel
theorem dL_odds_306 : decode cL_odds 306 = .ok (.iconst 2, 1) := by decide +kernel
theorem dL_odds_307 : decode cL_odds 307 = .ok (.invokevirtual 13, 3) := by decide +kernel
theorem dL_odds_310 : decode cL_odds 310 = .ok (.bipush 12, 2) := by decide +kernel
theorem dL_odds_312 : decode cL_odds 312 = .ok (.if_icmp .ne 277, 3) := by decide +kernel
theorem dL_odds_315 : decode cL_odds 315 = .ok (.aload_n 0, 1) := by decide +kernel
theorem dL_odds_316 : decode cL_odds 316 = .ok (.iconst 1, 1) := by decide +kernel
theorem dL_odds_317 : decode cL_odds 317 = .ok (.bipush 7, 2) := by decide +kernel
theorem dL_odds_319 : decode cL_odds 319 = .ok (.invokevirtual 20, 3) := by decide +kernel
theorem dL_odds_322 : decode cL_odds 322 = .ok (.iconst 3, 1) := by decide +kernel
theorem dL_odds_323 : decode cL_odds 323 = .ok (.if_icmp .ne 266, 3) := by decide +kernel
theorem dL_odds_326 : decode cL_odds 326 = .ok (.aload_n 0, 1) := by decide +kernel
theorem dL_odds_327 : decode cL_odds 327 = .ok (.iconst 1, 1) := by decide +kernel
theorem dL_odds_328 : decode cL_odds 328 = .ok (.bipush 7, 2) := by decide +kernel
theorem dL_odds_330 : decode cL_odds 330 = .ok (.iconst 0, 1) := by decide +kernel
theorem dL_odds_331 : decode cL_odds 331 = .ok (.iconst 1, 1) := by decide +kernel
theorem dL_odds_332 : decode cL_odds 332 = .ok (.invokevirtual 26, 3) := by decide +kernel
theorem dL_odds_335 : decode cL_odds 335 = .ok (.ifCond .ne 254, 3) := by decide +kernel
theorem dL_odds_338 : decode cL_odds 338 = .ok (.aload_n 0, 1) := by decide +kernel
theorem dL_odds_339 : decode cL_odds 339 = .ok (.iconst 1, 1) := by decide +kernel
theorem dL_odds_340 : decode cL_odds 340 = .ok (.bipush 6, 2) := by decide +kernel
theorem dL_odds_342 : decode cL_odds 342 = .ok (.iconst 1, 1) := by decide +kernel
theorem dL_odds_343 : decode cL_odds 343 = .ok (.bipush 8, 2) := by decide +kernel
theorem dL_odds_345 : decode cL_odds 345 = .ok (.invokevirtual 26, 3) := by decide +kernel
theorem dL_odds_348 : decode cL_odds 348 = .ok (.bipush 7, 2) := by decide +kernel
theorem dL_odds_350 : decode cL_odds 350 = .ok (.if_icmp .ne 239, 3) := by decide +kernel
theorem dL_odds_353 : decode cL_odds 353 = .ok (.aload_n 0, 1) := by decide +kernel
theorem dL_odds_354 : decode cL_odds 354 = .ok (.iconst 1, 1) := by decide +kernel
theorem dL_odds_355 : decode cL_odds 355 = .ok (.invokevirtual 50, 3) := by decide +kernel
theorem dL_odds_358 : decode cL_odds 358 = .ok (.iconst 5, 1) := by decide +kernel
theorem dL_odds_359 : decode cL_odds 359 = .ok (.if_icmp .ne 230, 3) := by decide +kernel
theorem dL_odds_362 : decode cL_odds 362 = .ok (.aload_n 0, 1) := by decide +kernel
theorem dL_odds_363 : decode cL_odds 363 = .ok (.iconst 2, 1) := by decide +kernel
theorem dL_odds_364 : decode cL_odds 364 = .ok (.iconst 5, 1) := by decide +kernel
theorem dL_odds_365 : decode cL_odds 365 = .ok (.iconst 0, 1) := by decide +kernel
theorem dL_odds_366 : decode cL_odds 366 = .ok (.bipush 102, 2) := by decide +kernel
theorem dL_odds_368 : decode cL_odds 368 = .ok (.invokevirtual 26, 3) := by decide +kernel
theorem dL_odds_371 : decode cL_odds 371 = .ok (.bipush 100, 2) := by decide +kernel
theorem dL_odds_373 : decode cL_odds 373 = .ok (.if_icmp .ne 216, 3) := by decide +kernel
theorem dL_odds_376 : decode cL_odds 376 = .ok (.aload_n 0, 1) := by decide +kernel
theorem dL_odds_377 : decode cL_odds 377 = .ok (.iconst 2, 1) := by decide +kernel
theorem dL_odds_378 : decode cL_odds 378 = .ok (.iconst 5, 1) := by decide +kernel
theorem dL_odds_379 : decode cL_odds 379 = .ok (.iconst 2, 1) := by decide +kernel
theorem dL_odds_380 : decode cL_odds 380 = .ok (.iconst 3, 1) := by decide +kernel
theorem dL_odds_381 : decode cL_odds 381 = .ok (.invokevirtual 26, 3) := by decide +kernel
theorem dL_odds_384 : decode cL_odds 384 = .ok (.ifCond .ne 205, 3) := by decide +kernel
theorem dL_odds_387 : decode cL_odds 387 = .ok (.aload_n 0, 1) := by decide +kernel
theorem dL_odds_388 : decode cL_odds 388 = .ok (.iconst 2, 1) := by decide +kernel
theorem dL_odds_389 : decode cL_odds 389 = .ok (.bipush 6, 2) := by decide +kernel
theorem dL_odds_391 : decode cL_odds 391 = .ok (.invokevirtual 23, 3) := by decide +kernel
theorem dL_odds_394 : decode cL_odds 394 = .ok (.iconst 1, 1) := by decide +kernel
theorem dL_odds_395 : decode cL_odds 395 = .ok (.if_icmp .ne 194, 3) := by decide +kernel
theorem dL_odds_398 : decode cL_odds 398 = .ok (.aload_n 0, 1) := by decide +kernel
theorem dL_odds_399 : decode cL_odds 399 = .ok (.iconst 2, 1) := by decide +kernel
theorem dL_odds_400 : decode cL_odds 400 = .ok (.iconst 1, 1) := by decide +kernel
theorem dL_odds_401 : decode cL_odds 401 = .ok (.bipush 21, 2) := by decide +kernel
theorem dL_odds_403 : decode cL_odds 403 = .ok (.invokevirtual 17, 3) := by decide +kernel
theorem dL_odds_406 : decode cL_odds 406 = .ok (.bipush 11, 2) := by decide +kernel
theorem dL_odds_408 : decode cL_odds 408 = .ok (.if_icmp .ne 181, 3) := by decide +kernel
theorem dL_odds_411 : decode cL_odds 411 = .ok (.aload_n 0, 1) := by decide +kernel
theorem dL_odds_412 : decode cL_odds 412 = .ok (.iconst 2, 1) := by decide +kernel
theorem dL_odds_413 : decode cL_odds 413 = .ok (.invokevirtual 50, 3) := by decide +kernel
theorem dL_odds_416 : decode cL_odds 416 = .ok (.iconst 4, 1) := by decide +kernel
theorem dL_odds_417 : decode cL_odds 417 = .ok (.if_icmp .ne 172, 3) := by decide +kernel
theorem dL_odds_420 : decode cL_odds 420 = .ok (.aload_n 0, 1) := by decide +kernel
theorem dL_odds_421 : decode cL_odds 421 = .ok (.invokevirtual 99, 3) := by decide +kernel
theorem dL_odds_424 : decode cL_odds 424 = .ok (.iconst 4, 1) := by decide +kernel
theorem dL_odds_425 : decode cL_odds 425 = .ok (.if_icmp .ne 164, 3) := by decide +kernel
theorem dL_odds_428 : decode cL_odds 428 = .ok (.aload_n 0, 1) := by decide +kernel
theorem dL_odds_429 : decode cL_odds 429 = .ok (.invokevirtual 81, 3) := by decide +kernel
theorem dL_odds_432 : decode cL_odds 432 = .ok (.iconst 4, 1) := by decide +kernel
theorem dL_odds_433 : decode cL_odds 433 = .ok (.if_icmp .ne 156, 3) := by decide +kernel
theorem dL_odds_436 : decode cL_odds 436 = .ok (.aload_n 0, 1) := by decide +kernel
theorem dL_odds_437 : decode cL_odds 437 = .ok (.iconst 0, 1) := by decide +kernel
theorem dL_odds_438 : decode cL_odds 438 = .ok (.iconst 4, 1) := by decide +kernel
theorem dL_odds_439 : decode cL_odds 439 = .ok (.iconst (-1), 1) := by decide +kernel
theorem dL_odds_440 : decode cL_odds 440 = .ok (.iconst 1, 1) := by decide +kernel
theorem dL_odds_441 : decode cL_odds 441 = .ok (.invokestatic 106, 3) := by decide +kernel
theorem dL_odds_444 : decode cL_odds 444 = .ok (.ifCond .eq 145, 3) := by decide +kernel
theorem dL_odds_447 : decode cL_odds 447 = .ok (.aload_n 0, 1) := by decide +kernel
theorem dL_odds_448 : decode cL_odds 448 = .ok (.iconst 1, 1) := by decide +kernel
theorem dL_odds_449 : decode cL_odds 449 = .ok (.iconst 3, 1) := by decide +kernel
theorem dL_odds_450 : decode cL_odds 450 = .ok (.iconst (-1), 1) := by decide +kernel
theorem dL_odds_451 : decode cL_odds 451 = .ok (.iconst 2, 1) := by decide +kernel
theorem dL_odds_452 : decode cL_odds 452 = .ok (.invokestatic 106, 3) := by decide +kernel
theorem dL_odds_455 : decode cL_odds 455 = .ok (.ifCond .eq 134, 3) := by decide +kernel
theorem dL_odds_458 : decode cL_odds 458 = .ok (.aload_n 0, 1) := by decide +kernel
theorem dL_odds_459 : decode cL_odds 459 = .ok (.iconst 2, 1) := by decide +kernel
theorem dL_odds_460 : decode cL_odds 460 = .ok (.iconst 2, 1) := by decide +kernel
theorem dL_odds_461 : decode cL_odds 461 = .ok (.bipush 6, 2) := by decide +kernel
theorem dL_odds_463 : decode cL_odds 463 = .ok (.iconst (-1), 1) := by decide +kernel
theorem dL_odds_464 : decode cL_odds 464 = .ok (.invokestatic 106, 3) := by decide +kernel
theorem dL_odds_467 : decode cL_odds 467 = .ok (.ifCond .eq 122, 3) := by decide +kernel
theorem dL_odds_470 : decode cL_odds 470 = .ok (.aload_n 0, 1) := by decide +kernel
theorem dL_odds_471 : decode cL_odds 471 = .ok (.iconst 3, 1) := by decide +kernel
theorem dL_odds_472 : decode cL_odds 472 = .ok (.iconst 1, 1) := by decide +kernel
theorem dL_odds_473 : decode cL_odds 473 = .ok (.iconst 5, 1) := by decide +kernel
theorem dL_odds_474 : decode cL_odds 474 = .ok (.iconst 0, 1) := by decide +kernel
theorem dL_odds_475 : decode cL_odds 475 = .ok (.invokestatic 106, 3) := by decide +kernel
theorem dL_odds_478 : decode cL_odds 478 = .ok (.ifCond .eq 111, 3) := by decide +kernel
theorem dL_odds_481 : decode cL_odds 481 = .ok (.aload_n 0, 1) := by decide +kernel
theorem dL_odds_482 : decode cL_odds 482 = .ok (.iconst 3, 1) := by decide +kernel
theorem dL_odds_483 : decode cL_odds 483 = .ok (.invokevirtual 37, 3) := by decide +kernel
theorem dL_odds_486 : decode cL_odds 486 = .ok (.bipush 7, 2) := by decide +kernel
theorem dL_odds_488 : decode cL_odds 488 = .ok (.if_icmp .ne 101, 3) := by decide +kernel
theorem dL_odds_491 : decode cL_odds 491 = .ok (.aload_n 0, 1) := by decide +kernel
theorem dL_odds_492 : decode cL_odds 492 = .ok (.iconst 3, 1) := by decide +kernel
theorem dL_odds_493 : decode cL_odds 493 = .ok (.invokevirtual 41, 3) := by decide +kernel
theorem dL_odds_496 : decode cL_odds 496 = .ok (.sipush 224, 3) := by decide +kernel
theorem dL_odds_499 : decode cL_odds 499 = .ok (.if_icmp .ne 90, 3) := by decide +kernel
theorem dL_odds_502 : decode cL_odds 502 = .ok (.aload_n 0, 1) := by decide +kernel
theorem dL_odds_503 : decode cL_odds 503 = .ok (.iconst 3, 1) := by decide +kernel
theorem dL_odds_504 : decode cL_odds 504 = .ok (.iconst 1, 1) := by decide +kernel
theorem dL_odds_505 : decode cL_odds 505 = .ok (.invokevirtual 44, 3) := by decide +kernel
theorem dL_odds_508 : decode cL_odds 508 = .ok (.bipush 20, 2) := by decide +kernel
theorem dL_odds_510 : decode cL_odds 510 = .ok (.if_icmp .ne 79, 3) := by decide +kernel
theorem dL_odds_513 : decode cL_odds 513 = .ok (.aload_n 0, 1) := by decide +kernel
theorem dL_odds_514 : decode cL_odds 514 = .ok (.iconst 3, 1) := by decide +kernel
theorem dL_odds_515 : decode cL_odds 515 = .ok (.iconst 5, 1) := by decide +kernel
theorem dL_odds_516 : decode cL_odds 516 = .ok (.iconst 0, 1) := by decide +kernel
theorem dL_odds_517 : decode cL_odds 517 = .ok (.invokevirtual 47, 3) := by decide +kernel
theorem dL_odds_520 : decode cL_odds 520 = .ok (.bipush 101, 2) := by decide +kernel
theorem dL_odds_522 : decode cL_odds 522 = .ok (.if_icmp .ne 67, 3) := by decide +kernel
theorem dL_odds_525 : decode cL_odds 525 = .ok (.aload_n 0, 1) := by decide +kernel
theorem dL_odds_526 : decode cL_odds 526 = .ok (.iconst 3, 1) := by decide +kernel
theorem dL_odds_527 : decode cL_odds 527 = .ok (.iconst 5, 1) := by decide +kernel
theorem dL_odds_528 : decode cL_odds 528 = .ok (.iconst 2, 1) := by decide +kernel
theorem dL_odds_529 : decode cL_odds 529 = .ok (.invokevirtual 47, 3) := by decide +kernel
theorem dL_odds_532 : decode cL_odds 532 = .ok (.iconst 3, 1) := by decide +kernel
theorem dL_odds_533 : decode cL_odds 533 = .ok (.if_icmp .ne 56, 3) := by decide +kernel
theorem dL_odds_536 : decode cL_odds 536 = .ok (.aload_n 0, 1) := by decide +kernel
theorem dL_odds_537 : decode cL_odds 537 = .ok (.iconst 3, 1) := by decide +kernel
theorem dL_odds_538 : decode cL_odds 538 = .ok (.bipush 6, 2) := by decide +kernel
theorem dL_odds_540 : decode cL_odds 540 = .ok (.iconst 1, 1) := by decide +kernel
theorem dL_odds_541 : decode cL_odds 541 = .ok (.invokevirtual 47, 3) := by decide +kernel
theorem dL_odds_544 : decode cL_odds 544 = .ok (.bipush 8, 2) := by decide +kernel
theorem dL_odds_546 : decode cL_odds 546 = .ok (.if_icmp .ne 43, 3) := by decide +kernel
theorem dL_odds_549 : decode cL_odds 549 = .ok (.aload_n 0, 1) := by decide +kernel
theorem dL_odds_550 : decode cL_odds 550 = .ok (.iconst 3, 1) := by decide +kernel
theorem dL_odds_551 : decode cL_odds 551 = .ok (.bipush 6, 2) := by decide +kernel
theorem dL_odds_553 : decode cL_odds 553 = .ok (.iconst 2, 1) := by decide +kernel
theorem dL_odds_554 : decode cL_odds 554 = .ok (.invokevirtual 47, 3) := by decide +kernel
theorem dL_odds_557 : decode cL_odds 557 = .ok (.ifCond .ne 32, 3) := by decide +kernel
theorem dL_odds_560 : decode cL_odds 560 = .ok (.aload_n 0, 1) := by decide +kernel
theorem dL_odds_561 : decode cL_odds 561 = .ok (.iconst 3, 1) := by decide +kernel
theorem dL_odds_562 : decode cL_odds 562 = .ok (.bipush 7, 2) := by decide +kernel
theorem dL_odds_564 : decode cL_odds 564 = .ok (.iconst 0, 1) := by decide +kernel
theorem dL_odds_565 : decode cL_odds 565 = .ok (.invokevirtual 47, 3) := by decide +kernel
theorem dL_odds_568 : decode cL_odds 568 = .ok (.iconst 1, 1) := by decide +kernel
theorem dL_odds_569 : decode cL_odds 569 = .ok (.if_icmp .ne 20, 3) := by decide +kernel
theorem dL_odds_572 : decode cL_odds 572 = .ok (.aload_n 0, 1) := by decide +kernel
theorem dL_odds_573 : decode cL_odds 573 = .ok (.invokestatic 102, 3) := by decide +kernel
theorem dL_odds_576 : decode cL_odds 576 = .ok (.ifCond .eq 13, 3) := by decide +kernel
theorem dL_odds_579 : decode cL_odds 579 = .ok (.aload_n 0, 1) := by decide +kernel
theorem dL_odds_580 : decode cL_odds 580 = .ok (.bipush 7, 2) := by decide +kernel
theorem dL_odds_582 : decode cL_odds 582 = .ok (.iconst 1, 1) := by decide +kernel
theorem dL_odds_583 : decode cL_odds 583 = .ok (.invokestatic 95, 3) := by decide +kernel
theorem dL_odds_586 : decode cL_odds 586 = .ok (.ifCond .ne 5, 3) := by decide +kernel
theorem dL_odds_589 : decode cL_odds 589 = .ok (.iconst 0, 1) := by decide +kernel
theorem dL_odds_590 : decode cL_odds 590 = .ok (.ireturn, 1) := by decide +kernel
theorem dL_odds_591 : decode cL_odds 591 = .ok (.aload_n 0, 1) := by decide +kernel
theorem dL_odds_592 : decode cL_odds 592 = .ok (.bipush 13, 2) := by decide +kernel
theorem dL_odds_594 : decode cL_odds 594 = .ok (.iconst 0, 1) := by decide +kernel
theorem dL_odds_595 : decode cL_odds 595 = .ok (.iconst 0, 1) := by decide +kernel
theorem dL_odds_596 : decode cL_odds 596 = .ok (.iconst 0, 1) := by decide +kernel
theorem dL_odds_597 : decode cL_odds 597 = .ok (.iconst 0, 1) := by decide +kernel
theorem dL_odds_598 : decode cL_odds 598 = .ok (.invokestatic 85, 3) := by decide +kernel
theorem dL_odds_601 : decode cL_odds 601 = .ok (.sipush (-20003), 3) := by decide +kernel
theorem dL_odds_604 : decode cL_odds 604 = .ok (.if_icmp .ne 205, 3) := by decide +kernel
theorem dL_odds_607 : decode cL_odds 607 = .ok (.aload_n 0, 1) := by decide +kernel
theorem dL_odds_608 : decode cL_odds 608 = .ok (.iconst 3, 1) := by decide +kernel
theorem dL_odds_609 : decode cL_odds 609 = .ok (.iconst 2, 1) := by decide +kernel
theorem dL_odds_610 : decode cL_odds 610 = .ok (.invokevirtual 69, 3) := by decide +kernel
theorem dL_odds_613 : decode cL_odds 613 = .ok (.iconst 3, 1) := by decide +kernel
theorem dL_odds_614 : decode cL_odds 614 = .ok (.if_icmp .ne 195, 3) := by decide +kernel
theorem dL_odds_617 : decode cL_odds 617 = .ok (.aload_n 0, 1) := by decide +kernel
theorem dL_odds_618 : decode cL_odds 618 = .ok (.iconst 3, 1) := by decide +kernel
theorem dL_odds_619 : decode cL_odds 619 = .ok (.iconst 5, 1) := by decide +kernel
theorem dL_odds_620 : decode cL_odds 620 = .ok (.iconst 0, 1) := by decide +kernel
theorem dL_odds_621 : decode cL_odds 621 = .ok (.invokevirtual 47, 3) := by decide +kernel
theorem dL_odds_624 : decode cL_odds 624 = .ok (.bipush 102, 2) := by decide +kernel
theorem dL_odds_626 : decode cL_odds 626 = .ok (.if_icmp .ne 183, 3) := by decide +kernel
theorem dL_odds_629 : decode cL_odds 629 = .ok (.aload_n 0, 1) := by decide +kernel
theorem dL_odds_630 : decode cL_odds 630 = .ok (.iconst 0, 1) := by decide +kernel
theorem dL_odds_631 : decode cL_odds 631 = .ok (.iconst 2, 1) := by decide +kernel
theorem dL_odds_632 : decode cL_odds 632 = .ok (.invokevirtual 69, 3) := by decide +kernel
theorem dL_odds_635 : decode cL_odds 635 = .ok (.iconst 2, 1) := by decide +kernel
theorem dL_odds_636 : decode cL_odds 636 = .ok (.if_icmp .ne 173, 3) := by decide +kernel
theorem dL_odds_639 : decode cL_odds 639 = .ok (.aload_n 0, 1) := by decide +kernel
theorem dL_odds_640 : decode cL_odds 640 = .ok (.iconst 3, 1) := by decide +kernel
theorem dL_odds_641 : decode cL_odds 641 = .ok (.iconst 1, 1) := by decide +kernel
theorem dL_odds_642 : decode cL_odds 642 = .ok (.invokevirtual 44, 3) := by decide +kernel
theorem dL_odds_645 : decode cL_odds 645 = .ok (.bipush 21, 2) := by decide +kernel
theorem dL_odds_647 : decode cL_odds 647 = .ok (.if_icmp .ne 162, 3) := by decide +kernel
theorem dL_odds_650 : decode cL_odds 650 = .ok (.aload_n 0, 1) := by decide +kernel
theorem dL_odds_651 : decode cL_odds 651 = .ok (.iconst 1, 1) := by decide +kernel
theorem dL_odds_652 : decode cL_odds 652 = .ok (.iconst 1, 1) := by decide +kernel
theorem dL_odds_653 : decode cL_odds 653 = .ok (.invokevirtual 69, 3) := by decide +kernel
theorem dL_odds_656 : decode cL_odds 656 = .ok (.iconst 1, 1) := by decide +kernel
theorem dL_odds_657 : decode cL_odds 657 = .ok (.if_icmp .ne 152, 3) := by decide +kernel
theorem dL_odds_660 : decode cL_odds 660 = .ok (.aload_n 0, 1) := by decide +kernel
theorem dL_odds_661 : decode cL_odds 661 = .ok (.iconst 3, 1) := by decide +kernel
theorem dL_odds_662 : decode cL_odds 662 = .ok (.invokevirtual 37, 3) := by decide +kernel
theorem dL_odds_665 : decode cL_odds 665 = .ok (.iconst 3, 1) := by decide +kernel
theorem dL_odds_666 : decode cL_odds 666 = .ok (.if_icmp .ne 143, 3) := by decide +kernel
theorem dL_odds_669 : decode cL_odds 669 = .ok (.aload_n 0, 1) := by decide +kernel
theorem dL_odds_670 : decode cL_odds 670 = .ok (.bipush 11, 2) := by decide +kernel
theorem dL_odds_672 : decode cL_odds 672 = .ok (.iconst 3, 1) := by decide +kernel
theorem dL_odds_673 : decode cL_odds 673 = .ok (.iconst 5, 1) := by decide +kernel
theorem dL_odds_674 : decode cL_odds 674 = .ok (.iconst 2, 1) := by decide +kernel
theorem dL_odds_675 : decode cL_odds 675 = .ok (.iconst 0, 1) := by decide +kernel
theorem dL_odds_676 : decode cL_odds 676 = .ok (.invokestatic 85, 3) := by decide +kernel
theorem dL_odds_679 : decode cL_odds 679 = .ok (.sipush (-20001), 3) := by decide +kernel
theorem dL_odds_682 : decode cL_odds 682 = .ok (.if_icmp .ne 127, 3) := by decide +kernel
theorem dL_odds_685 : decode cL_odds 685 = .ok (.aload_n 0, 1) := by decide +kernel
theorem dL_odds_686 : decode cL_odds 686 = .ok (.iconst 2, 1) := by decide +kernel
theorem dL_odds_687 : decode cL_odds 687 = .ok (.iconst 1, 1) := by decide +kernel
theorem dL_odds_688 : decode cL_odds 688 = .ok (.invokevirtual 69, 3) := by decide +kernel
theorem dL_odds_691 : decode cL_odds 691 = .ok (.ifCond .ne 118, 3) := by decide +kernel
theorem dL_odds_694 : decode cL_odds 694 = .ok (.aload_n 0, 1) := by decide +kernel
theorem dL_odds_695 : decode cL_odds 695 = .ok (.iconst 3, 1) := by decide +kernel
theorem dL_odds_696 : decode cL_odds 696 = .ok (.invokevirtual 41, 3) := by decide +kernel
theorem dL_odds_699 : decode cL_odds 699 = .ok (.sipush 224, 3) := by decide +kernel
theorem dL_odds_702 : decode cL_odds 702 = .ok (.if_icmp .ne 107, 3) := by decide +kernel
theorem dL_odds_705 : decode cL_odds 705 = .ok (.aload_n 0, 1) := by decide +kernel
theorem dL_odds_706 : decode cL_odds 706 = .ok (.bipush 18, 2) := by decide +kernel
theorem dL_odds_708 : decode cL_odds 708 = .ok (.iconst 2, 1) := by decide +kernel
theorem dL_odds_709 : decode cL_odds 709 = .ok (.iconst 1, 1) := by decide +kernel
theorem dL_odds_710 : decode cL_odds 710 = .ok (.iconst 0, 1) := by decide +kernel
theorem dL_odds_711 : decode cL_odds 711 = .ok (.iconst 0, 1) := by decide +kernel
theorem dL_odds_712 : decode cL_odds 712 = .ok (.invokestatic 85, 3) := by decide +kernel
theorem dL_odds_715 : decode cL_odds 715 = .ok (.sipush (-20003), 3) := by decide +kernel
theorem dL_odds_718 : decode cL_odds 718 = .ok (.if_icmp .ne 91, 3) := by decide +kernel
theorem dL_odds_721 : decode cL_odds 721 = .ok (.aload_n 0, 1) := by decide +kernel
theorem dL_odds_722 : decode cL_odds 722 = .ok (.invokevirtual 78, 3) := by decide +kernel
theorem dL_odds_725 : decode cL_odds 725 = .ok (.iconst 4, 1) := by decide +kernel
theorem dL_odds_726 : decode cL_odds 726 = .ok (.if_icmp .ne 83, 3) := by decide +kernel
theorem dL_odds_729 : decode cL_odds 729 = .ok (.aload_n 0, 1) := by decide +kernel
theorem dL_odds_730 : decode cL_odds 730 = .ok (.invokevirtual 53, 3) := by decide +kernel
theorem dL_odds_733 : decode cL_odds 733 = .ok (.bipush 6, 2) := by decide +kernel
theorem dL_odds_735 : decode cL_odds 735 = .ok (.if_icmp .ne 74, 3) := by decide +kernel
theorem dL_odds_738 : decode cL_odds 738 = .ok (.aload_n 0, 1) := by decide +kernel
theorem dL_odds_739 : decode cL_odds 739 = .ok (.iconst 0, 1) := by decide +kernel
theorem dL_odds_740 : decode cL_odds 740 = .ok (.invokevirtual 37, 3) := by decide +kernel
theorem dL_odds_743 : decode cL_odds 743 = .ok (.iconst 3, 1) := by decide +kernel
theorem dL_odds_744 : decode cL_odds 744 = .ok (.if_icmp .ne 65, 3) := by decide +kernel
theorem dL_odds_747 : decode cL_odds 747 = .ok (.aload_n 0, 1) := by decide +kernel
theorem dL_odds_748 : decode cL_odds 748 = .ok (.iconst 2, 1) := by decide +kernel
theorem dL_odds_749 : decode cL_odds 749 = .ok (.invokevirtual 41, 3) := by decide +kernel
theorem dL_odds_752 : decode cL_odds 752 = .ok (.sipush 224, 3) := by decide +kernel
theorem dL_odds_755 : decode cL_odds 755 = .ok (.if_icmp .ne 54, 3) := by decide +kernel
theorem dL_odds_758 : decode cL_odds 758 = .ok (.aload_n 0, 1) := by decide +kernel
theorem dL_odds_759 : decode cL_odds 759 = .ok (.iconst 0, 1) := by decide +kernel
theorem dL_odds_760 : decode cL_odds 760 = .ok (.bipush 6, 2) := by decide +kernel
theorem dL_odds_762 : decode cL_odds 762 = .ok (.iconst 1, 1) := by decide +kernel
theorem dL_odds_763 : decode cL_odds 763 = .ok (.invokevirtual 47, 3) := by decide +kernel
theorem dL_odds_766 : decode cL_odds 766 = .ok (.bipush 8, 2) := by decide +kernel
theorem dL_odds_768 : decode cL_odds 768 = .ok (.if_icmp .ne 41, 3) := by decide +kernel
theorem dL_odds_771 : decode cL_odds 771 = .ok (.aload_n 0, 1) := by decide +kernel
theorem dL_odds_772 : decode cL_odds 772 = .ok (.iconst 1, 1) := by decide +kernel
theorem dL_odds_773 : decode cL_odds 773 = .ok (.iconst 5, 1) := by decide +kernel
theorem dL_odds_774 : decode cL_odds 774 = .ok (.iconst 0, 1) := by decide +kernel
theorem dL_odds_775 : decode cL_odds 775 = .ok (.invokevirtual 47, 3) := by decide +kernel
theorem dL_odds_778 : decode cL_odds 778 = .ok (.bipush 102, 2) := by decide +kernel
theorem dL_odds_780 : decode cL_odds 780 = .ok (.if_icmp .ne 29, 3) := by decide +kernel
theorem dL_odds_783 : decode cL_odds 783 = .ok (.aload_n 0, 1) := by decide +kernel
theorem dL_odds_784 : decode cL_odds 784 = .ok (.iconst 2, 1) := by decide +kernel
theorem dL_odds_785 : decode cL_odds 785 = .ok (.iconst 1, 1) := by decide +kernel
theorem dL_odds_786 : decode cL_odds 786 = .ok (.invokevirtual 44, 3) := by decide +kernel
theorem dL_odds_789 : decode cL_odds 789 = .ok (.bipush 21, 2) := by decide +kernel
theorem dL_odds_791 : decode cL_odds 791 = .ok (.if_icmp .ne 18, 3) := by decide +kernel
theorem dL_odds_794 : decode cL_odds 794 = .ok (.aload_n 0, 1) := by decide +kernel
theorem dL_odds_795 : decode cL_odds 795 = .ok (.invokevirtual 78, 3) := by decide +kernel
theorem dL_odds_798 : decode cL_odds 798 = .ok (.ifCond .ne 11, 3) := by decide +kernel
theorem dL_odds_801 : decode cL_odds 801 = .ok (.aload_n 0, 1) := by decide +kernel
theorem dL_odds_802 : decode cL_odds 802 = .ok (.iconst 3, 1) := by decide +kernel
theorem dL_odds_803 : decode cL_odds 803 = .ok (.invokevirtual 41, 3) := by decide +kernel
theorem dL_odds_806 : decode cL_odds 806 = .ok (.ifCond .eq 5, 3) := by decide +kernel
theorem dL_odds_809 : decode cL_odds 809 = .ok (.iconst 0, 1) := by decide +kernel
theorem dL_odds_810 : decode cL_odds 810 = .ok (.ireturn, 1) := by decide +kernel
theorem dL_odds_811 : decode cL_odds 811 = .ok (.aload_n 0, 1) := by decide +kernel
theorem dL_odds_812 : decode cL_odds 812 = .ok (.iconst 1, 1) := by decide +kernel
theorem dL_odds_813 : decode cL_odds 813 = .ok (.iconst 5, 1) := by decide +kernel
theorem dL_odds_814 : decode cL_odds 814 = .ok (.iconst 0, 1) := by decide +kernel
theorem dL_odds_815 : decode cL_odds 815 = .ok (.iconst 1, 1) := by decide +kernel
theorem dL_odds_816 : decode cL_odds 816 = .ok (.invokevirtual 26, 3) := by decide +kernel
theorem dL_odds_819 : decode cL_odds 819 = .ok (.bipush 102, 2) := by decide +kernel
theorem dL_odds_821 : decode cL_odds 821 = .ok (.if_icmp .ne 204, 3) := by decide +kernel
theorem dL_odds_824 : decode cL_odds 824 = .ok (.aload_n 0, 1) := by decide +kernel
theorem dL_odds_825 : decode cL_odds 825 = .ok (.iconst 2, 1) := by decide +kernel
theorem dL_odds_826 : decode cL_odds 826 = .ok (.iconst 5, 1) := by decide +kernel
theorem dL_odds_827 : decode cL_odds 827 = .ok (.iconst 0, 1) := by decide +kernel
theorem dL_odds_828 : decode cL_odds 828 = .ok (.iconst 2, 1) := by decide +kernel
theorem dL_odds_829 : decode cL_odds 829 = .ok (.invokevirtual 26, 3) := by decide +kernel
theorem dL_odds_832 : decode cL_odds 832 = .ok (.bipush 102, 2) := by decide +kernel
theorem dL_odds_834 : decode cL_odds 834 = .ok (.if_icmp .ne 191, 3) := by decide +kernel
theorem dL_odds_837 : decode cL_odds 837 = .ok (.aload_n 0, 1) := by decide +kernel
theorem dL_odds_838 : decode cL_odds 838 = .ok (.invokevirtual 99, 3) := by decide +kernel
theorem dL_odds_841 : decode cL_odds 841 = .ok (.iconst 1, 1) := by decide +kernel
theorem dL_odds_842 : decode cL_odds 842 = .ok (.if_icmp .ne 183, 3) := by decide +kernel
theorem dL_odds_845 : decode cL_odds 845 = .ok (.aload_n 0, 1) := by decide +kernel
theorem dL_odds_846 : decode cL_odds 846 = .ok (.iconst 2, 1) := by decide +kernel
theorem dL_odds_847 : decode cL_odds 847 = .ok (.iconst 5, 1) := by decide +kernel
theorem dL_odds_848 : decode cL_odds 848 = .ok (.iconst 0, 1) := by decide +kernel
theorem dL_odds_849 : decode cL_odds 849 = .ok (.iconst 3, 1) := by decide +kernel
theorem dL_odds_850 : decode cL_odds 850 = .ok (.invokevirtual 26, 3) := by decide +kernel
theorem dL_odds_853 : decode cL_odds 853 = .ok (.iconst 2, 1) := by decide +kernel
theorem dL_odds_854 : decode cL_odds 854 = .ok (.if_icmp .ne 171, 3) := by decide +kernel
theorem dL_odds_857 : decode cL_odds 857 = .ok (.aload_n 0, 1) := by decide +kernel
theorem dL_odds_858 : decode cL_odds 858 = .ok (.invokevirtual 78, 3) := by decide +kernel
theorem dL_odds_861 : decode cL_odds 861 = .ok (.iconst 1, 1) := by decide +kernel
theorem dL_odds_862 : decode cL_odds 862 = .ok (.if_icmp .ne 163, 3) := by decide +kernel
theorem dL_odds_865 : decode cL_odds 865 = .ok (.aload_n 0, 1) := by decide +kernel
theorem dL_odds_866 : decode cL_odds 866 = .ok (.invokevirtual 81, 3) := by decide +kernel
theorem dL_odds_869 : decode cL_odds 869 = .ok (.iconst 1, 1) := by decide +kernel
theorem dL_odds_870 : decode cL_odds 870 = .ok (.if_icmp .ne 155, 3) := by decide +kernel
theorem dL_odds_873 : decode cL_odds 873 = .ok (.aload_n 0, 1) := by decide +kernel
theorem dL_odds_874 : decode cL_odds 874 = .ok (.iconst 0, 1) := by decide +kernel
theorem dL_odds_875 : decode cL_odds 875 = .ok (.iconst 1, 1) := by decide +kernel
theorem dL_odds_876 : decode cL_odds 876 = .ok (.iconst 5, 1) := by decide +kernel
theorem dL_odds_877 : decode cL_odds 877 = .ok (.iconst 0, 1) := by decide +kernel
theorem dL_odds_878 : decode cL_odds 878 = .ok (.invokestatic 106, 3) := by decide +kernel
theorem dL_odds_881 : decode cL_odds 881 = .ok (.ifCond .eq 144, 3) := by decide +kernel
theorem dL_odds_884 : decode cL_odds 884 = .ok (.aload_n 0, 1) := by decide +kernel
theorem dL_odds_885 : decode cL_odds 885 = .ok (.iconst 3, 1) := by decide +kernel
theorem dL_odds_886 : decode cL_odds 886 = .ok (.iconst 5, 1) := by decide +kernel
theorem dL_odds_887 : decode cL_odds 887 = .ok (.iconst 0, 1) := by decide +kernel
theorem dL_odds_888 : decode cL_odds 888 = .ok (.invokevirtual 47, 3) := by decide +kernel
theorem dL_odds_891 : decode cL_odds 891 = .ok (.iconst 1, 1) := by decide +kernel
theorem dL_odds_892 : decode cL_odds 892 = .ok (.if_icmp .ne 133, 3) := by decide +kernel
theorem dL_odds_895 : decode cL_odds 895 = .ok (.aload_n 0, 1) := by decide +kernel
theorem dL_odds_896 : decode cL_odds 896 = .ok (.bipush 18, 2) := by decide +kernel
theorem dL_odds_898 : decode cL_odds 898 = .ok (.iconst 0, 1) := by decide +kernel
theorem dL_odds_899 : decode cL_odds 899 = .ok (.iconst 2, 1) := by decide +kernel
theorem dL_odds_900 : decode cL_odds 900 = .ok (.iconst 0, 1) := by decide +kernel
theorem dL_odds_901 : decode cL_odds 901 = .ok (.iconst 0, 1) := by decide +kernel
theorem dL_odds_902 : decode cL_odds 902 = .ok (.invokestatic 85, 3) := by decide +kernel
theorem dL_odds_905 : decode cL_odds 905 = .ok (.sipush (-20003), 3) := by decide +kernel
theorem dL_odds_908 : decode cL_odds 908 = .ok (.if_icmp .ne 117, 3) := by decide +kernel
theorem dL_odds_911 : decode cL_odds 911 = .ok (.aload_n 0, 1) := by decide +kernel
theorem dL_odds_912 : decode cL_odds 912 = .ok (.bipush 13, 2) := by decide +kernel
theorem dL_odds_914 : decode cL_odds 914 = .ok (.iconst 0, 1) := by decide +kernel
theorem dL_odds_915 : decode cL_odds 915 = .ok (.iconst 0, 1) := by decide +kernel
theorem dL_odds_916 : decode cL_odds 916 = .ok (.iconst 0, 1) := by decide +kernel
theorem dL_odds_917 : decode cL_odds 917 = .ok (.iconst 0, 1) := by decide +kernel
theorem dL_odds_918 : decode cL_odds 918 = .ok (.invokestatic 85, 3) := by decide +kernel
theorem dL_odds_921 : decode cL_odds 921 = .ok (.sipush (-20003), 3) := by decide +kernel
theorem dL_odds_924 : decode cL_odds 924 = .ok (.if_icmp .ne 101, 3) := by decide +kernel
theorem dL_odds_927 : decode cL_odds 927 = .ok (.aload_n 0, 1) := by decide +kernel
theorem dL_odds_928 : decode cL_odds 928 = .ok (.invokevirtual 99, 3) := by decide +kernel
theorem dL_odds_931 : decode cL_odds 931 = .ok (.iconst 1, 1) := by decide +kernel
theorem dL_odds_932 : decode cL_odds 932 = .ok (.if_icmp .ne 93, 3) := by decide +kernel
theorem dL_odds_935 : decode cL_odds 935 = .ok (.aload_n 0, 1) := by decide +kernel
theorem dL_odds_936 : decode cL_odds 936 = .ok (.iconst 0, 1) := by decide +kernel
theorem dL_odds_937 : decode cL_odds 937 = .ok (.iconst 2, 1) := by decide +kernel
theorem dL_odds_938 : decode cL_odds 938 = .ok (.invokevirtual 69, 3) := by decide +kernel
theorem dL_odds_941 : decode cL_odds 941 = .ok (.ifCond .ne 84, 3) := by decide +kernel
theorem dL_odds_944 : decode cL_odds 944 = .ok (.aload_n 0, 1) := by decide +kernel
theorem dL_odds_945 : decode cL_odds 945 = .ok (.iconst 3, 1) := by decide +kernel
theorem dL_odds_946 : decode cL_odds 946 = .ok (.iconst 5, 1) := by decide +kernel
theorem dL_odds_947 : decode cL_odds 947 = .ok (.iconst 0, 1) := by decide +kernel
theorem dL_odds_948 : decode cL_odds 948 = .ok (.invokevirtual 47, 3) := by decide +kernel
theorem dL_odds_951 : decode cL_odds 951 = .ok (.iconst 3, 1) := by decide +kernel
theorem dL_odds_952 : decode cL_odds 952 = .ok (.if_icmp .ne 73, 3) := by decide +kernel
theorem dL_odds_955 : decode cL_odds 955 = .ok (.aload_n 0, 1) := by decide +kernel
theorem dL_odds_956 : decode cL_odds 956 = .ok (.iconst 2, 1) := by decide +kernel
theorem dL_odds_957 : decode cL_odds 957 = .ok (.iconst 0, 1) := by decide +kernel
theorem dL_odds_958 : decode cL_odds 958 = .ok (.bipush 10, 2) := by decide +kernel
theorem dL_odds_960 : decode cL_odds 960 = .ok (.invokevirtual 17, 3) := by decide +kernel
theorem dL_odds_963 : decode cL_odds 963 = .ok (.bipush 10, 2) := by decide +kernel
theorem dL_odds_965 : decode cL_odds 965 = .ok (.if_icmp .ne 60, 3) := by decide +kernel
theorem dL_odds_968 : decode cL_odds 968 = .ok (.aload_n 0, 1) := by decide +kernel
theorem dL_odds_969 : decode cL_odds 969 = .ok (.bipush 13, 2) := by decide +kernel
theorem dL_odds_971 : decode cL_odds 971 = .ok (.iconst 0, 1) := by decide +kernel
theorem dL_odds_972 : decode cL_odds 972 = .ok (.iconst 0, 1) := by decide +kernel
theorem dL_odds_973 : decode cL_odds 973 = .ok (.iconst 0, 1) := by decide +kernel
theorem dL_odds_974 : decode cL_odds 974 = .ok (.iconst 0, 1) := by decide +kernel
theorem dL_odds_975 : decode cL_odds 975 = .ok (.invokestatic 85, 3) := by decide +kernel
theorem dL_odds_978 : decode cL_odds 978 = .ok (.sipush (-20003), 3) := by decide +kernel
theorem dL_odds_981 : decode cL_odds 981 = .ok (.if_icmp .ne 44, 3) := by decide +kernel
theorem dL_odds_984 : decode cL_odds 984 = .ok (.aload_n 0, 1) := by decide +kernel
theorem dL_odds_985 : decode cL_odds 985 = .ok (.invokevirtual 92, 3) := by decide +kernel
theorem dL_odds_988 : decode cL_odds 988 = .ok (.bipush 6, 2) := by decide +kernel
theorem dL_odds_990 : decode cL_odds 990 = .ok (.if_icmp .ne 35, 3) := by decide +kernel
theorem dL_odds_993 : decode cL_odds 993 = .ok (.aload_n 0, 1) := by decide +kernel
theorem dL_odds_994 : decode cL_odds 994 = .ok (.invokevirtual 78, 3) := by decide +kernel
theorem dL_odds_997 : decode cL_odds 997 = .ok (.ifCond .ne 28, 3) := by decide +kernel
theorem dL_odds_1000 : decode cL_odds 1000 = .ok (.aload_n 0, 1) := by decide +kernel
theorem dL_odds_1001 : decode cL_odds 1001 = .ok (.iconst 1, 1) := by decide +kernel
theorem dL_odds_1002 : decode cL_odds 1002 = .ok (.iconst 5, 1) := by decide +kernel
theorem dL_odds_1003 : decode cL_odds 1003 = .ok (.iconst 0, 1) := by decide +kernel
theorem dL_odds_1004 : decode cL_odds 1004 = .ok (.invokevirtual 47, 3) := by decide +kernel
theorem dL_odds_1007 : decode cL_odds 1007 = .ok (.bipush 102, 2) := by decide +kernel
theorem dL_odds_1009 : decode cL_odds 1009 = .ok (.if_icmp .ne 16, 3) := by decide +kernel
theorem dL_odds_1012 : decode cL_odds 1012 = .ok (.aload_n 0, 1) := by decide +kernel
theorem dL_odds_1013 : decode cL_odds 1013 = .ok (.iconst 5, 1) := by decide +kernel
theorem dL_odds_1014 : decode cL_odds 1014 = .ok (.iconst 0, 1) := by decide +kernel
theorem dL_odds_1015 : decode cL_odds 1015 = .ok (.invokestatic 95, 3) := by decide +kernel
theorem dL_odds_1018 : decode cL_odds 1018 = .ok (.ifCond .eq 7, 3) := by decide +kernel
theorem dL_odds_1021 : decode cL_odds 1021 = .ok (.iconst 1, 1) := by decide +kernel
theorem dL_odds_1022 : decode cL_odds 1022 = .ok (.goto 4, 3) := by decide +kernel
theorem dL_odds_1025 : decode cL_odds 1025 = .ok (.iconst 0, 1) := by decide +kernel
theorem dL_odds_1026 : decode cL_odds 1026 = .ok (.ireturn, 1) := by decide +kernel
set_option maxRecDepth 20000 in
theorem ggL_odds_X2_init : GoodIn wsL_odds wsX2_init := goodIn_r _ [6, 7, 8, 9, 10, 11, 12, 13, 14, 15, 16, 17, 18, 19, 20, 21, 22, 23, 24, 25, 26, 27, 28, 29, 30, 31, 32, 33, 34, 35, 36, 37, 38, 39, 40, 41, 407, 408, 409, 410, 399, 400, 401, 402, 403, 404, 405, 406, 411, 412, 413, 414, 415, 416] (by decide +kernel) (by decide +kernel)
set_option maxRecDepth 20000 in
theorem gL_odds_X2_init : GoodIn wsL_odds (wsX2_init) := ggL_odds_X2_init
set_option maxRecDepth 20000 in
theorem ggL_odds_X2_columns : GoodIn wsL_odds wsX2_columns := goodIn_ca (goodIn_r _ [45, 46, 47, 48, 3, 49, 50, 51, 13, 14, 15, 16, 407, 408, 409, 410, 399, 400, 401, 402, 403, 404, 405, 406] (by decide +kernel) (by decide +kernel)) (goodIn_sub (fun _ h => List.mem_cons_of_mem _ (List.mem_append_left _ (List.mem_append_left _ (List.mem_append_right _ h)))) (by decide +kernel))
set_option maxRecDepth 20000 in
theorem gL_odds_X2_columns : GoodIn wsL_odds (wsV RL 37 RX2 yX2_columns wsX2_columns) := goodIn_app (goodIn_of _ (by decide +kernel)) ggL_odds_X2_columns
set_option maxRecDepth 20000 in
theorem ggL_odds_X2_rows : GoodIn wsL_odds wsX2_rows := goodIn_ca (goodIn_r _ [55, 46, 47, 48, 3, 49, 50, 51, 13, 14, 15, 16, 407, 408, 409, 410, 399, 400, 401, 402, 403, 404, 405, 406] (by decide +kernel) (by decide +kernel)) (goodIn_sub (fun _ h => List.mem_cons_of_mem _ (List.mem_append_left _ (List.mem_append_left _ (List.mem_append_right _ h)))) (by decide +kernel))
set_option maxRecDepth 20000 in
theorem gL_odds_X2_rows : GoodIn wsL_odds (wsV RL 41 RX2 yX2_rows wsX2_rows) := goodIn_app (goodIn_of _ (by decide +kernel)) ggL_odds_X2_rows
set_option maxRecDepth 20000 in
theorem ggL_odds_X2_conflicts : GoodIn wsL_odds wsX2_conflicts := goodIn_r _ [59, 24, 399, 400, 401, 402, 403, 404, 405, 406, 411, 412, 413, 414, 415, 416] (by decide +kernel) (by decide +kernel)
set_option maxRecDepth 20000 in
theorem gL_odds_X2_conflicts : GoodIn wsL_odds (wsV RL 78 RX2 yX2_conflicts wsX2_conflicts) := goodIn_app (goodIn_of _ (by decide +kernel)) ggL_odds_X2_conflicts
set_option maxRecDepth 20000 in
theorem ggL_odds_X2_open : GoodIn wsL_odds wsX2_open := goodIn_r _ [63, 24, 399, 400, 401, 402, 403, 404, 405, 406, 411, 412, 413, 414, 415, 416] (by decide +kernel) (by decide +kernel)
set_option maxRecDepth 20000 in
theorem gL_odds_X2_open : GoodIn wsL_odds (wsV RL 81 RX2 yX2_open wsX2_open) := goodIn_app (goodIn_of _ (by decide +kernel)) ggL_odds_X2_open
set_option maxRecDepth 20000 in
theorem gq_odds_wsL_act_r1 : GoodIn wsL_odds wsL_act_r1 := (goodIn_r wsL_act_r1 [68, 69, 70, 71, 72, 73, 3, 74, 75, 76, 25, 77, 78, 79, 80, 50, 51, 46, 47, 48, 49, 13, 14, 15] (by decide +kernel) (by decide +kernel) : GoodIn wsL_odds wsL_act_r1)
set_option maxRecDepth 20000 in
theorem gq_odds_wsL_act_r2 : GoodIn wsL_odds wsL_act_r2 := (goodIn_r wsL_act_r2 [16, 81, 82, 83, 84, 85, 86, 87, 88, 89, 90, 91, 92, 12, 93, 94, 29, 95, 96, 97, 31, 98, 99, 100] (by decide +kernel) (by decide +kernel) : GoodIn wsL_odds wsL_act_r2)
set_option maxRecDepth 20000 in
theorem gq_odds_wsL_act_r3 : GoodIn wsL_odds wsL_act_r3 := (goodIn_r wsL_act_r3 [101, 102, 103, 104, 105, 106, 107, 108, 109, 110, 111, 112, 113, 114, 115, 116, 117, 118, 119, 120, 121, 122, 123, 124] (by decide +kernel) (by decide +kernel) : GoodIn wsL_odds wsL_act_r3)
set_option maxRecDepth 20000 in
theorem gq_odds_wsL_act_r4 : GoodIn wsL_odds wsL_act_r4 := (goodIn_r wsL_act_r4 [125, 32, 126, 127, 128, 129, 130, 131, 132, 133, 30, 134, 135, 136, 137, 138, 139, 140, 141, 142, 143, 144, 145, 146] (by decide +kernel) (by decide +kernel) : GoodIn wsL_odds wsL_act_r4)
set_option maxRecDepth 20000 in
theorem gq_odds_wsL_act_r5 : GoodIn wsL_odds wsL_act_r5 := (goodIn_r wsL_act_r5 [147, 148, 149, 150, 151, 152, 153, 154, 155, 156, 157, 158, 159, 160, 161, 162, 163, 164, 165, 166, 167, 168, 169, 170] (by decide +kernel) (by decide +kernel) : GoodIn wsL_odds wsL_act_r5)
set_option maxRecDepth 20000 in
theorem gq_odds_wsL_act_r6 : GoodIn wsL_odds wsL_act_r6 := (goodIn_r wsL_act_r6 [171, 172, 173, 174, 175, 176, 177, 18, 178, 179, 180, 181, 20, 42, 43, 44, 45, 52, 53, 54, 55, 182, 183, 184] (by decide +kernel) (by decide +kernel) : GoodIn wsL_odds wsL_act_r6)
set_option maxRecDepth 20000 in
theorem gq_odds_wsL_act_r7 : GoodIn wsL_odds wsL_act_r7 := (goodIn_r wsL_act_r7 [185, 186, 187, 188, 189, 190, 191, 192, 193, 194, 195, 196, 197, 198, 199, 200, 201, 202, 203, 204, 205, 206, 207, 208] (by decide +kernel) (by decide +kernel) : GoodIn wsL_odds wsL_act_r7)
set_option maxRecDepth 20000 in
theorem gq_odds_wsL_act_r8 : GoodIn wsL_odds wsL_act_r8 := (goodIn_r wsL_act_r8 [209, 210, 211, 212, 213, 214, 215, 216, 217, 24, 218, 219, 220, 221, 222, 223, 224, 225, 226, 227, 228, 229, 230, 231] (by decide +kernel) (by decide +kernel) : GoodIn wsL_odds wsL_act_r8)
set_option maxRecDepth 20000 in
theorem gq_odds_wsL_act_r9 : GoodIn wsL_odds wsL_act_r9 := (goodIn_r wsL_act_r9 [232, 233, 234, 235, 236, 23, 237, 238, 36, 37, 239, 240, 241, 242, 243, 244, 245, 246, 247, 248, 249, 250, 251, 252] (by decide +kernel) (by decide +kernel) : GoodIn wsL_odds wsL_act_r9)
set_option maxRecDepth 20000 in
theorem gq_odds_wsL_act_r10 : GoodIn wsL_odds wsL_act_r10 := (goodIn_r wsL_act_r10 [253, 254, 255, 256, 257, 258, 259, 260, 261, 262, 263, 264, 265, 266, 267, 268, 269, 270, 271, 272, 273, 274, 275, 276] (by decide +kernel) (by decide +kernel) : GoodIn wsL_odds wsL_act_r10)
set_option maxRecDepth 20000 in
theorem gq_odds_wsL_act_r11 : GoodIn wsL_odds wsL_act_r11 := (goodIn_r wsL_act_r11 [277, 278, 279, 280, 281, 282, 283, 284, 285, 286, 287, 288, 289, 290, 291, 292, 293, 294, 295, 38, 296, 297, 298, 299] (by decide +kernel) (by decide +kernel) : GoodIn wsL_odds wsL_act_r11)
set_option maxRecDepth 20000 in
theorem gq_odds_wsL_act_r12 : GoodIn wsL_odds wsL_act_r12 := (goodIn_r wsL_act_r12 [300, 301, 302, 303, 39, 304, 305, 306, 307, 308, 309, 310, 40, 311, 312, 313, 314, 315, 316, 317, 41, 318, 319, 320] (by decide +kernel) (by decide +kernel) : GoodIn wsL_odds wsL_act_r12)
set_option maxRecDepth 20000 in
theorem gq_odds_wsL_act_r13 : GoodIn wsL_odds wsL_act_r13 := (goodIn_r wsL_act_r13 [321, 322, 323, 324] (by decide +kernel) (by decide +kernel) : GoodIn wsL_odds wsL_act_r13)
set_option maxRecDepth 20000 in
theorem ggL_odds_L_act : GoodIn wsL_odds wsL_act := goodIn_ca (goodIn_ca (goodIn_ca (gi_c (List.mem_cons_of_mem _ (List.mem_append_left _ (List.mem_append_left _ (List.mem_append_left _ (List.mem_append_left _ (List.mem_append_left _ (List.mem_append_left _ (List.mem_append_right _ (List.mem_append_right _ (List.mem_append_left _ (List.mem_of_getElem? (l := wsL_odds_r3) (i := 18) rfl))))))))))) rfl (goodIn_app (goodIn_app (goodIn_app (goodIn_app gq_odds_wsL_act_r1 (goodIn_app gq_odds_wsL_act_r2 (goodIn_app gq_odds_wsL_act_r3 (goodIn_app gq_odds_wsL_act_r4 (goodIn_app gq_odds_wsL_act_r5 (goodIn_app gq_odds_wsL_act_r6 (goodIn_app gq_odds_wsL_act_r7 (goodIn_app gq_odds_wsL_act_r8 (goodIn_app gq_odds_wsL_act_r9 (goodIn_app gq_odds_wsL_act_r10 (goodIn_app gq_odds_wsL_act_r11 (goodIn_app gq_odds_wsL_act_r12 gq_odds_wsL_act_r13)))))))))))) (goodIn_r wsX20 [399, 400, 401, 402, 403, 404, 405, 406] (by decide +kernel) (by decide +kernel) : GoodIn wsL_odds wsX20)) (goodIn_r wsX10 [407, 408, 409, 410] (by decide +kernel) (by decide +kernel) : GoodIn wsL_odds wsX10)) (goodIn_r wsX00 [411, 412, 413, 414, 415, 416] (by decide +kernel) (by decide +kernel) : GoodIn wsL_odds wsX00))) (goodIn_sub (fun _ h => List.mem_cons_of_mem _ (List.mem_append_left _ (List.mem_append_right _ h))) (by decide +kernel))) (goodIn_sub (fun _ h => List.mem_cons_of_mem _ (List.mem_append_left _ (List.mem_append_left _ (List.mem_append_right _ h)))) (by decide +kernel))) (goodIn_sub (fun _ h => List.mem_cons_of_mem _ (List.mem_append_right _ h)) (by decide +kernel))
set_option maxRecDepth 20000 in
theorem gL_odds_L_act : GoodIn wsL_odds (va_wsS RL 85 yL_act wsL_act) := goodIn_app (goodIn_of _ (by decide +kernel)) ggL_odds_L_act
set_option maxRecDepth 20000 in
theorem ggL_odds_X2_addColumn : GoodIn wsL_odds wsX2_addColumn := goodIn_ca (goodIn_ca (goodIn_ca (goodIn_r _ [74, 75, 76, 25, 77, 78, 79, 3, 80, 50, 51, 46, 47, 48, 49, 13, 14, 15, 16, 81, 82, 83, 84, 85, 86, 87, 88, 89, 90, 91, 92, 12, 93, 94, 29, 95, 96, 97, 31, 98, 99, 100, 101, 102, 103, 104, 105, 106, 107, 399, 400, 401, 402, 403, 404, 405, 406, 407, 408, 409, 410] (by decide +kernel) (by decide +kernel)) (goodIn_sub (fun _ h => List.mem_cons_of_mem _ (List.mem_append_left _ (List.mem_append_right _ h))) (by decide +kernel))) (goodIn_sub (fun _ h => List.mem_cons_of_mem _ (List.mem_append_left _ (List.mem_append_left _ (List.mem_append_right _ h)))) (by decide +kernel))) (goodIn_sub (fun _ h => List.mem_cons_of_mem _ (List.mem_append_right _ h)) (by decide +kernel))
set_option maxRecDepth 20000 in
theorem gL_odds_X2_addColumn : GoodIn wsL_odds (wsV RL 7 RX2 yX2_addColumn wsX2_addColumn) := goodIn_app (goodIn_of _ (by decide +kernel)) ggL_odds_X2_addColumn
set_option maxRecDepth 20000 in
theorem ggL_odds_X2_addRow : GoodIn wsL_odds wsX2_addRow := goodIn_ca (goodIn_ca (goodIn_r _ [144, 75, 76, 25, 77, 78, 79, 3, 80, 50, 51, 46, 47, 48, 49, 13, 14, 15, 16, 145, 146, 147, 148, 149, 150, 131, 12, 132, 133, 30, 151, 152, 153, 154, 155, 156, 101, 102, 103, 104, 105, 106, 107, 399, 400, 401, 402, 403, 404, 405, 406, 407, 408, 409, 410] (by decide +kernel) (by decide +kernel)) (goodIn_sub (fun _ h => List.mem_cons_of_mem _ (List.mem_append_left _ (List.mem_append_right _ h))) (by decide +kernel))) (goodIn_sub (fun _ h => List.mem_cons_of_mem _ (List.mem_append_left _ (List.mem_append_left _ (List.mem_append_right _ h)))) (by decide +kernel))
set_option maxRecDepth 20000 in
theorem gL_odds_X2_addRow : GoodIn wsL_odds (wsV RL 20 RX2 yX2_addRow wsX2_addRow) := goodIn_app (goodIn_of _ (by decide +kernel)) ggL_odds_X2_addRow
set_option maxRecDepth 20000 in
theorem ggL_odds_X2_set : GoodIn wsL_odds wsX2_set := goodIn_ca (goodIn_ca (goodIn_r _ [170, 90, 91, 25, 77, 78, 79, 3, 80, 50, 51, 46, 47, 48, 49, 13, 14, 15, 16, 161, 162, 163, 131, 12, 132, 133, 30, 112, 113, 114, 92, 93, 94, 29, 171, 172, 173, 32, 126, 127, 128, 129, 130, 118, 123, 124, 125, 399, 400, 401, 402, 403, 404, 405, 406, 407, 408, 409, 410] (by decide +kernel) (by decide +kernel)) (goodIn_sub (fun _ h => List.mem_cons_of_mem _ (List.mem_append_right _ h)) (by decide +kernel))) (goodIn_sub (fun _ h => List.mem_cons_of_mem _ (List.mem_append_left _ (List.mem_append_left _ (List.mem_append_right _ h)))) (by decide +kernel))
set_option maxRecDepth 20000 in
theorem gL_odds_X2_set : GoodIn wsL_odds (wsV RL 26 RX2 yX2_set wsX2_set) := goodIn_app (goodIn_of _ (by decide +kernel)) ggL_odds_X2_set
set_option maxRecDepth 20000 in
theorem ggL_odds_X2_changes : GoodIn wsL_odds wsX2_changes := goodIn_ca (goodIn_r _ [193, 13, 194, 195, 196, 3, 197, 50, 51, 14, 15, 198, 12, 199, 200, 29, 30, 101, 102, 103, 104, 105, 106, 107, 201, 202, 203, 204, 118, 92, 93, 94, 205, 115, 116, 117, 31, 206, 207, 208, 209, 210, 211, 212, 213, 32, 126, 127, 128, 129, 130, 131, 132, 133, 399, 400, 401, 402, 403, 404, 405, 406, 407, 408, 409, 410] (by decide +kernel) (by decide +kernel)) (goodIn_sub (fun _ h => List.mem_cons_of_mem _ (List.mem_append_left _ (List.mem_append_left _ (List.mem_append_right _ h)))) (by decide +kernel))
set_option maxRecDepth 20000 in
theorem gL_odds_X2_changes : GoodIn wsL_odds (wsV RL 50 RX2 yX2_changes wsX2_changes) := goodIn_app (goodIn_of _ (by decide +kernel)) ggL_odds_X2_changes
set_option maxRecDepth 20000 in
theorem ggL_odds_X2_fork : GoodIn wsL_odds wsX2_fork := goodIn_r _ [228, 14, 13, 15, 16, 24, 25, 218, 12, 219, 220, 29, 30, 31, 221, 222, 223, 224, 32, 229, 230, 231, 232, 233, 234, 235, 236, 23, 237, 238, 36, 37, 239, 240, 241, 242, 98, 99, 100, 101, 102, 103, 104, 105, 106, 107, 243, 154, 155, 156, 399, 400, 401, 402, 403, 404, 405, 406, 407, 408, 409, 410, 411, 412, 413, 414, 415, 416] (by decide +kernel) (by decide +kernel)
set_option maxRecDepth 20000 in
theorem gL_odds_X2_fork : GoodIn wsL_odds (wsV RL 92 RX2 yX2_fork wsX2_fork) := goodIn_app (goodIn_of _ (by decide +kernel)) ggL_odds_X2_fork
set_option maxRecDepth 20000 in
theorem ggL_odds_X2_get : GoodIn wsL_odds wsX2_get := goodIn_ca (goodIn_r _ [189, 46, 47, 48, 3, 49, 50, 51, 13, 14, 15, 16, 161, 162, 163, 131, 12, 132, 133, 30, 112, 113, 114, 92, 93, 94, 29, 171, 172, 173, 32, 126, 127, 128, 129, 130, 118, 399, 400, 401, 402, 403, 404, 405, 406, 407, 408, 409, 410] (by decide +kernel) (by decide +kernel)) (goodIn_sub (fun _ h => List.mem_cons_of_mem _ (List.mem_append_left _ (List.mem_append_left _ (List.mem_append_right _ h)))) (by decide +kernel))
set_option maxRecDepth 20000 in
theorem gL_odds_X2_get : GoodIn wsL_odds (wsV RL 47 RX2 yX2_get wsX2_get) := goodIn_app (goodIn_of _ (by decide +kernel)) ggL_odds_X2_get
set_option maxRecDepth 20000 in
theorem gq_odds_wsL_refuses_r1 : GoodIn wsL_odds wsL_refuses_r1 := ((goodIn_app (goodIn_r [Cond.constant RL 84 (2147483647), Cond.methodLink RL 78 yX2_conflicts, Cond.instanceMethod yX2_conflicts, Cond.selects RX2 yX2_conflicts yX2_conflicts, Cond.initialized RX2, Cond.code yX2_conflicts cX2_conflicts 1 (some .int), Cond.fieldLink RX2 36 "TableSplice" "list" "LTableSplice$ConflictList;", Cond.methodLink RL 81 yX2_open, Cond.instanceMethod yX2_open, Cond.selects RX2 yX2_open yX2_open, Cond.code yX2_open cX2_open 1 (some .int), Cond.methodLink RL 85 yL_act, Cond.static yL_act, Cond.initialized RL] [329, 56, 57, 58, 3, 59, 24, 60, 61, 62, 63, 64, 65, 66] (by decide +kernel) (by decide +kernel)) (gi_c (List.mem_cons_of_mem _ (List.mem_append_left _ (List.mem_append_left _ (List.mem_append_left _ (List.mem_append_left _ (List.mem_append_left _ (List.mem_append_left _ (List.mem_append_right _ (List.mem_append_right _ (List.mem_append_left _ (List.mem_of_getElem? (l := wsL_odds_r3) (i := 18) rfl))))))))))) rfl (goodIn_app (goodIn_r [Cond.classLink RL 72 "java/lang/IndexOutOfBoundsException", Cond.classLink RL 74 "java/lang/IllegalArgumentException", Cond.classLink RL 76 "java/lang/IllegalStateException", Cond.methodLink RL 7 yX2_addColumn, Cond.instanceMethod yX2_addColumn, Cond.selects RX2 yX2_addColumn yX2_addColumn, Cond.code yX2_addColumn cX2_addColumn 5 (some .int), Cond.classLink RX2 59 "java/lang/IllegalStateException", Cond.initialized "java/lang/IllegalStateException"] [68, 69, 70, 71, 72, 73, 74, 75, 76] (by decide +kernel) (by decide +kernel)) gi_n))) : GoodIn wsL_odds wsL_refuses_r1)
set_option maxRecDepth 20000 in
theorem gq_odds_wsL_refuses_r2 : GoodIn wsL_odds wsL_refuses_r2 := (goodIn_r wsL_refuses_r2 [25, 77, 78, 79, 80, 50, 51, 46, 47, 48, 49, 13, 14, 15, 16, 81, 82, 83, 84, 85, 86, 87, 88, 89] (by decide +kernel) (by decide +kernel) : GoodIn wsL_odds wsL_refuses_r2)
set_option maxRecDepth 20000 in
theorem gq_odds_wsL_refuses_r3 : GoodIn wsL_odds wsL_refuses_r3 := (goodIn_r wsL_refuses_r3 [90, 91, 92, 12, 93, 94, 29, 95, 96, 97, 31, 98, 99, 100, 101, 102, 103, 104, 105, 106, 107, 108, 109, 110] (by decide +kernel) (by decide +kernel) : GoodIn wsL_odds wsL_refuses_r3)
set_option maxRecDepth 20000 in
theorem gq_odds_wsL_refuses_r4 : GoodIn wsL_odds wsL_refuses_r4 := (goodIn_r wsL_refuses_r4 [111, 112, 113, 114, 115, 116, 117, 118, 119, 120, 121, 122, 123, 124, 125, 32, 126, 127, 128, 129, 130, 131, 132, 133] (by decide +kernel) (by decide +kernel) : GoodIn wsL_odds wsL_refuses_r4)
set_option maxRecDepth 20000 in
theorem gq_odds_wsL_refuses_r5 : GoodIn wsL_odds wsL_refuses_r5 := (goodIn_r wsL_refuses_r5 [30, 134, 135, 136, 137, 138, 139, 140, 141, 142, 143, 144, 145, 146, 147, 148, 149, 150, 151, 152, 153, 154, 155, 156] (by decide +kernel) (by decide +kernel) : GoodIn wsL_odds wsL_refuses_r5)
set_option maxRecDepth 20000 in
theorem gq_odds_wsL_refuses_r6 : GoodIn wsL_odds wsL_refuses_r6 := (goodIn_r wsL_refuses_r6 [157, 158, 159, 160, 161, 162, 163, 164, 165, 166, 167, 168, 169, 170, 171, 172, 173, 174, 175, 176, 177, 18, 178, 179] (by decide +kernel) (by decide +kernel) : GoodIn wsL_odds wsL_refuses_r6)
set_option maxRecDepth 20000 in
theorem gq_odds_wsL_refuses_r7 : GoodIn wsL_odds wsL_refuses_r7 := (goodIn_r wsL_refuses_r7 [180, 181, 20, 42, 43, 44, 45, 52, 53, 54, 55, 182, 183, 184, 185, 186, 187, 188, 189, 190, 191, 192, 193, 194] (by decide +kernel) (by decide +kernel) : GoodIn wsL_odds wsL_refuses_r7)
set_option maxRecDepth 20000 in
theorem gq_odds_wsL_refuses_r8 : GoodIn wsL_odds wsL_refuses_r8 := (goodIn_r wsL_refuses_r8 [195, 196, 197, 198, 199, 200, 201, 202, 203, 204, 205, 206, 207, 208, 209, 210, 211, 212, 213, 214, 215, 216, 217, 218] (by decide +kernel) (by decide +kernel) : GoodIn wsL_odds wsL_refuses_r8)
set_option maxRecDepth 20000 in
theorem gq_odds_wsL_refuses_r9 : GoodIn wsL_odds wsL_refuses_r9 := (goodIn_r wsL_refuses_r9 [219, 220, 221, 222, 223, 224, 225, 226, 227, 228, 229, 230, 231, 232, 233, 234, 235, 236, 23, 237, 238, 36, 37, 239] (by decide +kernel) (by decide +kernel) : GoodIn wsL_odds wsL_refuses_r9)
set_option maxRecDepth 20000 in
theorem gq_odds_wsL_refuses_r10 : GoodIn wsL_odds wsL_refuses_r10 := (goodIn_r wsL_refuses_r10 [240, 241, 242, 243, 244, 245, 246, 247, 248, 249, 250, 251, 252, 253, 254, 255, 256, 257, 258, 259, 260, 261, 262, 263] (by decide +kernel) (by decide +kernel) : GoodIn wsL_odds wsL_refuses_r10)
set_option maxRecDepth 20000 in
theorem gq_odds_wsL_refuses_r11 : GoodIn wsL_odds wsL_refuses_r11 := (goodIn_r wsL_refuses_r11 [264, 265, 266, 267, 268, 269, 270, 271, 272, 273, 274, 275, 276, 277, 278, 279, 280, 281, 282, 283, 284, 285, 286, 287] (by decide +kernel) (by decide +kernel) : GoodIn wsL_odds wsL_refuses_r11)
set_option maxRecDepth 20000 in
theorem gq_odds_wsL_refuses_r12 : GoodIn wsL_odds wsL_refuses_r12 := (goodIn_r wsL_refuses_r12 [288, 289, 290, 291, 292, 293, 294, 295, 38, 296, 297, 298, 299, 300, 301, 302, 303, 39, 304, 305, 306, 307, 308, 309] (by decide +kernel) (by decide +kernel) : GoodIn wsL_odds wsL_refuses_r12)
set_option maxRecDepth 20000 in
theorem gq_odds_wsL_refuses_r13 : GoodIn wsL_odds wsL_refuses_r13 := (goodIn_r wsL_refuses_r13 [310, 40, 311, 312, 313, 314, 315, 316, 317, 41, 318, 319, 320, 321, 322, 323, 324] (by decide +kernel) (by decide +kernel) : GoodIn wsL_odds wsL_refuses_r13)
set_option maxRecDepth 20000 in
theorem ggL_odds_L_refuses : GoodIn wsL_odds wsL_refuses := goodIn_ca (goodIn_ca (goodIn_ca (gi_c (List.mem_cons_of_mem _ (List.mem_append_left _ (List.mem_append_left _ (List.mem_append_left _ (List.mem_append_left _ (List.mem_append_left _ (List.mem_append_left _ (List.mem_append_right _ (List.mem_append_right _ (List.mem_append_right _ (List.mem_append_right _ (List.mem_append_right _ (List.mem_append_right _ (List.mem_append_right _ (List.mem_append_right _ (List.mem_append_right _ (List.mem_append_right _ (List.mem_append_right _ (List.mem_append_right _ (List.mem_append_right _ (List.mem_append_left _ (List.mem_of_getElem? (l := wsL_odds_r14) (i := 15) rfl)))))))))))))))))))))) rfl (goodIn_app (goodIn_app (goodIn_app (goodIn_app gq_odds_wsL_refuses_r1 (goodIn_app gq_odds_wsL_refuses_r2 (goodIn_app gq_odds_wsL_refuses_r3 (goodIn_app gq_odds_wsL_refuses_r4 (goodIn_app gq_odds_wsL_refuses_r5 (goodIn_app gq_odds_wsL_refuses_r6 (goodIn_app gq_odds_wsL_refuses_r7 (goodIn_app gq_odds_wsL_refuses_r8 (goodIn_app gq_odds_wsL_refuses_r9 (goodIn_app gq_odds_wsL_refuses_r10 (goodIn_app gq_odds_wsL_refuses_r11 (goodIn_app gq_odds_wsL_refuses_r12 gq_odds_wsL_refuses_r13)))))))))))) (goodIn_r wsX20 [399, 400, 401, 402, 403, 404, 405, 406] (by decide +kernel) (by decide +kernel) : GoodIn wsL_odds wsX20)) (goodIn_r wsX00 [411, 412, 413, 414, 415, 416] (by decide +kernel) (by decide +kernel) : GoodIn wsL_odds wsX00)) (goodIn_r wsX10 [407, 408, 409, 410] (by decide +kernel) (by decide +kernel) : GoodIn wsL_odds wsX10))) (goodIn_sub (fun _ h => List.mem_cons_of_mem _ (List.mem_append_left _ (List.mem_append_right _ h))) (by decide +kernel))) (goodIn_sub (fun _ h => List.mem_cons_of_mem _ (List.mem_append_left _ (List.mem_append_left _ (List.mem_append_right _ h)))) (by decide +kernel))) (goodIn_sub (fun _ h => List.mem_cons_of_mem _ (List.mem_append_right _ h)) (by decide +kernel))
set_option maxRecDepth 20000 in
theorem gL_odds_L_refuses : GoodIn wsL_odds (va_wsS RL 95 yL_refuses wsL_refuses) := goodIn_app (goodIn_of _ (by decide +kernel)) ggL_odds_L_refuses
set_option maxRecDepth 20000 in
theorem ggL_odds_X2_merge : GoodIn wsL_odds wsX2_merge := goodIn_r _ [333, 16, 24, 25, 229, 12, 230, 231, 29, 30, 31, 32, 232, 233, 234, 235, 236, 23, 237, 238, 36, 37, 334, 335, 336, 3, 337, 14, 15, 13, 338, 339, 340, 341, 92, 93, 94, 264, 265, 266, 201, 202, 203, 204, 118, 205, 115, 116, 117, 210, 211, 212, 213, 126, 127, 128, 129, 130, 131, 132, 133, 342, 343, 344, 345, 95, 96, 97, 85, 86, 346, 347, 348, 38, 39, 40, 41, 349, 350, 351, 352, 353, 354, 355, 356, 357, 358, 359, 360, 207, 208, 209, 151, 152, 153, 149, 150, 361, 362, 363, 364, 365, 366, 367, 368, 18, 84, 369, 370, 371, 372, 171, 172, 173, 373, 374, 375, 376, 275, 276, 277, 278, 123, 124, 125, 377, 378, 379, 380, 381, 382, 383, 384, 385, 386, 387, 388, 389, 390, 391, 392, 20, 399, 400, 401, 402, 403, 404, 405, 406, 411, 412, 413, 414, 415, 416, 407, 408, 409, 410] (by decide +kernel) (by decide +kernel)
set_option maxRecDepth 20000 in
theorem gL_odds_X2_merge : GoodIn wsL_odds (wsV RL 99 RX2 yX2_merge wsX2_merge) := goodIn_app (goodIn_of _ (by decide +kernel)) ggL_odds_X2_merge
set_option maxRecDepth 20000 in
theorem ggL_odds_X2_name : GoodIn wsL_odds wsX2_name := goodIn_ca (goodIn_r _ [185, 46, 47, 48, 3, 49, 50, 51, 13, 14, 15, 16, 112, 113, 114, 92, 12, 93, 94, 29, 115, 116, 117, 31, 118, 399, 400, 401, 402, 403, 404, 405, 406, 407, 408, 409, 410] (by decide +kernel) (by decide +kernel)) (goodIn_sub (fun _ h => List.mem_cons_of_mem _ (List.mem_append_left _ (List.mem_append_left _ (List.mem_append_right _ h)))) (by decide +kernel))
set_option maxRecDepth 20000 in
theorem gL_odds_X2_name : GoodIn wsL_odds (wsV RL 44 RX2 yX2_name wsX2_name) := goodIn_app (goodIn_of _ (by decide +kernel)) ggL_odds_X2_name
set_option maxRecDepth 20000 in
theorem gq_odds_wsL_agrees_r1 : GoodIn wsL_odds wsL_agrees_r1 := ((goodIn_app (goodIn_r [Cond.methodLink RL 85 yL_act, Cond.static yL_act, Cond.initialized RL] [64, 65, 66] (by decide +kernel) (by decide +kernel)) (gi_c (List.mem_cons_of_mem _ (List.mem_append_left _ (List.mem_append_left _ (List.mem_append_left _ (List.mem_append_left _ (List.mem_append_left _ (List.mem_append_left _ (List.mem_append_right _ (List.mem_append_right _ (List.mem_append_left _ (List.mem_of_getElem? (l := wsL_odds_r3) (i := 18) rfl))))))))))) rfl (goodIn_app (goodIn_r [Cond.classLink RL 72 "java/lang/IndexOutOfBoundsException", Cond.classLink RL 74 "java/lang/IllegalArgumentException", Cond.classLink RL 76 "java/lang/IllegalStateException", Cond.methodLink RL 7 yX2_addColumn, Cond.instanceMethod yX2_addColumn, Cond.selects RX2 yX2_addColumn yX2_addColumn, Cond.initialized RX2, Cond.code yX2_addColumn cX2_addColumn 5 (some .int), Cond.classLink RX2 59 "java/lang/IllegalStateException", Cond.initialized "java/lang/IllegalStateException", Cond.fieldLink RX2 40 "TableSplice" "fresh" "Z", Cond.methodLink RX2 44 yX2_tableToFill, Cond.instanceMethod yX2_tableToFill, Cond.selects RX2 yX2_tableToFill yX2_tableToFill, Cond.code yX2_tableToFill cX2_tableToFill 2 (some (.object "TableSplice$Table")), Cond.classLink RX2 220 "java/lang/IndexOutOfBoundsException", Cond.initialized "java/lang/IndexOutOfBoundsException", Cond.methodLink RX2 123 yX2_tableToRead, Cond.instanceMethod yX2_tableToRead, Cond.selects RX2 yX2_tableToRead yX2_tableToRead] [68, 69, 70, 71, 72, 73, 3, 74, 75, 76, 25, 77, 78, 79, 80, 50, 51, 46, 47, 48] (by decide +kernel) (by decide +kernel)) gi_n))) : GoodIn wsL_odds wsL_agrees_r1)
set_option maxRecDepth 20000 in
theorem gq_odds_wsL_agrees_r2 : GoodIn wsL_odds wsL_agrees_r2 := (goodIn_r wsL_agrees_r2 [49, 13, 14, 15, 16, 81, 82, 83, 84, 85, 86, 87, 88, 89, 90, 91, 92, 12, 93, 94, 29, 95, 96, 97] (by decide +kernel) (by decide +kernel) : GoodIn wsL_odds wsL_agrees_r2)
set_option maxRecDepth 20000 in
theorem gq_odds_wsL_agrees_r3 : GoodIn wsL_odds wsL_agrees_r3 := (goodIn_r wsL_agrees_r3 [31, 98, 99, 100, 101, 102, 103, 104, 105, 106, 107, 108, 109, 110, 111, 112, 113, 114, 115, 116, 117, 118, 119, 120] (by decide +kernel) (by decide +kernel) : GoodIn wsL_odds wsL_agrees_r3)
set_option maxRecDepth 20000 in
theorem gq_odds_wsL_agrees_r4 : GoodIn wsL_odds wsL_agrees_r4 := (goodIn_r wsL_agrees_r4 [121, 122, 123, 124, 125, 32, 126, 127, 128, 129, 130, 131, 132, 133, 30, 134, 135, 136, 137, 138, 139, 140, 141, 142] (by decide +kernel) (by decide +kernel) : GoodIn wsL_odds wsL_agrees_r4)
set_option maxRecDepth 20000 in
theorem gq_odds_wsL_agrees_r5 : GoodIn wsL_odds wsL_agrees_r5 := (goodIn_r wsL_agrees_r5 [143, 144, 145, 146, 147, 148, 149, 150, 151, 152, 153, 154, 155, 156, 157, 158, 159, 160, 161, 162, 163, 164, 165, 166] (by decide +kernel) (by decide +kernel) : GoodIn wsL_odds wsL_agrees_r5)
set_option maxRecDepth 20000 in
theorem gq_odds_wsL_agrees_r6 : GoodIn wsL_odds wsL_agrees_r6 := (goodIn_r wsL_agrees_r6 [167, 168, 169, 170, 171, 172, 173, 174, 175, 176, 177, 18, 178, 179, 180, 181, 20, 42, 43, 44, 45, 52, 53, 54] (by decide +kernel) (by decide +kernel) : GoodIn wsL_odds wsL_agrees_r6)
set_option maxRecDepth 20000 in
theorem gq_odds_wsL_agrees_r7 : GoodIn wsL_odds wsL_agrees_r7 := (goodIn_r wsL_agrees_r7 [55, 182, 183, 184, 185, 186, 187, 188, 189, 190, 191, 192, 193, 194, 195, 196, 197, 198, 199, 200, 201, 202, 203, 204] (by decide +kernel) (by decide +kernel) : GoodIn wsL_odds wsL_agrees_r7)
set_option maxRecDepth 20000 in
theorem gq_odds_wsL_agrees_r8 : GoodIn wsL_odds wsL_agrees_r8 := (goodIn_r wsL_agrees_r8 [205, 206, 207, 208, 209, 210, 211, 212, 213, 214, 215, 216, 217, 24, 218, 219, 220, 221, 222, 223, 224, 225, 226, 227] (by decide +kernel) (by decide +kernel) : GoodIn wsL_odds wsL_agrees_r8)
set_option maxRecDepth 20000 in
theorem gq_odds_wsL_agrees_r9 : GoodIn wsL_odds wsL_agrees_r9 := (goodIn_r wsL_agrees_r9 [228, 229, 230, 231, 232, 233, 234, 235, 236, 23, 237, 238, 36, 37, 239, 240, 241, 242, 243, 244, 245, 246, 247, 248] (by decide +kernel) (by decide +kernel) : GoodIn wsL_odds wsL_agrees_r9)
set_option maxRecDepth 20000 in
theorem gq_odds_wsL_agrees_r10 : GoodIn wsL_odds wsL_agrees_r10 := (goodIn_r wsL_agrees_r10 [249, 250, 251, 252, 253, 254, 255, 256, 257, 258, 259, 260, 261, 262, 263, 264, 265, 266, 267, 268, 269, 270, 271, 272] (by decide +kernel) (by decide +kernel) : GoodIn wsL_odds wsL_agrees_r10)
set_option maxRecDepth 20000 in
theorem gq_odds_wsL_agrees_r11 : GoodIn wsL_odds wsL_agrees_r11 := (goodIn_r wsL_agrees_r11 [273, 274, 275, 276, 277, 278, 279, 280, 281, 282, 283, 284, 285, 286, 287, 288, 289, 290, 291, 292, 293, 294, 295, 38] (by decide +kernel) (by decide +kernel) : GoodIn wsL_odds wsL_agrees_r11)
set_option maxRecDepth 20000 in
theorem gq_odds_wsL_agrees_r12 : GoodIn wsL_odds wsL_agrees_r12 := (goodIn_r wsL_agrees_r12 [296, 297, 298, 299, 300, 301, 302, 303, 39, 304, 305, 306, 307, 308, 309, 310, 40, 311, 312, 313, 314, 315, 316, 317] (by decide +kernel) (by decide +kernel) : GoodIn wsL_odds wsL_agrees_r12)
set_option maxRecDepth 20000 in
theorem gq_odds_wsL_agrees_r13 : GoodIn wsL_odds wsL_agrees_r13 := (goodIn_r wsL_agrees_r13 [41, 318, 319, 320, 321, 322, 323, 324] (by decide +kernel) (by decide +kernel) : GoodIn wsL_odds wsL_agrees_r13)
set_option maxRecDepth 20000 in
theorem ggL_odds_L_agrees : GoodIn wsL_odds wsL_agrees := goodIn_ca (goodIn_ca (goodIn_ca (gi_c (List.mem_cons_of_mem _ (List.mem_append_left _ (List.mem_append_left _ (List.mem_append_left _ (List.mem_append_left _ (List.mem_append_left _ (List.mem_append_left _ (List.mem_append_right _ (List.mem_append_right _ (List.mem_append_right _ (List.mem_append_right _ (List.mem_append_right _ (List.mem_append_right _ (List.mem_append_right _ (List.mem_append_right _ (List.mem_append_right _ (List.mem_append_right _ (List.mem_append_right _ (List.mem_append_right _ (List.mem_append_right _ (List.mem_append_right _ (List.mem_append_right _ (List.mem_append_right _ (List.mem_of_getElem? (l := wsL_odds_r17) (i := 10) rfl)))))))))))))))))))))))) rfl (goodIn_app (goodIn_app (goodIn_app (goodIn_app gq_odds_wsL_agrees_r1 (goodIn_app gq_odds_wsL_agrees_r2 (goodIn_app gq_odds_wsL_agrees_r3 (goodIn_app gq_odds_wsL_agrees_r4 (goodIn_app gq_odds_wsL_agrees_r5 (goodIn_app gq_odds_wsL_agrees_r6 (goodIn_app gq_odds_wsL_agrees_r7 (goodIn_app gq_odds_wsL_agrees_r8 (goodIn_app gq_odds_wsL_agrees_r9 (goodIn_app gq_odds_wsL_agrees_r10 (goodIn_app gq_odds_wsL_agrees_r11 (goodIn_app gq_odds_wsL_agrees_r12 gq_odds_wsL_agrees_r13)))))))))))) (goodIn_r wsX20 [399, 400, 401, 402, 403, 404, 405, 406] (by decide +kernel) (by decide +kernel) : GoodIn wsL_odds wsX20)) (goodIn_r wsX10 [407, 408, 409, 410] (by decide +kernel) (by decide +kernel) : GoodIn wsL_odds wsX10)) (goodIn_r wsX00 [411, 412, 413, 414, 415, 416] (by decide +kernel) (by decide +kernel) : GoodIn wsL_odds wsX00))) (goodIn_sub (fun _ h => List.mem_cons_of_mem _ (List.mem_append_left _ (List.mem_append_right _ h))) (by decide +kernel))) (goodIn_sub (fun _ h => List.mem_cons_of_mem _ (List.mem_append_left _ (List.mem_append_left _ (List.mem_append_right _ h)))) (by decide +kernel))) (goodIn_sub (fun _ h => List.mem_cons_of_mem _ (List.mem_append_right _ h)) (by decide +kernel))
set_option maxRecDepth 20000 in
theorem gL_odds_L_agrees : GoodIn wsL_odds (va_wsS RL 102 yL_agrees wsL_agrees) := goodIn_app (goodIn_of _ (by decide +kernel)) ggL_odds_L_agrees
set_option maxRecDepth 20000 in
theorem ggL_odds_X2_accept : GoodIn wsL_odds wsX2_accept := goodIn_ca (goodIn_r _ [217, 75, 76, 25, 24, 13, 16, 218, 12, 219, 220, 29, 30, 31, 221, 222, 223, 224, 32, 225, 226, 227, 3, 228, 14, 15, 229, 230, 231, 232, 233, 234, 235, 236, 23, 237, 238, 36, 37, 239, 240, 241, 242, 98, 99, 100, 101, 102, 103, 104, 105, 106, 107, 243, 154, 155, 156, 399, 400, 401, 402, 403, 404, 405, 406, 411, 412, 413, 414, 415, 416, 407, 408, 409, 410] (by decide +kernel) (by decide +kernel)) (goodIn_sub (fun _ h => List.mem_cons_of_mem _ (List.mem_append_left _ (List.mem_append_right _ h))) (by decide +kernel))
set_option maxRecDepth 20000 in
theorem gL_odds_X2_accept : GoodIn wsL_odds (wsV RL 53 RX2 yX2_accept wsX2_accept) := goodIn_app (goodIn_of _ (by decide +kernel)) ggL_odds_X2_accept
set_option maxRecDepth 20000 in
theorem ggL_odds_X2_rename : GoodIn wsL_odds wsX2_rename := goodIn_ca (goodIn_ca (goodIn_r _ [137, 25, 77, 78, 79, 3, 80, 50, 51, 46, 47, 48, 49, 13, 14, 15, 16, 112, 113, 114, 92, 12, 93, 94, 29, 87, 88, 89, 90, 91, 115, 116, 117, 31, 118, 138, 139, 140, 399, 400, 401, 402, 403, 404, 405, 406, 407, 408, 409, 410] (by decide +kernel) (by decide +kernel)) (goodIn_sub (fun _ h => List.mem_cons_of_mem _ (List.mem_append_left _ (List.mem_append_left _ (List.mem_append_right _ h)))) (by decide +kernel))) (goodIn_sub (fun _ h => List.mem_cons_of_mem _ (List.mem_append_right _ h)) (by decide +kernel))
set_option maxRecDepth 20000 in
theorem gL_odds_X2_rename : GoodIn wsL_odds (wsV RL 17 RX2 yX2_rename wsX2_rename) := goodIn_app (goodIn_of _ (by decide +kernel)) ggL_odds_X2_rename
set_option maxRecDepth 20000 in
theorem ggL_odds_X2_dropColumn : GoodIn wsL_odds wsX2_dropColumn := goodIn_ca (goodIn_r _ [111, 25, 77, 78, 79, 3, 80, 50, 51, 46, 47, 48, 49, 13, 14, 15, 16, 112, 113, 114, 92, 12, 93, 94, 29, 115, 116, 117, 31, 118, 119, 120, 121, 122, 123, 124, 125, 32, 126, 127, 128, 129, 130, 131, 132, 133, 30, 399, 400, 401, 402, 403, 404, 405, 406, 407, 408, 409, 410] (by decide +kernel) (by decide +kernel)) (goodIn_sub (fun _ h => List.mem_cons_of_mem _ (List.mem_append_left _ (List.mem_append_left _ (List.mem_append_right _ h)))) (by decide +kernel))
set_option maxRecDepth 20000 in
theorem gL_odds_X2_dropColumn : GoodIn wsL_odds (wsV RL 13 RX2 yX2_dropColumn wsX2_dropColumn) := goodIn_app (goodIn_of _ (by decide +kernel)) ggL_odds_X2_dropColumn
set_option maxRecDepth 20000 in
theorem ggL_odds_X2_removeRow : GoodIn wsL_odds wsX2_removeRow := goodIn_ca (goodIn_r _ [160, 25, 77, 78, 79, 3, 80, 50, 51, 46, 47, 48, 49, 13, 14, 15, 16, 161, 162, 163, 131, 12, 132, 133, 30, 164, 165, 166, 130, 122, 123, 124, 125, 32, 126, 127, 128, 129, 118, 92, 93, 94, 29, 154, 155, 156, 101, 102, 103, 104, 105, 106, 107, 399, 400, 401, 402, 403, 404, 405, 406, 407, 408, 409, 410] (by decide +kernel) (by decide +kernel)) (goodIn_sub (fun _ h => List.mem_cons_of_mem _ (List.mem_append_left _ (List.mem_append_left _ (List.mem_append_right _ h)))) (by decide +kernel))
set_option maxRecDepth 20000 in
theorem gL_odds_X2_removeRow : GoodIn wsL_odds (wsV RL 23 RX2 yX2_removeRow wsX2_removeRow) := goodIn_app (goodIn_of _ (by decide +kernel)) ggL_odds_X2_removeRow
set_option maxRecDepth 20000 in
theorem gq_odds_wsL_is_r1 : GoodIn wsL_odds wsL_is_r1 := (goodIn_r wsL_is_r1 [282, 283, 284, 3, 285, 24, 286, 287, 288, 289, 50, 51, 290, 23, 291, 292, 36, 293, 294, 295, 38, 296, 297, 298] (by decide +kernel) (by decide +kernel) : GoodIn wsL_odds wsL_is_r1)
set_option maxRecDepth 20000 in
theorem gq_odds_wsL_is_r2 : GoodIn wsL_odds wsL_is_r2 := (goodIn_r wsL_is_r2 [299, 300, 301, 302, 303, 39, 304, 305, 306, 307, 308, 309, 310, 40] (by decide +kernel) (by decide +kernel) : GoodIn wsL_odds wsL_is_r2)
set_option maxRecDepth 20000 in
theorem ggL_odds_L_is : GoodIn wsL_odds wsL_is := goodIn_ca (gi_c (List.mem_cons_of_mem _ (List.mem_append_left _ (List.mem_append_left _ (List.mem_append_left _ (List.mem_append_left _ (List.mem_append_left _ (List.mem_append_left _ (List.mem_append_right _ (List.mem_append_right _ (List.mem_append_right _ (List.mem_append_right _ (List.mem_append_right _ (List.mem_append_right _ (List.mem_append_right _ (List.mem_append_right _ (List.mem_append_right _ (List.mem_append_right _ (List.mem_append_right _ (List.mem_append_right _ (List.mem_append_right _ (List.mem_append_right _ (List.mem_append_right _ (List.mem_append_right _ (List.mem_of_getElem? (l := wsL_odds_r17) (i := 13) rfl)))))))))))))))))))))))) rfl (goodIn_app (goodIn_app (goodIn_app gq_odds_wsL_is_r1 gq_odds_wsL_is_r2) (goodIn_r wsX20 [399, 400, 401, 402, 403, 404, 405, 406] (by decide +kernel) (by decide +kernel) : GoodIn wsL_odds wsX20)) (goodIn_r wsX00 [411, 412, 413, 414, 415, 416] (by decide +kernel) (by decide +kernel) : GoodIn wsL_odds wsX00))) (goodIn_sub (fun _ h => List.mem_cons_of_mem _ (List.mem_append_left _ (List.mem_append_left _ (List.mem_append_right _ h)))) (by decide +kernel))
set_option maxRecDepth 20000 in
theorem gL_odds_L_is : GoodIn wsL_odds (va_wsS RL 106 yL_is wsL_is) := goodIn_app (goodIn_of _ (by decide +kernel)) ggL_odds_L_is
set_option maxRecDepth 20000 in
theorem ggL_odds_X2_settle : GoodIn wsL_odds wsX2_settle := goodIn_ca (goodIn_ca (goodIn_r _ [314, 75, 76, 25, 24, 286, 287, 288, 3, 289, 50, 51, 290, 23, 291, 292, 36, 194, 195, 196, 197, 14, 15, 315, 316, 317, 41, 296, 293, 294, 295, 38, 301, 302, 303, 39, 308, 309, 310, 40, 318, 319, 320, 321, 16, 171, 12, 172, 173, 32, 126, 127, 128, 129, 130, 131, 132, 133, 30, 118, 92, 93, 94, 29, 123, 124, 125, 164, 165, 166, 122, 119, 120, 121, 31, 115, 116, 117, 138, 139, 140, 322, 323, 324, 37, 399, 400, 401, 402, 403, 404, 405, 406, 411, 412, 413, 414, 415, 416, 407, 408, 409, 410] (by decide +kernel) (by decide +kernel)) (goodIn_sub (fun _ h => List.mem_cons_of_mem _ (List.mem_append_left _ (List.mem_append_right _ h))) (by decide +kernel))) (goodIn_sub (fun _ h => List.mem_cons_of_mem _ (List.mem_append_left _ (List.mem_append_left _ (List.mem_append_right _ h)))) (by decide +kernel))
set_option maxRecDepth 20000 in
theorem gL_odds_X2_settle : GoodIn wsL_odds (wsV RL 69 RX2 yX2_settle wsX2_settle) := goodIn_app (goodIn_of _ (by decide +kernel)) ggL_odds_X2_settle
