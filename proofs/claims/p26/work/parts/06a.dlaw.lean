theorem gi_n {big : List Cond} : GoodIn big [] := fun _ h => absurd h List.not_mem_nil
theorem gi_c {big ws : List Cond} {w : Cond} (hm : w ∈ big) (hg : goodWord w = true) (h : GoodIn big ws) : GoodIn big (w :: ws) := fun v hv => (List.mem_cons.mp hv).elim (fun e => by rw [e]; exact ⟨hm, good_of_word hg⟩) (h v)
theorem dL_act_0 : decode cL_act 0 = .ok (.iload_n 1, 1) := by decide +kernel
theorem dL_act_1 : decode cL_act 1 = .ok (.ifCond .ne 14, 3) := by decide +kernel
theorem dL_act_4 : decode cL_act 4 = .ok (.aload_n 0, 1) := by decide +kernel
theorem dL_act_5 : decode cL_act 5 = .ok (.iload_n 2, 1) := by decide +kernel
theorem dL_act_6 : decode cL_act 6 = .ok (.iload_n 3, 1) := by decide +kernel
theorem dL_act_7 : decode cL_act 7 = .ok (.iload 4, 2) := by decide +kernel
theorem dL_act_9 : decode cL_act 9 = .ok (.invokevirtual 7, 3) := by decide +kernel
theorem dL_act_12 : decode cL_act 12 = .ok (.goto 276, 3) := by decide +kernel
theorem dL_act_15 : decode cL_act 15 = .ok (.iload_n 1, 1) := by decide +kernel
theorem dL_act_16 : decode cL_act 16 = .ok (.iconst 1, 1) := by decide +kernel
theorem dL_act_17 : decode cL_act 17 = .ok (.if_icmp .ne 12, 3) := by decide +kernel
theorem dL_act_20 : decode cL_act 20 = .ok (.aload_n 0, 1) := by decide +kernel
theorem dL_act_21 : decode cL_act 21 = .ok (.iload_n 2, 1) := by decide +kernel
theorem dL_act_22 : decode cL_act 22 = .ok (.iload_n 3, 1) := by decide +kernel
theorem dL_act_23 : decode cL_act 23 = .ok (.invokevirtual 13, 3) := by decide +kernel
theorem dL_act_26 : decode cL_act 26 = .ok (.goto 262, 3) := by decide +kernel
theorem dL_act_29 : decode cL_act 29 = .ok (.iload_n 1, 1) := by decide +kernel
theorem dL_act_30 : decode cL_act 30 = .ok (.iconst 2, 1) := by decide +kernel
theorem dL_act_31 : decode cL_act 31 = .ok (.if_icmp .ne 14, 3) := by decide +kernel
theorem dL_act_34 : decode cL_act 34 = .ok (.aload_n 0, 1) := by decide +kernel
theorem dL_act_35 : decode cL_act 35 = .ok (.iload_n 2, 1) := by decide +kernel
theorem dL_act_36 : decode cL_act 36 = .ok (.iload_n 3, 1) := by decide +kernel
theorem dL_act_37 : decode cL_act 37 = .ok (.iload 4, 2) := by decide +kernel
theorem dL_act_39 : decode cL_act 39 = .ok (.invokevirtual 17, 3) := by decide +kernel
theorem dL_act_42 : decode cL_act 42 = .ok (.goto 246, 3) := by decide +kernel
theorem dL_act_45 : decode cL_act 45 = .ok (.iload_n 1, 1) := by decide +kernel
theorem dL_act_46 : decode cL_act 46 = .ok (.iconst 3, 1) := by decide +kernel
theorem dL_act_47 : decode cL_act 47 = .ok (.if_icmp .ne 12, 3) := by decide +kernel
theorem dL_act_50 : decode cL_act 50 = .ok (.aload_n 0, 1) := by decide +kernel
theorem dL_act_51 : decode cL_act 51 = .ok (.iload_n 2, 1) := by decide +kernel
theorem dL_act_52 : decode cL_act 52 = .ok (.iload_n 3, 1) := by decide +kernel
theorem dL_act_53 : decode cL_act 53 = .ok (.invokevirtual 20, 3) := by decide +kernel
theorem dL_act_56 : decode cL_act 56 = .ok (.goto 232, 3) := by decide +kernel
theorem dL_act_59 : decode cL_act 59 = .ok (.iload_n 1, 1) := by decide +kernel
theorem dL_act_60 : decode cL_act 60 = .ok (.iconst 4, 1) := by decide +kernel
theorem dL_act_61 : decode cL_act 61 = .ok (.if_icmp .ne 12, 3) := by decide +kernel
theorem dL_act_64 : decode cL_act 64 = .ok (.aload_n 0, 1) := by decide +kernel
theorem dL_act_65 : decode cL_act 65 = .ok (.iload_n 2, 1) := by decide +kernel
theorem dL_act_66 : decode cL_act 66 = .ok (.iload_n 3, 1) := by decide +kernel
theorem dL_act_67 : decode cL_act 67 = .ok (.invokevirtual 23, 3) := by decide +kernel
theorem dL_act_70 : decode cL_act 70 = .ok (.goto 218, 3) := by decide +kernel
theorem dL_act_73 : decode cL_act 73 = .ok (.iload_n 1, 1) := by decide +kernel
theorem dL_act_74 : decode cL_act 74 = .ok (.iconst 5, 1) := by decide +kernel
theorem dL_act_75 : decode cL_act 75 = .ok (.if_icmp .ne 16, 3) := by decide +kernel
theorem dL_act_78 : decode cL_act 78 = .ok (.aload_n 0, 1) := by decide +kernel
theorem dL_act_79 : decode cL_act 79 = .ok (.iload_n 2, 1) := by decide +kernel
theorem dL_act_80 : decode cL_act 80 = .ok (.iload_n 3, 1) := by decide +kernel
theorem dL_act_81 : decode cL_act 81 = .ok (.iload 4, 2) := by decide +kernel
theorem dL_act_83 : decode cL_act 83 = .ok (.iload 5, 2) := by decide +kernel
theorem dL_act_85 : decode cL_act 85 = .ok (.invokevirtual 26, 3) := by decide +kernel
theorem dL_act_88 : decode cL_act 88 = .ok (.goto 200, 3) := by decide +kernel
theorem dL_act_91 : decode cL_act 91 = .ok (.iload_n 1, 1) := by decide +kernel
theorem dL_act_92 : decode cL_act 92 = .ok (.bipush 6, 2) := by decide +kernel
theorem dL_act_94 : decode cL_act 94 = .ok (.if_icmp .ne 12, 3) := by decide +kernel
theorem dL_act_97 : decode cL_act 97 = .ok (.aload_n 0, 1) := by decide +kernel
theorem dL_act_98 : decode cL_act 98 = .ok (.iload_n 2, 1) := by decide +kernel
theorem dL_act_99 : decode cL_act 99 = .ok (.iload_n 3, 1) := by decide +kernel
theorem dL_act_100 : decode cL_act 100 = .ok (.invokevirtual 30, 3) := by decide +kernel
theorem dL_act_103 : decode cL_act 103 = .ok (.goto 185, 3) := by decide +kernel
theorem dL_act_106 : decode cL_act 106 = .ok (.iload_n 1, 1) := by decide +kernel
theorem dL_act_107 : decode cL_act 107 = .ok (.bipush 7, 2) := by decide +kernel
theorem dL_act_109 : decode cL_act 109 = .ok (.if_icmp .ne 29, 3) := by decide +kernel
theorem dL_act_112 : decode cL_act 112 = .ok (.aload_n 0, 1) := by decide +kernel
theorem dL_act_113 : decode cL_act 113 = .ok (.iload_n 2, 1) := by decide +kernel
theorem dL_act_114 : decode cL_act 114 = .ok (.iload_n 3, 1) := by decide +kernel
theorem dL_act_115 : decode cL_act 115 = .ok (.iconst 1, 1) := by decide +kernel
theorem dL_act_116 : decode cL_act 116 = .ok (.if_icmp .ne 7, 3) := by decide +kernel
theorem dL_act_119 : decode cL_act 119 = .ok (.iconst 1, 1) := by decide +kernel
theorem dL_act_120 : decode cL_act 120 = .ok (.goto 4, 3) := by decide +kernel
theorem dL_act_123 : decode cL_act 123 = .ok (.iconst 0, 1) := by decide +kernel
theorem dL_act_124 : decode cL_act 124 = .ok (.invokevirtual 33, 3) := by decide +kernel
theorem dL_act_127 : decode cL_act 127 = .ok (.ifCond .eq 7, 3) := by decide +kernel
theorem dL_act_130 : decode cL_act 130 = .ok (.iconst 1, 1) := by decide +kernel
theorem dL_act_131 : decode cL_act 131 = .ok (.goto 157, 3) := by decide +kernel
theorem dL_act_134 : decode cL_act 134 = .ok (.iconst 0, 1) := by decide +kernel
theorem dL_act_135 : decode cL_act 135 = .ok (.goto 153, 3) := by decide +kernel
theorem dL_act_138 : decode cL_act 138 = .ok (.iload_n 1, 1) := by decide +kernel
theorem dL_act_139 : decode cL_act 139 = .ok (.bipush 8, 2) := by decide +kernel
theorem dL_act_141 : decode cL_act 141 = .ok (.if_icmp .ne 11, 3) := by decide +kernel
theorem dL_act_144 : decode cL_act 144 = .ok (.aload_n 0, 1) := by decide +kernel
theorem dL_act_145 : decode cL_act 145 = .ok (.iload_n 2, 1) := by decide +kernel
theorem dL_act_146 : decode cL_act 146 = .ok (.invokevirtual 37, 3) := by decide +kernel
theorem dL_act_149 : decode cL_act 149 = .ok (.goto 139, 3) := by decide +kernel
theorem dL_act_152 : decode cL_act 152 = .ok (.iload_n 1, 1) := by decide +kernel
theorem dL_act_153 : decode cL_act 153 = .ok (.bipush 9, 2) := by decide +kernel
theorem dL_act_155 : decode cL_act 155 = .ok (.if_icmp .ne 11, 3) := by decide +kernel
theorem dL_act_158 : decode cL_act 158 = .ok (.aload_n 0, 1) := by decide +kernel
theorem dL_act_159 : decode cL_act 159 = .ok (.iload_n 2, 1) := by decide +kernel
theorem dL_act_160 : decode cL_act 160 = .ok (.invokevirtual 41, 3) := by decide +kernel
theorem dL_act_163 : decode cL_act 163 = .ok (.goto 125, 3) := by decide +kernel
theorem dL_act_166 : decode cL_act 166 = .ok (.iload_n 1, 1) := by decide +kernel
theorem dL_act_167 : decode cL_act 167 = .ok (.bipush 10, 2) := by decide +kernel
theorem dL_act_169 : decode cL_act 169 = .ok (.if_icmp .ne 12, 3) := by decide +kernel
theorem dL_act_172 : decode cL_act 172 = .ok (.aload_n 0, 1) := by decide +kernel
theorem dL_act_173 : decode cL_act 173 = .ok (.iload_n 2, 1) := by decide +kernel
theorem dL_act_174 : decode cL_act 174 = .ok (.iload_n 3, 1) := by decide +kernel
theorem dL_act_175 : decode cL_act 175 = .ok (.invokevirtual 44, 3) := by decide +kernel
theorem dL_act_178 : decode cL_act 178 = .ok (.goto 110, 3) := by decide +kernel
theorem dL_act_181 : decode cL_act 181 = .ok (.iload_n 1, 1) := by decide +kernel
theorem dL_act_182 : decode cL_act 182 = .ok (.bipush 11, 2) := by decide +kernel
theorem dL_act_184 : decode cL_act 184 = .ok (.if_icmp .ne 14, 3) := by decide +kernel
theorem dL_act_187 : decode cL_act 187 = .ok (.aload_n 0, 1) := by decide +kernel
theorem dL_act_188 : decode cL_act 188 = .ok (.iload_n 2, 1) := by decide +kernel
theorem dL_act_189 : decode cL_act 189 = .ok (.iload_n 3, 1) := by decide +kernel
theorem dL_act_190 : decode cL_act 190 = .ok (.iload 4, 2) := by decide +kernel
theorem dL_act_192 : decode cL_act 192 = .ok (.invokevirtual 47, 3) := by decide +kernel
theorem dL_act_195 : decode cL_act 195 = .ok (.goto 93, 3) := by decide +kernel
theorem dL_act_198 : decode cL_act 198 = .ok (.iload_n 1, 1) := by decide +kernel
theorem dL_act_199 : decode cL_act 199 = .ok (.bipush 12, 2) := by decide +kernel
theorem dL_act_201 : decode cL_act 201 = .ok (.if_icmp .ne 11, 3) := by decide +kernel
theorem dL_act_204 : decode cL_act 204 = .ok (.aload_n 0, 1) := by decide +kernel
theorem dL_act_205 : decode cL_act 205 = .ok (.iload_n 2, 1) := by decide +kernel
theorem dL_act_206 : decode cL_act 206 = .ok (.invokevirtual 50, 3) := by decide +kernel
theorem dL_act_209 : decode cL_act 209 = .ok (.goto 79, 3) := by decide +kernel
theorem dL_act_212 : decode cL_act 212 = .ok (.iload_n 1, 1) := by decide +kernel
theorem dL_act_213 : decode cL_act 213 = .ok (.bipush 13, 2) := by decide +kernel
theorem dL_act_215 : decode cL_act 215 = .ok (.if_icmp .ne 10, 3) := by decide +kernel
theorem dL_act_218 : decode cL_act 218 = .ok (.aload_n 0, 1) := by decide +kernel
theorem dL_act_219 : decode cL_act 219 = .ok (.invokevirtual 53, 3) := by decide +kernel
theorem dL_act_222 : decode cL_act 222 = .ok (.goto 66, 3) := by decide +kernel
theorem dL_act_225 : decode cL_act 225 = .ok (.iload_n 1, 1) := by decide +kernel
theorem dL_act_226 : decode cL_act 226 = .ok (.bipush 14, 2) := by decide +kernel
theorem dL_act_228 : decode cL_act 228 = .ok (.if_icmp .ne 12, 3) := by decide +kernel
theorem dL_act_231 : decode cL_act 231 = .ok (.aload_n 0, 1) := by decide +kernel
theorem dL_act_232 : decode cL_act 232 = .ok (.iload_n 2, 1) := by decide +kernel
theorem dL_act_233 : decode cL_act 233 = .ok (.iload_n 3, 1) := by decide +kernel
theorem dL_act_234 : decode cL_act 234 = .ok (.invokevirtual 57, 3) := by decide +kernel
theorem dL_act_237 : decode cL_act 237 = .ok (.goto 51, 3) := by decide +kernel
theorem dL_act_240 : decode cL_act 240 = .ok (.iload_n 1, 1) := by decide +kernel
theorem dL_act_241 : decode cL_act 241 = .ok (.bipush 15, 2) := by decide +kernel
theorem dL_act_243 : decode cL_act 243 = .ok (.if_icmp .ne 11, 3) := by decide +kernel
theorem dL_act_246 : decode cL_act 246 = .ok (.aload_n 0, 1) := by decide +kernel
theorem dL_act_247 : decode cL_act 247 = .ok (.iload_n 2, 1) := by decide +kernel
theorem dL_act_248 : decode cL_act 248 = .ok (.invokevirtual 60, 3) := by decide +kernel
theorem dL_act_251 : decode cL_act 251 = .ok (.goto 37, 3) := by decide +kernel
theorem dL_act_254 : decode cL_act 254 = .ok (.iload_n 1, 1) := by decide +kernel
theorem dL_act_255 : decode cL_act 255 = .ok (.bipush 16, 2) := by decide +kernel
theorem dL_act_257 : decode cL_act 257 = .ok (.if_icmp .ne 11, 3) := by decide +kernel
theorem dL_act_260 : decode cL_act 260 = .ok (.aload_n 0, 1) := by decide +kernel
theorem dL_act_261 : decode cL_act 261 = .ok (.iload_n 2, 1) := by decide +kernel
theorem dL_act_262 : decode cL_act 262 = .ok (.invokevirtual 63, 3) := by decide +kernel
theorem dL_act_265 : decode cL_act 265 = .ok (.goto 23, 3) := by decide +kernel
theorem dL_act_268 : decode cL_act 268 = .ok (.iload_n 1, 1) := by decide +kernel
theorem dL_act_269 : decode cL_act 269 = .ok (.bipush 17, 2) := by decide +kernel
theorem dL_act_271 : decode cL_act 271 = .ok (.if_icmp .ne 11, 3) := by decide +kernel
theorem dL_act_274 : decode cL_act 274 = .ok (.aload_n 0, 1) := by decide +kernel
theorem dL_act_275 : decode cL_act 275 = .ok (.iload_n 2, 1) := by decide +kernel
theorem dL_act_276 : decode cL_act 276 = .ok (.invokevirtual 66, 3) := by decide +kernel
theorem dL_act_279 : decode cL_act 279 = .ok (.goto 9, 3) := by decide +kernel
theorem dL_act_282 : decode cL_act 282 = .ok (.aload_n 0, 1) := by decide +kernel
theorem dL_act_283 : decode cL_act 283 = .ok (.iload_n 2, 1) := by decide +kernel
theorem dL_act_284 : decode cL_act 284 = .ok (.iload_n 3, 1) := by decide +kernel
theorem dL_act_285 : decode cL_act 285 = .ok (.invokevirtual 69, 3) := by decide +kernel
theorem dL_act_288 : decode cL_act 288 = .ok (.ireturn, 1) := by decide +kernel
theorem dL_act_289 : decode cL_act 289 = .ok (.astore 6, 2) := by decide +kernel
theorem dL_act_291 : decode cL_act 291 = .ok (.sipush (-20001), 3) := by decide +kernel
theorem dL_act_294 : decode cL_act 294 = .ok (.ireturn, 1) := by decide +kernel
theorem dL_act_295 : decode cL_act 295 = .ok (.astore 6, 2) := by decide +kernel
theorem dL_act_297 : decode cL_act 297 = .ok (.sipush (-20002), 3) := by decide +kernel
theorem dL_act_300 : decode cL_act 300 = .ok (.ireturn, 1) := by decide +kernel
theorem dL_act_301 : decode cL_act 301 = .ok (.astore 6, 2) := by decide +kernel
theorem dL_act_303 : decode cL_act 303 = .ok (.sipush (-20003), 3) := by decide +kernel
theorem dL_act_306 : decode cL_act 306 = .ok (.ireturn, 1) := by decide +kernel
theorem dL_refuses_0 : decode cL_refuses 0 = .ok (.aload_n 0, 1) := by decide +kernel
theorem dL_refuses_1 : decode cL_refuses 1 = .ok (.invokevirtual 78, 3) := by decide +kernel
theorem dL_refuses_4 : decode cL_refuses 4 = .ok (.istore_n 3, 1) := by decide +kernel
theorem dL_refuses_5 : decode cL_refuses 5 = .ok (.aload_n 0, 1) := by decide +kernel
theorem dL_refuses_6 : decode cL_refuses 6 = .ok (.invokevirtual 81, 3) := by decide +kernel
theorem dL_refuses_9 : decode cL_refuses 9 = .ok (.istore 4, 2) := by decide +kernel
theorem dL_refuses_11 : decode cL_refuses 11 = .ok (.sipush (-20001), 3) := by decide +kernel
theorem dL_refuses_14 : decode cL_refuses 14 = .ok (.istore 5, 2) := by decide +kernel
theorem dL_refuses_16 : decode cL_refuses 16 = .ok (.sipush (-20002), 3) := by decide +kernel
theorem dL_refuses_19 : decode cL_refuses 19 = .ok (.istore 6, 2) := by decide +kernel
theorem dL_refuses_21 : decode cL_refuses 21 = .ok (.ldc 84, 2) := by decide +kernel
theorem dL_refuses_23 : decode cL_refuses 23 = .ok (.istore 7, 2) := by decide +kernel
theorem dL_refuses_25 : decode cL_refuses 25 = .ok (.iconst 0, 1) := by decide +kernel
theorem dL_refuses_26 : decode cL_refuses 26 = .ok (.istore 8, 2) := by decide +kernel
theorem dL_refuses_28 : decode cL_refuses 28 = .ok (.iload 8, 2) := by decide +kernel
theorem dL_refuses_30 : decode cL_refuses 30 = .ok (.iconst 4, 1) := by decide +kernel
theorem dL_refuses_31 : decode cL_refuses 31 = .ok (.if_icmp .ge 735, 3) := by decide +kernel
theorem dL_refuses_34 : decode cL_refuses 34 = .ok (.iload 8, 2) := by decide +kernel
theorem dL_refuses_36 : decode cL_refuses 36 = .ok (.ifCond .ne 7, 3) := by decide +kernel
theorem dL_refuses_39 : decode cL_refuses 39 = .ok (.iconst (-1), 1) := by decide +kernel
theorem dL_refuses_40 : decode cL_refuses 40 = .ok (.goto 19, 3) := by decide +kernel
theorem dL_refuses_43 : decode cL_refuses 43 = .ok (.iload 8, 2) := by decide +kernel
theorem dL_refuses_45 : decode cL_refuses 45 = .ok (.iconst 2, 1) := by decide +kernel
theorem dL_refuses_46 : decode cL_refuses 46 = .ok (.if_icmp .ne 8, 3) := by decide +kernel
theorem dL_refuses_49 : decode cL_refuses 49 = .ok (.iload 7, 2) := by decide +kernel
theorem dL_refuses_51 : decode cL_refuses 51 = .ok (.goto 8, 3) := by decide +kernel
theorem dL_refuses_54 : decode cL_refuses 54 = .ok (.iload 7, 2) := by decide +kernel
theorem dL_refuses_56 : decode cL_refuses 56 = .ok (.ineg, 1) := by decide +kernel
theorem dL_refuses_57 : decode cL_refuses 57 = .ok (.iconst 1, 1) := by decide +kernel
theorem dL_refuses_58 : decode cL_refuses 58 = .ok (.isub, 1) := by decide +kernel
theorem dL_refuses_59 : decode cL_refuses 59 = .ok (.istore 9, 2) := by decide +kernel
theorem dL_refuses_61 : decode cL_refuses 61 = .ok (.iload 8, 2) := by decide +kernel
theorem dL_refuses_63 : decode cL_refuses 63 = .ok (.iconst 1, 1) := by decide +kernel
theorem dL_refuses_64 : decode cL_refuses 64 = .ok (.if_icmp .ne 7, 3) := by decide +kernel
theorem dL_refuses_67 : decode cL_refuses 67 = .ok (.iconst 3, 1) := by decide +kernel
theorem dL_refuses_68 : decode cL_refuses 68 = .ok (.goto 5, 3) := by decide +kernel
theorem dL_refuses_71 : decode cL_refuses 71 = .ok (.iload 9, 2) := by decide +kernel
theorem dL_refuses_73 : decode cL_refuses 73 = .ok (.istore 10, 2) := by decide +kernel
theorem dL_refuses_75 : decode cL_refuses 75 = .ok (.iload 8, 2) := by decide +kernel
theorem dL_refuses_77 : decode cL_refuses 77 = .ok (.iconst 1, 1) := by decide +kernel
theorem dL_refuses_78 : decode cL_refuses 78 = .ok (.if_icmp .ne 7, 3) := by decide +kernel
theorem dL_refuses_81 : decode cL_refuses 81 = .ok (.iconst 4, 1) := by decide +kernel
theorem dL_refuses_82 : decode cL_refuses 82 = .ok (.goto 5, 3) := by decide +kernel
theorem dL_refuses_85 : decode cL_refuses 85 = .ok (.iload 9, 2) := by decide +kernel
theorem dL_refuses_87 : decode cL_refuses 87 = .ok (.istore 11, 2) := by decide +kernel
theorem dL_refuses_89 : decode cL_refuses 89 = .ok (.iload 8, 2) := by decide +kernel
theorem dL_refuses_91 : decode cL_refuses 91 = .ok (.iconst 1, 1) := by decide +kernel
theorem dL_refuses_92 : decode cL_refuses 92 = .ok (.if_icmp .ne 8, 3) := by decide +kernel
theorem dL_refuses_95 : decode cL_refuses 95 = .ok (.bipush 8, 2) := by decide +kernel
theorem dL_refuses_97 : decode cL_refuses 97 = .ok (.goto 5, 3) := by decide +kernel
theorem dL_refuses_100 : decode cL_refuses 100 = .ok (.iload 9, 2) := by decide +kernel
theorem dL_refuses_102 : decode cL_refuses 102 = .ok (.istore 12, 2) := by decide +kernel
theorem dL_refuses_104 : decode cL_refuses 104 = .ok (.iload 8, 2) := by decide +kernel
theorem dL_refuses_106 : decode cL_refuses 106 = .ok (.iconst 1, 1) := by decide +kernel
theorem dL_refuses_107 : decode cL_refuses 107 = .ok (.if_icmp .ne 8, 3) := by decide +kernel
theorem dL_refuses_110 : decode cL_refuses 110 = .ok (.bipush 24, 2) := by decide +kernel
theorem dL_refuses_112 : decode cL_refuses 112 = .ok (.goto 5, 3) := by decide +kernel
theorem dL_refuses_115 : decode cL_refuses 115 = .ok (.iload 9, 2) := by decide +kernel
theorem dL_refuses_117 : decode cL_refuses 117 = .ok (.istore 13, 2) := by decide +kernel
theorem dL_refuses_119 : decode cL_refuses 119 = .ok (.iload 8, 2) := by decide +kernel
theorem dL_refuses_121 : decode cL_refuses 121 = .ok (.iconst 1, 1) := by decide +kernel
theorem dL_refuses_122 : decode cL_refuses 122 = .ok (.if_icmp .ne 8, 3) := by decide +kernel
theorem dL_refuses_125 : decode cL_refuses 125 = .ok (.bipush 100, 2) := by decide +kernel
theorem dL_refuses_127 : decode cL_refuses 127 = .ok (.goto 5, 3) := by decide +kernel
theorem dL_refuses_130 : decode cL_refuses 130 = .ok (.iload 9, 2) := by decide +kernel
theorem dL_refuses_132 : decode cL_refuses 132 = .ok (.istore 14, 2) := by decide +kernel
theorem dL_refuses_134 : decode cL_refuses 134 = .ok (.iload 8, 2) := by decide +kernel
theorem dL_refuses_136 : decode cL_refuses 136 = .ok (.ifCond .ne 7, 3) := by decide +kernel
theorem dL_refuses_139 : decode cL_refuses 139 = .ok (.iconst 0, 1) := by decide +kernel
theorem dL_refuses_140 : decode cL_refuses 140 = .ok (.goto 5, 3) := by decide +kernel
theorem dL_refuses_143 : decode cL_refuses 143 = .ok (.iload 10, 2) := by decide +kernel
theorem dL_refuses_145 : decode cL_refuses 145 = .ok (.istore 15, 2) := by decide +kernel
theorem dL_refuses_147 : decode cL_refuses 147 = .ok (.aload_n 0, 1) := by decide +kernel
theorem dL_refuses_148 : decode cL_refuses 148 = .ok (.iconst 0, 1) := by decide +kernel
theorem dL_refuses_149 : decode cL_refuses 149 = .ok (.iload 10, 2) := by decide +kernel
theorem dL_refuses_151 : decode cL_refuses 151 = .ok (.iconst 0, 1) := by decide +kernel
theorem dL_refuses_152 : decode cL_refuses 152 = .ok (.iconst 0, 1) := by decide +kernel
theorem dL_refuses_153 : decode cL_refuses 153 = .ok (.iconst 0, 1) := by decide +kernel
theorem dL_refuses_154 : decode cL_refuses 154 = .ok (.invokestatic 85, 3) := by decide +kernel
theorem dL_refuses_157 : decode cL_refuses 157 = .ok (.iload 5, 2) := by decide +kernel
theorem dL_refuses_159 : decode cL_refuses 159 = .ok (.if_icmp .ne 202, 3) := by decide +kernel
theorem dL_refuses_162 : decode cL_refuses 162 = .ok (.aload_n 0, 1) := by decide +kernel
theorem dL_refuses_163 : decode cL_refuses 163 = .ok (.iconst 0, 1) := by decide +kernel
theorem dL_refuses_164 : decode cL_refuses 164 = .ok (.iconst 0, 1) := by decide +kernel
theorem dL_refuses_165 : decode cL_refuses 165 = .ok (.iload 12, 2) := by decide +kernel
theorem dL_refuses_167 : decode cL_refuses 167 = .ok (.iconst (-1), 1) := by decide +kernel
theorem dL_refuses_168 : decode cL_refuses 168 = .ok (.iconst 0, 1) := by decide +kernel
theorem dL_refuses_169 : decode cL_refuses 169 = .ok (.invokestatic 85, 3) := by decide +kernel
theorem dL_refuses_172 : decode cL_refuses 172 = .ok (.iload 5, 2) := by decide +kernel
theorem dL_refuses_174 : decode cL_refuses 174 = .ok (.if_icmp .ne 187, 3) := by decide +kernel
theorem dL_refuses_177 : decode cL_refuses 177 = .ok (.aload_n 0, 1) := by decide +kernel
theorem dL_refuses_178 : decode cL_refuses 178 = .ok (.iconst 0, 1) := by decide +kernel
theorem dL_refuses_179 : decode cL_refuses 179 = .ok (.iconst 1, 1) := by decide +kernel
theorem dL_refuses_180 : decode cL_refuses 180 = .ok (.iload_n 2, 1) := by decide +kernel
theorem dL_refuses_181 : decode cL_refuses 181 = .ok (.iload 14, 2) := by decide +kernel
theorem dL_refuses_183 : decode cL_refuses 183 = .ok (.iconst 0, 1) := by decide +kernel
theorem dL_refuses_184 : decode cL_refuses 184 = .ok (.invokestatic 85, 3) := by decide +kernel
theorem dL_refuses_187 : decode cL_refuses 187 = .ok (.iload 6, 2) := by decide +kernel
theorem dL_refuses_189 : decode cL_refuses 189 = .ok (.if_icmp .ne 172, 3) := by decide +kernel
theorem dL_refuses_192 : decode cL_refuses 192 = .ok (.aload_n 0, 1) := by decide +kernel
theorem dL_refuses_193 : decode cL_refuses 193 = .ok (.iconst 0, 1) := by decide +kernel
theorem dL_refuses_194 : decode cL_refuses 194 = .ok (.iconst 1, 1) := by decide +kernel
theorem dL_refuses_195 : decode cL_refuses 195 = .ok (.iload_n 2, 1) := by decide +kernel
theorem dL_refuses_196 : decode cL_refuses 196 = .ok (.iconst 5, 1) := by decide +kernel
theorem dL_refuses_197 : decode cL_refuses 197 = .ok (.iconst 0, 1) := by decide +kernel
theorem dL_refuses_198 : decode cL_refuses 198 = .ok (.invokestatic 85, 3) := by decide +kernel
theorem dL_refuses_201 : decode cL_refuses 201 = .ok (.sipush (-20003), 3) := by decide +kernel
theorem dL_refuses_204 : decode cL_refuses 204 = .ok (.if_icmp .ne 157, 3) := by decide +kernel
theorem dL_refuses_207 : decode cL_refuses 207 = .ok (.aload_n 0, 1) := by decide +kernel
theorem dL_refuses_208 : decode cL_refuses 208 = .ok (.iconst 1, 1) := by decide +kernel
theorem dL_refuses_209 : decode cL_refuses 209 = .ok (.iload 10, 2) := by decide +kernel
theorem dL_refuses_211 : decode cL_refuses 211 = .ok (.iload_n 2, 1) := by decide +kernel
theorem dL_refuses_212 : decode cL_refuses 212 = .ok (.iconst 0, 1) := by decide +kernel
theorem dL_refuses_213 : decode cL_refuses 213 = .ok (.iconst 0, 1) := by decide +kernel
theorem dL_refuses_214 : decode cL_refuses 214 = .ok (.invokestatic 85, 3) := by decide +kernel
theorem dL_refuses_217 : decode cL_refuses 217 = .ok (.iload 5, 2) := by decide +kernel
theorem dL_refuses_219 : decode cL_refuses 219 = .ok (.if_icmp .ne 142, 3) := by decide +kernel
theorem dL_refuses_222 : decode cL_refuses 222 = .ok (.aload_n 0, 1) := by decide +kernel
theorem dL_refuses_223 : decode cL_refuses 223 = .ok (.iconst 1, 1) := by decide +kernel
theorem dL_refuses_224 : decode cL_refuses 224 = .ok (.iconst 1, 1) := by decide +kernel
theorem dL_refuses_225 : decode cL_refuses 225 = .ok (.iload 12, 2) := by decide +kernel
theorem dL_refuses_227 : decode cL_refuses 227 = .ok (.iconst 0, 1) := by decide +kernel
theorem dL_refuses_228 : decode cL_refuses 228 = .ok (.iconst 0, 1) := by decide +kernel
theorem dL_refuses_229 : decode cL_refuses 229 = .ok (.invokestatic 85, 3) := by decide +kernel
theorem dL_refuses_232 : decode cL_refuses 232 = .ok (.iload 5, 2) := by decide +kernel
theorem dL_refuses_234 : decode cL_refuses 234 = .ok (.if_icmp .ne 127, 3) := by decide +kernel
theorem dL_refuses_237 : decode cL_refuses 237 = .ok (.aload_n 0, 1) := by decide +kernel
theorem dL_refuses_238 : decode cL_refuses 238 = .ok (.iconst 2, 1) := by decide +kernel
theorem dL_refuses_239 : decode cL_refuses 239 = .ok (.iload 10, 2) := by decide +kernel
theorem dL_refuses_241 : decode cL_refuses 241 = .ok (.iload_n 2, 1) := by decide +kernel
theorem dL_refuses_242 : decode cL_refuses 242 = .ok (.iconst 0, 1) := by decide +kernel
theorem dL_refuses_243 : decode cL_refuses 243 = .ok (.iconst 0, 1) := by decide +kernel
theorem dL_refuses_244 : decode cL_refuses 244 = .ok (.invokestatic 85, 3) := by decide +kernel
theorem dL_refuses_247 : decode cL_refuses 247 = .ok (.iload 5, 2) := by decide +kernel
theorem dL_refuses_249 : decode cL_refuses 249 = .ok (.if_icmp .ne 112, 3) := by decide +kernel
theorem dL_refuses_252 : decode cL_refuses 252 = .ok (.aload_n 0, 1) := by decide +kernel
theorem dL_refuses_253 : decode cL_refuses 253 = .ok (.iconst 2, 1) := by decide +kernel
theorem dL_refuses_254 : decode cL_refuses 254 = .ok (.iconst 1, 1) := by decide +kernel
theorem dL_refuses_255 : decode cL_refuses 255 = .ok (.iload 12, 2) := by decide +kernel
theorem dL_refuses_257 : decode cL_refuses 257 = .ok (.iconst (-1), 1) := by decide +kernel
theorem dL_refuses_258 : decode cL_refuses 258 = .ok (.iconst 0, 1) := by decide +kernel
theorem dL_refuses_259 : decode cL_refuses 259 = .ok (.invokestatic 85, 3) := by decide +kernel
theorem dL_refuses_262 : decode cL_refuses 262 = .ok (.iload 5, 2) := by decide +kernel
theorem dL_refuses_264 : decode cL_refuses 264 = .ok (.if_icmp .ne 97, 3) := by decide +kernel
theorem dL_refuses_267 : decode cL_refuses 267 = .ok (.aload_n 0, 1) := by decide +kernel
theorem dL_refuses_268 : decode cL_refuses 268 = .ok (.iconst 2, 1) := by decide +kernel
theorem dL_refuses_269 : decode cL_refuses 269 = .ok (.iconst 1, 1) := by decide +kernel
theorem dL_refuses_270 : decode cL_refuses 270 = .ok (.iload_n 2, 1) := by decide +kernel
theorem dL_refuses_271 : decode cL_refuses 271 = .ok (.iload 14, 2) := by decide +kernel
theorem dL_refuses_273 : decode cL_refuses 273 = .ok (.iconst 0, 1) := by decide +kernel
theorem dL_refuses_274 : decode cL_refuses 274 = .ok (.invokestatic 85, 3) := by decide +kernel
theorem dL_refuses_277 : decode cL_refuses 277 = .ok (.iload 6, 2) := by decide +kernel
theorem dL_refuses_279 : decode cL_refuses 279 = .ok (.if_icmp .ne 82, 3) := by decide +kernel
theorem dL_refuses_282 : decode cL_refuses 282 = .ok (.aload_n 0, 1) := by decide +kernel
theorem dL_refuses_283 : decode cL_refuses 283 = .ok (.iconst 3, 1) := by decide +kernel
theorem dL_refuses_284 : decode cL_refuses 284 = .ok (.iload 10, 2) := by decide +kernel
theorem dL_refuses_286 : decode cL_refuses 286 = .ok (.iconst 0, 1) := by decide +kernel
theorem dL_refuses_287 : decode cL_refuses 287 = .ok (.iconst 0, 1) := by decide +kernel
theorem dL_refuses_288 : decode cL_refuses 288 = .ok (.iconst 0, 1) := by decide +kernel
theorem dL_refuses_289 : decode cL_refuses 289 = .ok (.invokestatic 85, 3) := by decide +kernel
theorem dL_refuses_292 : decode cL_refuses 292 = .ok (.iload 5, 2) := by decide +kernel
theorem dL_refuses_294 : decode cL_refuses 294 = .ok (.if_icmp .ne 67, 3) := by decide +kernel
theorem dL_refuses_297 : decode cL_refuses 297 = .ok (.aload_n 0, 1) := by decide +kernel
theorem dL_refuses_298 : decode cL_refuses 298 = .ok (.iconst 3, 1) := by decide +kernel
theorem dL_refuses_299 : decode cL_refuses 299 = .ok (.iconst 0, 1) := by decide +kernel
theorem dL_refuses_300 : decode cL_refuses 300 = .ok (.iload 13, 2) := by decide +kernel
theorem dL_refuses_302 : decode cL_refuses 302 = .ok (.iconst 0, 1) := by decide +kernel
theorem dL_refuses_303 : decode cL_refuses 303 = .ok (.iconst 0, 1) := by decide +kernel
theorem dL_refuses_304 : decode cL_refuses 304 = .ok (.invokestatic 85, 3) := by decide +kernel
theorem dL_refuses_307 : decode cL_refuses 307 = .ok (.iload 5, 2) := by decide +kernel
theorem dL_refuses_309 : decode cL_refuses 309 = .ok (.if_icmp .ne 52, 3) := by decide +kernel
theorem dL_refuses_312 : decode cL_refuses 312 = .ok (.aload_n 0, 1) := by decide +kernel
theorem dL_refuses_313 : decode cL_refuses 313 = .ok (.iconst 3, 1) := by decide +kernel
theorem dL_refuses_314 : decode cL_refuses 314 = .ok (.iconst 1, 1) := by decide +kernel
theorem dL_refuses_315 : decode cL_refuses 315 = .ok (.iload_n 1, 1) := by decide +kernel
theorem dL_refuses_316 : decode cL_refuses 316 = .ok (.iconst 0, 1) := by decide +kernel
theorem dL_refuses_317 : decode cL_refuses 317 = .ok (.iconst 0, 1) := by decide +kernel
theorem dL_refuses_318 : decode cL_refuses 318 = .ok (.invokestatic 85, 3) := by decide +kernel
theorem dL_refuses_321 : decode cL_refuses 321 = .ok (.sipush (-20003), 3) := by decide +kernel
theorem dL_refuses_324 : decode cL_refuses 324 = .ok (.if_icmp .ne 37, 3) := by decide +kernel
theorem dL_refuses_327 : decode cL_refuses 327 = .ok (.aload_n 0, 1) := by decide +kernel
theorem dL_refuses_328 : decode cL_refuses 328 = .ok (.iconst 4, 1) := by decide +kernel
theorem dL_refuses_329 : decode cL_refuses 329 = .ok (.iload 10, 2) := by decide +kernel
theorem dL_refuses_331 : decode cL_refuses 331 = .ok (.iload_n 1, 1) := by decide +kernel
theorem dL_refuses_332 : decode cL_refuses 332 = .ok (.iconst 0, 1) := by decide +kernel
theorem dL_refuses_333 : decode cL_refuses 333 = .ok (.iconst 0, 1) := by decide +kernel
theorem dL_refuses_334 : decode cL_refuses 334 = .ok (.invokestatic 85, 3) := by decide +kernel
theorem dL_refuses_337 : decode cL_refuses 337 = .ok (.iload 5, 2) := by decide +kernel
theorem dL_refuses_339 : decode cL_refuses 339 = .ok (.if_icmp .ne 22, 3) := by decide +kernel
theorem dL_refuses_342 : decode cL_refuses 342 = .ok (.aload_n 0, 1) := by decide +kernel
theorem dL_refuses_343 : decode cL_refuses 343 = .ok (.iconst 4, 1) := by decide +kernel
theorem dL_refuses_344 : decode cL_refuses 344 = .ok (.iconst 1, 1) := by decide +kernel
theorem dL_refuses_345 : decode cL_refuses 345 = .ok (.iload 13, 2) := by decide +kernel
theorem dL_refuses_347 : decode cL_refuses 347 = .ok (.iconst 0, 1) := by decide +kernel
theorem dL_refuses_348 : decode cL_refuses 348 = .ok (.iconst 0, 1) := by decide +kernel
theorem dL_refuses_349 : decode cL_refuses 349 = .ok (.invokestatic 85, 3) := by decide +kernel
theorem dL_refuses_352 : decode cL_refuses 352 = .ok (.iload 5, 2) := by decide +kernel
theorem dL_refuses_354 : decode cL_refuses 354 = .ok (.if_icmp .ne 7, 3) := by decide +kernel
theorem dL_refuses_357 : decode cL_refuses 357 = .ok (.iconst 1, 1) := by decide +kernel
theorem dL_refuses_358 : decode cL_refuses 358 = .ok (.goto 4, 3) := by decide +kernel
theorem dL_refuses_361 : decode cL_refuses 361 = .ok (.iconst 0, 1) := by decide +kernel
theorem dL_refuses_362 : decode cL_refuses 362 = .ok (.istore 16, 2) := by decide +kernel
theorem dL_refuses_364 : decode cL_refuses 364 = .ok (.iload 16, 2) := by decide +kernel
theorem dL_refuses_366 : decode cL_refuses 366 = .ok (.ifCond .eq 253, 3) := by decide +kernel
theorem dL_refuses_369 : decode cL_refuses 369 = .ok (.aload_n 0, 1) := by decide +kernel
theorem dL_refuses_370 : decode cL_refuses 370 = .ok (.iconst 5, 1) := by decide +kernel
theorem dL_refuses_371 : decode cL_refuses 371 = .ok (.iload 10, 2) := by decide +kernel
theorem dL_refuses_373 : decode cL_refuses 373 = .ok (.iload_n 1, 1) := by decide +kernel
theorem dL_refuses_374 : decode cL_refuses 374 = .ok (.iload_n 2, 1) := by decide +kernel
theorem dL_refuses_375 : decode cL_refuses 375 = .ok (.iconst 0, 1) := by decide +kernel
theorem dL_refuses_376 : decode cL_refuses 376 = .ok (.invokestatic 85, 3) := by decide +kernel
theorem dL_refuses_379 : decode cL_refuses 379 = .ok (.iload 5, 2) := by decide +kernel
theorem dL_refuses_381 : decode cL_refuses 381 = .ok (.if_icmp .ne 238, 3) := by decide +kernel
theorem dL_refuses_384 : decode cL_refuses 384 = .ok (.aload_n 0, 1) := by decide +kernel
theorem dL_refuses_385 : decode cL_refuses 385 = .ok (.iconst 5, 1) := by decide +kernel
theorem dL_refuses_386 : decode cL_refuses 386 = .ok (.iconst 1, 1) := by decide +kernel
theorem dL_refuses_387 : decode cL_refuses 387 = .ok (.iload 13, 2) := by decide +kernel
theorem dL_refuses_389 : decode cL_refuses 389 = .ok (.iload_n 2, 1) := by decide +kernel
theorem dL_refuses_390 : decode cL_refuses 390 = .ok (.iconst 0, 1) := by decide +kernel
theorem dL_refuses_391 : decode cL_refuses 391 = .ok (.invokestatic 85, 3) := by decide +kernel
theorem dL_refuses_394 : decode cL_refuses 394 = .ok (.iload 5, 2) := by decide +kernel
theorem dL_refuses_396 : decode cL_refuses 396 = .ok (.if_icmp .ne 223, 3) := by decide +kernel
theorem dL_refuses_399 : decode cL_refuses 399 = .ok (.aload_n 0, 1) := by decide +kernel
theorem dL_refuses_400 : decode cL_refuses 400 = .ok (.iconst 5, 1) := by decide +kernel
theorem dL_refuses_401 : decode cL_refuses 401 = .ok (.iconst 1, 1) := by decide +kernel
theorem dL_refuses_402 : decode cL_refuses 402 = .ok (.iload_n 1, 1) := by decide +kernel
theorem dL_refuses_403 : decode cL_refuses 403 = .ok (.iload 12, 2) := by decide +kernel
theorem dL_refuses_405 : decode cL_refuses 405 = .ok (.sipush 10000, 3) := by decide +kernel
theorem dL_refuses_408 : decode cL_refuses 408 = .ok (.invokestatic 85, 3) := by decide +kernel
theorem dL_refuses_411 : decode cL_refuses 411 = .ok (.iload 5, 2) := by decide +kernel
theorem dL_refuses_413 : decode cL_refuses 413 = .ok (.if_icmp .ne 206, 3) := by decide +kernel
theorem dL_refuses_416 : decode cL_refuses 416 = .ok (.aload_n 0, 1) := by decide +kernel
theorem dL_refuses_417 : decode cL_refuses 417 = .ok (.iconst 5, 1) := by decide +kernel
theorem dL_refuses_418 : decode cL_refuses 418 = .ok (.iconst 1, 1) := by decide +kernel
theorem dL_refuses_419 : decode cL_refuses 419 = .ok (.iload_n 1, 1) := by decide +kernel
theorem dL_refuses_420 : decode cL_refuses 420 = .ok (.iload_n 2, 1) := by decide +kernel
theorem dL_refuses_421 : decode cL_refuses 421 = .ok (.iload 8, 2) := by decide +kernel
theorem dL_refuses_423 : decode cL_refuses 423 = .ok (.ifCond .ne 9, 3) := by decide +kernel
theorem dL_refuses_426 : decode cL_refuses 426 = .ok (.sipush (-10000), 3) := by decide +kernel
theorem dL_refuses_429 : decode cL_refuses 429 = .ok (.goto 17, 3) := by decide +kernel
theorem dL_refuses_432 : decode cL_refuses 432 = .ok (.iload 8, 2) := by decide +kernel
theorem dL_refuses_434 : decode cL_refuses 434 = .ok (.iconst 1, 1) := by decide +kernel
theorem dL_refuses_435 : decode cL_refuses 435 = .ok (.if_icmp .ne 9, 3) := by decide +kernel
theorem dL_refuses_438 : decode cL_refuses 438 = .ok (.sipush 10000, 3) := by decide +kernel
theorem dL_refuses_441 : decode cL_refuses 441 = .ok (.goto 5, 3) := by decide +kernel
theorem dL_refuses_444 : decode cL_refuses 444 = .ok (.iload 9, 2) := by decide +kernel
theorem dL_refuses_446 : decode cL_refuses 446 = .ok (.invokestatic 85, 3) := by decide +kernel
theorem dL_refuses_449 : decode cL_refuses 449 = .ok (.iload 6, 2) := by decide +kernel
theorem dL_refuses_451 : decode cL_refuses 451 = .ok (.if_icmp .ne 168, 3) := by decide +kernel
theorem dL_refuses_454 : decode cL_refuses 454 = .ok (.aload_n 0, 1) := by decide +kernel
theorem dL_refuses_455 : decode cL_refuses 455 = .ok (.bipush 6, 2) := by decide +kernel
theorem dL_refuses_457 : decode cL_refuses 457 = .ok (.iload 12, 2) := by decide +kernel
theorem dL_refuses_459 : decode cL_refuses 459 = .ok (.bipush 9, 2) := by decide +kernel
theorem dL_refuses_461 : decode cL_refuses 461 = .ok (.iconst 0, 1) := by decide +kernel
theorem dL_refuses_462 : decode cL_refuses 462 = .ok (.iconst 0, 1) := by decide +kernel
theorem dL_refuses_463 : decode cL_refuses 463 = .ok (.invokestatic 85, 3) := by decide +kernel
theorem dL_refuses_466 : decode cL_refuses 466 = .ok (.iload 5, 2) := by decide +kernel
theorem dL_refuses_468 : decode cL_refuses 468 = .ok (.if_icmp .ne 151, 3) := by decide +kernel
theorem dL_refuses_471 : decode cL_refuses 471 = .ok (.aload_n 0, 1) := by decide +kernel
theorem dL_refuses_472 : decode cL_refuses 472 = .ok (.bipush 6, 2) := by decide +kernel
theorem dL_refuses_474 : decode cL_refuses 474 = .ok (.iconst 0, 1) := by decide +kernel
theorem dL_refuses_475 : decode cL_refuses 475 = .ok (.iload 11, 2) := by decide +kernel
theorem dL_refuses_477 : decode cL_refuses 477 = .ok (.iconst 0, 1) := by decide +kernel
theorem dL_refuses_478 : decode cL_refuses 478 = .ok (.iconst 0, 1) := by decide +kernel
theorem dL_refuses_479 : decode cL_refuses 479 = .ok (.invokestatic 85, 3) := by decide +kernel
theorem dL_refuses_482 : decode cL_refuses 482 = .ok (.iload 6, 2) := by decide +kernel
theorem dL_refuses_484 : decode cL_refuses 484 = .ok (.if_icmp .ne 135, 3) := by decide +kernel
theorem dL_refuses_487 : decode cL_refuses 487 = .ok (.aload_n 0, 1) := by decide +kernel
theorem dL_refuses_488 : decode cL_refuses 488 = .ok (.bipush 7, 2) := by decide +kernel
theorem dL_refuses_490 : decode cL_refuses 490 = .ok (.iload 12, 2) := by decide +kernel
theorem dL_refuses_492 : decode cL_refuses 492 = .ok (.iconst 1, 1) := by decide +kernel
theorem dL_refuses_493 : decode cL_refuses 493 = .ok (.iconst 0, 1) := by decide +kernel
theorem dL_refuses_494 : decode cL_refuses 494 = .ok (.iconst 0, 1) := by decide +kernel
theorem dL_refuses_495 : decode cL_refuses 495 = .ok (.invokestatic 85, 3) := by decide +kernel
theorem dL_refuses_498 : decode cL_refuses 498 = .ok (.iload 5, 2) := by decide +kernel
theorem dL_refuses_500 : decode cL_refuses 500 = .ok (.if_icmp .ne 119, 3) := by decide +kernel
theorem dL_refuses_503 : decode cL_refuses 503 = .ok (.aload_n 0, 1) := by decide +kernel
theorem dL_refuses_504 : decode cL_refuses 504 = .ok (.bipush 8, 2) := by decide +kernel
theorem dL_refuses_506 : decode cL_refuses 506 = .ok (.iload 11, 2) := by decide +kernel
theorem dL_refuses_508 : decode cL_refuses 508 = .ok (.iconst 0, 1) := by decide +kernel
theorem dL_refuses_509 : decode cL_refuses 509 = .ok (.iconst 0, 1) := by decide +kernel
theorem dL_refuses_510 : decode cL_refuses 510 = .ok (.iconst 0, 1) := by decide +kernel
theorem dL_refuses_511 : decode cL_refuses 511 = .ok (.invokestatic 85, 3) := by decide +kernel
theorem dL_refuses_514 : decode cL_refuses 514 = .ok (.iload 5, 2) := by decide +kernel
theorem dL_refuses_516 : decode cL_refuses 516 = .ok (.if_icmp .ne 103, 3) := by decide +kernel
theorem dL_refuses_519 : decode cL_refuses 519 = .ok (.aload_n 0, 1) := by decide +kernel
theorem dL_refuses_520 : decode cL_refuses 520 = .ok (.bipush 9, 2) := by decide +kernel
theorem dL_refuses_522 : decode cL_refuses 522 = .ok (.iload 11, 2) := by decide +kernel
theorem dL_refuses_524 : decode cL_refuses 524 = .ok (.iconst 0, 1) := by decide +kernel
theorem dL_refuses_525 : decode cL_refuses 525 = .ok (.iconst 0, 1) := by decide +kernel
theorem dL_refuses_526 : decode cL_refuses 526 = .ok (.iconst 0, 1) := by decide +kernel
theorem dL_refuses_527 : decode cL_refuses 527 = .ok (.invokestatic 85, 3) := by decide +kernel
theorem dL_refuses_530 : decode cL_refuses 530 = .ok (.iload 5, 2) := by decide +kernel
theorem dL_refuses_532 : decode cL_refuses 532 = .ok (.if_icmp .ne 87, 3) := by decide +kernel
theorem dL_refuses_535 : decode cL_refuses 535 = .ok (.aload_n 0, 1) := by decide +kernel
theorem dL_refuses_536 : decode cL_refuses 536 = .ok (.bipush 10, 2) := by decide +kernel
theorem dL_refuses_538 : decode cL_refuses 538 = .ok (.iload 11, 2) := by decide +kernel
theorem dL_refuses_540 : decode cL_refuses 540 = .ok (.iload_n 2, 1) := by decide +kernel
theorem dL_refuses_541 : decode cL_refuses 541 = .ok (.iconst 0, 1) := by decide +kernel
theorem dL_refuses_542 : decode cL_refuses 542 = .ok (.iconst 0, 1) := by decide +kernel
theorem dL_refuses_543 : decode cL_refuses 543 = .ok (.invokestatic 85, 3) := by decide +kernel
theorem dL_refuses_546 : decode cL_refuses 546 = .ok (.iload 5, 2) := by decide +kernel
theorem dL_refuses_548 : decode cL_refuses 548 = .ok (.if_icmp .ne 71, 3) := by decide +kernel
theorem dL_refuses_551 : decode cL_refuses 551 = .ok (.aload_n 0, 1) := by decide +kernel
theorem dL_refuses_552 : decode cL_refuses 552 = .ok (.bipush 10, 2) := by decide +kernel
theorem dL_refuses_554 : decode cL_refuses 554 = .ok (.iconst 1, 1) := by decide +kernel
theorem dL_refuses_555 : decode cL_refuses 555 = .ok (.iload 12, 2) := by decide +kernel
theorem dL_refuses_557 : decode cL_refuses 557 = .ok (.iconst 0, 1) := by decide +kernel
theorem dL_refuses_558 : decode cL_refuses 558 = .ok (.iconst 0, 1) := by decide +kernel
theorem dL_refuses_559 : decode cL_refuses 559 = .ok (.invokestatic 85, 3) := by decide +kernel
theorem dL_refuses_562 : decode cL_refuses 562 = .ok (.iload 5, 2) := by decide +kernel
theorem dL_refuses_564 : decode cL_refuses 564 = .ok (.if_icmp .ne 55, 3) := by decide +kernel
theorem dL_refuses_567 : decode cL_refuses 567 = .ok (.aload_n 0, 1) := by decide +kernel
theorem dL_refuses_568 : decode cL_refuses 568 = .ok (.bipush 11, 2) := by decide +kernel
theorem dL_refuses_570 : decode cL_refuses 570 = .ok (.iload 11, 2) := by decide +kernel
theorem dL_refuses_572 : decode cL_refuses 572 = .ok (.iload_n 1, 1) := by decide +kernel
theorem dL_refuses_573 : decode cL_refuses 573 = .ok (.iload_n 2, 1) := by decide +kernel
theorem dL_refuses_574 : decode cL_refuses 574 = .ok (.iconst 0, 1) := by decide +kernel
theorem dL_refuses_575 : decode cL_refuses 575 = .ok (.invokestatic 85, 3) := by decide +kernel
theorem dL_refuses_578 : decode cL_refuses 578 = .ok (.iload 5, 2) := by decide +kernel
theorem dL_refuses_580 : decode cL_refuses 580 = .ok (.if_icmp .ne 39, 3) := by decide +kernel
theorem dL_refuses_583 : decode cL_refuses 583 = .ok (.aload_n 0, 1) := by decide +kernel
theorem dL_refuses_584 : decode cL_refuses 584 = .ok (.bipush 11, 2) := by decide +kernel
theorem dL_refuses_586 : decode cL_refuses 586 = .ok (.iconst 1, 1) := by decide +kernel
theorem dL_refuses_587 : decode cL_refuses 587 = .ok (.iload 13, 2) := by decide +kernel
theorem dL_refuses_589 : decode cL_refuses 589 = .ok (.iload_n 2, 1) := by decide +kernel
theorem dL_refuses_590 : decode cL_refuses 590 = .ok (.iconst 0, 1) := by decide +kernel
theorem dL_refuses_591 : decode cL_refuses 591 = .ok (.invokestatic 85, 3) := by decide +kernel
theorem dL_refuses_594 : decode cL_refuses 594 = .ok (.iload 5, 2) := by decide +kernel
theorem dL_refuses_596 : decode cL_refuses 596 = .ok (.if_icmp .ne 23, 3) := by decide +kernel
theorem dL_refuses_599 : decode cL_refuses 599 = .ok (.aload_n 0, 1) := by decide +kernel
theorem dL_refuses_600 : decode cL_refuses 600 = .ok (.bipush 11, 2) := by decide +kernel
theorem dL_refuses_602 : decode cL_refuses 602 = .ok (.iconst 1, 1) := by decide +kernel
theorem dL_refuses_603 : decode cL_refuses 603 = .ok (.iload_n 1, 1) := by decide +kernel
theorem dL_refuses_604 : decode cL_refuses 604 = .ok (.iload 12, 2) := by decide +kernel
theorem dL_refuses_606 : decode cL_refuses 606 = .ok (.iconst 0, 1) := by decide +kernel
theorem dL_refuses_607 : decode cL_refuses 607 = .ok (.invokestatic 85, 3) := by decide +kernel
theorem dL_refuses_610 : decode cL_refuses 610 = .ok (.iload 5, 2) := by decide +kernel
theorem dL_refuses_612 : decode cL_refuses 612 = .ok (.if_icmp .ne 7, 3) := by decide +kernel
theorem dL_refuses_615 : decode cL_refuses 615 = .ok (.iconst 1, 1) := by decide +kernel
theorem dL_refuses_616 : decode cL_refuses 616 = .ok (.goto 4, 3) := by decide +kernel
theorem dL_refuses_619 : decode cL_refuses 619 = .ok (.iconst 0, 1) := by decide +kernel
theorem dL_refuses_620 : decode cL_refuses 620 = .ok (.istore 16, 2) := by decide +kernel
theorem dL_refuses_622 : decode cL_refuses 622 = .ok (.iload 16, 2) := by decide +kernel
theorem dL_refuses_624 : decode cL_refuses 624 = .ok (.ifCond .eq 71, 3) := by decide +kernel
theorem dL_refuses_627 : decode cL_refuses 627 = .ok (.aload_n 0, 1) := by decide +kernel
theorem dL_refuses_628 : decode cL_refuses 628 = .ok (.bipush 12, 2) := by decide +kernel
theorem dL_refuses_630 : decode cL_refuses 630 = .ok (.iload 15, 2) := by decide +kernel
theorem dL_refuses_632 : decode cL_refuses 632 = .ok (.iconst 0, 1) := by decide +kernel
theorem dL_refuses_633 : decode cL_refuses 633 = .ok (.iconst 0, 1) := by decide +kernel
theorem dL_refuses_634 : decode cL_refuses 634 = .ok (.iconst 0, 1) := by decide +kernel
theorem dL_refuses_635 : decode cL_refuses 635 = .ok (.invokestatic 85, 3) := by decide +kernel
theorem dL_refuses_638 : decode cL_refuses 638 = .ok (.iload 5, 2) := by decide +kernel
theorem dL_refuses_640 : decode cL_refuses 640 = .ok (.if_icmp .ne 55, 3) := by decide +kernel
theorem dL_refuses_643 : decode cL_refuses 643 = .ok (.aload_n 0, 1) := by decide +kernel
theorem dL_refuses_644 : decode cL_refuses 644 = .ok (.bipush 14, 2) := by decide +kernel
theorem dL_refuses_646 : decode cL_refuses 646 = .ok (.iload 13, 2) := by decide +kernel
theorem dL_refuses_648 : decode cL_refuses 648 = .ok (.iconst 0, 1) := by decide +kernel
theorem dL_refuses_649 : decode cL_refuses 649 = .ok (.iconst 0, 1) := by decide +kernel
theorem dL_refuses_650 : decode cL_refuses 650 = .ok (.iconst 0, 1) := by decide +kernel
theorem dL_refuses_651 : decode cL_refuses 651 = .ok (.invokestatic 85, 3) := by decide +kernel
theorem dL_refuses_654 : decode cL_refuses 654 = .ok (.iload 5, 2) := by decide +kernel
theorem dL_refuses_656 : decode cL_refuses 656 = .ok (.if_icmp .ne 39, 3) := by decide +kernel
theorem dL_refuses_659 : decode cL_refuses 659 = .ok (.aload_n 0, 1) := by decide +kernel
theorem dL_refuses_660 : decode cL_refuses 660 = .ok (.bipush 14, 2) := by decide +kernel
theorem dL_refuses_662 : decode cL_refuses 662 = .ok (.iconst 0, 1) := by decide +kernel
theorem dL_refuses_663 : decode cL_refuses 663 = .ok (.iload 12, 2) := by decide +kernel
theorem dL_refuses_665 : decode cL_refuses 665 = .ok (.iconst 0, 1) := by decide +kernel
theorem dL_refuses_666 : decode cL_refuses 666 = .ok (.iconst 0, 1) := by decide +kernel
theorem dL_refuses_667 : decode cL_refuses 667 = .ok (.invokestatic 85, 3) := by decide +kernel
theorem dL_refuses_670 : decode cL_refuses 670 = .ok (.iload 5, 2) := by decide +kernel
theorem dL_refuses_672 : decode cL_refuses 672 = .ok (.if_icmp .ne 23, 3) := by decide +kernel
theorem dL_refuses_675 : decode cL_refuses 675 = .ok (.aload_n 0, 1) := by decide +kernel
theorem dL_refuses_676 : decode cL_refuses 676 = .ok (.bipush 18, 2) := by decide +kernel
theorem dL_refuses_678 : decode cL_refuses 678 = .ok (.iconst 0, 1) := by decide +kernel
theorem dL_refuses_679 : decode cL_refuses 679 = .ok (.iload 15, 2) := by decide +kernel
theorem dL_refuses_681 : decode cL_refuses 681 = .ok (.iconst 0, 1) := by decide +kernel
theorem dL_refuses_682 : decode cL_refuses 682 = .ok (.iconst 0, 1) := by decide +kernel
theorem dL_refuses_683 : decode cL_refuses 683 = .ok (.invokestatic 85, 3) := by decide +kernel
theorem dL_refuses_686 : decode cL_refuses 686 = .ok (.iload 5, 2) := by decide +kernel
theorem dL_refuses_688 : decode cL_refuses 688 = .ok (.if_icmp .ne 7, 3) := by decide +kernel
theorem dL_refuses_691 : decode cL_refuses 691 = .ok (.iconst 1, 1) := by decide +kernel
theorem dL_refuses_692 : decode cL_refuses 692 = .ok (.goto 4, 3) := by decide +kernel
theorem dL_refuses_695 : decode cL_refuses 695 = .ok (.iconst 0, 1) := by decide +kernel
theorem dL_refuses_696 : decode cL_refuses 696 = .ok (.istore 16, 2) := by decide +kernel
theorem dL_refuses_698 : decode cL_refuses 698 = .ok (.bipush 15, 2) := by decide +kernel
theorem dL_refuses_700 : decode cL_refuses 700 = .ok (.istore 17, 2) := by decide +kernel
theorem dL_refuses_702 : decode cL_refuses 702 = .ok (.iload 17, 2) := by decide +kernel
theorem dL_refuses_704 : decode cL_refuses 704 = .ok (.bipush 19, 2) := by decide +kernel
theorem dL_refuses_706 : decode cL_refuses 706 = .ok (.if_icmp .ge 47, 3) := by decide +kernel
theorem dL_refuses_709 : decode cL_refuses 709 = .ok (.iload 16, 2) := by decide +kernel
theorem dL_refuses_711 : decode cL_refuses 711 = .ok (.ifCond .eq 33, 3) := by decide +kernel
theorem dL_refuses_714 : decode cL_refuses 714 = .ok (.aload_n 0, 1) := by decide +kernel
theorem dL_refuses_715 : decode cL_refuses 715 = .ok (.iload 17, 2) := by decide +kernel
theorem dL_refuses_717 : decode cL_refuses 717 = .ok (.iload 8, 2) := by decide +kernel
theorem dL_refuses_719 : decode cL_refuses 719 = .ok (.iconst 1, 1) := by decide +kernel
theorem dL_refuses_720 : decode cL_refuses 720 = .ok (.if_icmp .ne 7, 3) := by decide +kernel
theorem dL_refuses_723 : decode cL_refuses 723 = .ok (.iload_n 3, 1) := by decide +kernel
theorem dL_refuses_724 : decode cL_refuses 724 = .ok (.goto 5, 3) := by decide +kernel
theorem dL_refuses_727 : decode cL_refuses 727 = .ok (.iload 9, 2) := by decide +kernel
theorem dL_refuses_729 : decode cL_refuses 729 = .ok (.iconst 1, 1) := by decide +kernel
theorem dL_refuses_730 : decode cL_refuses 730 = .ok (.iconst 0, 1) := by decide +kernel
theorem dL_refuses_731 : decode cL_refuses 731 = .ok (.iconst 0, 1) := by decide +kernel
theorem dL_refuses_732 : decode cL_refuses 732 = .ok (.invokestatic 85, 3) := by decide +kernel
theorem dL_refuses_735 : decode cL_refuses 735 = .ok (.iload 5, 2) := by decide +kernel
theorem dL_refuses_737 : decode cL_refuses 737 = .ok (.if_icmp .ne 7, 3) := by decide +kernel
theorem dL_refuses_740 : decode cL_refuses 740 = .ok (.iconst 1, 1) := by decide +kernel
theorem dL_refuses_741 : decode cL_refuses 741 = .ok (.goto 4, 3) := by decide +kernel
theorem dL_refuses_744 : decode cL_refuses 744 = .ok (.iconst 0, 1) := by decide +kernel
theorem dL_refuses_745 : decode cL_refuses 745 = .ok (.istore 16, 2) := by decide +kernel
theorem dL_refuses_747 : decode cL_refuses 747 = .ok (.iinc 17 1, 3) := by decide +kernel
theorem dL_refuses_750 : decode cL_refuses 750 = .ok (.goto (-48), 3) := by decide +kernel
theorem dL_refuses_753 : decode cL_refuses 753 = .ok (.iload 16, 2) := by decide +kernel
theorem dL_refuses_755 : decode cL_refuses 755 = .ok (.ifCond .ne 5, 3) := by decide +kernel
theorem dL_refuses_758 : decode cL_refuses 758 = .ok (.iconst 0, 1) := by decide +kernel
theorem dL_refuses_759 : decode cL_refuses 759 = .ok (.ireturn, 1) := by decide +kernel
theorem dL_refuses_760 : decode cL_refuses 760 = .ok (.iinc 8 1, 3) := by decide +kernel
theorem dL_refuses_763 : decode cL_refuses 763 = .ok (.goto (-735), 3) := by decide +kernel
theorem dL_refuses_766 : decode cL_refuses 766 = .ok (.aload_n 0, 1) := by decide +kernel
theorem dL_refuses_767 : decode cL_refuses 767 = .ok (.invokevirtual 78, 3) := by decide +kernel
theorem dL_refuses_770 : decode cL_refuses 770 = .ok (.iload_n 3, 1) := by decide +kernel
theorem dL_refuses_771 : decode cL_refuses 771 = .ok (.if_icmp .ne 16, 3) := by decide +kernel
theorem dL_refuses_774 : decode cL_refuses 774 = .ok (.aload_n 0, 1) := by decide +kernel
theorem dL_refuses_775 : decode cL_refuses 775 = .ok (.invokevirtual 81, 3) := by decide +kernel
theorem dL_refuses_778 : decode cL_refuses 778 = .ok (.iload 4, 2) := by decide +kernel
theorem dL_refuses_780 : decode cL_refuses 780 = .ok (.if_icmp .ne 7, 3) := by decide +kernel
theorem dL_refuses_783 : decode cL_refuses 783 = .ok (.iconst 1, 1) := by decide +kernel
theorem dL_refuses_784 : decode cL_refuses 784 = .ok (.goto 4, 3) := by decide +kernel
theorem dL_refuses_787 : decode cL_refuses 787 = .ok (.iconst 0, 1) := by decide +kernel
theorem dL_refuses_788 : decode cL_refuses 788 = .ok (.ireturn, 1) := by decide +kernel
theorem dL_is_0 : decode cL_is 0 = .ok (.aload_n 0, 1) := by decide +kernel
theorem dL_is_1 : decode cL_is 1 = .ok (.iload_n 1, 1) := by decide +kernel
theorem dL_is_2 : decode cL_is 2 = .ok (.invokevirtual 60, 3) := by decide +kernel
theorem dL_is_5 : decode cL_is 5 = .ok (.iload_n 2, 1) := by decide +kernel
theorem dL_is_6 : decode cL_is 6 = .ok (.if_icmp .ne 26, 3) := by decide +kernel
theorem dL_is_9 : decode cL_is 9 = .ok (.aload_n 0, 1) := by decide +kernel
theorem dL_is_10 : decode cL_is 10 = .ok (.iload_n 1, 1) := by decide +kernel
theorem dL_is_11 : decode cL_is 11 = .ok (.invokevirtual 63, 3) := by decide +kernel
theorem dL_is_14 : decode cL_is 14 = .ok (.iload_n 3, 1) := by decide +kernel
theorem dL_is_15 : decode cL_is 15 = .ok (.if_icmp .ne 17, 3) := by decide +kernel
theorem dL_is_18 : decode cL_is 18 = .ok (.aload_n 0, 1) := by decide +kernel
theorem dL_is_19 : decode cL_is 19 = .ok (.iload_n 1, 1) := by decide +kernel
theorem dL_is_20 : decode cL_is 20 = .ok (.invokevirtual 66, 3) := by decide +kernel
theorem dL_is_23 : decode cL_is 23 = .ok (.iload 4, 2) := by decide +kernel
theorem dL_is_25 : decode cL_is 25 = .ok (.if_icmp .ne 7, 3) := by decide +kernel
theorem dL_is_28 : decode cL_is 28 = .ok (.iconst 1, 1) := by decide +kernel
theorem dL_is_29 : decode cL_is 29 = .ok (.goto 4, 3) := by decide +kernel
theorem dL_is_32 : decode cL_is 32 = .ok (.iconst 0, 1) := by decide +kernel
theorem dL_is_33 : decode cL_is 33 = .ok (.ireturn, 1) := by decide +kernel
theorem dL_agrees_0 : decode cL_agrees 0 = .ok (.iconst 0, 1) := by decide +kernel
theorem dL_agrees_1 : decode cL_agrees 1 = .ok (.istore_n 1, 1) := by decide +kernel
theorem dL_agrees_2 : decode cL_agrees 2 = .ok (.iload_n 1, 1) := by decide +kernel
theorem dL_agrees_3 : decode cL_agrees 3 = .ok (.sipush 192, 3) := by decide +kernel
theorem dL_agrees_6 : decode cL_agrees 6 = .ok (.if_icmp .ge 55, 3) := by decide +kernel
theorem dL_agrees_9 : decode cL_agrees 9 = .ok (.aload_n 0, 1) := by decide +kernel
theorem dL_agrees_10 : decode cL_agrees 10 = .ok (.bipush 11, 2) := by decide +kernel
theorem dL_agrees_12 : decode cL_agrees 12 = .ok (.iconst 3, 1) := by decide +kernel
theorem dL_agrees_13 : decode cL_agrees 13 = .ok (.iload_n 1, 1) := by decide +kernel
theorem dL_agrees_14 : decode cL_agrees 14 = .ok (.bipush 8, 2) := by decide +kernel
theorem dL_agrees_16 : decode cL_agrees 16 = .ok (.idiv, 1) := by decide +kernel
theorem dL_agrees_17 : decode cL_agrees 17 = .ok (.iload_n 1, 1) := by decide +kernel
theorem dL_agrees_18 : decode cL_agrees 18 = .ok (.bipush 8, 2) := by decide +kernel
theorem dL_agrees_20 : decode cL_agrees 20 = .ok (.irem, 1) := by decide +kernel
theorem dL_agrees_21 : decode cL_agrees 21 = .ok (.iconst 0, 1) := by decide +kernel
theorem dL_agrees_22 : decode cL_agrees 22 = .ok (.invokestatic 85, 3) := by decide +kernel
theorem dL_agrees_25 : decode cL_agrees 25 = .ok (.istore_n 2, 1) := by decide +kernel
theorem dL_agrees_26 : decode cL_agrees 26 = .ok (.aload_n 0, 1) := by decide +kernel
theorem dL_agrees_27 : decode cL_agrees 27 = .ok (.iload_n 1, 1) := by decide +kernel
theorem dL_agrees_28 : decode cL_agrees 28 = .ok (.bipush 8, 2) := by decide +kernel
theorem dL_agrees_30 : decode cL_agrees 30 = .ok (.idiv, 1) := by decide +kernel
theorem dL_agrees_31 : decode cL_agrees 31 = .ok (.iload_n 1, 1) := by decide +kernel
theorem dL_agrees_32 : decode cL_agrees 32 = .ok (.bipush 8, 2) := by decide +kernel
theorem dL_agrees_34 : decode cL_agrees 34 = .ok (.irem, 1) := by decide +kernel
theorem dL_agrees_35 : decode cL_agrees 35 = .ok (.invokevirtual 57, 3) := by decide +kernel
theorem dL_agrees_38 : decode cL_agrees 38 = .ok (.iload_n 2, 1) := by decide +kernel
theorem dL_agrees_39 : decode cL_agrees 39 = .ok (.sipush (-20001), 3) := by decide +kernel
theorem dL_agrees_42 : decode cL_agrees 42 = .ok (.if_icmp .ne 7, 3) := by decide +kernel
theorem dL_agrees_45 : decode cL_agrees 45 = .ok (.iconst 0, 1) := by decide +kernel
theorem dL_agrees_46 : decode cL_agrees 46 = .ok (.goto 4, 3) := by decide +kernel
theorem dL_agrees_49 : decode cL_agrees 49 = .ok (.iload_n 2, 1) := by decide +kernel
theorem dL_agrees_50 : decode cL_agrees 50 = .ok (.if_icmp .eq 5, 3) := by decide +kernel
theorem dL_agrees_53 : decode cL_agrees 53 = .ok (.iconst 0, 1) := by decide +kernel
theorem dL_agrees_54 : decode cL_agrees 54 = .ok (.ireturn, 1) := by decide +kernel
theorem dL_agrees_55 : decode cL_agrees 55 = .ok (.iinc 1 1, 3) := by decide +kernel
theorem dL_agrees_58 : decode cL_agrees 58 = .ok (.goto (-56), 3) := by decide +kernel
theorem dL_agrees_61 : decode cL_agrees 61 = .ok (.iconst 1, 1) := by decide +kernel
theorem dL_agrees_62 : decode cL_agrees 62 = .ok (.ireturn, 1) := by decide +kernel
theorem dL_law_0 : decode cL_law 0 = .ok (.invokestatic 110, 3) := by decide +kernel
theorem dL_law_3 : decode cL_law 3 = .ok (.ifCond .eq 9, 3) := by decide +kernel
theorem dL_law_6 : decode cL_law 6 = .ok (.invokestatic 114, 3) := by decide +kernel
theorem dL_law_9 : decode cL_law 9 = .ok (.ifCond .ne 5, 3) := by decide +kernel
theorem dL_law_12 : decode cL_law 12 = .ok (.iconst 0, 1) := by decide +kernel
theorem dL_law_13 : decode cL_law 13 = .ok (.ireturn, 1) := by decide +kernel
theorem dL_law_14 : decode cL_law 14 = .ok (.new 8, 3) := by decide +kernel
theorem dL_law_17 : decode cL_law 17 = .ok (.dup, 1) := by decide +kernel
theorem dL_law_18 : decode cL_law 18 = .ok (.invokespecial 91, 3) := by decide +kernel
theorem dL_law_21 : decode cL_law 21 = .ok (.astore_n 1, 1) := by decide +kernel
theorem dL_law_22 : decode cL_law 22 = .ok (.aload_n 1, 1) := by decide +kernel
theorem dL_law_23 : decode cL_law 23 = .ok (.iconst 1, 1) := by decide +kernel
theorem dL_law_24 : decode cL_law 24 = .ok (.iconst 0, 1) := by decide +kernel
theorem dL_law_25 : decode cL_law 25 = .ok (.iconst 0, 1) := by decide +kernel
theorem dL_law_26 : decode cL_law 26 = .ok (.invokevirtual 7, 3) := by decide +kernel
theorem dL_law_29 : decode cL_law 29 = .ok (.iconst 1, 1) := by decide +kernel
theorem dL_law_30 : decode cL_law 30 = .ok (.if_icmp .ne 13, 3) := by decide +kernel
theorem dL_law_33 : decode cL_law 33 = .ok (.aload_n 1, 1) := by decide +kernel
theorem dL_law_34 : decode cL_law 34 = .ok (.iconst 1, 1) := by decide +kernel
theorem dL_law_35 : decode cL_law 35 = .ok (.iconst 0, 1) := by decide +kernel
theorem dL_law_36 : decode cL_law 36 = .ok (.invokevirtual 20, 3) := by decide +kernel
theorem dL_law_39 : decode cL_law 39 = .ok (.iconst 1, 1) := by decide +kernel
theorem dL_law_40 : decode cL_law 40 = .ok (.if_icmp .eq 5, 3) := by decide +kernel
theorem dL_law_43 : decode cL_law 43 = .ok (.iconst 0, 1) := by decide +kernel
theorem dL_law_44 : decode cL_law 44 = .ok (.ireturn, 1) := by decide +kernel
theorem dL_law_45 : decode cL_law 45 = .ok (.iconst 0, 1) := by decide +kernel
theorem dL_law_46 : decode cL_law 46 = .ok (.istore_n 2, 1) := by decide +kernel
theorem dL_law_47 : decode cL_law 47 = .ok (.iload_n 2, 1) := by decide +kernel
theorem dL_law_48 : decode cL_law 48 = .ok (.bipush 30, 2) := by decide +kernel
theorem dL_law_50 : decode cL_law 50 = .ok (.if_icmp .ge 211, 3) := by decide +kernel
theorem dL_law_53 : decode cL_law 53 = .ok (.aload_n 0, 1) := by decide +kernel
theorem dL_law_54 : decode cL_law 54 = .ok (.arraylength, 1) := by decide +kernel
theorem dL_law_55 : decode cL_law 55 = .ok (.ifCond .ne 10, 3) := by decide +kernel
theorem dL_law_58 : decode cL_law 58 = .ok (.bipush 7, 2) := by decide +kernel
theorem dL_law_60 : decode cL_law 60 = .ok (.iload_n 2, 1) := by decide +kernel
theorem dL_law_61 : decode cL_law 61 = .ok (.imul, 1) := by decide +kernel
theorem dL_law_62 : decode cL_law 62 = .ok (.goto 12, 3) := by decide +kernel
theorem dL_law_65 : decode cL_law 65 = .ok (.aload_n 0, 1) := by decide +kernel
theorem dL_law_66 : decode cL_law 66 = .ok (.iload_n 2, 1) := by decide +kernel
theorem dL_law_67 : decode cL_law 67 = .ok (.aload_n 0, 1) := by decide +kernel
theorem dL_law_68 : decode cL_law 68 = .ok (.arraylength, 1) := by decide +kernel
theorem dL_law_69 : decode cL_law 69 = .ok (.irem, 1) := by decide +kernel
theorem dL_law_70 : decode cL_law 70 = .ok (.iaload, 1) := by decide +kernel
theorem dL_law_71 : decode cL_law 71 = .ok (.bipush 8, 2) := by decide +kernel
theorem dL_law_73 : decode cL_law 73 = .ok (.iushr, 1) := by decide +kernel
theorem dL_law_74 : decode cL_law 74 = .ok (.istore_n 3, 1) := by decide +kernel
theorem dL_law_75 : decode cL_law 75 = .ok (.iload_n 3, 1) := by decide +kernel
theorem dL_law_76 : decode cL_law 76 = .ok (.iconst 3, 1) := by decide +kernel
theorem dL_law_77 : decode cL_law 77 = .ok (.irem, 1) := by decide +kernel
theorem dL_law_78 : decode cL_law 78 = .ok (.istore 4, 2) := by decide +kernel
theorem dL_law_80 : decode cL_law 80 = .ok (.aload_n 1, 1) := by decide +kernel
theorem dL_law_81 : decode cL_law 81 = .ok (.iload 4, 2) := by decide +kernel
theorem dL_law_83 : decode cL_law 83 = .ok (.invokevirtual 41, 3) := by decide +kernel
theorem dL_law_86 : decode cL_law 86 = .ok (.iload_n 3, 1) := by decide +kernel
theorem dL_law_87 : decode cL_law 87 = .ok (.iconst 3, 1) := by decide +kernel
theorem dL_law_88 : decode cL_law 88 = .ok (.idiv, 1) := by decide +kernel
theorem dL_law_89 : decode cL_law 89 = .ok (.bipush 24, 2) := by decide +kernel
theorem dL_law_91 : decode cL_law 91 = .ok (.irem, 1) := by decide +kernel
theorem dL_law_92 : decode cL_law 92 = .ok (.ishr, 1) := by decide +kernel
theorem dL_law_93 : decode cL_law 93 = .ok (.iconst 1, 1) := by decide +kernel
theorem dL_law_94 : decode cL_law 94 = .ok (.iand, 1) := by decide +kernel
theorem dL_law_95 : decode cL_law 95 = .ok (.iconst 1, 1) := by decide +kernel
theorem dL_law_96 : decode cL_law 96 = .ok (.if_icmp .ne 7, 3) := by decide +kernel
theorem dL_law_99 : decode cL_law 99 = .ok (.iconst 1, 1) := by decide +kernel
theorem dL_law_100 : decode cL_law 100 = .ok (.goto 4, 3) := by decide +kernel
theorem dL_law_103 : decode cL_law 103 = .ok (.iconst 0, 1) := by decide +kernel
theorem dL_law_104 : decode cL_law 104 = .ok (.istore 5, 2) := by decide +kernel
theorem dL_law_106 : decode cL_law 106 = .ok (.aload_n 1, 1) := by decide +kernel
theorem dL_law_107 : decode cL_law 107 = .ok (.iload 4, 2) := by decide +kernel
theorem dL_law_109 : decode cL_law 109 = .ok (.invokevirtual 37, 3) := by decide +kernel
theorem dL_law_112 : decode cL_law 112 = .ok (.iload_n 3, 1) := by decide +kernel
theorem dL_law_113 : decode cL_law 113 = .ok (.bipush 72, 2) := by decide +kernel
theorem dL_law_115 : decode cL_law 115 = .ok (.idiv, 1) := by decide +kernel
theorem dL_law_116 : decode cL_law 116 = .ok (.bipush 8, 2) := by decide +kernel
theorem dL_law_118 : decode cL_law 118 = .ok (.irem, 1) := by decide +kernel
theorem dL_law_119 : decode cL_law 119 = .ok (.ishr, 1) := by decide +kernel
theorem dL_law_120 : decode cL_law 120 = .ok (.iconst 1, 1) := by decide +kernel
theorem dL_law_121 : decode cL_law 121 = .ok (.iand, 1) := by decide +kernel
theorem dL_law_122 : decode cL_law 122 = .ok (.iconst 1, 1) := by decide +kernel
theorem dL_law_123 : decode cL_law 123 = .ok (.if_icmp .ne 7, 3) := by decide +kernel
theorem dL_law_126 : decode cL_law 126 = .ok (.iconst 1, 1) := by decide +kernel
theorem dL_law_127 : decode cL_law 127 = .ok (.goto 4, 3) := by decide +kernel
theorem dL_law_130 : decode cL_law 130 = .ok (.iconst 0, 1) := by decide +kernel
theorem dL_law_131 : decode cL_law 131 = .ok (.istore 6, 2) := by decide +kernel
theorem dL_law_133 : decode cL_law 133 = .ok (.aload_n 1, 1) := by decide +kernel
theorem dL_law_134 : decode cL_law 134 = .ok (.iconst 3, 1) := by decide +kernel
theorem dL_law_135 : decode cL_law 135 = .ok (.iload 4, 2) := by decide +kernel
theorem dL_law_137 : decode cL_law 137 = .ok (.iload_n 3, 1) := by decide +kernel
theorem dL_law_138 : decode cL_law 138 = .ok (.iconst 3, 1) := by decide +kernel
theorem dL_law_139 : decode cL_law 139 = .ok (.idiv, 1) := by decide +kernel
theorem dL_law_140 : decode cL_law 140 = .ok (.bipush 24, 2) := by decide +kernel
theorem dL_law_142 : decode cL_law 142 = .ok (.irem, 1) := by decide +kernel
theorem dL_law_143 : decode cL_law 143 = .ok (.iconst 0, 1) := by decide +kernel
theorem dL_law_144 : decode cL_law 144 = .ok (.iconst 0, 1) := by decide +kernel
theorem dL_law_145 : decode cL_law 145 = .ok (.invokestatic 85, 3) := by decide +kernel
theorem dL_law_148 : decode cL_law 148 = .ok (.ifCond .ge 7, 3) := by decide +kernel
theorem dL_law_151 : decode cL_law 151 = .ok (.iconst 1, 1) := by decide +kernel
theorem dL_law_152 : decode cL_law 152 = .ok (.goto 4, 3) := by decide +kernel
theorem dL_law_155 : decode cL_law 155 = .ok (.iconst 0, 1) := by decide +kernel
theorem dL_law_156 : decode cL_law 156 = .ok (.iload 5, 2) := by decide +kernel
theorem dL_law_158 : decode cL_law 158 = .ok (.if_icmp .ne 95, 3) := by decide +kernel
theorem dL_law_161 : decode cL_law 161 = .ok (.aload_n 1, 1) := by decide +kernel
theorem dL_law_162 : decode cL_law 162 = .ok (.iconst 0, 1) := by decide +kernel
theorem dL_law_163 : decode cL_law 163 = .ok (.iload 4, 2) := by decide +kernel
theorem dL_law_165 : decode cL_law 165 = .ok (.iload_n 3, 1) := by decide +kernel
theorem dL_law_166 : decode cL_law 166 = .ok (.bipush 72, 2) := by decide +kernel
theorem dL_law_168 : decode cL_law 168 = .ok (.idiv, 1) := by decide +kernel
theorem dL_law_169 : decode cL_law 169 = .ok (.bipush 8, 2) := by decide +kernel
theorem dL_law_171 : decode cL_law 171 = .ok (.irem, 1) := by decide +kernel
theorem dL_law_172 : decode cL_law 172 = .ok (.iload_n 3, 1) := by decide +kernel
theorem dL_law_173 : decode cL_law 173 = .ok (.bipush 100, 2) := by decide +kernel
theorem dL_law_175 : decode cL_law 175 = .ok (.irem, 1) := by decide +kernel
theorem dL_law_176 : decode cL_law 176 = .ok (.iconst 0, 1) := by decide +kernel
theorem dL_law_177 : decode cL_law 177 = .ok (.invokestatic 85, 3) := by decide +kernel
theorem dL_law_180 : decode cL_law 180 = .ok (.ifCond .ge 7, 3) := by decide +kernel
theorem dL_law_183 : decode cL_law 183 = .ok (.iconst 1, 1) := by decide +kernel
theorem dL_law_184 : decode cL_law 184 = .ok (.goto 4, 3) := by decide +kernel
theorem dL_law_187 : decode cL_law 187 = .ok (.iconst 0, 1) := by decide +kernel
theorem dL_law_188 : decode cL_law 188 = .ok (.iload 6, 2) := by decide +kernel
theorem dL_law_190 : decode cL_law 190 = .ok (.if_icmp .ne 63, 3) := by decide +kernel
theorem dL_law_193 : decode cL_law 193 = .ok (.aload_n 1, 1) := by decide +kernel
theorem dL_law_194 : decode cL_law 194 = .ok (.iload 4, 2) := by decide +kernel
theorem dL_law_196 : decode cL_law 196 = .ok (.iload_n 3, 1) := by decide +kernel
theorem dL_law_197 : decode cL_law 197 = .ok (.iconst 3, 1) := by decide +kernel
theorem dL_law_198 : decode cL_law 198 = .ok (.idiv, 1) := by decide +kernel
theorem dL_law_199 : decode cL_law 199 = .ok (.bipush 24, 2) := by decide +kernel
theorem dL_law_201 : decode cL_law 201 = .ok (.irem, 1) := by decide +kernel
theorem dL_law_202 : decode cL_law 202 = .ok (.iload_n 3, 1) := by decide +kernel
theorem dL_law_203 : decode cL_law 203 = .ok (.bipush 72, 2) := by decide +kernel
theorem dL_law_205 : decode cL_law 205 = .ok (.idiv, 1) := by decide +kernel
theorem dL_law_206 : decode cL_law 206 = .ok (.bipush 8, 2) := by decide +kernel
theorem dL_law_208 : decode cL_law 208 = .ok (.irem, 1) := by decide +kernel
theorem dL_law_209 : decode cL_law 209 = .ok (.iload_n 3, 1) := by decide +kernel
theorem dL_law_210 : decode cL_law 210 = .ok (.sipush 9999, 3) := by decide +kernel
theorem dL_law_213 : decode cL_law 213 = .ok (.irem, 1) := by decide +kernel
theorem dL_law_214 : decode cL_law 214 = .ok (.invokevirtual 26, 3) := by decide +kernel
theorem dL_law_217 : decode cL_law 217 = .ok (.ifCond .lt 36, 3) := by decide +kernel
theorem dL_law_220 : decode cL_law 220 = .ok (.aload_n 1, 1) := by decide +kernel
theorem dL_law_221 : decode cL_law 221 = .ok (.invokevirtual 99, 3) := by decide +kernel
theorem dL_law_224 : decode cL_law 224 = .ok (.aload_n 1, 1) := by decide +kernel
theorem dL_law_225 : decode cL_law 225 = .ok (.invokevirtual 81, 3) := by decide +kernel
theorem dL_law_228 : decode cL_law 228 = .ok (.if_icmp .ne 25, 3) := by decide +kernel
theorem dL_law_231 : decode cL_law 231 = .ok (.aload_n 1, 1) := by decide +kernel
theorem dL_law_232 : decode cL_law 232 = .ok (.invokestatic 102, 3) := by decide +kernel
theorem dL_law_235 : decode cL_law 235 = .ok (.ifCond .eq 18, 3) := by decide +kernel
theorem dL_law_238 : decode cL_law 238 = .ok (.iload_n 2, 1) := by decide +kernel
theorem dL_law_239 : decode cL_law 239 = .ok (.iconst 5, 1) := by decide +kernel
theorem dL_law_240 : decode cL_law 240 = .ok (.irem, 1) := by decide +kernel
theorem dL_law_241 : decode cL_law 241 = .ok (.ifCond .ne 14, 3) := by decide +kernel
theorem dL_law_244 : decode cL_law 244 = .ok (.aload_n 1, 1) := by decide +kernel
theorem dL_law_245 : decode cL_law 245 = .ok (.iconst 0, 1) := by decide +kernel
theorem dL_law_246 : decode cL_law 246 = .ok (.iconst 0, 1) := by decide +kernel
theorem dL_law_247 : decode cL_law 247 = .ok (.invokestatic 95, 3) := by decide +kernel
theorem dL_law_250 : decode cL_law 250 = .ok (.ifCond .ne 5, 3) := by decide +kernel
theorem dL_law_253 : decode cL_law 253 = .ok (.iconst 0, 1) := by decide +kernel
theorem dL_law_254 : decode cL_law 254 = .ok (.ireturn, 1) := by decide +kernel
theorem dL_law_255 : decode cL_law 255 = .ok (.iinc 2 1, 3) := by decide +kernel
theorem dL_law_258 : decode cL_law 258 = .ok (.goto (-211), 3) := by decide +kernel
theorem dL_law_261 : decode cL_law 261 = .ok (.iconst 1, 1) := by decide +kernel
theorem dL_law_262 : decode cL_law 262 = .ok (.ireturn, 1) := by decide +kernel
set_option maxRecDepth 20000 in
theorem ggL_is_X2_kindOf : GoodIn wsL_is wsX2_kindOf := goodIn_ca (goodIn_r _ [5, 6, 7, 8, 9, 4, 10, 11, 12, 13, 14, 15, 16, 17, 18, 19, 20, 21, 22, 39, 40, 41, 42, 43, 44, 45, 46, 47, 48, 49, 50, 51, 52] (by decide +kernel) (by decide +kernel)) (goodIn_sub (fun _ h => List.mem_cons_of_mem _ (List.mem_append_right _ h)) (by decide +kernel))
set_option maxRecDepth 20000 in
theorem gL_is_X2_kindOf : GoodIn wsL_is (wsV RL 60 RX2 yX2_kindOf wsX2_kindOf) := goodIn_app (goodIn_of _ (by decide +kernel)) ggL_is_X2_kindOf
set_option maxRecDepth 20000 in
theorem ggL_is_X2_keyOf : GoodIn wsL_is wsX2_keyOf := goodIn_ca (goodIn_r _ [26, 6, 7, 8, 9, 4, 10, 11, 12, 13, 14, 15, 16, 17, 27, 28, 29, 30, 22, 39, 40, 41, 42, 43, 44, 45, 46, 47, 48, 49, 50, 51, 52] (by decide +kernel) (by decide +kernel)) (goodIn_sub (fun _ h => List.mem_cons_of_mem _ (List.mem_append_right _ h)) (by decide +kernel))
set_option maxRecDepth 20000 in
theorem gL_is_X2_keyOf : GoodIn wsL_is (wsV RL 63 RX2 yX2_keyOf wsX2_keyOf) := goodIn_app (goodIn_of _ (by decide +kernel)) ggL_is_X2_keyOf
set_option maxRecDepth 20000 in
theorem ggL_is_X2_columnOf : GoodIn wsL_is wsX2_columnOf := goodIn_ca (goodIn_r _ [34, 6, 7, 8, 9, 4, 10, 11, 12, 13, 14, 15, 16, 17, 35, 36, 37, 38, 22, 39, 40, 41, 42, 43, 44, 45, 46, 47, 48, 49, 50, 51, 52] (by decide +kernel) (by decide +kernel)) (goodIn_sub (fun _ h => List.mem_cons_of_mem _ (List.mem_append_right _ h)) (by decide +kernel))
set_option maxRecDepth 20000 in
theorem gL_is_X2_columnOf : GoodIn wsL_is (wsV RL 66 RX2 yX2_columnOf wsX2_columnOf) := goodIn_app (goodIn_of _ (by decide +kernel)) ggL_is_X2_columnOf
set_option maxRecDepth 20000 in
theorem gq_agrees_wsL_act_r1 : GoodIn wsL_agrees wsL_act_r1 := (goodIn_r wsL_act_r1 [5, 6, 7, 8, 9, 10, 11, 12, 13, 14, 15, 16, 17, 18, 19, 20, 21, 22, 23, 24, 25, 26, 27, 28] (by decide +kernel) (by decide +kernel) : GoodIn wsL_agrees wsL_act_r1)
set_option maxRecDepth 20000 in
theorem gq_agrees_wsL_act_r2 : GoodIn wsL_agrees wsL_act_r2 := (goodIn_r wsL_act_r2 [29, 30, 31, 32, 33, 34, 35, 36, 37, 38, 39, 40, 41, 42, 43, 44, 45, 46, 47, 48, 49, 50, 51, 52] (by decide +kernel) (by decide +kernel) : GoodIn wsL_agrees wsL_act_r2)
set_option maxRecDepth 20000 in
theorem gq_agrees_wsL_act_r3 : GoodIn wsL_agrees wsL_act_r3 := (goodIn_r wsL_act_r3 [53, 54, 55, 56, 57, 58, 59, 60, 61, 62, 63, 64, 65, 66, 67, 68, 69, 70, 71, 72, 73, 74, 75, 76] (by decide +kernel) (by decide +kernel) : GoodIn wsL_agrees wsL_act_r3)
set_option maxRecDepth 20000 in
theorem gq_agrees_wsL_act_r4 : GoodIn wsL_agrees wsL_act_r4 := (goodIn_r wsL_act_r4 [77, 78, 79, 80, 81, 82, 83, 84, 85, 86, 87, 88, 89, 90, 91, 92, 93, 94, 95, 96, 97, 98, 99, 100] (by decide +kernel) (by decide +kernel) : GoodIn wsL_agrees wsL_act_r4)
set_option maxRecDepth 20000 in
theorem gq_agrees_wsL_act_r5 : GoodIn wsL_agrees wsL_act_r5 := (goodIn_r wsL_act_r5 [101, 102, 103, 104, 105, 106, 107, 108, 109, 110, 111, 112, 113, 114, 115, 116, 117, 118, 119, 120, 121, 122, 123, 124] (by decide +kernel) (by decide +kernel) : GoodIn wsL_agrees wsL_act_r5)
set_option maxRecDepth 20000 in
theorem gq_agrees_wsL_act_r6 : GoodIn wsL_agrees wsL_act_r6 := (goodIn_r wsL_act_r6 [125, 126, 127, 128, 129, 130, 131, 132, 133, 134, 135, 136, 137, 138, 139, 140, 141, 142, 143, 144, 145, 146, 147, 148] (by decide +kernel) (by decide +kernel) : GoodIn wsL_agrees wsL_act_r6)
set_option maxRecDepth 20000 in
theorem gq_agrees_wsL_act_r7 : GoodIn wsL_agrees wsL_act_r7 := (goodIn_r wsL_act_r7 [149, 150, 151, 152, 153, 154, 155, 156, 157, 158, 159, 160, 161, 162, 163, 164, 165, 166, 167, 168, 169, 170, 171, 172] (by decide +kernel) (by decide +kernel) : GoodIn wsL_agrees wsL_act_r7)
set_option maxRecDepth 20000 in
theorem gq_agrees_wsL_act_r8 : GoodIn wsL_agrees wsL_act_r8 := (goodIn_r wsL_act_r8 [173, 174, 175, 176, 177, 178, 179, 180, 181, 182, 183, 184, 185, 186, 187, 188, 189, 190, 191, 192, 193, 194, 195, 196] (by decide +kernel) (by decide +kernel) : GoodIn wsL_agrees wsL_act_r8)
set_option maxRecDepth 20000 in
theorem gq_agrees_wsL_act_r9 : GoodIn wsL_agrees wsL_act_r9 := (goodIn_r wsL_act_r9 [197, 198, 199, 200, 201, 202, 203, 204, 205, 206, 207, 208, 209, 210, 211, 212, 213, 214, 215, 216, 217, 218, 219, 220] (by decide +kernel) (by decide +kernel) : GoodIn wsL_agrees wsL_act_r9)
set_option maxRecDepth 20000 in
theorem gq_agrees_wsL_act_r10 : GoodIn wsL_agrees wsL_act_r10 := (goodIn_r wsL_act_r10 [221, 222, 223, 224, 225, 226, 227, 228, 229, 230, 231, 232, 233, 234, 235, 236, 237, 238, 239, 240, 241, 242, 243, 244] (by decide +kernel) (by decide +kernel) : GoodIn wsL_agrees wsL_act_r10)
set_option maxRecDepth 20000 in
theorem gq_agrees_wsL_act_r11 : GoodIn wsL_agrees wsL_act_r11 := (goodIn_r wsL_act_r11 [245, 246, 247, 248, 249, 250, 251, 252, 253, 254, 255, 256, 257, 258, 259, 260, 261, 262, 263, 264, 265, 266, 267, 268] (by decide +kernel) (by decide +kernel) : GoodIn wsL_agrees wsL_act_r11)
set_option maxRecDepth 20000 in
theorem gq_agrees_wsL_act_r12 : GoodIn wsL_agrees wsL_act_r12 := (goodIn_r wsL_act_r12 [269, 270, 271, 272, 273, 274, 275, 276, 277, 278, 279, 280, 281, 282, 283, 284, 285, 286, 287, 288, 289, 290, 291, 292] (by decide +kernel) (by decide +kernel) : GoodIn wsL_agrees wsL_act_r12)
set_option maxRecDepth 20000 in
theorem gq_agrees_wsL_act_r13 : GoodIn wsL_agrees wsL_act_r13 := (goodIn_r wsL_act_r13 [293, 294, 295, 296] (by decide +kernel) (by decide +kernel) : GoodIn wsL_agrees wsL_act_r13)
set_option maxRecDepth 20000 in
theorem ggL_agrees_L_act : GoodIn wsL_agrees wsL_act := goodIn_ca (goodIn_ca (goodIn_ca (gi_c (List.mem_cons_of_mem _ (List.mem_append_left _ (List.mem_append_left _ (List.mem_append_left _ (List.mem_append_left _ (List.mem_append_left _ (List.mem_append_left _ (List.mem_append_left _ (List.mem_of_getElem? (l := wsL_agrees_r1) (i := 3) rfl))))))))) rfl (goodIn_app (goodIn_app (goodIn_app (goodIn_app gq_agrees_wsL_act_r1 (goodIn_app gq_agrees_wsL_act_r2 (goodIn_app gq_agrees_wsL_act_r3 (goodIn_app gq_agrees_wsL_act_r4 (goodIn_app gq_agrees_wsL_act_r5 (goodIn_app gq_agrees_wsL_act_r6 (goodIn_app gq_agrees_wsL_act_r7 (goodIn_app gq_agrees_wsL_act_r8 (goodIn_app gq_agrees_wsL_act_r9 (goodIn_app gq_agrees_wsL_act_r10 (goodIn_app gq_agrees_wsL_act_r11 (goodIn_app gq_agrees_wsL_act_r12 gq_agrees_wsL_act_r13)))))))))))) (goodIn_r wsX20 [297, 298, 299, 300, 301, 302, 303, 304] (by decide +kernel) (by decide +kernel) : GoodIn wsL_agrees wsX20)) (goodIn_r wsX10 [305, 306, 307, 308] (by decide +kernel) (by decide +kernel) : GoodIn wsL_agrees wsX10)) (goodIn_r wsX00 [309, 310, 311, 312, 313, 314] (by decide +kernel) (by decide +kernel) : GoodIn wsL_agrees wsX00))) (goodIn_sub (fun _ h => List.mem_cons_of_mem _ (List.mem_append_left _ (List.mem_append_left _ (List.mem_append_right _ h)))) (by decide +kernel))) (goodIn_sub (fun _ h => List.mem_cons_of_mem _ (List.mem_append_left _ (List.mem_append_right _ h))) (by decide +kernel))) (goodIn_sub (fun _ h => List.mem_cons_of_mem _ (List.mem_append_right _ h)) (by decide +kernel))
set_option maxRecDepth 20000 in
theorem gL_agrees_L_act : GoodIn wsL_agrees (va_wsS RL 85 yL_act wsL_act) := goodIn_app (goodIn_of _ (by decide +kernel)) ggL_agrees_L_act
set_option maxRecDepth 20000 in
theorem ggL_agrees_X2_cellByChanges : GoodIn wsL_agrees wsX2_cellByChanges := goodIn_ca (goodIn_r _ [215, 27, 28, 132, 99, 100, 11, 101, 20, 21, 102, 103, 104, 30, 31, 32, 33, 34, 35, 216, 217, 218, 219, 26, 84, 42, 85, 86, 87, 220, 221, 222, 223, 171, 172, 173, 174, 175, 176, 177, 78, 79, 80, 81, 82, 83, 70, 41, 43, 44, 45, 224, 225, 226, 227, 228, 229, 230, 231, 232, 233, 234, 165, 166, 167, 168, 169, 67, 68, 69, 49, 235, 236, 237, 238, 125, 126, 127, 239, 240, 241, 242, 243, 244, 245, 246, 247, 248, 249, 297, 298, 299, 300, 301, 302, 303, 304, 305, 306, 307, 308] (by decide +kernel) (by decide +kernel)) (goodIn_sub (fun _ h => List.mem_cons_of_mem _ (List.mem_append_left _ (List.mem_append_right _ h))) (by decide +kernel))
set_option maxRecDepth 20000 in
theorem gL_agrees_X2_cellByChanges : GoodIn wsL_agrees (wsV RL 57 RX2 yX2_cellByChanges wsX2_cellByChanges) := goodIn_app (goodIn_of _ (by decide +kernel)) ggL_agrees_X2_cellByChanges
set_option maxRecDepth 20000 in
theorem ggL_refuses_X2_conflicts : GoodIn wsL_refuses wsX2_conflicts := goodIn_r _ [6, 7, 306, 307, 308, 309, 310, 311, 312, 313, 314, 315, 316, 317, 318, 319] (by decide +kernel) (by decide +kernel)
set_option maxRecDepth 20000 in
theorem gL_refuses_X2_conflicts : GoodIn wsL_refuses (wsV RL 78 RX2 yX2_conflicts wsX2_conflicts) := goodIn_app (goodIn_of _ (by decide +kernel)) ggL_refuses_X2_conflicts
set_option maxRecDepth 20000 in
theorem ggL_refuses_X2_open : GoodIn wsL_refuses wsX2_open := goodIn_r _ [11, 7, 306, 307, 308, 309, 310, 311, 312, 313, 314, 315, 316, 317, 318, 319] (by decide +kernel) (by decide +kernel)
set_option maxRecDepth 20000 in
theorem gL_refuses_X2_open : GoodIn wsL_refuses (wsV RL 81 RX2 yX2_open wsX2_open) := goodIn_app (goodIn_of _ (by decide +kernel)) ggL_refuses_X2_open
set_option maxRecDepth 20000 in
theorem gq_refuses_wsL_act_r1 : GoodIn wsL_refuses wsL_act_r1 := (goodIn_r wsL_act_r1 [16, 17, 18, 19, 20, 21, 5, 22, 23, 24, 25, 26, 27, 28, 29, 30, 31, 32, 33, 34, 35, 36, 37, 38] (by decide +kernel) (by decide +kernel) : GoodIn wsL_refuses wsL_act_r1)
set_option maxRecDepth 20000 in
theorem gq_refuses_wsL_act_r2 : GoodIn wsL_refuses wsL_act_r2 := (goodIn_r wsL_act_r2 [39, 40, 41, 42, 43, 44, 45, 46, 47, 48, 49, 50, 51, 52, 53, 54, 55, 56, 57, 58, 59, 60, 61, 62] (by decide +kernel) (by decide +kernel) : GoodIn wsL_refuses wsL_act_r2)
set_option maxRecDepth 20000 in
theorem gq_refuses_wsL_act_r3 : GoodIn wsL_refuses wsL_act_r3 := (goodIn_r wsL_act_r3 [63, 64, 65, 66, 67, 68, 69, 70, 71, 72, 73, 74, 75, 76, 77, 78, 79, 80, 81, 82, 83, 84, 85, 86] (by decide +kernel) (by decide +kernel) : GoodIn wsL_refuses wsL_act_r3)
set_option maxRecDepth 20000 in
theorem gq_refuses_wsL_act_r4 : GoodIn wsL_refuses wsL_act_r4 := (goodIn_r wsL_act_r4 [87, 88, 89, 90, 91, 92, 93, 94, 95, 96, 97, 98, 99, 100, 101, 102, 103, 104, 105, 106, 107, 108, 109, 110] (by decide +kernel) (by decide +kernel) : GoodIn wsL_refuses wsL_act_r4)
set_option maxRecDepth 20000 in
theorem gq_refuses_wsL_act_r5 : GoodIn wsL_refuses wsL_act_r5 := (goodIn_r wsL_act_r5 [111, 112, 113, 114, 115, 116, 117, 118, 119, 120, 121, 122, 123, 124, 125, 126, 127, 128, 129, 130, 131, 132, 133, 134] (by decide +kernel) (by decide +kernel) : GoodIn wsL_refuses wsL_act_r5)
set_option maxRecDepth 20000 in
theorem gq_refuses_wsL_act_r6 : GoodIn wsL_refuses wsL_act_r6 := (goodIn_r wsL_act_r6 [135, 136, 137, 138, 139, 140, 141, 142, 143, 144, 145, 146, 147, 148, 149, 150, 151, 152, 153, 154, 155, 156, 157, 158] (by decide +kernel) (by decide +kernel) : GoodIn wsL_refuses wsL_act_r6)
set_option maxRecDepth 20000 in
theorem gq_refuses_wsL_act_r7 : GoodIn wsL_refuses wsL_act_r7 := (goodIn_r wsL_act_r7 [159, 160, 161, 162, 163, 164, 165, 166, 167, 168, 169, 170, 171, 172, 173, 174, 175, 176, 177, 178, 179, 180, 181, 182] (by decide +kernel) (by decide +kernel) : GoodIn wsL_refuses wsL_act_r7)
set_option maxRecDepth 20000 in
theorem gq_refuses_wsL_act_r8 : GoodIn wsL_refuses wsL_act_r8 := (goodIn_r wsL_act_r8 [183, 184, 185, 186, 187, 188, 189, 190, 191, 7, 192, 193, 194, 195, 196, 197, 198, 199, 200, 201, 202, 203, 204, 205] (by decide +kernel) (by decide +kernel) : GoodIn wsL_refuses wsL_act_r8)
set_option maxRecDepth 20000 in
theorem gq_refuses_wsL_act_r9 : GoodIn wsL_refuses wsL_act_r9 := (goodIn_r wsL_act_r9 [206, 207, 208, 209, 210, 211, 212, 213, 214, 215, 216, 217, 218, 219, 220, 221, 222, 223, 224, 225, 226, 227, 228, 229] (by decide +kernel) (by decide +kernel) : GoodIn wsL_refuses wsL_act_r9)
set_option maxRecDepth 20000 in
theorem gq_refuses_wsL_act_r10 : GoodIn wsL_refuses wsL_act_r10 := (goodIn_r wsL_act_r10 [230, 231, 232, 233, 234, 235, 236, 237, 238, 239, 240, 241, 242, 243, 244, 245, 246, 247, 248, 249, 250, 251, 252, 253] (by decide +kernel) (by decide +kernel) : GoodIn wsL_refuses wsL_act_r10)
set_option maxRecDepth 20000 in
theorem gq_refuses_wsL_act_r11 : GoodIn wsL_refuses wsL_act_r11 := (goodIn_r wsL_act_r11 [254, 255, 256, 257, 258, 259, 260, 261, 262, 263, 264, 265, 266, 267, 268, 269, 270, 271, 272, 273, 274, 275, 276, 277] (by decide +kernel) (by decide +kernel) : GoodIn wsL_refuses wsL_act_r11)
set_option maxRecDepth 20000 in
theorem gq_refuses_wsL_act_r12 : GoodIn wsL_refuses wsL_act_r12 := (goodIn_r wsL_act_r12 [278, 279, 280, 281, 282, 283, 284, 285, 286, 287, 288, 289, 290, 291, 292, 293, 294, 295, 296, 297, 298, 299, 300, 301] (by decide +kernel) (by decide +kernel) : GoodIn wsL_refuses wsL_act_r12)
set_option maxRecDepth 20000 in
theorem gq_refuses_wsL_act_r13 : GoodIn wsL_refuses wsL_act_r13 := (goodIn_r wsL_act_r13 [302, 303, 304, 305] (by decide +kernel) (by decide +kernel) : GoodIn wsL_refuses wsL_act_r13)
set_option maxRecDepth 20000 in
theorem ggL_refuses_L_act : GoodIn wsL_refuses wsL_act := goodIn_ca (goodIn_ca (goodIn_ca (gi_c (List.mem_cons_of_mem _ (List.mem_append_left _ (List.mem_append_left _ (List.mem_append_left _ (List.mem_append_left _ (List.mem_append_left _ (List.mem_append_left _ (List.mem_append_left _ (List.mem_of_getElem? (l := wsL_refuses_r1) (i := 14) rfl))))))))) rfl (goodIn_app (goodIn_app (goodIn_app (goodIn_app gq_refuses_wsL_act_r1 (goodIn_app gq_refuses_wsL_act_r2 (goodIn_app gq_refuses_wsL_act_r3 (goodIn_app gq_refuses_wsL_act_r4 (goodIn_app gq_refuses_wsL_act_r5 (goodIn_app gq_refuses_wsL_act_r6 (goodIn_app gq_refuses_wsL_act_r7 (goodIn_app gq_refuses_wsL_act_r8 (goodIn_app gq_refuses_wsL_act_r9 (goodIn_app gq_refuses_wsL_act_r10 (goodIn_app gq_refuses_wsL_act_r11 (goodIn_app gq_refuses_wsL_act_r12 gq_refuses_wsL_act_r13)))))))))))) (goodIn_r wsX20 [306, 307, 308, 309, 310, 311, 312, 313] (by decide +kernel) (by decide +kernel) : GoodIn wsL_refuses wsX20)) (goodIn_r wsX10 [320, 321, 322, 323] (by decide +kernel) (by decide +kernel) : GoodIn wsL_refuses wsX10)) (goodIn_r wsX00 [314, 315, 316, 317, 318, 319] (by decide +kernel) (by decide +kernel) : GoodIn wsL_refuses wsX00))) (goodIn_sub (fun _ h => List.mem_cons_of_mem _ (List.mem_append_left _ (List.mem_append_left _ (List.mem_append_right _ h)))) (by decide +kernel))) (goodIn_sub (fun _ h => List.mem_cons_of_mem _ (List.mem_append_left _ (List.mem_append_right _ h))) (by decide +kernel))) (goodIn_sub (fun _ h => List.mem_cons_of_mem _ (List.mem_append_right _ h)) (by decide +kernel))
set_option maxRecDepth 20000 in
theorem gL_refuses_L_act : GoodIn wsL_refuses (va_wsS RL 85 yL_act wsL_act) := goodIn_app (goodIn_of _ (by decide +kernel)) ggL_refuses_L_act
