theorem dJ9_max_7cf53_0 : decode cJ9_max_7cf53 0 = .ok (.iload_n 0, 1) := by decide +kernel
theorem dJ9_max_7cf53_1 : decode cJ9_max_7cf53 1 = .ok (.iload_n 1, 1) := by decide +kernel
theorem dJ9_max_7cf53_2 : decode cJ9_max_7cf53 2 = .ok (.if_icmp .lt 7, 3) := by decide +kernel
theorem dJ9_max_7cf53_5 : decode cJ9_max_7cf53 5 = .ok (.iload_n 0, 1) := by decide +kernel
theorem dJ9_max_7cf53_6 : decode cJ9_max_7cf53 6 = .ok (.goto 4, 3) := by decide +kernel
theorem dJ9_max_7cf53_9 : decode cJ9_max_7cf53 9 = .ok (.iload_n 1, 1) := by decide +kernel
theorem dJ9_max_7cf53_10 : decode cJ9_max_7cf53 10 = .ok (.ireturn, 1) := by decide +kernel
theorem dJ9_min_7cf53_0 : decode cJ9_min_7cf53 0 = .ok (.iload_n 0, 1) := by decide +kernel
theorem dJ9_min_7cf53_1 : decode cJ9_min_7cf53 1 = .ok (.iload_n 1, 1) := by decide +kernel
theorem dJ9_min_7cf53_2 : decode cJ9_min_7cf53 2 = .ok (.if_icmp .gt 7, 3) := by decide +kernel
theorem dJ9_min_7cf53_5 : decode cJ9_min_7cf53 5 = .ok (.iload_n 0, 1) := by decide +kernel
theorem dJ9_min_7cf53_6 : decode cJ9_min_7cf53 6 = .ok (.goto 4, 3) := by decide +kernel
theorem dJ9_min_7cf53_9 : decode cJ9_min_7cf53 9 = .ok (.iload_n 1, 1) := by decide +kernel
theorem dJ9_min_7cf53_10 : decode cJ9_min_7cf53 10 = .ok (.ireturn, 1) := by decide +kernel
theorem dL_cell_0 : decode cL_cell 0 = .ok (.iload_n 1, 1) := by decide +kernel
theorem dL_cell_1 : decode cL_cell 1 = .ok (.aload_n 0, 1) := by decide +kernel
theorem dL_cell_2 : decode cL_cell 2 = .ok (.arraylength, 1) := by decide +kernel
theorem dL_cell_3 : decode cL_cell 3 = .ok (.if_icmp .ge 9, 3) := by decide +kernel
theorem dL_cell_6 : decode cL_cell 6 = .ok (.aload_n 0, 1) := by decide +kernel
theorem dL_cell_7 : decode cL_cell 7 = .ok (.iload_n 1, 1) := by decide +kernel
theorem dL_cell_8 : decode cL_cell 8 = .ok (.iaload, 1) := by decide +kernel
theorem dL_cell_9 : decode cL_cell 9 = .ok (.goto 11, 3) := by decide +kernel
theorem dL_cell_12 : decode cL_cell 12 = .ok (.ldc 7, 2) := by decide +kernel
theorem dL_cell_14 : decode cL_cell 14 = .ok (.iload_n 1, 1) := by decide +kernel
theorem dL_cell_15 : decode cL_cell 15 = .ok (.sipush 251, 3) := by decide +kernel
theorem dL_cell_18 : decode cL_cell 18 = .ok (.iadd, 1) := by decide +kernel
theorem dL_cell_19 : decode cL_cell 19 = .ok (.imul, 1) := by decide +kernel
theorem dL_cell_20 : decode cL_cell 20 = .ok (.ireturn, 1) := by decide +kernel
theorem dL_up_0 : decode cL_up 0 = .ok (.iload_n 0, 1) := by decide +kernel
theorem dL_up_1 : decode cL_up 1 = .ok (.ldc 8, 2) := by decide +kernel
theorem dL_up_3 : decode cL_up 3 = .ok (.iand, 1) := by decide +kernel
theorem dL_up_4 : decode cL_up 4 = .ok (.iload_n 1, 1) := by decide +kernel
theorem dL_up_5 : decode cL_up 5 = .ok (.irem, 1) := by decide +kernel
theorem dL_up_6 : decode cL_up 6 = .ok (.ireturn, 1) := by decide +kernel
theorem dL_size_0 : decode cL_size 0 = .ok (.iload_n 0, 1) := by decide +kernel
theorem dL_size_1 : decode cL_size 1 = .ok (.ifCond .ge 8, 3) := by decide +kernel
theorem dL_size_4 : decode cL_size 4 = .ok (.iload_n 0, 1) := by decide +kernel
theorem dL_size_5 : decode cL_size 5 = .ok (.ineg, 1) := by decide +kernel
theorem dL_size_6 : decode cL_size 6 = .ok (.goto 4, 3) := by decide +kernel
theorem dL_size_9 : decode cL_size 9 = .ok (.iload_n 0, 1) := by decide +kernel
theorem dL_size_10 : decode cL_size 10 = .ok (.ireturn, 1) := by decide +kernel
theorem dL_within_0 : decode cL_within 0 = .ok (.iload_n 0, 1) := by decide +kernel
theorem dL_within_1 : decode cL_within 1 = .ok (.iload_n 1, 1) := by decide +kernel
theorem dL_within_2 : decode cL_within 2 = .ok (.if_icmp .ge 7, 3) := by decide +kernel
theorem dL_within_5 : decode cL_within 5 = .ok (.iload_n 1, 1) := by decide +kernel
theorem dL_within_6 : decode cL_within 6 = .ok (.goto 13, 3) := by decide +kernel
theorem dL_within_9 : decode cL_within 9 = .ok (.iload_n 0, 1) := by decide +kernel
theorem dL_within_10 : decode cL_within 10 = .ok (.iload_n 2, 1) := by decide +kernel
theorem dL_within_11 : decode cL_within 11 = .ok (.if_icmp .le 7, 3) := by decide +kernel
theorem dL_within_14 : decode cL_within 14 = .ok (.iload_n 2, 1) := by decide +kernel
theorem dL_within_15 : decode cL_within 15 = .ok (.goto 4, 3) := by decide +kernel
theorem dL_within_18 : decode cL_within 18 = .ok (.iload_n 0, 1) := by decide +kernel
theorem dL_within_19 : decode cL_within 19 = .ok (.ireturn, 1) := by decide +kernel
theorem dL_acts_0 : decode cL_acts 0 = .ok (.iload_n 1, 1) := by decide +kernel
theorem dL_acts_1 : decode cL_acts 1 = .ok (.bipush 16, 2) := by decide +kernel
theorem dL_acts_3 : decode cL_acts 3 = .ok (.invokestatic 9, 3) := by decide +kernel
theorem dL_acts_6 : decode cL_acts 6 = .ok (.tableswitch 441 0 8 #[50, 50, 115, 158, 158, 279, 304, 329, 398], 50) := by decide +kernel
theorem dL_acts_56 : decode cL_acts 56 = .ok (.aload_n 0, 1) := by decide +kernel
theorem dL_acts_57 : decode cL_acts 57 = .ok (.invokevirtual 15, 3) := by decide +kernel
theorem dL_acts_60 : decode cL_acts 60 = .ok (.istore_n 3, 1) := by decide +kernel
theorem dL_acts_61 : decode cL_acts 61 = .ok (.aload_n 0, 1) := by decide +kernel
theorem dL_acts_62 : decode cL_acts 62 = .ok (.iload_n 2, 1) := by decide +kernel
theorem dL_acts_63 : decode cL_acts 63 = .ok (.iconst 1, 1) := by decide +kernel
theorem dL_acts_64 : decode cL_acts 64 = .ok (.iand, 1) := by decide +kernel
theorem dL_acts_65 : decode cL_acts 65 = .ok (.iconst 1, 1) := by decide +kernel
theorem dL_acts_66 : decode cL_acts 66 = .ok (.if_icmp .ne 7, 3) := by decide +kernel
theorem dL_acts_69 : decode cL_acts 69 = .ok (.iconst 1, 1) := by decide +kernel
theorem dL_acts_70 : decode cL_acts 70 = .ok (.goto 4, 3) := by decide +kernel
theorem dL_acts_73 : decode cL_acts 73 = .ok (.iconst 0, 1) := by decide +kernel
theorem dL_acts_74 : decode cL_acts 74 = .ok (.invokevirtual 21, 3) := by decide +kernel
theorem dL_acts_77 : decode cL_acts 77 = .ok (.iload_n 3, 1) := by decide +kernel
theorem dL_acts_78 : decode cL_acts 78 = .ok (.if_icmp .ne 41, 3) := by decide +kernel
theorem dL_acts_81 : decode cL_acts 81 = .ok (.aload_n 0, 1) := by decide +kernel
theorem dL_acts_82 : decode cL_acts 82 = .ok (.invokevirtual 15, 3) := by decide +kernel
theorem dL_acts_85 : decode cL_acts 85 = .ok (.iload_n 2, 1) := by decide +kernel
theorem dL_acts_86 : decode cL_acts 86 = .ok (.iconst 1, 1) := by decide +kernel
theorem dL_acts_87 : decode cL_acts 87 = .ok (.iand, 1) := by decide +kernel
theorem dL_acts_88 : decode cL_acts 88 = .ok (.iconst 1, 1) := by decide +kernel
theorem dL_acts_89 : decode cL_acts 89 = .ok (.if_icmp .ne 7, 3) := by decide +kernel
theorem dL_acts_92 : decode cL_acts 92 = .ok (.iconst 1, 1) := by decide +kernel
theorem dL_acts_93 : decode cL_acts 93 = .ok (.goto 4, 3) := by decide +kernel
theorem dL_acts_96 : decode cL_acts 96 = .ok (.iconst 0, 1) := by decide +kernel
theorem dL_acts_97 : decode cL_acts 97 = .ok (.if_icmp .ne 22, 3) := by decide +kernel
theorem dL_acts_100 : decode cL_acts 100 = .ok (.aload_n 0, 1) := by decide +kernel
theorem dL_acts_101 : decode cL_acts 101 = .ok (.invokevirtual 15, 3) := by decide +kernel
theorem dL_acts_104 : decode cL_acts 104 = .ok (.iload_n 3, 1) := by decide +kernel
theorem dL_acts_105 : decode cL_acts 105 = .ok (.if_icmp .eq 10, 3) := by decide +kernel
theorem dL_acts_108 : decode cL_acts 108 = .ok (.aload_n 0, 1) := by decide +kernel
theorem dL_acts_109 : decode cL_acts 109 = .ok (.invokevirtual 25, 3) := by decide +kernel
theorem dL_acts_112 : decode cL_acts 112 = .ok (.ifCond .ne 7, 3) := by decide +kernel
theorem dL_acts_115 : decode cL_acts 115 = .ok (.iconst 1, 1) := by decide +kernel
theorem dL_acts_116 : decode cL_acts 116 = .ok (.goto 4, 3) := by decide +kernel
theorem dL_acts_119 : decode cL_acts 119 = .ok (.iconst 0, 1) := by decide +kernel
theorem dL_acts_120 : decode cL_acts 120 = .ok (.ireturn, 1) := by decide +kernel
theorem dL_acts_121 : decode cL_acts 121 = .ok (.aload_n 0, 1) := by decide +kernel
theorem dL_acts_122 : decode cL_acts 122 = .ok (.invokevirtual 29, 3) := by decide +kernel
theorem dL_acts_125 : decode cL_acts 125 = .ok (.istore 4, 2) := by decide +kernel
theorem dL_acts_127 : decode cL_acts 127 = .ok (.aload_n 0, 1) := by decide +kernel
theorem dL_acts_128 : decode cL_acts 128 = .ok (.sipush 9000, 3) := by decide +kernel
theorem dL_acts_131 : decode cL_acts 131 = .ok (.iload_n 2, 1) := by decide +kernel
theorem dL_acts_132 : decode cL_acts 132 = .ok (.sipush 1801, 3) := by decide +kernel
theorem dL_acts_135 : decode cL_acts 135 = .ok (.invokestatic 9, 3) := by decide +kernel
theorem dL_acts_138 : decode cL_acts 138 = .ok (.iadd, 1) := by decide +kernel
theorem dL_acts_139 : decode cL_acts 139 = .ok (.invokevirtual 32, 3) := by decide +kernel
theorem dL_acts_142 : decode cL_acts 142 = .ok (.iload 4, 2) := by decide +kernel
theorem dL_acts_144 : decode cL_acts 144 = .ok (.if_icmp .ne 18, 3) := by decide +kernel
theorem dL_acts_147 : decode cL_acts 147 = .ok (.aload_n 0, 1) := by decide +kernel
theorem dL_acts_148 : decode cL_acts 148 = .ok (.invokevirtual 36, 3) := by decide +kernel
theorem dL_acts_151 : decode cL_acts 151 = .ok (.aload_n 0, 1) := by decide +kernel
theorem dL_acts_152 : decode cL_acts 152 = .ok (.invokevirtual 39, 3) := by decide +kernel
theorem dL_acts_155 : decode cL_acts 155 = .ok (.if_icmp .ne 7, 3) := by decide +kernel
theorem dL_acts_158 : decode cL_acts 158 = .ok (.iconst 1, 1) := by decide +kernel
theorem dL_acts_159 : decode cL_acts 159 = .ok (.goto 4, 3) := by decide +kernel
theorem dL_acts_162 : decode cL_acts 162 = .ok (.iconst 0, 1) := by decide +kernel
theorem dL_acts_163 : decode cL_acts 163 = .ok (.ireturn, 1) := by decide +kernel
theorem dL_acts_164 : decode cL_acts 164 = .ok (.iload_n 2, 1) := by decide +kernel
theorem dL_acts_165 : decode cL_acts 165 = .ok (.iconst 1, 1) := by decide +kernel
theorem dL_acts_166 : decode cL_acts 166 = .ok (.iand, 1) := by decide +kernel
theorem dL_acts_167 : decode cL_acts 167 = .ok (.ifCond .ne 18, 3) := by decide +kernel
theorem dL_acts_170 : decode cL_acts 170 = .ok (.iload_n 2, 1) := by decide +kernel
theorem dL_acts_171 : decode cL_acts 171 = .ok (.iconst 1, 1) := by decide +kernel
theorem dL_acts_172 : decode cL_acts 172 = .ok (.ishr, 1) := by decide +kernel
theorem dL_acts_173 : decode cL_acts 173 = .ok (.ldc 42, 2) := by decide +kernel
theorem dL_acts_175 : decode cL_acts 175 = .ok (.invokestatic 9, 3) := by decide +kernel
theorem dL_acts_178 : decode cL_acts 178 = .ok (.sipush 5000, 3) := by decide +kernel
theorem dL_acts_181 : decode cL_acts 181 = .ok (.isub, 1) := by decide +kernel
theorem dL_acts_182 : decode cL_acts 182 = .ok (.goto 21, 3) := by decide +kernel
theorem dL_acts_185 : decode cL_acts 185 = .ok (.aload_n 0, 1) := by decide +kernel
theorem dL_acts_186 : decode cL_acts 186 = .ok (.invokevirtual 39, 3) := by decide +kernel
theorem dL_acts_189 : decode cL_acts 189 = .ok (.iload_n 2, 1) := by decide +kernel
theorem dL_acts_190 : decode cL_acts 190 = .ok (.iconst 1, 1) := by decide +kernel
theorem dL_acts_191 : decode cL_acts 191 = .ok (.ishr, 1) := by decide +kernel
theorem dL_acts_192 : decode cL_acts 192 = .ok (.sipush 601, 3) := by decide +kernel
theorem dL_acts_195 : decode cL_acts 195 = .ok (.invokestatic 9, 3) := by decide +kernel
theorem dL_acts_198 : decode cL_acts 198 = .ok (.iadd, 1) := by decide +kernel
theorem dL_acts_199 : decode cL_acts 199 = .ok (.sipush 300, 3) := by decide +kernel
theorem dL_acts_202 : decode cL_acts 202 = .ok (.isub, 1) := by decide +kernel
theorem dL_acts_203 : decode cL_acts 203 = .ok (.sipush (-5000), 3) := by decide +kernel
theorem dL_acts_206 : decode cL_acts 206 = .ok (.ldc 43, 2) := by decide +kernel
theorem dL_acts_208 : decode cL_acts 208 = .ok (.invokestatic 44, 3) := by decide +kernel
theorem dL_acts_211 : decode cL_acts 211 = .ok (.istore 5, 2) := by decide +kernel
theorem dL_acts_213 : decode cL_acts 213 = .ok (.aload_n 0, 1) := by decide +kernel
theorem dL_acts_214 : decode cL_acts 214 = .ok (.invokevirtual 39, 3) := by decide +kernel
theorem dL_acts_217 : decode cL_acts 217 = .ok (.iload 5, 2) := by decide +kernel
theorem dL_acts_219 : decode cL_acts 219 = .ok (.isub, 1) := by decide +kernel
theorem dL_acts_220 : decode cL_acts 220 = .ok (.istore 6, 2) := by decide +kernel
theorem dL_acts_222 : decode cL_acts 222 = .ok (.aload_n 0, 1) := by decide +kernel
theorem dL_acts_223 : decode cL_acts 223 = .ok (.invokevirtual 48, 3) := by decide +kernel
theorem dL_acts_226 : decode cL_acts 226 = .ok (.istore 7, 2) := by decide +kernel
theorem dL_acts_228 : decode cL_acts 228 = .ok (.aload_n 0, 1) := by decide +kernel
theorem dL_acts_229 : decode cL_acts 229 = .ok (.invokevirtual 51, 3) := by decide +kernel
theorem dL_acts_232 : decode cL_acts 232 = .ok (.istore 8, 2) := by decide +kernel
theorem dL_acts_234 : decode cL_acts 234 = .ok (.aload_n 0, 1) := by decide +kernel
theorem dL_acts_235 : decode cL_acts 235 = .ok (.iload 5, 2) := by decide +kernel
theorem dL_acts_237 : decode cL_acts 237 = .ok (.invokevirtual 54, 3) := by decide +kernel
theorem dL_acts_240 : decode cL_acts 240 = .ok (.iload 6, 2) := by decide +kernel
theorem dL_acts_242 : decode cL_acts 242 = .ok (.if_icmp .ne 41, 3) := by decide +kernel
theorem dL_acts_245 : decode cL_acts 245 = .ok (.aload_n 0, 1) := by decide +kernel
theorem dL_acts_246 : decode cL_acts 246 = .ok (.invokevirtual 48, 3) := by decide +kernel
theorem dL_acts_249 : decode cL_acts 249 = .ok (.iload 7, 2) := by decide +kernel
theorem dL_acts_251 : decode cL_acts 251 = .ok (.iload 6, 2) := by decide +kernel
theorem dL_acts_253 : decode cL_acts 253 = .ok (.iadd, 1) := by decide +kernel
theorem dL_acts_254 : decode cL_acts 254 = .ok (.if_icmp .ne 29, 3) := by decide +kernel
theorem dL_acts_257 : decode cL_acts 257 = .ok (.aload_n 0, 1) := by decide +kernel
theorem dL_acts_258 : decode cL_acts 258 = .ok (.invokevirtual 51, 3) := by decide +kernel
theorem dL_acts_261 : decode cL_acts 261 = .ok (.iload 8, 2) := by decide +kernel
theorem dL_acts_263 : decode cL_acts 263 = .ok (.iconst 1, 1) := by decide +kernel
theorem dL_acts_264 : decode cL_acts 264 = .ok (.iadd, 1) := by decide +kernel
theorem dL_acts_265 : decode cL_acts 265 = .ok (.if_icmp .ne 18, 3) := by decide +kernel
theorem dL_acts_268 : decode cL_acts 268 = .ok (.aload_n 0, 1) := by decide +kernel
theorem dL_acts_269 : decode cL_acts 269 = .ok (.invokevirtual 36, 3) := by decide +kernel
theorem dL_acts_272 : decode cL_acts 272 = .ok (.aload_n 0, 1) := by decide +kernel
theorem dL_acts_273 : decode cL_acts 273 = .ok (.invokevirtual 39, 3) := by decide +kernel
theorem dL_acts_276 : decode cL_acts 276 = .ok (.if_icmp .ne 7, 3) := by decide +kernel
theorem dL_acts_279 : decode cL_acts 279 = .ok (.iconst 1, 1) := by decide +kernel
theorem dL_acts_280 : decode cL_acts 280 = .ok (.goto 4, 3) := by decide +kernel
theorem dL_acts_283 : decode cL_acts 283 = .ok (.iconst 0, 1) := by decide +kernel
theorem dL_acts_284 : decode cL_acts 284 = .ok (.ireturn, 1) := by decide +kernel
theorem dL_acts_285 : decode cL_acts 285 = .ok (.aload_n 0, 1) := by decide +kernel
theorem dL_acts_286 : decode cL_acts 286 = .ok (.bipush 10, 2) := by decide +kernel
theorem dL_acts_288 : decode cL_acts 288 = .ok (.iload_n 2, 1) := by decide +kernel
theorem dL_acts_289 : decode cL_acts 289 = .ok (.sipush 491, 3) := by decide +kernel
theorem dL_acts_292 : decode cL_acts 292 = .ok (.invokestatic 9, 3) := by decide +kernel
theorem dL_acts_295 : decode cL_acts 295 = .ok (.iadd, 1) := by decide +kernel
theorem dL_acts_296 : decode cL_acts 296 = .ok (.invokevirtual 57, 3) := by decide +kernel
theorem dL_acts_299 : decode cL_acts 299 = .ok (.bipush 10, 2) := by decide +kernel
theorem dL_acts_301 : decode cL_acts 301 = .ok (.if_icmp .lt 7, 3) := by decide +kernel
theorem dL_acts_304 : decode cL_acts 304 = .ok (.iconst 1, 1) := by decide +kernel
theorem dL_acts_305 : decode cL_acts 305 = .ok (.goto 4, 3) := by decide +kernel
theorem dL_acts_308 : decode cL_acts 308 = .ok (.iconst 0, 1) := by decide +kernel
theorem dL_acts_309 : decode cL_acts 309 = .ok (.ireturn, 1) := by decide +kernel
theorem dL_acts_310 : decode cL_acts 310 = .ok (.aload_n 0, 1) := by decide +kernel
theorem dL_acts_311 : decode cL_acts 311 = .ok (.bipush 10, 2) := by decide +kernel
theorem dL_acts_313 : decode cL_acts 313 = .ok (.iload_n 2, 1) := by decide +kernel
theorem dL_acts_314 : decode cL_acts 314 = .ok (.sipush 191, 3) := by decide +kernel
theorem dL_acts_317 : decode cL_acts 317 = .ok (.invokestatic 9, 3) := by decide +kernel
theorem dL_acts_320 : decode cL_acts 320 = .ok (.iadd, 1) := by decide +kernel
theorem dL_acts_321 : decode cL_acts 321 = .ok (.invokevirtual 60, 3) := by decide +kernel
theorem dL_acts_324 : decode cL_acts 324 = .ok (.bipush 10, 2) := by decide +kernel
theorem dL_acts_326 : decode cL_acts 326 = .ok (.if_icmp .lt 7, 3) := by decide +kernel
theorem dL_acts_329 : decode cL_acts 329 = .ok (.iconst 1, 1) := by decide +kernel
theorem dL_acts_330 : decode cL_acts 330 = .ok (.goto 4, 3) := by decide +kernel
theorem dL_acts_333 : decode cL_acts 333 = .ok (.iconst 0, 1) := by decide +kernel
theorem dL_acts_334 : decode cL_acts 334 = .ok (.ireturn, 1) := by decide +kernel
theorem dL_acts_335 : decode cL_acts 335 = .ok (.aload_n 0, 1) := by decide +kernel
theorem dL_acts_336 : decode cL_acts 336 = .ok (.invokevirtual 63, 3) := by decide +kernel
theorem dL_acts_339 : decode cL_acts 339 = .ok (.istore 9, 2) := by decide +kernel
theorem dL_acts_341 : decode cL_acts 341 = .ok (.aload_n 0, 1) := by decide +kernel
theorem dL_acts_342 : decode cL_acts 342 = .ok (.invokevirtual 66, 3) := by decide +kernel
theorem dL_acts_345 : decode cL_acts 345 = .ok (.iload 9, 2) := by decide +kernel
theorem dL_acts_347 : decode cL_acts 347 = .ok (.bipush 10, 2) := by decide +kernel
theorem dL_acts_349 : decode cL_acts 349 = .ok (.if_icmp .ge 10, 3) := by decide +kernel
theorem dL_acts_352 : decode cL_acts 352 = .ok (.iload 9, 2) := by decide +kernel
theorem dL_acts_354 : decode cL_acts 354 = .ok (.iconst 1, 1) := by decide +kernel
theorem dL_acts_355 : decode cL_acts 355 = .ok (.iadd, 1) := by decide +kernel
theorem dL_acts_356 : decode cL_acts 356 = .ok (.goto 5, 3) := by decide +kernel
theorem dL_acts_359 : decode cL_acts 359 = .ok (.bipush 10, 2) := by decide +kernel
theorem dL_acts_361 : decode cL_acts 361 = .ok (.if_icmp .ne 41, 3) := by decide +kernel
theorem dL_acts_364 : decode cL_acts 364 = .ok (.aload_n 0, 1) := by decide +kernel
theorem dL_acts_365 : decode cL_acts 365 = .ok (.aload_n 0, 1) := by decide +kernel
theorem dL_acts_366 : decode cL_acts 366 = .ok (.invokevirtual 63, 3) := by decide +kernel
theorem dL_acts_369 : decode cL_acts 369 = .ok (.iconst 1, 1) := by decide +kernel
theorem dL_acts_370 : decode cL_acts 370 = .ok (.isub, 1) := by decide +kernel
theorem dL_acts_371 : decode cL_acts 371 = .ok (.invokevirtual 69, 3) := by decide +kernel
theorem dL_acts_374 : decode cL_acts 374 = .ok (.aload_n 0, 1) := by decide +kernel
theorem dL_acts_375 : decode cL_acts 375 = .ok (.invokevirtual 72, 3) := by decide +kernel
theorem dL_acts_378 : decode cL_acts 378 = .ok (.if_icmp .ne 24, 3) := by decide +kernel
theorem dL_acts_381 : decode cL_acts 381 = .ok (.aload_n 0, 1) := by decide +kernel
theorem dL_acts_382 : decode cL_acts 382 = .ok (.aload_n 0, 1) := by decide +kernel
theorem dL_acts_383 : decode cL_acts 383 = .ok (.invokevirtual 63, 3) := by decide +kernel
theorem dL_acts_386 : decode cL_acts 386 = .ok (.iconst 1, 1) := by decide +kernel
theorem dL_acts_387 : decode cL_acts 387 = .ok (.isub, 1) := by decide +kernel
theorem dL_acts_388 : decode cL_acts 388 = .ok (.invokevirtual 75, 3) := by decide +kernel
theorem dL_acts_391 : decode cL_acts 391 = .ok (.aload_n 0, 1) := by decide +kernel
theorem dL_acts_392 : decode cL_acts 392 = .ok (.invokevirtual 39, 3) := by decide +kernel
theorem dL_acts_395 : decode cL_acts 395 = .ok (.if_icmp .ne 7, 3) := by decide +kernel
theorem dL_acts_398 : decode cL_acts 398 = .ok (.iconst 1, 1) := by decide +kernel
theorem dL_acts_399 : decode cL_acts 399 = .ok (.goto 4, 3) := by decide +kernel
theorem dL_acts_402 : decode cL_acts 402 = .ok (.iconst 0, 1) := by decide +kernel
theorem dL_acts_403 : decode cL_acts 403 = .ok (.ireturn, 1) := by decide +kernel
theorem dL_acts_404 : decode cL_acts 404 = .ok (.iload_n 2, 1) := by decide +kernel
theorem dL_acts_405 : decode cL_acts 405 = .ok (.iconst 3, 1) := by decide +kernel
theorem dL_acts_406 : decode cL_acts 406 = .ok (.iand, 1) := by decide +kernel
theorem dL_acts_407 : decode cL_acts 407 = .ok (.ifCond .ne 23, 3) := by decide +kernel
theorem dL_acts_410 : decode cL_acts 410 = .ok (.aload_n 0, 1) := by decide +kernel
theorem dL_acts_411 : decode cL_acts 411 = .ok (.iconst 0, 1) := by decide +kernel
theorem dL_acts_412 : decode cL_acts 412 = .ok (.invokevirtual 78, 3) := by decide +kernel
theorem dL_acts_415 : decode cL_acts 415 = .ok (.aload_n 0, 1) := by decide +kernel
theorem dL_acts_416 : decode cL_acts 416 = .ok (.invokevirtual 39, 3) := by decide +kernel
theorem dL_acts_419 : decode cL_acts 419 = .ok (.if_icmp .ne 7, 3) := by decide +kernel
theorem dL_acts_422 : decode cL_acts 422 = .ok (.iconst 1, 1) := by decide +kernel
theorem dL_acts_423 : decode cL_acts 423 = .ok (.goto 23, 3) := by decide +kernel
theorem dL_acts_426 : decode cL_acts 426 = .ok (.iconst 0, 1) := by decide +kernel
theorem dL_acts_427 : decode cL_acts 427 = .ok (.goto 19, 3) := by decide +kernel
theorem dL_acts_430 : decode cL_acts 430 = .ok (.aload_n 0, 1) := by decide +kernel
theorem dL_acts_431 : decode cL_acts 431 = .ok (.invokevirtual 66, 3) := by decide +kernel
theorem dL_acts_434 : decode cL_acts 434 = .ok (.aload_n 0, 1) := by decide +kernel
theorem dL_acts_435 : decode cL_acts 435 = .ok (.invokevirtual 63, 3) := by decide +kernel
theorem dL_acts_438 : decode cL_acts 438 = .ok (.if_icmp .ne 7, 3) := by decide +kernel
theorem dL_acts_441 : decode cL_acts 441 = .ok (.iconst 1, 1) := by decide +kernel
theorem dL_acts_442 : decode cL_acts 442 = .ok (.goto 4, 3) := by decide +kernel
theorem dL_acts_445 : decode cL_acts 445 = .ok (.iconst 0, 1) := by decide +kernel
theorem dL_acts_446 : decode cL_acts 446 = .ok (.ireturn, 1) := by decide +kernel
theorem dL_acts_447 : decode cL_acts 447 = .ok (.iconst 1, 1) := by decide +kernel
theorem dL_acts_448 : decode cL_acts 448 = .ok (.iload_n 2, 1) := by decide +kernel
theorem dL_acts_449 : decode cL_acts 449 = .ok (.iload_n 2, 1) := by decide +kernel
theorem dL_acts_450 : decode cL_acts 450 = .ok (.bipush 9, 2) := by decide +kernel
theorem dL_acts_452 : decode cL_acts 452 = .ok (.ishr, 1) := by decide +kernel
theorem dL_acts_453 : decode cL_acts 453 = .ok (.iconst 3, 1) := by decide +kernel
theorem dL_acts_454 : decode cL_acts 454 = .ok (.iand, 1) := by decide +kernel
theorem dL_acts_455 : decode cL_acts 455 = .ok (.ifCond .ne 8, 3) := by decide +kernel
theorem dL_acts_458 : decode cL_acts 458 = .ok (.bipush 120, 2) := by decide +kernel
theorem dL_acts_460 : decode cL_acts 460 = .ok (.goto 5, 3) := by decide +kernel
theorem dL_acts_463 : decode cL_acts 463 = .ok (.bipush 15, 2) := by decide +kernel
theorem dL_acts_465 : decode cL_acts 465 = .ok (.invokestatic 9, 3) := by decide +kernel
theorem dL_acts_468 : decode cL_acts 468 = .ok (.iadd, 1) := by decide +kernel
theorem dL_acts_469 : decode cL_acts 469 = .ok (.istore 10, 2) := by decide +kernel
theorem dL_acts_471 : decode cL_acts 471 = .ok (.iload_n 2, 1) := by decide +kernel
theorem dL_acts_472 : decode cL_acts 472 = .ok (.bipush 10, 2) := by decide +kernel
theorem dL_acts_474 : decode cL_acts 474 = .ok (.ishr, 1) := by decide +kernel
theorem dL_acts_475 : decode cL_acts 475 = .ok (.iconst 1, 1) := by decide +kernel
theorem dL_acts_476 : decode cL_acts 476 = .ok (.iand, 1) := by decide +kernel
theorem dL_acts_477 : decode cL_acts 477 = .ok (.ifCond .ne 20, 3) := by decide +kernel
theorem dL_acts_480 : decode cL_acts 480 = .ok (.sipush 5000, 3) := by decide +kernel
theorem dL_acts_483 : decode cL_acts 483 = .ok (.iload_n 2, 1) := by decide +kernel
theorem dL_acts_484 : decode cL_acts 484 = .ok (.bipush 11, 2) := by decide +kernel
theorem dL_acts_486 : decode cL_acts 486 = .ok (.ishr, 1) := by decide +kernel
theorem dL_acts_487 : decode cL_acts 487 = .ok (.sipush 6001, 3) := by decide +kernel
theorem dL_acts_490 : decode cL_acts 490 = .ok (.invokestatic 9, 3) := by decide +kernel
theorem dL_acts_493 : decode cL_acts 493 = .ok (.iadd, 1) := by decide +kernel
theorem dL_acts_494 : decode cL_acts 494 = .ok (.goto 22, 3) := by decide +kernel
theorem dL_acts_497 : decode cL_acts 497 = .ok (.aload_n 0, 1) := by decide +kernel
theorem dL_acts_498 : decode cL_acts 498 = .ok (.invokevirtual 81, 3) := by decide +kernel
theorem dL_acts_501 : decode cL_acts 501 = .ok (.iload_n 2, 1) := by decide +kernel
theorem dL_acts_502 : decode cL_acts 502 = .ok (.bipush 11, 2) := by decide +kernel
theorem dL_acts_504 : decode cL_acts 504 = .ok (.ishr, 1) := by decide +kernel
theorem dL_acts_505 : decode cL_acts 505 = .ok (.sipush 301, 3) := by decide +kernel
theorem dL_acts_508 : decode cL_acts 508 = .ok (.invokestatic 9, 3) := by decide +kernel
theorem dL_acts_511 : decode cL_acts 511 = .ok (.iadd, 1) := by decide +kernel
theorem dL_acts_512 : decode cL_acts 512 = .ok (.sipush 150, 3) := by decide +kernel
theorem dL_acts_515 : decode cL_acts 515 = .ok (.isub, 1) := by decide +kernel
theorem dL_acts_516 : decode cL_acts 516 = .ok (.sipush 5000, 3) := by decide +kernel
theorem dL_acts_519 : decode cL_acts 519 = .ok (.sipush 11000, 3) := by decide +kernel
theorem dL_acts_522 : decode cL_acts 522 = .ok (.invokestatic 44, 3) := by decide +kernel
theorem dL_acts_525 : decode cL_acts 525 = .ok (.istore 11, 2) := by decide +kernel
theorem dL_acts_527 : decode cL_acts 527 = .ok (.aload_n 0, 1) := by decide +kernel
theorem dL_acts_528 : decode cL_acts 528 = .ok (.iload 10, 2) := by decide +kernel
theorem dL_acts_530 : decode cL_acts 530 = .ok (.iload 11, 2) := by decide +kernel
theorem dL_acts_532 : decode cL_acts 532 = .ok (.invokestatic 84, 3) := by decide +kernel
theorem dL_acts_535 : decode cL_acts 535 = .ok (.ireturn, 1) := by decide +kernel
