/-! decode rows, by program (wip/whole/names.py) -/
theorem d_B_init_0 : decode c_B_init 0 = .ok (.aload_n 0, 1) := by decide +kernel
theorem d_B_init_1 : decode c_B_init 1 = .ok (.invokespecial 1, 3) := by decide +kernel
theorem d_B_init_4 : decode c_B_init 4 = .ok (.aload_n 0, 1) := by decide +kernel
theorem d_B_init_5 : decode c_B_init 5 = .ok (.new 7, 3) := by decide +kernel
theorem d_B_init_8 : decode c_B_init 8 = .ok (.dup, 1) := by decide +kernel
theorem d_B_init_9 : decode c_B_init 9 = .ok (.getstatic 9, 3) := by decide +kernel
theorem d_B_init_12 : decode c_B_init 12 = .ok (.getstatic 15, 3) := by decide +kernel
theorem d_B_init_15 : decode c_B_init 15 = .ok (.iconst 1, 1) := by decide +kernel
theorem d_B_init_16 : decode c_B_init 16 = .ok (.lconst 1, 1) := by decide +kernel
theorem d_B_init_17 : decode c_B_init 17 = .ok (.iconst 1, 1) := by decide +kernel
theorem d_B_init_18 : decode c_B_init 18 = .ok (.new 18, 3) := by decide +kernel
theorem d_B_init_21 : decode c_B_init 21 = .ok (.dup, 1) := by decide +kernel
theorem d_B_init_22 : decode c_B_init 22 = .ok (.lconst 0, 1) := by decide +kernel
theorem d_B_init_23 : decode c_B_init 23 = .ok (.iconst 0, 1) := by decide +kernel
theorem d_B_init_24 : decode c_B_init 24 = .ok (.invokespecial 20, 3) := by decide +kernel
theorem d_B_init_27 : decode c_B_init 27 = .ok (.invokespecial 23, 3) := by decide +kernel
theorem d_B_init_30 : decode c_B_init 30 = .ok (.putfield 26, 3) := by decide +kernel
theorem d_B_init_33 : decode c_B_init 33 = .ok (.aload_n 0, 1) := by decide +kernel
theorem d_B_init_34 : decode c_B_init 34 = .ok (.new 7, 3) := by decide +kernel
theorem d_B_init_37 : decode c_B_init 37 = .ok (.dup, 1) := by decide +kernel
theorem d_B_init_38 : decode c_B_init 38 = .ok (.getstatic 9, 3) := by decide +kernel
theorem d_B_init_41 : decode c_B_init 41 = .ok (.getstatic 15, 3) := by decide +kernel
theorem d_B_init_44 : decode c_B_init 44 = .ok (.iconst 1, 1) := by decide +kernel
theorem d_B_init_45 : decode c_B_init 45 = .ok (.ldc2_w 30, 3) := by decide +kernel
theorem d_B_init_48 : decode c_B_init 48 = .ok (.iconst 0, 1) := by decide +kernel
theorem d_B_init_49 : decode c_B_init 49 = .ok (.new 32, 3) := by decide +kernel
theorem d_B_init_52 : decode c_B_init 52 = .ok (.dup, 1) := by decide +kernel
theorem d_B_init_53 : decode c_B_init 53 = .ok (.lconst 1, 1) := by decide +kernel
theorem d_B_init_54 : decode c_B_init 54 = .ok (.lconst 0, 1) := by decide +kernel
theorem d_B_init_55 : decode c_B_init 55 = .ok (.ldc2_w 34, 3) := by decide +kernel
theorem d_B_init_58 : decode c_B_init 58 = .ok (.invokespecial 36, 3) := by decide +kernel
theorem d_B_init_61 : decode c_B_init 61 = .ok (.invokespecial 23, 3) := by decide +kernel
theorem d_B_init_64 : decode c_B_init 64 = .ok (.putfield 39, 3) := by decide +kernel
theorem d_B_init_67 : decode c_B_init 67 = .ok (.aload_n 0, 1) := by decide +kernel
theorem d_B_init_68 : decode c_B_init 68 = .ok (.new 42, 3) := by decide +kernel
theorem d_B_init_71 : decode c_B_init 71 = .ok (.dup, 1) := by decide +kernel
theorem d_B_init_72 : decode c_B_init 72 = .ok (.invokespecial 44, 3) := by decide +kernel
theorem d_B_init_75 : decode c_B_init 75 = .ok (.putfield 45, 3) := by decide +kernel
theorem d_B_init_78 : decode c_B_init 78 = .ok (.new 32, 3) := by decide +kernel
theorem d_B_init_81 : decode c_B_init 81 = .ok (.dup, 1) := by decide +kernel
theorem d_B_init_82 : decode c_B_init 82 = .ok (.lconst 1, 1) := by decide +kernel
theorem d_B_init_83 : decode c_B_init 83 = .ok (.lconst 1, 1) := by decide +kernel
theorem d_B_init_84 : decode c_B_init 84 = .ok (.ldc2_w 34, 3) := by decide +kernel
theorem d_B_init_87 : decode c_B_init 87 = .ok (.invokespecial 36, 3) := by decide +kernel
theorem d_B_init_90 : decode c_B_init 90 = .ok (.astore_n 1, 1) := by decide +kernel
theorem d_B_init_91 : decode c_B_init 91 = .ok (.aload_n 0, 1) := by decide +kernel
theorem d_B_init_92 : decode c_B_init 92 = .ok (.bipush 14, 2) := by decide +kernel
theorem d_B_init_94 : decode c_B_init 94 = .ok (.anewarray 49, 3) := by decide +kernel
theorem d_B_init_97 : decode c_B_init 97 = .ok (.putfield 51, 3) := by decide +kernel
theorem d_B_init_100 : decode c_B_init 100 = .ok (.aload_n 0, 1) := by decide +kernel
theorem d_B_init_101 : decode c_B_init 101 = .ok (.getfield 51, 3) := by decide +kernel
theorem d_B_init_104 : decode c_B_init 104 = .ok (.iconst 0, 1) := by decide +kernel
theorem d_B_init_105 : decode c_B_init 105 = .ok (.aload_n 0, 1) := by decide +kernel
theorem d_B_init_106 : decode c_B_init 106 = .ok (.getfield 26, 3) := by decide +kernel
theorem d_B_init_109 : decode c_B_init 109 = .ok (.aastore, 1) := by decide +kernel
theorem d_B_init_110 : decode c_B_init 110 = .ok (.aload_n 0, 1) := by decide +kernel
theorem d_B_init_111 : decode c_B_init 111 = .ok (.getfield 51, 3) := by decide +kernel
theorem d_B_init_114 : decode c_B_init 114 = .ok (.iconst 1, 1) := by decide +kernel
theorem d_B_init_115 : decode c_B_init 115 = .ok (.aload_n 0, 1) := by decide +kernel
theorem d_B_init_116 : decode c_B_init 116 = .ok (.getfield 39, 3) := by decide +kernel
theorem d_B_init_119 : decode c_B_init 119 = .ok (.aastore, 1) := by decide +kernel
theorem d_B_init_120 : decode c_B_init 120 = .ok (.aload_n 0, 1) := by decide +kernel
theorem d_B_init_121 : decode c_B_init 121 = .ok (.getfield 51, 3) := by decide +kernel
theorem d_B_init_124 : decode c_B_init 124 = .ok (.iconst 2, 1) := by decide +kernel
theorem d_B_init_125 : decode c_B_init 125 = .ok (.new 55, 3) := by decide +kernel
theorem d_B_init_128 : decode c_B_init 128 = .ok (.dup, 1) := by decide +kernel
theorem d_B_init_129 : decode c_B_init 129 = .ok (.aload_n 0, 1) := by decide +kernel
theorem d_B_init_130 : decode c_B_init 130 = .ok (.getfield 26, 3) := by decide +kernel
theorem d_B_init_133 : decode c_B_init 133 = .ok (.invokespecial 57, 3) := by decide +kernel
theorem d_B_init_136 : decode c_B_init 136 = .ok (.aastore, 1) := by decide +kernel
theorem d_B_init_137 : decode c_B_init 137 = .ok (.aload_n 0, 1) := by decide +kernel
theorem d_B_init_138 : decode c_B_init 138 = .ok (.getfield 51, 3) := by decide +kernel
theorem d_B_init_141 : decode c_B_init 141 = .ok (.iconst 3, 1) := by decide +kernel
theorem d_B_init_142 : decode c_B_init 142 = .ok (.new 7, 3) := by decide +kernel
theorem d_B_init_145 : decode c_B_init 145 = .ok (.dup, 1) := by decide +kernel
theorem d_B_init_146 : decode c_B_init 146 = .ok (.getstatic 9, 3) := by decide +kernel
theorem d_B_init_149 : decode c_B_init 149 = .ok (.getstatic 60, 3) := by decide +kernel
theorem d_B_init_152 : decode c_B_init 152 = .ok (.bipush 12, 2) := by decide +kernel
theorem d_B_init_154 : decode c_B_init 154 = .ok (.ldc2_w 63, 3) := by decide +kernel
theorem d_B_init_157 : decode c_B_init 157 = .ok (.iconst 1, 1) := by decide +kernel
theorem d_B_init_158 : decode c_B_init 158 = .ok (.aload_n 1, 1) := by decide +kernel
theorem d_B_init_159 : decode c_B_init 159 = .ok (.invokespecial 23, 3) := by decide +kernel
theorem d_B_init_162 : decode c_B_init 162 = .ok (.aastore, 1) := by decide +kernel
theorem d_B_init_163 : decode c_B_init 163 = .ok (.aload_n 0, 1) := by decide +kernel
theorem d_B_init_164 : decode c_B_init 164 = .ok (.getfield 51, 3) := by decide +kernel
theorem d_B_init_167 : decode c_B_init 167 = .ok (.iconst 4, 1) := by decide +kernel
theorem d_B_init_168 : decode c_B_init 168 = .ok (.new 7, 3) := by decide +kernel
theorem d_B_init_171 : decode c_B_init 171 = .ok (.dup, 1) := by decide +kernel
theorem d_B_init_172 : decode c_B_init 172 = .ok (.getstatic 9, 3) := by decide +kernel
theorem d_B_init_175 : decode c_B_init 175 = .ok (.getstatic 60, 3) := by decide +kernel
theorem d_B_init_178 : decode c_B_init 178 = .ok (.bipush 12, 2) := by decide +kernel
theorem d_B_init_180 : decode c_B_init 180 = .ok (.ldc2_w 65, 3) := by decide +kernel
theorem d_B_init_183 : decode c_B_init 183 = .ok (.iconst 1, 1) := by decide +kernel
theorem d_B_init_184 : decode c_B_init 184 = .ok (.aload_n 1, 1) := by decide +kernel
theorem d_B_init_185 : decode c_B_init 185 = .ok (.invokespecial 23, 3) := by decide +kernel
theorem d_B_init_188 : decode c_B_init 188 = .ok (.aastore, 1) := by decide +kernel
theorem d_B_init_189 : decode c_B_init 189 = .ok (.aload_n 0, 1) := by decide +kernel
theorem d_B_init_190 : decode c_B_init 190 = .ok (.getfield 51, 3) := by decide +kernel
theorem d_B_init_193 : decode c_B_init 193 = .ok (.iconst 5, 1) := by decide +kernel
theorem d_B_init_194 : decode c_B_init 194 = .ok (.new 7, 3) := by decide +kernel
theorem d_B_init_197 : decode c_B_init 197 = .ok (.dup, 1) := by decide +kernel
theorem d_B_init_198 : decode c_B_init 198 = .ok (.getstatic 9, 3) := by decide +kernel
theorem d_B_init_201 : decode c_B_init 201 = .ok (.getstatic 67, 3) := by decide +kernel
theorem d_B_init_204 : decode c_B_init 204 = .ok (.bipush 11, 2) := by decide +kernel
theorem d_B_init_206 : decode c_B_init 206 = .ok (.ldc2_w 70, 3) := by decide +kernel
theorem d_B_init_209 : decode c_B_init 209 = .ok (.iconst 1, 1) := by decide +kernel
theorem d_B_init_210 : decode c_B_init 210 = .ok (.new 32, 3) := by decide +kernel
theorem d_B_init_213 : decode c_B_init 213 = .ok (.dup, 1) := by decide +kernel
theorem d_B_init_214 : decode c_B_init 214 = .ok (.ldc2_w 72, 3) := by decide +kernel
theorem d_B_init_217 : decode c_B_init 217 = .ok (.ldc2_w 74, 3) := by decide +kernel
theorem d_B_init_220 : decode c_B_init 220 = .ok (.ldc2_w 76, 3) := by decide +kernel
theorem d_B_init_223 : decode c_B_init 223 = .ok (.invokespecial 36, 3) := by decide +kernel
theorem d_B_init_226 : decode c_B_init 226 = .ok (.invokespecial 23, 3) := by decide +kernel
theorem d_B_init_229 : decode c_B_init 229 = .ok (.aastore, 1) := by decide +kernel
theorem d_B_init_230 : decode c_B_init 230 = .ok (.aload_n 0, 1) := by decide +kernel
theorem d_B_init_231 : decode c_B_init 231 = .ok (.getfield 51, 3) := by decide +kernel
theorem d_B_init_234 : decode c_B_init 234 = .ok (.bipush 6, 2) := by decide +kernel
theorem d_B_init_236 : decode c_B_init 236 = .ok (.new 7, 3) := by decide +kernel
theorem d_B_init_239 : decode c_B_init 239 = .ok (.dup, 1) := by decide +kernel
theorem d_B_init_240 : decode c_B_init 240 = .ok (.getstatic 9, 3) := by decide +kernel
theorem d_B_init_243 : decode c_B_init 243 = .ok (.getstatic 78, 3) := by decide +kernel
theorem d_B_init_246 : decode c_B_init 246 = .ok (.bipush 11, 2) := by decide +kernel
theorem d_B_init_248 : decode c_B_init 248 = .ok (.ldc2_w 81, 3) := by decide +kernel
theorem d_B_init_251 : decode c_B_init 251 = .ok (.iconst 0, 1) := by decide +kernel
theorem d_B_init_252 : decode c_B_init 252 = .ok (.new 83, 3) := by decide +kernel
theorem d_B_init_255 : decode c_B_init 255 = .ok (.dup, 1) := by decide +kernel
theorem d_B_init_256 : decode c_B_init 256 = .ok (.invokespecial 85, 3) := by decide +kernel
theorem d_B_init_259 : decode c_B_init 259 = .ok (.invokespecial 23, 3) := by decide +kernel
theorem d_B_init_262 : decode c_B_init 262 = .ok (.aastore, 1) := by decide +kernel
theorem d_B_init_263 : decode c_B_init 263 = .ok (.aload_n 0, 1) := by decide +kernel
theorem d_B_init_264 : decode c_B_init 264 = .ok (.getfield 51, 3) := by decide +kernel
theorem d_B_init_267 : decode c_B_init 267 = .ok (.bipush 7, 2) := by decide +kernel
theorem d_B_init_269 : decode c_B_init 269 = .ok (.new 7, 3) := by decide +kernel
theorem d_B_init_272 : decode c_B_init 272 = .ok (.dup, 1) := by decide +kernel
theorem d_B_init_273 : decode c_B_init 273 = .ok (.getstatic 9, 3) := by decide +kernel
theorem d_B_init_276 : decode c_B_init 276 = .ok (.getstatic 60, 3) := by decide +kernel
theorem d_B_init_279 : decode c_B_init 279 = .ok (.bipush 12, 2) := by decide +kernel
theorem d_B_init_281 : decode c_B_init 281 = .ok (.ldc2_w 86, 3) := by decide +kernel
theorem d_B_init_284 : decode c_B_init 284 = .ok (.iconst 1, 1) := by decide +kernel
theorem d_B_init_285 : decode c_B_init 285 = .ok (.new 18, 3) := by decide +kernel
theorem d_B_init_288 : decode c_B_init 288 = .ok (.dup, 1) := by decide +kernel
theorem d_B_init_289 : decode c_B_init 289 = .ok (.lconst 0, 1) := by decide +kernel
theorem d_B_init_290 : decode c_B_init 290 = .ok (.iconst 1, 1) := by decide +kernel
theorem d_B_init_291 : decode c_B_init 291 = .ok (.invokespecial 20, 3) := by decide +kernel
theorem d_B_init_294 : decode c_B_init 294 = .ok (.invokespecial 23, 3) := by decide +kernel
theorem d_B_init_297 : decode c_B_init 297 = .ok (.aastore, 1) := by decide +kernel
theorem d_B_init_298 : decode c_B_init 298 = .ok (.aload_n 0, 1) := by decide +kernel
theorem d_B_init_299 : decode c_B_init 299 = .ok (.getfield 51, 3) := by decide +kernel
theorem d_B_init_302 : decode c_B_init 302 = .ok (.bipush 8, 2) := by decide +kernel
theorem d_B_init_304 : decode c_B_init 304 = .ok (.new 7, 3) := by decide +kernel
theorem d_B_init_307 : decode c_B_init 307 = .ok (.dup, 1) := by decide +kernel
theorem d_B_init_308 : decode c_B_init 308 = .ok (.getstatic 88, 3) := by decide +kernel
theorem d_B_init_311 : decode c_B_init 311 = .ok (.getstatic 91, 3) := by decide +kernel
theorem d_B_init_314 : decode c_B_init 314 = .ok (.bipush 18, 2) := by decide +kernel
theorem d_B_init_316 : decode c_B_init 316 = .ok (.ldc2_w 94, 3) := by decide +kernel
theorem d_B_init_319 : decode c_B_init 319 = .ok (.iconst 1, 1) := by decide +kernel
theorem d_B_init_320 : decode c_B_init 320 = .ok (.new 18, 3) := by decide +kernel
theorem d_B_init_323 : decode c_B_init 323 = .ok (.dup, 1) := by decide +kernel
theorem d_B_init_324 : decode c_B_init 324 = .ok (.ldc2_w 96, 3) := by decide +kernel
theorem d_B_init_327 : decode c_B_init 327 = .ok (.iconst 0, 1) := by decide +kernel
theorem d_B_init_328 : decode c_B_init 328 = .ok (.invokespecial 20, 3) := by decide +kernel
theorem d_B_init_331 : decode c_B_init 331 = .ok (.invokespecial 23, 3) := by decide +kernel
theorem d_B_init_334 : decode c_B_init 334 = .ok (.aastore, 1) := by decide +kernel
theorem d_B_init_335 : decode c_B_init 335 = .ok (.aload_n 0, 1) := by decide +kernel
theorem d_B_init_336 : decode c_B_init 336 = .ok (.getfield 51, 3) := by decide +kernel
theorem d_B_init_339 : decode c_B_init 339 = .ok (.bipush 9, 2) := by decide +kernel
theorem d_B_init_341 : decode c_B_init 341 = .ok (.aload_n 0, 1) := by decide +kernel
theorem d_B_init_342 : decode c_B_init 342 = .ok (.getfield 45, 3) := by decide +kernel
theorem d_B_init_345 : decode c_B_init 345 = .ok (.aastore, 1) := by decide +kernel
theorem d_B_init_346 : decode c_B_init 346 = .ok (.aload_n 0, 1) := by decide +kernel
theorem d_B_init_347 : decode c_B_init 347 = .ok (.getfield 51, 3) := by decide +kernel
theorem d_B_init_350 : decode c_B_init 350 = .ok (.bipush 10, 2) := by decide +kernel
theorem d_B_init_352 : decode c_B_init 352 = .ok (.new 98, 3) := by decide +kernel
theorem d_B_init_355 : decode c_B_init 355 = .ok (.dup, 1) := by decide +kernel
theorem d_B_init_356 : decode c_B_init 356 = .ok (.invokespecial 100, 3) := by decide +kernel
theorem d_B_init_359 : decode c_B_init 359 = .ok (.aastore, 1) := by decide +kernel
theorem d_B_init_360 : decode c_B_init 360 = .ok (.aload_n 0, 1) := by decide +kernel
theorem d_B_init_361 : decode c_B_init 361 = .ok (.getfield 51, 3) := by decide +kernel
theorem d_B_init_364 : decode c_B_init 364 = .ok (.bipush 11, 2) := by decide +kernel
theorem d_B_init_366 : decode c_B_init 366 = .ok (.new 101, 3) := by decide +kernel
theorem d_B_init_369 : decode c_B_init 369 = .ok (.dup, 1) := by decide +kernel
theorem d_B_init_370 : decode c_B_init 370 = .ok (.invokespecial 103, 3) := by decide +kernel
theorem d_B_init_373 : decode c_B_init 373 = .ok (.aastore, 1) := by decide +kernel
theorem d_B_init_374 : decode c_B_init 374 = .ok (.aload_n 0, 1) := by decide +kernel
theorem d_B_init_375 : decode c_B_init 375 = .ok (.new 104, 3) := by decide +kernel
theorem d_B_init_378 : decode c_B_init 378 = .ok (.dup, 1) := by decide +kernel
theorem d_B_init_379 : decode c_B_init 379 = .ok (.invokespecial 106, 3) := by decide +kernel
theorem d_B_init_382 : decode c_B_init 382 = .ok (.putfield 107, 3) := by decide +kernel
theorem d_B_init_385 : decode c_B_init 385 = .ok (.return_, 1) := by decide +kernel
theorem d_B_calendarAt_0 : decode c_B_calendarAt 0 = .ok (.iload_n 1, 1) := by decide +kernel
theorem d_B_calendarAt_1 : decode c_B_calendarAt 1 = .ok (.ifCond .lt 18, 3) := by decide +kernel
theorem d_B_calendarAt_4 : decode c_B_calendarAt 4 = .ok (.iload_n 1, 1) := by decide +kernel
theorem d_B_calendarAt_5 : decode c_B_calendarAt 5 = .ok (.bipush 14, 2) := by decide +kernel
theorem d_B_calendarAt_7 : decode c_B_calendarAt 7 = .ok (.if_icmp .ge 12, 3) := by decide +kernel
theorem d_B_calendarAt_10 : decode c_B_calendarAt 10 = .ok (.aload_n 0, 1) := by decide +kernel
theorem d_B_calendarAt_11 : decode c_B_calendarAt 11 = .ok (.getfield 51, 3) := by decide +kernel
theorem d_B_calendarAt_14 : decode c_B_calendarAt 14 = .ok (.iload_n 1, 1) := by decide +kernel
theorem d_B_calendarAt_15 : decode c_B_calendarAt 15 = .ok (.aaload, 1) := by decide +kernel
theorem d_B_calendarAt_16 : decode c_B_calendarAt 16 = .ok (.goto 4, 3) := by decide +kernel
theorem d_B_calendarAt_19 : decode c_B_calendarAt 19 = .ok (.aconst_null, 1) := by decide +kernel
theorem d_B_calendarAt_20 : decode c_B_calendarAt 20 = .ok (.areturn, 1) := by decide +kernel
theorem d_B_ceilDiv_0 : decode c_B_ceilDiv 0 = .ok (.lload_n 0, 1) := by decide +kernel
theorem d_B_ceilDiv_1 : decode c_B_ceilDiv 1 = .ok (.lneg, 1) := by decide +kernel
theorem d_B_ceilDiv_2 : decode c_B_ceilDiv 2 = .ok (.lload_n 2, 1) := by decide +kernel
theorem d_B_ceilDiv_3 : decode c_B_ceilDiv 3 = .ok (.invokestatic 249, 3) := by decide +kernel
theorem d_B_ceilDiv_6 : decode c_B_ceilDiv 6 = .ok (.lneg, 1) := by decide +kernel
theorem d_B_ceilDiv_7 : decode c_B_ceilDiv 7 = .ok (.lreturn, 1) := by decide +kernel
theorem d_B_date_0 : decode c_B_date 0 = .ok (.aload_n 0, 1) := by decide +kernel
theorem d_B_date_1 : decode c_B_date 1 = .ok (.iload_n 1, 1) := by decide +kernel
theorem d_B_date_2 : decode c_B_date 2 = .ok (.invokevirtual 125, 3) := by decide +kernel
theorem d_B_date_5 : decode c_B_date 5 = .ok (.astore 4, 2) := by decide +kernel
theorem d_B_date_7 : decode c_B_date 7 = .ok (.aload 4, 2) := by decide +kernel
theorem d_B_date_9 : decode c_B_date 9 = .ok (.ifnull 12, 3) := by decide +kernel
theorem d_B_date_12 : decode c_B_date 12 = .ok (.iload_n 3, 1) := by decide +kernel
theorem d_B_date_13 : decode c_B_date 13 = .ok (.ifCond .lt 8, 3) := by decide +kernel
theorem d_B_date_16 : decode c_B_date 16 = .ok (.iload_n 3, 1) := by decide +kernel
theorem d_B_date_17 : decode c_B_date 17 = .ok (.iconst 2, 1) := by decide +kernel
theorem d_B_date_18 : decode c_B_date 18 = .ok (.if_icmp .le 11, 3) := by decide +kernel
theorem d_B_date_21 : decode c_B_date 21 = .ok (.new 111, 3) := by decide +kernel
theorem d_B_date_24 : decode c_B_date 24 = .ok (.dup, 1) := by decide +kernel
theorem d_B_date_25 : decode c_B_date 25 = .ok (.invokespecial 113, 3) := by decide +kernel
theorem d_B_date_28 : decode c_B_date 28 = .ok (.athrow, 1) := by decide +kernel
theorem d_B_date_29 : decode c_B_date 29 = .ok (.iload_n 2, 1) := by decide +kernel
theorem d_B_date_30 : decode c_B_date 30 = .ok (.i2l, 1) := by decide +kernel
theorem d_B_date_31 : decode c_B_date 31 = .ok (.invokestatic 129, 3) := by decide +kernel
theorem d_B_date_34 : decode c_B_date 34 = .ok (.ifCond .ne 11, 3) := by decide +kernel
theorem d_B_date_37 : decode c_B_date 37 = .ok (.new 133, 3) := by decide +kernel
theorem d_B_date_40 : decode c_B_date 40 = .ok (.dup, 1) := by decide +kernel
theorem d_B_date_41 : decode c_B_date 41 = .ok (.invokespecial 135, 3) := by decide +kernel
theorem d_B_date_44 : decode c_B_date 44 = .ok (.athrow, 1) := by decide +kernel
theorem d_B_date_45 : decode c_B_date 45 = .ok (.aload 4, 2) := by decide +kernel
theorem d_B_date_47 : decode c_B_date 47 = .ok (.iload_n 2, 1) := by decide +kernel
theorem d_B_date_48 : decode c_B_date 48 = .ok (.i2l, 1) := by decide +kernel
theorem d_B_date_49 : decode c_B_date 49 = .ok (.invokevirtual 136, 3) := by decide +kernel
theorem d_B_date_52 : decode c_B_date 52 = .ok (.lstore 5, 2) := by decide +kernel
theorem d_B_date_54 : decode c_B_date 54 = .ok (.iload_n 3, 1) := by decide +kernel
theorem d_B_date_55 : decode c_B_date 55 = .ok (.ifCond .ne 9, 3) := by decide +kernel
theorem d_B_date_58 : decode c_B_date 58 = .ok (.lload 5, 2) := by decide +kernel
theorem d_B_date_60 : decode c_B_date 60 = .ok (.invokestatic 140, 3) := by decide +kernel
theorem d_B_date_63 : decode c_B_date 63 = .ok (.ireturn, 1) := by decide +kernel
theorem d_B_date_64 : decode c_B_date 64 = .ok (.iload_n 3, 1) := by decide +kernel
theorem d_B_date_65 : decode c_B_date 65 = .ok (.iconst 1, 1) := by decide +kernel
theorem d_B_date_66 : decode c_B_date 66 = .ok (.if_icmp .ne 11, 3) := by decide +kernel
theorem d_B_date_69 : decode c_B_date 69 = .ok (.lload 5, 2) := by decide +kernel
theorem d_B_date_71 : decode c_B_date 71 = .ok (.invokestatic 144, 3) := by decide +kernel
theorem d_B_date_74 : decode c_B_date 74 = .ok (.goto 8, 3) := by decide +kernel
theorem d_B_date_77 : decode c_B_date 77 = .ok (.lload 5, 2) := by decide +kernel
theorem d_B_date_79 : decode c_B_date 79 = .ok (.invokestatic 147, 3) := by decide +kernel
theorem d_B_date_82 : decode c_B_date 82 = .ok (.ireturn, 1) := by decide +kernel
theorem d_B_dayIn_0 : decode c_B_dayIn 0 = .ok (.lload_n 0, 1) := by decide +kernel
theorem d_B_dayIn_1 : decode c_B_dayIn 1 = .ok (.l2i, 1) := by decide +kernel
theorem d_B_dayIn_2 : decode c_B_dayIn 2 = .ok (.sipush 255, 3) := by decide +kernel
theorem d_B_dayIn_5 : decode c_B_dayIn 5 = .ok (.iand, 1) := by decide +kernel
theorem d_B_dayIn_6 : decode c_B_dayIn 6 = .ok (.ireturn, 1) := by decide +kernel
theorem d_B_feast_0 : decode c_B_feast 0 = .ok (.iload_n 1, 1) := by decide +kernel
theorem d_B_feast_1 : decode c_B_feast 1 = .ok (.ifCond .lt 8, 3) := by decide +kernel
theorem d_B_feast_4 : decode c_B_feast 4 = .ok (.iload_n 1, 1) := by decide +kernel
theorem d_B_feast_5 : decode c_B_feast 5 = .ok (.iconst 2, 1) := by decide +kernel
theorem d_B_feast_6 : decode c_B_feast 6 = .ok (.if_icmp .le 11, 3) := by decide +kernel
theorem d_B_feast_9 : decode c_B_feast 9 = .ok (.new 111, 3) := by decide +kernel
theorem d_B_feast_12 : decode c_B_feast 12 = .ok (.dup, 1) := by decide +kernel
theorem d_B_feast_13 : decode c_B_feast 13 = .ok (.invokespecial 113, 3) := by decide +kernel
theorem d_B_feast_16 : decode c_B_feast 16 = .ok (.athrow, 1) := by decide +kernel
theorem d_B_feast_17 : decode c_B_feast 17 = .ok (.iload_n 2, 1) := by decide +kernel
theorem d_B_feast_18 : decode c_B_feast 18 = .ok (.ldc 184, 2) := by decide +kernel
theorem d_B_feast_20 : decode c_B_feast 20 = .ok (.invokestatic 151, 3) := by decide +kernel
theorem d_B_feast_23 : decode c_B_feast 23 = .ok (.ifCond .ne 11, 3) := by decide +kernel
theorem d_B_feast_26 : decode c_B_feast 26 = .ok (.new 133, 3) := by decide +kernel
theorem d_B_feast_29 : decode c_B_feast 29 = .ok (.dup, 1) := by decide +kernel
theorem d_B_feast_30 : decode c_B_feast 30 = .ok (.invokespecial 135, 3) := by decide +kernel
theorem d_B_feast_33 : decode c_B_feast 33 = .ok (.athrow, 1) := by decide +kernel
theorem d_B_feast_34 : decode c_B_feast 34 = .ok (.iload_n 1, 1) := by decide +kernel
theorem d_B_feast_35 : decode c_B_feast 35 = .ok (.iconst 2, 1) := by decide +kernel
theorem d_B_feast_36 : decode c_B_feast 36 = .ok (.if_icmp .ne 21, 3) := by decide +kernel
theorem d_B_feast_39 : decode c_B_feast 39 = .ok (.aload_n 0, 1) := by decide +kernel
theorem d_B_feast_40 : decode c_B_feast 40 = .ok (.getfield 45, 3) := by decide +kernel
theorem d_B_feast_43 : decode c_B_feast 43 = .ok (.iload_n 2, 1) := by decide +kernel
theorem d_B_feast_44 : decode c_B_feast 44 = .ok (.i2l, 1) := by decide +kernel
theorem d_B_feast_45 : decode c_B_feast 45 = .ok (.ldc2_w 185, 3) := by decide +kernel
theorem d_B_feast_48 : decode c_B_feast 48 = .ok (.ladd, 1) := by decide +kernel
theorem d_B_feast_49 : decode c_B_feast 49 = .ok (.iconst 1, 1) := by decide +kernel
theorem d_B_feast_50 : decode c_B_feast 50 = .ok (.bipush 15, 2) := by decide +kernel
theorem d_B_feast_52 : decode c_B_feast 52 = .ok (.invokevirtual 187, 3) := by decide +kernel
theorem d_B_feast_55 : decode c_B_feast 55 = .ok (.l2i, 1) := by decide +kernel
theorem d_B_feast_56 : decode c_B_feast 56 = .ok (.ireturn, 1) := by decide +kernel
theorem d_B_feast_57 : decode c_B_feast 57 = .ok (.iload_n 1, 1) := by decide +kernel
theorem d_B_feast_58 : decode c_B_feast 58 = .ok (.ifCond .ne 11, 3) := by decide +kernel
theorem d_B_feast_61 : decode c_B_feast 61 = .ok (.aload_n 0, 1) := by decide +kernel
theorem d_B_feast_62 : decode c_B_feast 62 = .ok (.iload_n 2, 1) := by decide +kernel
theorem d_B_feast_63 : decode c_B_feast 63 = .ok (.invokevirtual 188, 3) := by decide +kernel
theorem d_B_feast_66 : decode c_B_feast 66 = .ok (.goto 8, 3) := by decide +kernel
theorem d_B_feast_69 : decode c_B_feast 69 = .ok (.aload_n 0, 1) := by decide +kernel
theorem d_B_feast_70 : decode c_B_feast 70 = .ok (.iload_n 2, 1) := by decide +kernel
theorem d_B_feast_71 : decode c_B_feast 71 = .ok (.invokevirtual 192, 3) := by decide +kernel
theorem d_B_feast_74 : decode c_B_feast 74 = .ok (.l2i, 1) := by decide +kernel
theorem d_B_feast_75 : decode c_B_feast 75 = .ok (.ireturn, 1) := by decide +kernel
theorem d_B_fixed_0 : decode c_B_fixed 0 = .ok (.aload_n 0, 1) := by decide +kernel
theorem d_B_fixed_1 : decode c_B_fixed 1 = .ok (.iload_n 1, 1) := by decide +kernel
theorem d_B_fixed_2 : decode c_B_fixed 2 = .ok (.invokevirtual 125, 3) := by decide +kernel
theorem d_B_fixed_5 : decode c_B_fixed 5 = .ok (.astore 5, 2) := by decide +kernel
theorem d_B_fixed_7 : decode c_B_fixed 7 = .ok (.aload 5, 2) := by decide +kernel
theorem d_B_fixed_9 : decode c_B_fixed 9 = .ok (.ifnonnull 11, 3) := by decide +kernel
theorem d_B_fixed_12 : decode c_B_fixed 12 = .ok (.new 111, 3) := by decide +kernel
theorem d_B_fixed_15 : decode c_B_fixed 15 = .ok (.dup, 1) := by decide +kernel
theorem d_B_fixed_16 : decode c_B_fixed 16 = .ok (.invokespecial 113, 3) := by decide +kernel
theorem d_B_fixed_19 : decode c_B_fixed 19 = .ok (.athrow, 1) := by decide +kernel
theorem d_B_fixed_20 : decode c_B_fixed 20 = .ok (.iload_n 2, 1) := by decide +kernel
theorem d_B_fixed_21 : decode c_B_fixed 21 = .ok (.ldc 150, 2) := by decide +kernel
theorem d_B_fixed_23 : decode c_B_fixed 23 = .ok (.invokestatic 151, 3) := by decide +kernel
theorem d_B_fixed_26 : decode c_B_fixed 26 = .ok (.ifCond .ne 11, 3) := by decide +kernel
theorem d_B_fixed_29 : decode c_B_fixed 29 = .ok (.new 133, 3) := by decide +kernel
theorem d_B_fixed_32 : decode c_B_fixed 32 = .ok (.dup, 1) := by decide +kernel
theorem d_B_fixed_33 : decode c_B_fixed 33 = .ok (.invokespecial 135, 3) := by decide +kernel
theorem d_B_fixed_36 : decode c_B_fixed 36 = .ok (.athrow, 1) := by decide +kernel
theorem d_B_fixed_37 : decode c_B_fixed 37 = .ok (.aload 5, 2) := by decide +kernel
theorem d_B_fixed_39 : decode c_B_fixed 39 = .ok (.iload_n 2, 1) := by decide +kernel
theorem d_B_fixed_40 : decode c_B_fixed 40 = .ok (.i2l, 1) := by decide +kernel
theorem d_B_fixed_41 : decode c_B_fixed 41 = .ok (.iload_n 3, 1) := by decide +kernel
theorem d_B_fixed_42 : decode c_B_fixed 42 = .ok (.iload 4, 2) := by decide +kernel
theorem d_B_fixed_44 : decode c_B_fixed 44 = .ok (.invokevirtual 155, 3) := by decide +kernel
theorem d_B_fixed_47 : decode c_B_fixed 47 = .ok (.lstore 6, 2) := by decide +kernel
theorem d_B_fixed_49 : decode c_B_fixed 49 = .ok (.lload 6, 2) := by decide +kernel
theorem d_B_fixed_51 : decode c_B_fixed 51 = .ok (.ldc2_w 159, 3) := by decide +kernel
theorem d_B_fixed_54 : decode c_B_fixed 54 = .ok (.lcmp, 1) := by decide +kernel
theorem d_B_fixed_55 : decode c_B_fixed 55 = .ok (.ifCond .ne 11, 3) := by decide +kernel
theorem d_B_fixed_58 : decode c_B_fixed 58 = .ok (.new 116, 3) := by decide +kernel
theorem d_B_fixed_61 : decode c_B_fixed 61 = .ok (.dup, 1) := by decide +kernel
theorem d_B_fixed_62 : decode c_B_fixed 62 = .ok (.invokespecial 118, 3) := by decide +kernel
theorem d_B_fixed_65 : decode c_B_fixed 65 = .ok (.athrow, 1) := by decide +kernel
theorem d_B_fixed_66 : decode c_B_fixed 66 = .ok (.lload 6, 2) := by decide +kernel
theorem d_B_fixed_68 : decode c_B_fixed 68 = .ok (.invokestatic 129, 3) := by decide +kernel
theorem d_B_fixed_71 : decode c_B_fixed 71 = .ok (.ifCond .ne 11, 3) := by decide +kernel
theorem d_B_fixed_74 : decode c_B_fixed 74 = .ok (.new 133, 3) := by decide +kernel
theorem d_B_fixed_77 : decode c_B_fixed 77 = .ok (.dup, 1) := by decide +kernel
theorem d_B_fixed_78 : decode c_B_fixed 78 = .ok (.invokespecial 135, 3) := by decide +kernel
theorem d_B_fixed_81 : decode c_B_fixed 81 = .ok (.athrow, 1) := by decide +kernel
theorem d_B_fixed_82 : decode c_B_fixed 82 = .ok (.lload 6, 2) := by decide +kernel
theorem d_B_fixed_84 : decode c_B_fixed 84 = .ok (.l2i, 1) := by decide +kernel
theorem d_B_fixed_85 : decode c_B_fixed 85 = .ok (.ireturn, 1) := by decide +kernel
theorem d_B_isDecimal_0 : decode c_B_isDecimal 0 = .ok (.iload_n 0, 1) := by decide +kernel
theorem d_B_isDecimal_1 : decode c_B_isDecimal 1 = .ok (.bipush 48, 2) := by decide +kernel
theorem d_B_isDecimal_3 : decode c_B_isDecimal 3 = .ok (.if_icmp .lt 13, 3) := by decide +kernel
theorem d_B_isDecimal_6 : decode c_B_isDecimal 6 = .ok (.iload_n 0, 1) := by decide +kernel
theorem d_B_isDecimal_7 : decode c_B_isDecimal 7 = .ok (.bipush 57, 2) := by decide +kernel
theorem d_B_isDecimal_9 : decode c_B_isDecimal 9 = .ok (.if_icmp .gt 7, 3) := by decide +kernel
theorem d_B_isDecimal_12 : decode c_B_isDecimal 12 = .ok (.iconst 1, 1) := by decide +kernel
theorem d_B_isDecimal_13 : decode c_B_isDecimal 13 = .ok (.goto 4, 3) := by decide +kernel
theorem d_B_isDecimal_16 : decode c_B_isDecimal 16 = .ok (.iconst 0, 1) := by decide +kernel
theorem d_B_isDecimal_17 : decode c_B_isDecimal 17 = .ok (.ireturn, 1) := by decide +kernel
theorem d_B_isInRange_0 : decode c_B_isInRange 0 = .ok (.lload_n 0, 1) := by decide +kernel
theorem d_B_isInRange_1 : decode c_B_isInRange 1 = .ok (.ldc2_w 227, 3) := by decide +kernel
theorem d_B_isInRange_4 : decode c_B_isInRange 4 = .ok (.lcmp, 1) := by decide +kernel
theorem d_B_isInRange_5 : decode c_B_isInRange 5 = .ok (.ifCond .lt 15, 3) := by decide +kernel
theorem d_B_isInRange_8 : decode c_B_isInRange 8 = .ok (.lload_n 0, 1) := by decide +kernel
theorem d_B_isInRange_9 : decode c_B_isInRange 9 = .ok (.ldc2_w 229, 3) := by decide +kernel
theorem d_B_isInRange_12 : decode c_B_isInRange 12 = .ok (.lcmp, 1) := by decide +kernel
theorem d_B_isInRange_13 : decode c_B_isInRange 13 = .ok (.ifCond .gt 7, 3) := by decide +kernel
theorem d_B_isInRange_16 : decode c_B_isInRange 16 = .ok (.iconst 1, 1) := by decide +kernel
theorem d_B_isInRange_17 : decode c_B_isInRange 17 = .ok (.goto 4, 3) := by decide +kernel
theorem d_B_isInRange_20 : decode c_B_isInRange 20 = .ok (.iconst 0, 1) := by decide +kernel
theorem d_B_isInRange_21 : decode c_B_isInRange 21 = .ok (.ireturn, 1) := by decide +kernel
theorem d_B_isWithin_0 : decode c_B_isWithin 0 = .ok (.iload_n 0, 1) := by decide +kernel
theorem d_B_isWithin_1 : decode c_B_isWithin 1 = .ok (.iload_n 1, 1) := by decide +kernel
theorem d_B_isWithin_2 : decode c_B_isWithin 2 = .ok (.ineg, 1) := by decide +kernel
theorem d_B_isWithin_3 : decode c_B_isWithin 3 = .ok (.if_icmp .lt 12, 3) := by decide +kernel
theorem d_B_isWithin_6 : decode c_B_isWithin 6 = .ok (.iload_n 0, 1) := by decide +kernel
theorem d_B_isWithin_7 : decode c_B_isWithin 7 = .ok (.iload_n 1, 1) := by decide +kernel
theorem d_B_isWithin_8 : decode c_B_isWithin 8 = .ok (.if_icmp .gt 7, 3) := by decide +kernel
theorem d_B_isWithin_11 : decode c_B_isWithin 11 = .ok (.iconst 1, 1) := by decide +kernel
theorem d_B_isWithin_12 : decode c_B_isWithin 12 = .ok (.goto 4, 3) := by decide +kernel
theorem d_B_isWithin_15 : decode c_B_isWithin 15 = .ok (.iconst 0, 1) := by decide +kernel
theorem d_B_isWithin_16 : decode c_B_isWithin 16 = .ok (.ireturn, 1) := by decide +kernel
theorem d_B_leap_0 : decode c_B_leap 0 = .ok (.iload_n 1, 1) := by decide +kernel
theorem d_B_leap_1 : decode c_B_leap 1 = .ok (.iconst 2, 1) := by decide +kernel
theorem d_B_leap_2 : decode c_B_leap 2 = .ok (.if_icmp .eq 15, 3) := by decide +kernel
theorem d_B_leap_5 : decode c_B_leap 5 = .ok (.iload_n 1, 1) := by decide +kernel
theorem d_B_leap_6 : decode c_B_leap 6 = .ok (.bipush 10, 2) := by decide +kernel
theorem d_B_leap_8 : decode c_B_leap 8 = .ok (.if_icmp .eq 9, 3) := by decide +kernel
theorem d_B_leap_11 : decode c_B_leap 11 = .ok (.iload_n 1, 1) := by decide +kernel
theorem d_B_leap_12 : decode c_B_leap 12 = .ok (.bipush 11, 2) := by decide +kernel
theorem d_B_leap_14 : decode c_B_leap 14 = .ok (.if_icmp .ne 11, 3) := by decide +kernel
theorem d_B_leap_17 : decode c_B_leap 17 = .ok (.new 161, 3) := by decide +kernel
theorem d_B_leap_20 : decode c_B_leap 20 = .ok (.dup, 1) := by decide +kernel
theorem d_B_leap_21 : decode c_B_leap 21 = .ok (.invokespecial 163, 3) := by decide +kernel
theorem d_B_leap_24 : decode c_B_leap 24 = .ok (.athrow, 1) := by decide +kernel
theorem d_B_leap_25 : decode c_B_leap 25 = .ok (.aload_n 0, 1) := by decide +kernel
theorem d_B_leap_26 : decode c_B_leap 26 = .ok (.iload_n 1, 1) := by decide +kernel
theorem d_B_leap_27 : decode c_B_leap 27 = .ok (.invokevirtual 125, 3) := by decide +kernel
theorem d_B_leap_30 : decode c_B_leap 30 = .ok (.astore_n 3, 1) := by decide +kernel
theorem d_B_leap_31 : decode c_B_leap 31 = .ok (.aload_n 3, 1) := by decide +kernel
theorem d_B_leap_32 : decode c_B_leap 32 = .ok (.ifnonnull 11, 3) := by decide +kernel
theorem d_B_leap_35 : decode c_B_leap 35 = .ok (.new 111, 3) := by decide +kernel
theorem d_B_leap_38 : decode c_B_leap 38 = .ok (.dup, 1) := by decide +kernel
theorem d_B_leap_39 : decode c_B_leap 39 = .ok (.invokespecial 113, 3) := by decide +kernel
theorem d_B_leap_42 : decode c_B_leap 42 = .ok (.athrow, 1) := by decide +kernel
theorem d_B_leap_43 : decode c_B_leap 43 = .ok (.aload_n 3, 1) := by decide +kernel
theorem d_B_leap_44 : decode c_B_leap 44 = .ok (.iload_n 2, 1) := by decide +kernel
theorem d_B_leap_45 : decode c_B_leap 45 = .ok (.i2l, 1) := by decide +kernel
theorem d_B_leap_46 : decode c_B_leap 46 = .ok (.invokevirtual 164, 3) := by decide +kernel
theorem d_B_leap_49 : decode c_B_leap 49 = .ok (.ifCond .ne 11, 3) := by decide +kernel
theorem d_B_leap_52 : decode c_B_leap 52 = .ok (.new 116, 3) := by decide +kernel
theorem d_B_leap_55 : decode c_B_leap 55 = .ok (.dup, 1) := by decide +kernel
theorem d_B_leap_56 : decode c_B_leap 56 = .ok (.invokespecial 118, 3) := by decide +kernel
theorem d_B_leap_59 : decode c_B_leap 59 = .ok (.athrow, 1) := by decide +kernel
theorem d_B_leap_60 : decode c_B_leap 60 = .ok (.iload_n 2, 1) := by decide +kernel
theorem d_B_leap_61 : decode c_B_leap 61 = .ok (.ldc 150, 2) := by decide +kernel
theorem d_B_leap_63 : decode c_B_leap 63 = .ok (.invokestatic 151, 3) := by decide +kernel
theorem d_B_leap_66 : decode c_B_leap 66 = .ok (.ifCond .ne 11, 3) := by decide +kernel
theorem d_B_leap_69 : decode c_B_leap 69 = .ok (.new 133, 3) := by decide +kernel
theorem d_B_leap_72 : decode c_B_leap 72 = .ok (.dup, 1) := by decide +kernel
theorem d_B_leap_73 : decode c_B_leap 73 = .ok (.invokespecial 135, 3) := by decide +kernel
theorem d_B_leap_76 : decode c_B_leap 76 = .ok (.athrow, 1) := by decide +kernel
theorem d_B_leap_77 : decode c_B_leap 77 = .ok (.aload_n 3, 1) := by decide +kernel
theorem d_B_leap_78 : decode c_B_leap 78 = .ok (.iload_n 2, 1) := by decide +kernel
theorem d_B_leap_79 : decode c_B_leap 79 = .ok (.i2l, 1) := by decide +kernel
theorem d_B_leap_80 : decode c_B_leap 80 = .ok (.invokevirtual 167, 3) := by decide +kernel
theorem d_B_leap_83 : decode c_B_leap 83 = .ok (.ireturn, 1) := by decide +kernel
theorem d_B_letter_0 : decode c_B_letter 0 = .ok (.iload_n 1, 1) := by decide +kernel
theorem d_B_letter_1 : decode c_B_letter 1 = .ok (.ifCond .lt 25, 3) := by decide +kernel
theorem d_B_letter_4 : decode c_B_letter 4 = .ok (.iload_n 1, 1) := by decide +kernel
theorem d_B_letter_5 : decode c_B_letter 5 = .ok (.aload_n 0, 1) := by decide +kernel
theorem d_B_letter_6 : decode c_B_letter 6 = .ok (.getfield 107, 3) := by decide +kernel
theorem d_B_letter_9 : decode c_B_letter 9 = .ok (.invokevirtual 209, 3) := by decide +kernel
theorem d_B_letter_12 : decode c_B_letter 12 = .ok (.if_icmp .ge 14, 3) := by decide +kernel
theorem d_B_letter_15 : decode c_B_letter 15 = .ok (.aload_n 0, 1) := by decide +kernel
theorem d_B_letter_16 : decode c_B_letter 16 = .ok (.getfield 107, 3) := by decide +kernel
theorem d_B_letter_19 : decode c_B_letter 19 = .ok (.iload_n 1, 1) := by decide +kernel
theorem d_B_letter_20 : decode c_B_letter 20 = .ok (.invokevirtual 217, 3) := by decide +kernel
theorem d_B_letter_23 : decode c_B_letter 23 = .ok (.goto 4, 3) := by decide +kernel
theorem d_B_letter_26 : decode c_B_letter 26 = .ok (.iconst 0, 1) := by decide +kernel
theorem d_B_letter_27 : decode c_B_letter 27 = .ok (.ireturn, 1) := by decide +kernel
theorem d_B_meeting_0 : decode c_B_meeting 0 = .ok (.iload_n 1, 1) := by decide +kernel
theorem d_B_meeting_1 : decode c_B_meeting 1 = .ok (.ifCond .lt 29, 3) := by decide +kernel
theorem d_B_meeting_4 : decode c_B_meeting 4 = .ok (.iload_n 1, 1) := by decide +kernel
theorem d_B_meeting_5 : decode c_B_meeting 5 = .ok (.sipush 365, 3) := by decide +kernel
theorem d_B_meeting_8 : decode c_B_meeting 8 = .ok (.if_icmp .ge 22, 3) := by decide +kernel
theorem d_B_meeting_11 : decode c_B_meeting 11 = .ok (.iload_n 2, 1) := by decide +kernel
theorem d_B_meeting_12 : decode c_B_meeting 12 = .ok (.ifCond .lt 18, 3) := by decide +kernel
theorem d_B_meeting_15 : decode c_B_meeting 15 = .ok (.iload_n 2, 1) := by decide +kernel
theorem d_B_meeting_16 : decode c_B_meeting 16 = .ok (.sipush 260, 3) := by decide +kernel
theorem d_B_meeting_19 : decode c_B_meeting 19 = .ok (.if_icmp .ge 11, 3) := by decide +kernel
theorem d_B_meeting_22 : decode c_B_meeting 22 = .ok (.iload_n 3, 1) := by decide +kernel
theorem d_B_meeting_23 : decode c_B_meeting 23 = .ok (.i2l, 1) := by decide +kernel
theorem d_B_meeting_24 : decode c_B_meeting 24 = .ok (.invokestatic 129, 3) := by decide +kernel
theorem d_B_meeting_27 : decode c_B_meeting 27 = .ok (.ifCond .ne 6, 3) := by decide +kernel
theorem d_B_meeting_30 : decode c_B_meeting 30 = .ok (.ldc 183, 2) := by decide +kernel
theorem d_B_meeting_32 : decode c_B_meeting 32 = .ok (.ireturn, 1) := by decide +kernel
theorem d_B_meeting_33 : decode c_B_meeting 33 = .ok (.iload_n 3, 1) := by decide +kernel
theorem d_B_meeting_34 : decode c_B_meeting 34 = .ok (.iload_n 3, 1) := by decide +kernel
theorem d_B_meeting_35 : decode c_B_meeting 35 = .ok (.invokestatic 176, 3) := by decide +kernel
theorem d_B_meeting_38 : decode c_B_meeting 38 = .ok (.iload_n 1, 1) := by decide +kernel
theorem d_B_meeting_39 : decode c_B_meeting 39 = .ok (.isub, 1) := by decide +kernel
theorem d_B_meeting_40 : decode c_B_meeting 40 = .ok (.sipush 365, 3) := by decide +kernel
theorem d_B_meeting_43 : decode c_B_meeting 43 = .ok (.invokestatic 170, 3) := by decide +kernel
theorem d_B_meeting_46 : decode c_B_meeting 46 = .ok (.isub, 1) := by decide +kernel
theorem d_B_meeting_47 : decode c_B_meeting 47 = .ok (.istore 4, 2) := by decide +kernel
theorem d_B_meeting_49 : decode c_B_meeting 49 = .ok (.iconst 0, 1) := by decide +kernel
theorem d_B_meeting_50 : decode c_B_meeting 50 = .ok (.istore 5, 2) := by decide +kernel
theorem d_B_meeting_52 : decode c_B_meeting 52 = .ok (.iload 5, 2) := by decide +kernel
theorem d_B_meeting_54 : decode c_B_meeting 54 = .ok (.bipush 52, 2) := by decide +kernel
theorem d_B_meeting_56 : decode c_B_meeting 56 = .ok (.if_icmp .ge 41, 3) := by decide +kernel
theorem d_B_meeting_59 : decode c_B_meeting 59 = .ok (.iload 4, 2) := by decide +kernel
theorem d_B_meeting_61 : decode c_B_meeting 61 = .ok (.invokestatic 180, 3) := by decide +kernel
theorem d_B_meeting_64 : decode c_B_meeting 64 = .ok (.iload_n 2, 1) := by decide +kernel
theorem d_B_meeting_65 : decode c_B_meeting 65 = .ok (.if_icmp .ne 20, 3) := by decide +kernel
theorem d_B_meeting_68 : decode c_B_meeting 68 = .ok (.iload 4, 2) := by decide +kernel
theorem d_B_meeting_70 : decode c_B_meeting 70 = .ok (.i2l, 1) := by decide +kernel
theorem d_B_meeting_71 : decode c_B_meeting 71 = .ok (.invokestatic 129, 3) := by decide +kernel
theorem d_B_meeting_74 : decode c_B_meeting 74 = .ok (.ifCond .eq 8, 3) := by decide +kernel
theorem d_B_meeting_77 : decode c_B_meeting 77 = .ok (.iload 4, 2) := by decide +kernel
theorem d_B_meeting_79 : decode c_B_meeting 79 = .ok (.goto 5, 3) := by decide +kernel
theorem d_B_meeting_82 : decode c_B_meeting 82 = .ok (.ldc 183, 2) := by decide +kernel
theorem d_B_meeting_84 : decode c_B_meeting 84 = .ok (.ireturn, 1) := by decide +kernel
theorem d_B_meeting_85 : decode c_B_meeting 85 = .ok (.iinc 4 (-365), 6) := by decide +kernel
theorem d_B_meeting_91 : decode c_B_meeting 91 = .ok (.iinc 5 1, 3) := by decide +kernel
theorem d_B_meeting_94 : decode c_B_meeting 94 = .ok (.goto (-42), 3) := by decide +kernel
theorem d_B_meeting_97 : decode c_B_meeting 97 = .ok (.ldc 183, 2) := by decide +kernel
theorem d_B_meeting_99 : decode c_B_meeting 99 = .ok (.ireturn, 1) := by decide +kernel
theorem d_B_monthIn_0 : decode c_B_monthIn 0 = .ok (.lload_n 0, 1) := by decide +kernel
theorem d_B_monthIn_1 : decode c_B_monthIn 1 = .ok (.bipush 8, 2) := by decide +kernel
theorem d_B_monthIn_3 : decode c_B_monthIn 3 = .ok (.lshr, 1) := by decide +kernel
theorem d_B_monthIn_4 : decode c_B_monthIn 4 = .ok (.l2i, 1) := by decide +kernel
theorem d_B_monthIn_5 : decode c_B_monthIn 5 = .ok (.sipush 255, 3) := by decide +kernel
theorem d_B_monthIn_8 : decode c_B_monthIn 8 = .ok (.iand, 1) := by decide +kernel
theorem d_B_monthIn_9 : decode c_B_monthIn 9 = .ok (.ireturn, 1) := by decide +kernel
theorem d_B_newEaster_0 : decode c_B_newEaster 0 = .ok (.iload_n 1, 1) := by decide +kernel
theorem d_B_newEaster_1 : decode c_B_newEaster 1 = .ok (.bipush 100, 2) := by decide +kernel
theorem d_B_newEaster_3 : decode c_B_newEaster 3 = .ok (.invokestatic 233, 3) := by decide +kernel
theorem d_B_newEaster_6 : decode c_B_newEaster 6 = .ok (.iconst 1, 1) := by decide +kernel
theorem d_B_newEaster_7 : decode c_B_newEaster 7 = .ok (.iadd, 1) := by decide +kernel
theorem d_B_newEaster_8 : decode c_B_newEaster 8 = .ok (.istore_n 2, 1) := by decide +kernel
theorem d_B_newEaster_9 : decode c_B_newEaster 9 = .ok (.iload_n 1, 1) := by decide +kernel
theorem d_B_newEaster_10 : decode c_B_newEaster 10 = .ok (.bipush 19, 2) := by decide +kernel
theorem d_B_newEaster_12 : decode c_B_newEaster 12 = .ok (.invokestatic 170, 3) := by decide +kernel
theorem d_B_newEaster_15 : decode c_B_newEaster 15 = .ok (.istore_n 3, 1) := by decide +kernel
theorem d_B_newEaster_16 : decode c_B_newEaster 16 = .ok (.bipush 14, 2) := by decide +kernel
theorem d_B_newEaster_18 : decode c_B_newEaster 18 = .ok (.bipush 11, 2) := by decide +kernel
theorem d_B_newEaster_20 : decode c_B_newEaster 20 = .ok (.iload_n 3, 1) := by decide +kernel
theorem d_B_newEaster_21 : decode c_B_newEaster 21 = .ok (.imul, 1) := by decide +kernel
theorem d_B_newEaster_22 : decode c_B_newEaster 22 = .ok (.iadd, 1) := by decide +kernel
theorem d_B_newEaster_23 : decode c_B_newEaster 23 = .ok (.iconst 3, 1) := by decide +kernel
theorem d_B_newEaster_24 : decode c_B_newEaster 24 = .ok (.iload_n 2, 1) := by decide +kernel
theorem d_B_newEaster_25 : decode c_B_newEaster 25 = .ok (.imul, 1) := by decide +kernel
theorem d_B_newEaster_26 : decode c_B_newEaster 26 = .ok (.iconst 4, 1) := by decide +kernel
theorem d_B_newEaster_27 : decode c_B_newEaster 27 = .ok (.invokestatic 233, 3) := by decide +kernel
theorem d_B_newEaster_30 : decode c_B_newEaster 30 = .ok (.isub, 1) := by decide +kernel
theorem d_B_newEaster_31 : decode c_B_newEaster 31 = .ok (.iconst 5, 1) := by decide +kernel
theorem d_B_newEaster_32 : decode c_B_newEaster 32 = .ok (.bipush 8, 2) := by decide +kernel
theorem d_B_newEaster_34 : decode c_B_newEaster 34 = .ok (.iload_n 2, 1) := by decide +kernel
theorem d_B_newEaster_35 : decode c_B_newEaster 35 = .ok (.imul, 1) := by decide +kernel
theorem d_B_newEaster_36 : decode c_B_newEaster 36 = .ok (.iadd, 1) := by decide +kernel
theorem d_B_newEaster_37 : decode c_B_newEaster 37 = .ok (.bipush 25, 2) := by decide +kernel
theorem d_B_newEaster_39 : decode c_B_newEaster 39 = .ok (.invokestatic 233, 3) := by decide +kernel
theorem d_B_newEaster_42 : decode c_B_newEaster 42 = .ok (.iadd, 1) := by decide +kernel
theorem d_B_newEaster_43 : decode c_B_newEaster 43 = .ok (.bipush 30, 2) := by decide +kernel
theorem d_B_newEaster_45 : decode c_B_newEaster 45 = .ok (.invokestatic 170, 3) := by decide +kernel
theorem d_B_newEaster_48 : decode c_B_newEaster 48 = .ok (.istore 4, 2) := by decide +kernel
theorem d_B_newEaster_50 : decode c_B_newEaster 50 = .ok (.iload 4, 2) := by decide +kernel
theorem d_B_newEaster_52 : decode c_B_newEaster 52 = .ok (.ifCond .eq 15, 3) := by decide +kernel
theorem d_B_newEaster_55 : decode c_B_newEaster 55 = .ok (.iload 4, 2) := by decide +kernel
theorem d_B_newEaster_57 : decode c_B_newEaster 57 = .ok (.iconst 1, 1) := by decide +kernel
theorem d_B_newEaster_58 : decode c_B_newEaster 58 = .ok (.if_icmp .ne 12, 3) := by decide +kernel
theorem d_B_newEaster_61 : decode c_B_newEaster 61 = .ok (.iload_n 3, 1) := by decide +kernel
theorem d_B_newEaster_62 : decode c_B_newEaster 62 = .ok (.bipush 10, 2) := by decide +kernel
theorem d_B_newEaster_64 : decode c_B_newEaster 64 = .ok (.if_icmp .le 6, 3) := by decide +kernel
theorem d_B_newEaster_67 : decode c_B_newEaster 67 = .ok (.iinc 4 1, 3) := by decide +kernel
theorem d_B_newEaster_70 : decode c_B_newEaster 70 = .ok (.aload_n 0, 1) := by decide +kernel
theorem d_B_newEaster_71 : decode c_B_newEaster 71 = .ok (.getfield 26, 3) := by decide +kernel
theorem d_B_newEaster_74 : decode c_B_newEaster 74 = .ok (.iload_n 1, 1) := by decide +kernel
theorem d_B_newEaster_75 : decode c_B_newEaster 75 = .ok (.i2l, 1) := by decide +kernel
theorem d_B_newEaster_76 : decode c_B_newEaster 76 = .ok (.iconst 4, 1) := by decide +kernel
theorem d_B_newEaster_77 : decode c_B_newEaster 77 = .ok (.bipush 19, 2) := by decide +kernel
theorem d_B_newEaster_79 : decode c_B_newEaster 79 = .ok (.invokevirtual 236, 3) := by decide +kernel
theorem d_B_newEaster_82 : decode c_B_newEaster 82 = .ok (.iload 4, 2) := by decide +kernel
theorem d_B_newEaster_84 : decode c_B_newEaster 84 = .ok (.i2l, 1) := by decide +kernel
theorem d_B_newEaster_85 : decode c_B_newEaster 85 = .ok (.lsub, 1) := by decide +kernel
theorem d_B_newEaster_86 : decode c_B_newEaster 86 = .ok (.invokestatic 237, 3) := by decide +kernel
theorem d_B_newEaster_89 : decode c_B_newEaster 89 = .ok (.lreturn, 1) := by decide +kernel
theorem d_B_numberIn_0 : decode c_B_numberIn 0 = .ok (.iload_n 1, 1) := by decide +kernel
theorem d_B_numberIn_1 : decode c_B_numberIn 1 = .ok (.iload_n 2, 1) := by decide +kernel
theorem d_B_numberIn_2 : decode c_B_numberIn 2 = .ok (.if_icmp .ge 20, 3) := by decide +kernel
theorem d_B_numberIn_5 : decode c_B_numberIn 5 = .ok (.aload_n 0, 1) := by decide +kernel
theorem d_B_numberIn_6 : decode c_B_numberIn 6 = .ok (.getfield 107, 3) := by decide +kernel
theorem d_B_numberIn_9 : decode c_B_numberIn 9 = .ok (.iload_n 1, 1) := by decide +kernel
theorem d_B_numberIn_10 : decode c_B_numberIn 10 = .ok (.invokevirtual 217, 3) := by decide +kernel
theorem d_B_numberIn_13 : decode c_B_numberIn 13 = .ok (.bipush 45, 2) := by decide +kernel
theorem d_B_numberIn_15 : decode c_B_numberIn 15 = .ok (.if_icmp .ne 7, 3) := by decide +kernel
theorem d_B_numberIn_18 : decode c_B_numberIn 18 = .ok (.iconst 1, 1) := by decide +kernel
theorem d_B_numberIn_19 : decode c_B_numberIn 19 = .ok (.goto 4, 3) := by decide +kernel
theorem d_B_numberIn_22 : decode c_B_numberIn 22 = .ok (.iconst 0, 1) := by decide +kernel
theorem d_B_numberIn_23 : decode c_B_numberIn 23 = .ok (.istore_n 3, 1) := by decide +kernel
theorem d_B_numberIn_24 : decode c_B_numberIn 24 = .ok (.iload_n 3, 1) := by decide +kernel
theorem d_B_numberIn_25 : decode c_B_numberIn 25 = .ok (.ifCond .eq 9, 3) := by decide +kernel
theorem d_B_numberIn_28 : decode c_B_numberIn 28 = .ok (.iload_n 1, 1) := by decide +kernel
theorem d_B_numberIn_29 : decode c_B_numberIn 29 = .ok (.iconst 1, 1) := by decide +kernel
theorem d_B_numberIn_30 : decode c_B_numberIn 30 = .ok (.iadd, 1) := by decide +kernel
theorem d_B_numberIn_31 : decode c_B_numberIn 31 = .ok (.goto 4, 3) := by decide +kernel
theorem d_B_numberIn_34 : decode c_B_numberIn 34 = .ok (.iload_n 1, 1) := by decide +kernel
theorem d_B_numberIn_35 : decode c_B_numberIn 35 = .ok (.istore 4, 2) := by decide +kernel
theorem d_B_numberIn_37 : decode c_B_numberIn 37 = .ok (.iload_n 2, 1) := by decide +kernel
theorem d_B_numberIn_38 : decode c_B_numberIn 38 = .ok (.iload 4, 2) := by decide +kernel
theorem d_B_numberIn_40 : decode c_B_numberIn 40 = .ok (.isub, 1) := by decide +kernel
theorem d_B_numberIn_41 : decode c_B_numberIn 41 = .ok (.istore 5, 2) := by decide +kernel
theorem d_B_numberIn_43 : decode c_B_numberIn 43 = .ok (.iload 5, 2) := by decide +kernel
theorem d_B_numberIn_45 : decode c_B_numberIn 45 = .ok (.iconst 1, 1) := by decide +kernel
theorem d_B_numberIn_46 : decode c_B_numberIn 46 = .ok (.if_icmp .lt 34, 3) := by decide +kernel
theorem d_B_numberIn_49 : decode c_B_numberIn 49 = .ok (.iload 5, 2) := by decide +kernel
theorem d_B_numberIn_51 : decode c_B_numberIn 51 = .ok (.bipush 9, 2) := by decide +kernel
theorem d_B_numberIn_53 : decode c_B_numberIn 53 = .ok (.if_icmp .gt 27, 3) := by decide +kernel
theorem d_B_numberIn_56 : decode c_B_numberIn 56 = .ok (.aload_n 0, 1) := by decide +kernel
theorem d_B_numberIn_57 : decode c_B_numberIn 57 = .ok (.getfield 107, 3) := by decide +kernel
theorem d_B_numberIn_60 : decode c_B_numberIn 60 = .ok (.iload 4, 2) := by decide +kernel
theorem d_B_numberIn_62 : decode c_B_numberIn 62 = .ok (.invokevirtual 217, 3) := by decide +kernel
theorem d_B_numberIn_65 : decode c_B_numberIn 65 = .ok (.bipush 48, 2) := by decide +kernel
theorem d_B_numberIn_67 : decode c_B_numberIn 67 = .ok (.if_icmp .ne 16, 3) := by decide +kernel
theorem d_B_numberIn_70 : decode c_B_numberIn 70 = .ok (.iload_n 3, 1) := by decide +kernel
theorem d_B_numberIn_71 : decode c_B_numberIn 71 = .ok (.ifCond .ne 9, 3) := by decide +kernel
theorem d_B_numberIn_74 : decode c_B_numberIn 74 = .ok (.iload 5, 2) := by decide +kernel
theorem d_B_numberIn_76 : decode c_B_numberIn 76 = .ok (.iconst 1, 1) := by decide +kernel
theorem d_B_numberIn_77 : decode c_B_numberIn 77 = .ok (.if_icmp .le 6, 3) := by decide +kernel
theorem d_B_numberIn_80 : decode c_B_numberIn 80 = .ok (.ldc 183, 2) := by decide +kernel
theorem d_B_numberIn_82 : decode c_B_numberIn 82 = .ok (.ireturn, 1) := by decide +kernel
theorem d_B_numberIn_83 : decode c_B_numberIn 83 = .ok (.iconst 0, 1) := by decide +kernel
theorem d_B_numberIn_84 : decode c_B_numberIn 84 = .ok (.istore 6, 2) := by decide +kernel
theorem d_B_numberIn_86 : decode c_B_numberIn 86 = .ok (.iload 4, 2) := by decide +kernel
theorem d_B_numberIn_88 : decode c_B_numberIn 88 = .ok (.istore 7, 2) := by decide +kernel
theorem d_B_numberIn_90 : decode c_B_numberIn 90 = .ok (.iload 7, 2) := by decide +kernel
theorem d_B_numberIn_92 : decode c_B_numberIn 92 = .ok (.iload_n 2, 1) := by decide +kernel
theorem d_B_numberIn_93 : decode c_B_numberIn 93 = .ok (.if_icmp .ge 47, 3) := by decide +kernel
theorem d_B_numberIn_96 : decode c_B_numberIn 96 = .ok (.aload_n 0, 1) := by decide +kernel
theorem d_B_numberIn_97 : decode c_B_numberIn 97 = .ok (.getfield 107, 3) := by decide +kernel
theorem d_B_numberIn_100 : decode c_B_numberIn 100 = .ok (.iload 7, 2) := by decide +kernel
theorem d_B_numberIn_102 : decode c_B_numberIn 102 = .ok (.invokevirtual 217, 3) := by decide +kernel
theorem d_B_numberIn_105 : decode c_B_numberIn 105 = .ok (.invokestatic 213, 3) := by decide +kernel
theorem d_B_numberIn_108 : decode c_B_numberIn 108 = .ok (.ifCond .ne 6, 3) := by decide +kernel
theorem d_B_numberIn_111 : decode c_B_numberIn 111 = .ok (.ldc 183, 2) := by decide +kernel
theorem d_B_numberIn_113 : decode c_B_numberIn 113 = .ok (.ireturn, 1) := by decide +kernel
theorem d_B_numberIn_114 : decode c_B_numberIn 114 = .ok (.bipush 10, 2) := by decide +kernel
theorem d_B_numberIn_116 : decode c_B_numberIn 116 = .ok (.iload 6, 2) := by decide +kernel
theorem d_B_numberIn_118 : decode c_B_numberIn 118 = .ok (.imul, 1) := by decide +kernel
theorem d_B_numberIn_119 : decode c_B_numberIn 119 = .ok (.aload_n 0, 1) := by decide +kernel
theorem d_B_numberIn_120 : decode c_B_numberIn 120 = .ok (.getfield 107, 3) := by decide +kernel
theorem d_B_numberIn_123 : decode c_B_numberIn 123 = .ok (.iload 7, 2) := by decide +kernel
theorem d_B_numberIn_125 : decode c_B_numberIn 125 = .ok (.invokevirtual 217, 3) := by decide +kernel
theorem d_B_numberIn_128 : decode c_B_numberIn 128 = .ok (.bipush 48, 2) := by decide +kernel
theorem d_B_numberIn_130 : decode c_B_numberIn 130 = .ok (.isub, 1) := by decide +kernel
theorem d_B_numberIn_131 : decode c_B_numberIn 131 = .ok (.iadd, 1) := by decide +kernel
theorem d_B_numberIn_132 : decode c_B_numberIn 132 = .ok (.istore 6, 2) := by decide +kernel
theorem d_B_numberIn_134 : decode c_B_numberIn 134 = .ok (.iinc 7 1, 3) := by decide +kernel
theorem d_B_numberIn_137 : decode c_B_numberIn 137 = .ok (.goto (-47), 3) := by decide +kernel
theorem d_B_numberIn_140 : decode c_B_numberIn 140 = .ok (.iload_n 3, 1) := by decide +kernel
theorem d_B_numberIn_141 : decode c_B_numberIn 141 = .ok (.ifCond .eq 9, 3) := by decide +kernel
theorem d_B_numberIn_144 : decode c_B_numberIn 144 = .ok (.iload 6, 2) := by decide +kernel
theorem d_B_numberIn_146 : decode c_B_numberIn 146 = .ok (.ineg, 1) := by decide +kernel
theorem d_B_numberIn_147 : decode c_B_numberIn 147 = .ok (.goto 5, 3) := by decide +kernel
theorem d_B_numberIn_150 : decode c_B_numberIn 150 = .ok (.iload 6, 2) := by decide +kernel
theorem d_B_numberIn_152 : decode c_B_numberIn 152 = .ok (.ireturn, 1) := by decide +kernel
theorem d_B_oldEaster_0 : decode c_B_oldEaster 0 = .ok (.bipush 14, 2) := by decide +kernel
theorem d_B_oldEaster_2 : decode c_B_oldEaster 2 = .ok (.bipush 11, 2) := by decide +kernel
theorem d_B_oldEaster_4 : decode c_B_oldEaster 4 = .ok (.iload_n 1, 1) := by decide +kernel
theorem d_B_oldEaster_5 : decode c_B_oldEaster 5 = .ok (.bipush 19, 2) := by decide +kernel
theorem d_B_oldEaster_7 : decode c_B_oldEaster 7 = .ok (.invokestatic 170, 3) := by decide +kernel
theorem d_B_oldEaster_10 : decode c_B_oldEaster 10 = .ok (.imul, 1) := by decide +kernel
theorem d_B_oldEaster_11 : decode c_B_oldEaster 11 = .ok (.iadd, 1) := by decide +kernel
theorem d_B_oldEaster_12 : decode c_B_oldEaster 12 = .ok (.bipush 30, 2) := by decide +kernel
theorem d_B_oldEaster_14 : decode c_B_oldEaster 14 = .ok (.invokestatic 170, 3) := by decide +kernel
theorem d_B_oldEaster_17 : decode c_B_oldEaster 17 = .ok (.istore_n 2, 1) := by decide +kernel
theorem d_B_oldEaster_18 : decode c_B_oldEaster 18 = .ok (.iload_n 1, 1) := by decide +kernel
theorem d_B_oldEaster_19 : decode c_B_oldEaster 19 = .ok (.ifCond .le 7, 3) := by decide +kernel
theorem d_B_oldEaster_22 : decode c_B_oldEaster 22 = .ok (.iload_n 1, 1) := by decide +kernel
theorem d_B_oldEaster_23 : decode c_B_oldEaster 23 = .ok (.goto 6, 3) := by decide +kernel
theorem d_B_oldEaster_26 : decode c_B_oldEaster 26 = .ok (.iload_n 1, 1) := by decide +kernel
theorem d_B_oldEaster_27 : decode c_B_oldEaster 27 = .ok (.iconst 1, 1) := by decide +kernel
theorem d_B_oldEaster_28 : decode c_B_oldEaster 28 = .ok (.isub, 1) := by decide +kernel
theorem d_B_oldEaster_29 : decode c_B_oldEaster 29 = .ok (.istore_n 3, 1) := by decide +kernel
theorem d_B_oldEaster_30 : decode c_B_oldEaster 30 = .ok (.aload_n 0, 1) := by decide +kernel
theorem d_B_oldEaster_31 : decode c_B_oldEaster 31 = .ok (.getfield 39, 3) := by decide +kernel
theorem d_B_oldEaster_34 : decode c_B_oldEaster 34 = .ok (.iload_n 3, 1) := by decide +kernel
theorem d_B_oldEaster_35 : decode c_B_oldEaster 35 = .ok (.i2l, 1) := by decide +kernel
theorem d_B_oldEaster_36 : decode c_B_oldEaster 36 = .ok (.iconst 4, 1) := by decide +kernel
theorem d_B_oldEaster_37 : decode c_B_oldEaster 37 = .ok (.bipush 19, 2) := by decide +kernel
theorem d_B_oldEaster_39 : decode c_B_oldEaster 39 = .ok (.invokevirtual 236, 3) := by decide +kernel
theorem d_B_oldEaster_42 : decode c_B_oldEaster 42 = .ok (.iload_n 2, 1) := by decide +kernel
theorem d_B_oldEaster_43 : decode c_B_oldEaster 43 = .ok (.i2l, 1) := by decide +kernel
theorem d_B_oldEaster_44 : decode c_B_oldEaster 44 = .ok (.lsub, 1) := by decide +kernel
theorem d_B_oldEaster_45 : decode c_B_oldEaster 45 = .ok (.invokestatic 237, 3) := by decide +kernel
theorem d_B_oldEaster_48 : decode c_B_oldEaster 48 = .ok (.lreturn, 1) := by decide +kernel
theorem d_B_onOrBefore_0 : decode c_B_onOrBefore 0 = .ok (.iload_n 1, 1) := by decide +kernel
theorem d_B_onOrBefore_1 : decode c_B_onOrBefore 1 = .ok (.ifCond .lt 9, 3) := by decide +kernel
theorem d_B_onOrBefore_4 : decode c_B_onOrBefore 4 = .ok (.iload_n 1, 1) := by decide +kernel
theorem d_B_onOrBefore_5 : decode c_B_onOrBefore 5 = .ok (.bipush 6, 2) := by decide +kernel
theorem d_B_onOrBefore_7 : decode c_B_onOrBefore 7 = .ok (.if_icmp .le 11, 3) := by decide +kernel
theorem d_B_onOrBefore_10 : decode c_B_onOrBefore 10 = .ok (.new 116, 3) := by decide +kernel
theorem d_B_onOrBefore_13 : decode c_B_onOrBefore 13 = .ok (.dup, 1) := by decide +kernel
theorem d_B_onOrBefore_14 : decode c_B_onOrBefore 14 = .ok (.invokespecial 118, 3) := by decide +kernel
theorem d_B_onOrBefore_17 : decode c_B_onOrBefore 17 = .ok (.athrow, 1) := by decide +kernel
theorem d_B_onOrBefore_18 : decode c_B_onOrBefore 18 = .ok (.iload_n 2, 1) := by decide +kernel
theorem d_B_onOrBefore_19 : decode c_B_onOrBefore 19 = .ok (.i2l, 1) := by decide +kernel
theorem d_B_onOrBefore_20 : decode c_B_onOrBefore 20 = .ok (.invokestatic 129, 3) := by decide +kernel
theorem d_B_onOrBefore_23 : decode c_B_onOrBefore 23 = .ok (.ifCond .ne 11, 3) := by decide +kernel
theorem d_B_onOrBefore_26 : decode c_B_onOrBefore 26 = .ok (.new 133, 3) := by decide +kernel
theorem d_B_onOrBefore_29 : decode c_B_onOrBefore 29 = .ok (.dup, 1) := by decide +kernel
theorem d_B_onOrBefore_30 : decode c_B_onOrBefore 30 = .ok (.invokespecial 135, 3) := by decide +kernel
theorem d_B_onOrBefore_33 : decode c_B_onOrBefore 33 = .ok (.athrow, 1) := by decide +kernel
theorem d_B_onOrBefore_34 : decode c_B_onOrBefore 34 = .ok (.iload_n 2, 1) := by decide +kernel
theorem d_B_onOrBefore_35 : decode c_B_onOrBefore 35 = .ok (.iload_n 2, 1) := by decide +kernel
theorem d_B_onOrBefore_36 : decode c_B_onOrBefore 36 = .ok (.iload_n 1, 1) := by decide +kernel
theorem d_B_onOrBefore_37 : decode c_B_onOrBefore 37 = .ok (.isub, 1) := by decide +kernel
theorem d_B_onOrBefore_38 : decode c_B_onOrBefore 38 = .ok (.bipush 7, 2) := by decide +kernel
theorem d_B_onOrBefore_40 : decode c_B_onOrBefore 40 = .ok (.invokestatic 170, 3) := by decide +kernel
theorem d_B_onOrBefore_43 : decode c_B_onOrBefore 43 = .ok (.isub, 1) := by decide +kernel
theorem d_B_onOrBefore_44 : decode c_B_onOrBefore 44 = .ok (.istore_n 3, 1) := by decide +kernel
theorem d_B_onOrBefore_45 : decode c_B_onOrBefore 45 = .ok (.iload_n 3, 1) := by decide +kernel
theorem d_B_onOrBefore_46 : decode c_B_onOrBefore 46 = .ok (.i2l, 1) := by decide +kernel
theorem d_B_onOrBefore_47 : decode c_B_onOrBefore 47 = .ok (.invokestatic 129, 3) := by decide +kernel
theorem d_B_onOrBefore_50 : decode c_B_onOrBefore 50 = .ok (.ifCond .ne 11, 3) := by decide +kernel
theorem d_B_onOrBefore_53 : decode c_B_onOrBefore 53 = .ok (.new 133, 3) := by decide +kernel
theorem d_B_onOrBefore_56 : decode c_B_onOrBefore 56 = .ok (.dup, 1) := by decide +kernel
theorem d_B_onOrBefore_57 : decode c_B_onOrBefore 57 = .ok (.invokespecial 135, 3) := by decide +kernel
theorem d_B_onOrBefore_60 : decode c_B_onOrBefore 60 = .ok (.athrow, 1) := by decide +kernel
theorem d_B_onOrBefore_61 : decode c_B_onOrBefore 61 = .ok (.iload_n 3, 1) := by decide +kernel
theorem d_B_onOrBefore_62 : decode c_B_onOrBefore 62 = .ok (.ireturn, 1) := by decide +kernel
theorem d_B_packed_0 : decode c_B_packed 0 = .ok (.lload_n 0, 1) := by decide +kernel
theorem d_B_packed_1 : decode c_B_packed 1 = .ok (.ldc2_w 245, 3) := by decide +kernel
theorem d_B_packed_4 : decode c_B_packed 4 = .ok (.lmul, 1) := by decide +kernel
theorem d_B_packed_5 : decode c_B_packed 5 = .ok (.lload_n 2, 1) := by decide +kernel
theorem d_B_packed_6 : decode c_B_packed 6 = .ok (.ldc2_w 247, 3) := by decide +kernel
theorem d_B_packed_9 : decode c_B_packed 9 = .ok (.lmul, 1) := by decide +kernel
theorem d_B_packed_10 : decode c_B_packed 10 = .ok (.ladd, 1) := by decide +kernel
theorem d_B_packed_11 : decode c_B_packed 11 = .ok (.lload 4, 2) := by decide +kernel
theorem d_B_packed_13 : decode c_B_packed 13 = .ok (.ladd, 1) := by decide +kernel
theorem d_B_packed_14 : decode c_B_packed 14 = .ok (.lreturn, 1) := by decide +kernel
theorem d_B_placeIn260_0 : decode c_B_placeIn260 0 = .ok (.iload_n 0, 1) := by decide +kernel
theorem d_B_placeIn260_1 : decode c_B_placeIn260 1 = .ok (.ldc 232, 2) := by decide +kernel
theorem d_B_placeIn260_3 : decode c_B_placeIn260 3 = .ok (.iadd, 1) := by decide +kernel
theorem d_B_placeIn260_4 : decode c_B_placeIn260 4 = .ok (.sipush 260, 3) := by decide +kernel
theorem d_B_placeIn260_7 : decode c_B_placeIn260 7 = .ok (.invokestatic 170, 3) := by decide +kernel
theorem d_B_placeIn260_10 : decode c_B_placeIn260 10 = .ok (.ireturn, 1) := by decide +kernel
theorem d_B_placeIn365_0 : decode c_B_placeIn365 0 = .ok (.iload_n 0, 1) := by decide +kernel
theorem d_B_placeIn365_1 : decode c_B_placeIn365 1 = .ok (.ldc 231, 2) := by decide +kernel
theorem d_B_placeIn365_3 : decode c_B_placeIn365 3 = .ok (.iadd, 1) := by decide +kernel
theorem d_B_placeIn365_4 : decode c_B_placeIn365 4 = .ok (.sipush 365, 3) := by decide +kernel
theorem d_B_placeIn365_7 : decode c_B_placeIn365 7 = .ok (.invokestatic 170, 3) := by decide +kernel
theorem d_B_placeIn365_10 : decode c_B_placeIn365 10 = .ok (.ireturn, 1) := by decide +kernel
theorem d_B_plug_0 : decode c_B_plug 0 = .ok (.iload_n 1, 1) := by decide +kernel
theorem d_B_plug_1 : decode c_B_plug 1 = .ok (.ifCond .lt 8, 3) := by decide +kernel
theorem d_B_plug_4 : decode c_B_plug 4 = .ok (.iload_n 1, 1) := by decide +kernel
theorem d_B_plug_5 : decode c_B_plug 5 = .ok (.iconst 1, 1) := by decide +kernel
theorem d_B_plug_6 : decode c_B_plug 6 = .ok (.if_icmp .le 11, 3) := by decide +kernel
theorem d_B_plug_9 : decode c_B_plug 9 = .ok (.new 111, 3) := by decide +kernel
theorem d_B_plug_12 : decode c_B_plug 12 = .ok (.dup, 1) := by decide +kernel
theorem d_B_plug_13 : decode c_B_plug 13 = .ok (.invokespecial 113, 3) := by decide +kernel
theorem d_B_plug_16 : decode c_B_plug 16 = .ok (.athrow, 1) := by decide +kernel
theorem d_B_plug_17 : decode c_B_plug 17 = .ok (.iload_n 2, 1) := by decide +kernel
theorem d_B_plug_18 : decode c_B_plug 18 = .ok (.iconst 1, 1) := by decide +kernel
theorem d_B_plug_19 : decode c_B_plug 19 = .ok (.if_icmp .lt 38, 3) := by decide +kernel
theorem d_B_plug_22 : decode c_B_plug 22 = .ok (.iload_n 2, 1) := by decide +kernel
theorem d_B_plug_23 : decode c_B_plug 23 = .ok (.bipush 20, 2) := by decide +kernel
theorem d_B_plug_25 : decode c_B_plug 25 = .ok (.if_icmp .gt 32, 3) := by decide +kernel
theorem d_B_plug_28 : decode c_B_plug 28 = .ok (.iload_n 3, 1) := by decide +kernel
theorem d_B_plug_29 : decode c_B_plug 29 = .ok (.iconst 1, 1) := by decide +kernel
theorem d_B_plug_30 : decode c_B_plug 30 = .ok (.if_icmp .lt 27, 3) := by decide +kernel
theorem d_B_plug_33 : decode c_B_plug 33 = .ok (.iload_n 3, 1) := by decide +kernel
theorem d_B_plug_34 : decode c_B_plug 34 = .ok (.bipush 40, 2) := by decide +kernel
theorem d_B_plug_36 : decode c_B_plug 36 = .ok (.if_icmp .gt 21, 3) := by decide +kernel
theorem d_B_plug_39 : decode c_B_plug 39 = .ok (.iload 4, 2) := by decide +kernel
theorem d_B_plug_41 : decode c_B_plug 41 = .ok (.ldc 114, 2) := by decide +kernel
theorem d_B_plug_43 : decode c_B_plug 43 = .ok (.if_icmp .lt 14, 3) := by decide +kernel
theorem d_B_plug_46 : decode c_B_plug 46 = .ok (.iload 4, 2) := by decide +kernel
theorem d_B_plug_48 : decode c_B_plug 48 = .ok (.ldc 115, 2) := by decide +kernel
theorem d_B_plug_50 : decode c_B_plug 50 = .ok (.if_icmp .gt 7, 3) := by decide +kernel
theorem d_B_plug_53 : decode c_B_plug 53 = .ok (.iconst 1, 1) := by decide +kernel
theorem d_B_plug_54 : decode c_B_plug 54 = .ok (.goto 4, 3) := by decide +kernel
theorem d_B_plug_57 : decode c_B_plug 57 = .ok (.iconst 0, 1) := by decide +kernel
theorem d_B_plug_58 : decode c_B_plug 58 = .ok (.istore 8, 2) := by decide +kernel
theorem d_B_plug_60 : decode c_B_plug 60 = .ok (.iload 7, 2) := by decide +kernel
theorem d_B_plug_62 : decode c_B_plug 62 = .ok (.iconst 1, 1) := by decide +kernel
theorem d_B_plug_63 : decode c_B_plug 63 = .ok (.if_icmp .lt 39, 3) := by decide +kernel
theorem d_B_plug_66 : decode c_B_plug 66 = .ok (.iload 7, 2) := by decide +kernel
theorem d_B_plug_68 : decode c_B_plug 68 = .ok (.sipush 1000, 3) := by decide +kernel
theorem d_B_plug_71 : decode c_B_plug 71 = .ok (.if_icmp .gt 31, 3) := by decide +kernel
theorem d_B_plug_74 : decode c_B_plug 74 = .ok (.iload 5, 2) := by decide +kernel
theorem d_B_plug_76 : decode c_B_plug 76 = .ok (.ifCond .lt 26, 3) := by decide +kernel
theorem d_B_plug_79 : decode c_B_plug 79 = .ok (.iload 5, 2) := by decide +kernel
theorem d_B_plug_81 : decode c_B_plug 81 = .ok (.iload 7, 2) := by decide +kernel
theorem d_B_plug_83 : decode c_B_plug 83 = .ok (.if_icmp .gt 19, 3) := by decide +kernel
theorem d_B_plug_86 : decode c_B_plug 86 = .ok (.iload 6, 2) := by decide +kernel
theorem d_B_plug_88 : decode c_B_plug 88 = .ok (.ifCond .lt 14, 3) := by decide +kernel
theorem d_B_plug_91 : decode c_B_plug 91 = .ok (.iload 6, 2) := by decide +kernel
theorem d_B_plug_93 : decode c_B_plug 93 = .ok (.iload 7, 2) := by decide +kernel
theorem d_B_plug_95 : decode c_B_plug 95 = .ok (.if_icmp .ge 7, 3) := by decide +kernel
theorem d_B_plug_98 : decode c_B_plug 98 = .ok (.iconst 1, 1) := by decide +kernel
theorem d_B_plug_99 : decode c_B_plug 99 = .ok (.goto 4, 3) := by decide +kernel
theorem d_B_plug_102 : decode c_B_plug 102 = .ok (.iconst 0, 1) := by decide +kernel
theorem d_B_plug_103 : decode c_B_plug 103 = .ok (.istore 9, 2) := by decide +kernel
theorem d_B_plug_105 : decode c_B_plug 105 = .ok (.iload 8, 2) := by decide +kernel
theorem d_B_plug_107 : decode c_B_plug 107 = .ok (.ifCond .eq 8, 3) := by decide +kernel
theorem d_B_plug_110 : decode c_B_plug 110 = .ok (.iload 9, 2) := by decide +kernel
theorem d_B_plug_112 : decode c_B_plug 112 = .ok (.ifCond .ne 11, 3) := by decide +kernel
theorem d_B_plug_115 : decode c_B_plug 115 = .ok (.new 116, 3) := by decide +kernel
theorem d_B_plug_118 : decode c_B_plug 118 = .ok (.dup, 1) := by decide +kernel
theorem d_B_plug_119 : decode c_B_plug 119 = .ok (.invokespecial 118, 3) := by decide +kernel
theorem d_B_plug_122 : decode c_B_plug 122 = .ok (.athrow, 1) := by decide +kernel
theorem d_B_plug_123 : decode c_B_plug 123 = .ok (.aload_n 0, 1) := by decide +kernel
theorem d_B_plug_124 : decode c_B_plug 124 = .ok (.getfield 51, 3) := by decide +kernel
theorem d_B_plug_127 : decode c_B_plug 127 = .ok (.bipush 12, 2) := by decide +kernel
theorem d_B_plug_129 : decode c_B_plug 129 = .ok (.iload_n 1, 1) := by decide +kernel
theorem d_B_plug_130 : decode c_B_plug 130 = .ok (.iadd, 1) := by decide +kernel
theorem d_B_plug_131 : decode c_B_plug 131 = .ok (.aaload, 1) := by decide +kernel
theorem d_B_plug_132 : decode c_B_plug 132 = .ok (.ifnull 7, 3) := by decide +kernel
theorem d_B_plug_135 : decode c_B_plug 135 = .ok (.iconst 1, 1) := by decide +kernel
theorem d_B_plug_136 : decode c_B_plug 136 = .ok (.goto 4, 3) := by decide +kernel
theorem d_B_plug_139 : decode c_B_plug 139 = .ok (.iconst 0, 1) := by decide +kernel
theorem d_B_plug_140 : decode c_B_plug 140 = .ok (.istore 10, 2) := by decide +kernel
theorem d_B_plug_142 : decode c_B_plug 142 = .ok (.iload_n 2, 1) := by decide +kernel
theorem d_B_plug_143 : decode c_B_plug 143 = .ok (.newarray .int, 2) := by decide +kernel
theorem d_B_plug_145 : decode c_B_plug 145 = .ok (.astore 11, 2) := by decide +kernel
theorem d_B_plug_147 : decode c_B_plug 147 = .ok (.aload 11, 2) := by decide +kernel
theorem d_B_plug_149 : decode c_B_plug 149 = .ok (.iload_n 3, 1) := by decide +kernel
theorem d_B_plug_150 : decode c_B_plug 150 = .ok (.invokestatic 119, 3) := by decide +kernel
theorem d_B_plug_153 : decode c_B_plug 153 = .ok (.aload_n 0, 1) := by decide +kernel
theorem d_B_plug_154 : decode c_B_plug 154 = .ok (.getfield 51, 3) := by decide +kernel
theorem d_B_plug_157 : decode c_B_plug 157 = .ok (.bipush 12, 2) := by decide +kernel
theorem d_B_plug_159 : decode c_B_plug 159 = .ok (.iload_n 1, 1) := by decide +kernel
theorem d_B_plug_160 : decode c_B_plug 160 = .ok (.iadd, 1) := by decide +kernel
theorem d_B_plug_161 : decode c_B_plug 161 = .ok (.new 7, 3) := by decide +kernel
theorem d_B_plug_164 : decode c_B_plug 164 = .ok (.dup, 1) := by decide +kernel
theorem d_B_plug_165 : decode c_B_plug 165 = .ok (.getstatic 9, 3) := by decide +kernel
theorem d_B_plug_168 : decode c_B_plug 168 = .ok (.aload 11, 2) := by decide +kernel
theorem d_B_plug_170 : decode c_B_plug 170 = .ok (.iload_n 2, 1) := by decide +kernel
theorem d_B_plug_171 : decode c_B_plug 171 = .ok (.iconst 1, 1) := by decide +kernel
theorem d_B_plug_172 : decode c_B_plug 172 = .ok (.isub, 1) := by decide +kernel
theorem d_B_plug_173 : decode c_B_plug 173 = .ok (.iload 4, 2) := by decide +kernel
theorem d_B_plug_175 : decode c_B_plug 175 = .ok (.i2l, 1) := by decide +kernel
theorem d_B_plug_176 : decode c_B_plug 176 = .ok (.iconst 1, 1) := by decide +kernel
theorem d_B_plug_177 : decode c_B_plug 177 = .ok (.new 32, 3) := by decide +kernel
theorem d_B_plug_180 : decode c_B_plug 180 = .ok (.dup, 1) := by decide +kernel
theorem d_B_plug_181 : decode c_B_plug 181 = .ok (.iload 5, 2) := by decide +kernel
theorem d_B_plug_183 : decode c_B_plug 183 = .ok (.i2l, 1) := by decide +kernel
theorem d_B_plug_184 : decode c_B_plug 184 = .ok (.iload 6, 2) := by decide +kernel
theorem d_B_plug_186 : decode c_B_plug 186 = .ok (.i2l, 1) := by decide +kernel
theorem d_B_plug_187 : decode c_B_plug 187 = .ok (.iload 7, 2) := by decide +kernel
theorem d_B_plug_189 : decode c_B_plug 189 = .ok (.i2l, 1) := by decide +kernel
theorem d_B_plug_190 : decode c_B_plug 190 = .ok (.invokespecial 36, 3) := by decide +kernel
theorem d_B_plug_193 : decode c_B_plug 193 = .ok (.invokespecial 23, 3) := by decide +kernel
theorem d_B_plug_196 : decode c_B_plug 196 = .ok (.aastore, 1) := by decide +kernel
theorem d_B_plug_197 : decode c_B_plug 197 = .ok (.iload 10, 2) := by decide +kernel
theorem d_B_plug_199 : decode c_B_plug 199 = .ok (.ireturn, 1) := by decide +kernel
theorem d_B_read_0 : decode c_B_read 0 = .ok (.aload_n 0, 1) := by decide +kernel
theorem d_B_read_1 : decode c_B_read 1 = .ok (.iload_n 1, 1) := by decide +kernel
theorem d_B_read_2 : decode c_B_read 2 = .ok (.invokevirtual 125, 3) := by decide +kernel
theorem d_B_read_5 : decode c_B_read 5 = .ok (.astore_n 2, 1) := by decide +kernel
theorem d_B_read_6 : decode c_B_read 6 = .ok (.aload_n 2, 1) := by decide +kernel
theorem d_B_read_7 : decode c_B_read 7 = .ok (.ifnonnull 11, 3) := by decide +kernel
theorem d_B_read_10 : decode c_B_read 10 = .ok (.new 111, 3) := by decide +kernel
theorem d_B_read_13 : decode c_B_read 13 = .ok (.dup, 1) := by decide +kernel
theorem d_B_read_14 : decode c_B_read 14 = .ok (.invokespecial 113, 3) := by decide +kernel
theorem d_B_read_17 : decode c_B_read 17 = .ok (.athrow, 1) := by decide +kernel
theorem d_B_read_18 : decode c_B_read 18 = .ok (.aload_n 0, 1) := by decide +kernel
theorem d_B_read_19 : decode c_B_read 19 = .ok (.iconst 0, 1) := by decide +kernel
theorem d_B_read_20 : decode c_B_read 20 = .ok (.invokevirtual 221, 3) := by decide +kernel
theorem d_B_read_23 : decode c_B_read 23 = .ok (.istore_n 3, 1) := by decide +kernel
theorem d_B_read_24 : decode c_B_read 24 = .ok (.aload_n 0, 1) := by decide +kernel
theorem d_B_read_25 : decode c_B_read 25 = .ok (.iload_n 3, 1) := by decide +kernel
theorem d_B_read_26 : decode c_B_read 26 = .ok (.iconst 1, 1) := by decide +kernel
theorem d_B_read_27 : decode c_B_read 27 = .ok (.iadd, 1) := by decide +kernel
theorem d_B_read_28 : decode c_B_read 28 = .ok (.invokevirtual 221, 3) := by decide +kernel
theorem d_B_read_31 : decode c_B_read 31 = .ok (.istore 4, 2) := by decide +kernel
theorem d_B_read_33 : decode c_B_read 33 = .ok (.aload_n 0, 1) := by decide +kernel
theorem d_B_read_34 : decode c_B_read 34 = .ok (.iconst 0, 1) := by decide +kernel
theorem d_B_read_35 : decode c_B_read 35 = .ok (.iload_n 3, 1) := by decide +kernel
theorem d_B_read_36 : decode c_B_read 36 = .ok (.invokevirtual 224, 3) := by decide +kernel
theorem d_B_read_39 : decode c_B_read 39 = .ok (.istore 5, 2) := by decide +kernel
theorem d_B_read_41 : decode c_B_read 41 = .ok (.aload_n 0, 1) := by decide +kernel
theorem d_B_read_42 : decode c_B_read 42 = .ok (.iload_n 3, 1) := by decide +kernel
theorem d_B_read_43 : decode c_B_read 43 = .ok (.iconst 1, 1) := by decide +kernel
theorem d_B_read_44 : decode c_B_read 44 = .ok (.iadd, 1) := by decide +kernel
theorem d_B_read_45 : decode c_B_read 45 = .ok (.iload 4, 2) := by decide +kernel
theorem d_B_read_47 : decode c_B_read 47 = .ok (.invokevirtual 224, 3) := by decide +kernel
theorem d_B_read_50 : decode c_B_read 50 = .ok (.istore 6, 2) := by decide +kernel
theorem d_B_read_52 : decode c_B_read 52 = .ok (.aload_n 0, 1) := by decide +kernel
theorem d_B_read_53 : decode c_B_read 53 = .ok (.iload 4, 2) := by decide +kernel
theorem d_B_read_55 : decode c_B_read 55 = .ok (.iconst 1, 1) := by decide +kernel
theorem d_B_read_56 : decode c_B_read 56 = .ok (.iadd, 1) := by decide +kernel
theorem d_B_read_57 : decode c_B_read 57 = .ok (.aload_n 0, 1) := by decide +kernel
theorem d_B_read_58 : decode c_B_read 58 = .ok (.getfield 107, 3) := by decide +kernel
theorem d_B_read_61 : decode c_B_read 61 = .ok (.invokevirtual 209, 3) := by decide +kernel
theorem d_B_read_64 : decode c_B_read 64 = .ok (.invokevirtual 224, 3) := by decide +kernel
theorem d_B_read_67 : decode c_B_read 67 = .ok (.istore 7, 2) := by decide +kernel
theorem d_B_read_69 : decode c_B_read 69 = .ok (.iload 5, 2) := by decide +kernel
theorem d_B_read_71 : decode c_B_read 71 = .ok (.ldc 183, 2) := by decide +kernel
theorem d_B_read_73 : decode c_B_read 73 = .ok (.if_icmp .eq 27, 3) := by decide +kernel
theorem d_B_read_76 : decode c_B_read 76 = .ok (.iload 6, 2) := by decide +kernel
theorem d_B_read_78 : decode c_B_read 78 = .ok (.ldc 183, 2) := by decide +kernel
theorem d_B_read_80 : decode c_B_read 80 = .ok (.if_icmp .eq 20, 3) := by decide +kernel
theorem d_B_read_83 : decode c_B_read 83 = .ok (.iload 7, 2) := by decide +kernel
theorem d_B_read_85 : decode c_B_read 85 = .ok (.ldc 183, 2) := by decide +kernel
theorem d_B_read_87 : decode c_B_read 87 = .ok (.if_icmp .eq 13, 3) := by decide +kernel
theorem d_B_read_90 : decode c_B_read 90 = .ok (.iload 5, 2) := by decide +kernel
theorem d_B_read_92 : decode c_B_read 92 = .ok (.ldc 150, 2) := by decide +kernel
theorem d_B_read_94 : decode c_B_read 94 = .ok (.invokestatic 151, 3) := by decide +kernel
theorem d_B_read_97 : decode c_B_read 97 = .ok (.ifCond .ne 11, 3) := by decide +kernel
theorem d_B_read_100 : decode c_B_read 100 = .ok (.new 116, 3) := by decide +kernel
theorem d_B_read_103 : decode c_B_read 103 = .ok (.dup, 1) := by decide +kernel
theorem d_B_read_104 : decode c_B_read 104 = .ok (.invokespecial 118, 3) := by decide +kernel
theorem d_B_read_107 : decode c_B_read 107 = .ok (.athrow, 1) := by decide +kernel
theorem d_B_read_108 : decode c_B_read 108 = .ok (.aload_n 2, 1) := by decide +kernel
theorem d_B_read_109 : decode c_B_read 109 = .ok (.iload 5, 2) := by decide +kernel
theorem d_B_read_111 : decode c_B_read 111 = .ok (.i2l, 1) := by decide +kernel
theorem d_B_read_112 : decode c_B_read 112 = .ok (.iload 6, 2) := by decide +kernel
theorem d_B_read_114 : decode c_B_read 114 = .ok (.iload 7, 2) := by decide +kernel
theorem d_B_read_116 : decode c_B_read 116 = .ok (.invokevirtual 155, 3) := by decide +kernel
theorem d_B_read_119 : decode c_B_read 119 = .ok (.lstore 8, 2) := by decide +kernel
theorem d_B_read_121 : decode c_B_read 121 = .ok (.lload 8, 2) := by decide +kernel
theorem d_B_read_123 : decode c_B_read 123 = .ok (.ldc2_w 159, 3) := by decide +kernel
theorem d_B_read_126 : decode c_B_read 126 = .ok (.lcmp, 1) := by decide +kernel
theorem d_B_read_127 : decode c_B_read 127 = .ok (.ifCond .eq 11, 3) := by decide +kernel
theorem d_B_read_130 : decode c_B_read 130 = .ok (.lload 8, 2) := by decide +kernel
theorem d_B_read_132 : decode c_B_read 132 = .ok (.invokestatic 129, 3) := by decide +kernel
theorem d_B_read_135 : decode c_B_read 135 = .ok (.ifCond .ne 11, 3) := by decide +kernel
theorem d_B_read_138 : decode c_B_read 138 = .ok (.new 116, 3) := by decide +kernel
theorem d_B_read_141 : decode c_B_read 141 = .ok (.dup, 1) := by decide +kernel
theorem d_B_read_142 : decode c_B_read 142 = .ok (.invokespecial 118, 3) := by decide +kernel
theorem d_B_read_145 : decode c_B_read 145 = .ok (.athrow, 1) := by decide +kernel
theorem d_B_read_146 : decode c_B_read 146 = .ok (.lload 8, 2) := by decide +kernel
theorem d_B_read_148 : decode c_B_read 148 = .ok (.l2i, 1) := by decide +kernel
theorem d_B_read_149 : decode c_B_read 149 = .ok (.ireturn, 1) := by decide +kernel
theorem d_B_rounds_0 : decode c_B_rounds 0 = .ok (.iload_n 1, 1) := by decide +kernel
theorem d_B_rounds_1 : decode c_B_rounds 1 = .ok (.i2l, 1) := by decide +kernel
theorem d_B_rounds_2 : decode c_B_rounds 2 = .ok (.invokestatic 129, 3) := by decide +kernel
theorem d_B_rounds_5 : decode c_B_rounds 5 = .ok (.ifCond .eq 19, 3) := by decide +kernel
theorem d_B_rounds_8 : decode c_B_rounds 8 = .ok (.iload_n 1, 1) := by decide +kernel
theorem d_B_rounds_9 : decode c_B_rounds 9 = .ok (.invokestatic 176, 3) := by decide +kernel
theorem d_B_rounds_12 : decode c_B_rounds 12 = .ok (.sipush 1000, 3) := by decide +kernel
theorem d_B_rounds_15 : decode c_B_rounds 15 = .ok (.iload_n 1, 1) := by decide +kernel
theorem d_B_rounds_16 : decode c_B_rounds 16 = .ok (.invokestatic 180, 3) := by decide +kernel
theorem d_B_rounds_19 : decode c_B_rounds 19 = .ok (.imul, 1) := by decide +kernel
theorem d_B_rounds_20 : decode c_B_rounds 20 = .ok (.iadd, 1) := by decide +kernel
theorem d_B_rounds_21 : decode c_B_rounds 21 = .ok (.goto 5, 3) := by decide +kernel
theorem d_B_rounds_24 : decode c_B_rounds 24 = .ok (.ldc 183, 2) := by decide +kernel
theorem d_B_rounds_26 : decode c_B_rounds 26 = .ok (.ireturn, 1) := by decide +kernel
theorem d_B_slashFrom_0 : decode c_B_slashFrom 0 = .ok (.iload_n 1, 1) := by decide +kernel
theorem d_B_slashFrom_1 : decode c_B_slashFrom 1 = .ok (.istore_n 2, 1) := by decide +kernel
theorem d_B_slashFrom_2 : decode c_B_slashFrom 2 = .ok (.iload_n 2, 1) := by decide +kernel
theorem d_B_slashFrom_3 : decode c_B_slashFrom 3 = .ok (.aload_n 0, 1) := by decide +kernel
theorem d_B_slashFrom_4 : decode c_B_slashFrom 4 = .ok (.getfield 107, 3) := by decide +kernel
theorem d_B_slashFrom_7 : decode c_B_slashFrom 7 = .ok (.invokevirtual 209, 3) := by decide +kernel
theorem d_B_slashFrom_10 : decode c_B_slashFrom 10 = .ok (.if_icmp .ge 22, 3) := by decide +kernel
theorem d_B_slashFrom_13 : decode c_B_slashFrom 13 = .ok (.aload_n 0, 1) := by decide +kernel
theorem d_B_slashFrom_14 : decode c_B_slashFrom 14 = .ok (.getfield 107, 3) := by decide +kernel
theorem d_B_slashFrom_17 : decode c_B_slashFrom 17 = .ok (.iload_n 2, 1) := by decide +kernel
theorem d_B_slashFrom_18 : decode c_B_slashFrom 18 = .ok (.invokevirtual 217, 3) := by decide +kernel
theorem d_B_slashFrom_21 : decode c_B_slashFrom 21 = .ok (.bipush 47, 2) := by decide +kernel
theorem d_B_slashFrom_23 : decode c_B_slashFrom 23 = .ok (.if_icmp .eq 9, 3) := by decide +kernel
theorem d_B_slashFrom_26 : decode c_B_slashFrom 26 = .ok (.iinc 2 1, 3) := by decide +kernel
theorem d_B_slashFrom_29 : decode c_B_slashFrom 29 = .ok (.goto (-27), 3) := by decide +kernel
theorem d_B_slashFrom_32 : decode c_B_slashFrom 32 = .ok (.iload_n 2, 1) := by decide +kernel
theorem d_B_slashFrom_33 : decode c_B_slashFrom 33 = .ok (.aload_n 0, 1) := by decide +kernel
theorem d_B_slashFrom_34 : decode c_B_slashFrom 34 = .ok (.getfield 107, 3) := by decide +kernel
theorem d_B_slashFrom_37 : decode c_B_slashFrom 37 = .ok (.invokevirtual 209, 3) := by decide +kernel
theorem d_B_slashFrom_40 : decode c_B_slashFrom 40 = .ok (.if_icmp .ge 7, 3) := by decide +kernel
theorem d_B_slashFrom_43 : decode c_B_slashFrom 43 = .ok (.iload_n 2, 1) := by decide +kernel
theorem d_B_slashFrom_44 : decode c_B_slashFrom 44 = .ok (.goto 10, 3) := by decide +kernel
theorem d_B_slashFrom_47 : decode c_B_slashFrom 47 = .ok (.aload_n 0, 1) := by decide +kernel
theorem d_B_slashFrom_48 : decode c_B_slashFrom 48 = .ok (.getfield 107, 3) := by decide +kernel
theorem d_B_slashFrom_51 : decode c_B_slashFrom 51 = .ok (.invokevirtual 209, 3) := by decide +kernel
theorem d_B_slashFrom_54 : decode c_B_slashFrom 54 = .ok (.ireturn, 1) := by decide +kernel
theorem d_B_sundayBehind_0 : decode c_B_sundayBehind 0 = .ok (.lload_n 0, 1) := by decide +kernel
theorem d_B_sundayBehind_1 : decode c_B_sundayBehind 1 = .ok (.ldc2_w 240, 3) := by decide +kernel
theorem d_B_sundayBehind_4 : decode c_B_sundayBehind 4 = .ok (.ladd, 1) := by decide +kernel
theorem d_B_sundayBehind_5 : decode c_B_sundayBehind 5 = .ok (.lload_n 0, 1) := by decide +kernel
theorem d_B_sundayBehind_6 : decode c_B_sundayBehind 6 = .ok (.ldc2_w 240, 3) := by decide +kernel
theorem d_B_sundayBehind_9 : decode c_B_sundayBehind 9 = .ok (.invokestatic 242, 3) := by decide +kernel
theorem d_B_sundayBehind_12 : decode c_B_sundayBehind 12 = .ok (.lsub, 1) := by decide +kernel
theorem d_B_sundayBehind_13 : decode c_B_sundayBehind 13 = .ok (.lreturn, 1) := by decide +kernel
theorem d_B_type_0 : decode c_B_type 0 = .ok (.iload_n 1, 1) := by decide +kernel
theorem d_B_type_1 : decode c_B_type 1 = .ok (.invokestatic 213, 3) := by decide +kernel
theorem d_B_type_4 : decode c_B_type 4 = .ok (.ifCond .ne 15, 3) := by decide +kernel
theorem d_B_type_7 : decode c_B_type 7 = .ok (.iload_n 1, 1) := by decide +kernel
theorem d_B_type_8 : decode c_B_type 8 = .ok (.bipush 45, 2) := by decide +kernel
theorem d_B_type_10 : decode c_B_type 10 = .ok (.if_icmp .eq 9, 3) := by decide +kernel
theorem d_B_type_13 : decode c_B_type 13 = .ok (.iload_n 1, 1) := by decide +kernel
theorem d_B_type_14 : decode c_B_type 14 = .ok (.bipush 47, 2) := by decide +kernel
theorem d_B_type_16 : decode c_B_type 16 = .ok (.if_icmp .ne 7, 3) := by decide +kernel
theorem d_B_type_19 : decode c_B_type 19 = .ok (.iconst 1, 1) := by decide +kernel
theorem d_B_type_20 : decode c_B_type 20 = .ok (.goto 4, 3) := by decide +kernel
theorem d_B_type_23 : decode c_B_type 23 = .ok (.iconst 0, 1) := by decide +kernel
theorem d_B_type_24 : decode c_B_type 24 = .ok (.istore_n 2, 1) := by decide +kernel
theorem d_B_type_25 : decode c_B_type 25 = .ok (.iload_n 2, 1) := by decide +kernel
theorem d_B_type_26 : decode c_B_type 26 = .ok (.ifCond .eq 15, 3) := by decide +kernel
theorem d_B_type_29 : decode c_B_type 29 = .ok (.aload_n 0, 1) := by decide +kernel
theorem d_B_type_30 : decode c_B_type 30 = .ok (.getfield 107, 3) := by decide +kernel
theorem d_B_type_33 : decode c_B_type 33 = .ok (.invokevirtual 209, 3) := by decide +kernel
theorem d_B_type_36 : decode c_B_type 36 = .ok (.bipush 24, 2) := by decide +kernel
theorem d_B_type_38 : decode c_B_type 38 = .ok (.if_icmp .lt 5, 3) := by decide +kernel
theorem d_B_type_41 : decode c_B_type 41 = .ok (.iconst 0, 1) := by decide +kernel
theorem d_B_type_42 : decode c_B_type 42 = .ok (.ireturn, 1) := by decide +kernel
theorem d_B_type_43 : decode c_B_type 43 = .ok (.aload_n 0, 1) := by decide +kernel
theorem d_B_type_44 : decode c_B_type 44 = .ok (.getfield 107, 3) := by decide +kernel
theorem d_B_type_47 : decode c_B_type 47 = .ok (.iload_n 1, 1) := by decide +kernel
theorem d_B_type_48 : decode c_B_type 48 = .ok (.invokevirtual 206, 3) := by decide +kernel
theorem d_B_type_51 : decode c_B_type 51 = .ok (.pop, 1) := by decide +kernel
theorem d_B_type_52 : decode c_B_type 52 = .ok (.iconst 1, 1) := by decide +kernel
theorem d_B_type_53 : decode c_B_type 53 = .ok (.ireturn, 1) := by decide +kernel
theorem d_B_when_0 : decode c_B_when 0 = .ok (.aload_n 0, 1) := by decide +kernel
theorem d_B_when_1 : decode c_B_when 1 = .ok (.iload_n 1, 1) := by decide +kernel
theorem d_B_when_2 : decode c_B_when 2 = .ok (.invokevirtual 125, 3) := by decide +kernel
theorem d_B_when_5 : decode c_B_when 5 = .ok (.astore 6, 2) := by decide +kernel
theorem d_B_when_7 : decode c_B_when 7 = .ok (.aload 6, 2) := by decide +kernel
theorem d_B_when_9 : decode c_B_when 9 = .ok (.ifnonnull 11, 3) := by decide +kernel
theorem d_B_when_12 : decode c_B_when 12 = .ok (.new 111, 3) := by decide +kernel
theorem d_B_when_15 : decode c_B_when 15 = .ok (.dup, 1) := by decide +kernel
theorem d_B_when_16 : decode c_B_when 16 = .ok (.invokespecial 113, 3) := by decide +kernel
theorem d_B_when_19 : decode c_B_when 19 = .ok (.athrow, 1) := by decide +kernel
theorem d_B_when_20 : decode c_B_when 20 = .ok (.iload 4, 2) := by decide +kernel
theorem d_B_when_22 : decode c_B_when 22 = .ok (.ldc 184, 2) := by decide +kernel
theorem d_B_when_24 : decode c_B_when 24 = .ok (.invokestatic 151, 3) := by decide +kernel
theorem d_B_when_27 : decode c_B_when 27 = .ok (.ifCond .ne 11, 3) := by decide +kernel
theorem d_B_when_30 : decode c_B_when 30 = .ok (.new 133, 3) := by decide +kernel
theorem d_B_when_33 : decode c_B_when 33 = .ok (.dup, 1) := by decide +kernel
theorem d_B_when_34 : decode c_B_when 34 = .ok (.invokespecial 135, 3) := by decide +kernel
theorem d_B_when_37 : decode c_B_when 37 = .ok (.athrow, 1) := by decide +kernel
theorem d_B_when_38 : decode c_B_when 38 = .ok (.aload_n 0, 1) := by decide +kernel
theorem d_B_when_39 : decode c_B_when 39 = .ok (.getfield 26, 3) := by decide +kernel
theorem d_B_when_42 : decode c_B_when 42 = .ok (.iload 4, 2) := by decide +kernel
theorem d_B_when_44 : decode c_B_when 44 = .ok (.i2l, 1) := by decide +kernel
theorem d_B_when_45 : decode c_B_when 45 = .ok (.invokevirtual 195, 3) := by decide +kernel
theorem d_B_when_48 : decode c_B_when 48 = .ok (.lstore 7, 2) := by decide +kernel
theorem d_B_when_50 : decode c_B_when 50 = .ok (.aload_n 0, 1) := by decide +kernel
theorem d_B_when_51 : decode c_B_when 51 = .ok (.getfield 26, 3) := by decide +kernel
theorem d_B_when_54 : decode c_B_when 54 = .ok (.iload 4, 2) := by decide +kernel
theorem d_B_when_56 : decode c_B_when 56 = .ok (.i2l, 1) := by decide +kernel
theorem d_B_when_57 : decode c_B_when 57 = .ok (.lconst 1, 1) := by decide +kernel
theorem d_B_when_58 : decode c_B_when 58 = .ok (.ladd, 1) := by decide +kernel
theorem d_B_when_59 : decode c_B_when 59 = .ok (.invokevirtual 195, 3) := by decide +kernel
theorem d_B_when_62 : decode c_B_when 62 = .ok (.lconst 1, 1) := by decide +kernel
theorem d_B_when_63 : decode c_B_when 63 = .ok (.lsub, 1) := by decide +kernel
theorem d_B_when_64 : decode c_B_when 64 = .ok (.lstore 9, 2) := by decide +kernel
theorem d_B_when_66 : decode c_B_when 66 = .ok (.aload 6, 2) := by decide +kernel
theorem d_B_when_68 : decode c_B_when 68 = .ok (.lload 9, 2) := by decide +kernel
theorem d_B_when_70 : decode c_B_when 70 = .ok (.invokevirtual 136, 3) := by decide +kernel
theorem d_B_when_73 : decode c_B_when 73 = .ok (.invokestatic 140, 3) := by decide +kernel
theorem d_B_when_76 : decode c_B_when 76 = .ok (.istore 11, 2) := by decide +kernel
theorem d_B_when_78 : decode c_B_when 78 = .ok (.iconst 0, 1) := by decide +kernel
theorem d_B_when_79 : decode c_B_when 79 = .ok (.istore 12, 2) := by decide +kernel
theorem d_B_when_81 : decode c_B_when 81 = .ok (.aload 6, 2) := by decide +kernel
theorem d_B_when_83 : decode c_B_when 83 = .ok (.lload 7, 2) := by decide +kernel
theorem d_B_when_85 : decode c_B_when 85 = .ok (.invokevirtual 136, 3) := by decide +kernel
theorem d_B_when_88 : decode c_B_when 88 = .ok (.invokestatic 140, 3) := by decide +kernel
theorem d_B_when_91 : decode c_B_when 91 = .ok (.istore 13, 2) := by decide +kernel
theorem d_B_when_93 : decode c_B_when 93 = .ok (.iload 13, 2) := by decide +kernel
theorem d_B_when_95 : decode c_B_when 95 = .ok (.iload 11, 2) := by decide +kernel
theorem d_B_when_97 : decode c_B_when 97 = .ok (.if_icmp .gt 51, 3) := by decide +kernel
theorem d_B_when_100 : decode c_B_when 100 = .ok (.aload 6, 2) := by decide +kernel
theorem d_B_when_102 : decode c_B_when 102 = .ok (.iload 13, 2) := by decide +kernel
theorem d_B_when_104 : decode c_B_when 104 = .ok (.i2l, 1) := by decide +kernel
theorem d_B_when_105 : decode c_B_when 105 = .ok (.iload_n 2, 1) := by decide +kernel
theorem d_B_when_106 : decode c_B_when 106 = .ok (.iload_n 3, 1) := by decide +kernel
theorem d_B_when_107 : decode c_B_when 107 = .ok (.invokevirtual 155, 3) := by decide +kernel
theorem d_B_when_110 : decode c_B_when 110 = .ok (.lstore 14, 2) := by decide +kernel
theorem d_B_when_112 : decode c_B_when 112 = .ok (.lload 14, 2) := by decide +kernel
theorem d_B_when_114 : decode c_B_when 114 = .ok (.lload 7, 2) := by decide +kernel
theorem d_B_when_116 : decode c_B_when 116 = .ok (.lcmp, 1) := by decide +kernel
theorem d_B_when_117 : decode c_B_when 117 = .ok (.ifCond .lt 25, 3) := by decide +kernel
theorem d_B_when_120 : decode c_B_when 120 = .ok (.lload 14, 2) := by decide +kernel
theorem d_B_when_122 : decode c_B_when 122 = .ok (.lload 9, 2) := by decide +kernel
theorem d_B_when_124 : decode c_B_when 124 = .ok (.lcmp, 1) := by decide +kernel
theorem d_B_when_125 : decode c_B_when 125 = .ok (.ifCond .gt 17, 3) := by decide +kernel
theorem d_B_when_128 : decode c_B_when 128 = .ok (.iload 12, 2) := by decide +kernel
theorem d_B_when_130 : decode c_B_when 130 = .ok (.iload 5, 2) := by decide +kernel
theorem d_B_when_132 : decode c_B_when 132 = .ok (.if_icmp .ne 7, 3) := by decide +kernel
theorem d_B_when_135 : decode c_B_when 135 = .ok (.lload 14, 2) := by decide +kernel
theorem d_B_when_137 : decode c_B_when 137 = .ok (.l2i, 1) := by decide +kernel
theorem d_B_when_138 : decode c_B_when 138 = .ok (.ireturn, 1) := by decide +kernel
theorem d_B_when_139 : decode c_B_when 139 = .ok (.iinc 12 1, 3) := by decide +kernel
theorem d_B_when_142 : decode c_B_when 142 = .ok (.iinc 13 1, 3) := by decide +kernel
theorem d_B_when_145 : decode c_B_when 145 = .ok (.goto (-52), 3) := by decide +kernel
theorem d_B_when_148 : decode c_B_when 148 = .ok (.ldc 183, 2) := by decide +kernel
theorem d_B_when_150 : decode c_B_when 150 = .ok (.ireturn, 1) := by decide +kernel
theorem d_B_wipe_0 : decode c_B_wipe 0 = .ok (.aload_n 0, 1) := by decide +kernel
theorem d_B_wipe_1 : decode c_B_wipe 1 = .ok (.getfield 107, 3) := by decide +kernel
theorem d_B_wipe_4 : decode c_B_wipe 4 = .ok (.invokevirtual 209, 3) := by decide +kernel
theorem d_B_wipe_7 : decode c_B_wipe 7 = .ok (.istore_n 1, 1) := by decide +kernel
theorem d_B_wipe_8 : decode c_B_wipe 8 = .ok (.aload_n 0, 1) := by decide +kernel
theorem d_B_wipe_9 : decode c_B_wipe 9 = .ok (.getfield 107, 3) := by decide +kernel
theorem d_B_wipe_12 : decode c_B_wipe 12 = .ok (.iconst 0, 1) := by decide +kernel
theorem d_B_wipe_13 : decode c_B_wipe 13 = .ok (.invokevirtual 198, 3) := by decide +kernel
theorem d_B_wipe_16 : decode c_B_wipe 16 = .ok (.iload_n 1, 1) := by decide +kernel
theorem d_B_wipe_17 : decode c_B_wipe 17 = .ok (.ireturn, 1) := by decide +kernel
theorem d_B_write_0 : decode c_B_write 0 = .ok (.aload_n 0, 1) := by decide +kernel
theorem d_B_write_1 : decode c_B_write 1 = .ok (.iload_n 1, 1) := by decide +kernel
theorem d_B_write_2 : decode c_B_write 2 = .ok (.invokevirtual 125, 3) := by decide +kernel
theorem d_B_write_5 : decode c_B_write 5 = .ok (.astore_n 3, 1) := by decide +kernel
theorem d_B_write_6 : decode c_B_write 6 = .ok (.aload_n 3, 1) := by decide +kernel
theorem d_B_write_7 : decode c_B_write 7 = .ok (.ifnonnull 11, 3) := by decide +kernel
theorem d_B_write_10 : decode c_B_write 10 = .ok (.new 111, 3) := by decide +kernel
theorem d_B_write_13 : decode c_B_write 13 = .ok (.dup, 1) := by decide +kernel
theorem d_B_write_14 : decode c_B_write 14 = .ok (.invokespecial 113, 3) := by decide +kernel
theorem d_B_write_17 : decode c_B_write 17 = .ok (.athrow, 1) := by decide +kernel
theorem d_B_write_18 : decode c_B_write 18 = .ok (.iload_n 2, 1) := by decide +kernel
theorem d_B_write_19 : decode c_B_write 19 = .ok (.i2l, 1) := by decide +kernel
theorem d_B_write_20 : decode c_B_write 20 = .ok (.invokestatic 129, 3) := by decide +kernel
theorem d_B_write_23 : decode c_B_write 23 = .ok (.ifCond .ne 11, 3) := by decide +kernel
theorem d_B_write_26 : decode c_B_write 26 = .ok (.new 133, 3) := by decide +kernel
theorem d_B_write_29 : decode c_B_write 29 = .ok (.dup, 1) := by decide +kernel
theorem d_B_write_30 : decode c_B_write 30 = .ok (.invokespecial 135, 3) := by decide +kernel
theorem d_B_write_33 : decode c_B_write 33 = .ok (.athrow, 1) := by decide +kernel
theorem d_B_write_34 : decode c_B_write 34 = .ok (.aload_n 3, 1) := by decide +kernel
theorem d_B_write_35 : decode c_B_write 35 = .ok (.iload_n 2, 1) := by decide +kernel
theorem d_B_write_36 : decode c_B_write 36 = .ok (.i2l, 1) := by decide +kernel
theorem d_B_write_37 : decode c_B_write 37 = .ok (.invokevirtual 136, 3) := by decide +kernel
theorem d_B_write_40 : decode c_B_write 40 = .ok (.lstore 4, 2) := by decide +kernel
theorem d_B_write_42 : decode c_B_write 42 = .ok (.aload_n 0, 1) := by decide +kernel
theorem d_B_write_43 : decode c_B_write 43 = .ok (.getfield 107, 3) := by decide +kernel
theorem d_B_write_46 : decode c_B_write 46 = .ok (.iconst 0, 1) := by decide +kernel
theorem d_B_write_47 : decode c_B_write 47 = .ok (.invokevirtual 198, 3) := by decide +kernel
theorem d_B_write_50 : decode c_B_write 50 = .ok (.aload_n 0, 1) := by decide +kernel
theorem d_B_write_51 : decode c_B_write 51 = .ok (.getfield 107, 3) := by decide +kernel
theorem d_B_write_54 : decode c_B_write 54 = .ok (.lload 4, 2) := by decide +kernel
theorem d_B_write_56 : decode c_B_write 56 = .ok (.invokestatic 140, 3) := by decide +kernel
theorem d_B_write_59 : decode c_B_write 59 = .ok (.invokevirtual 202, 3) := by decide +kernel
theorem d_B_write_62 : decode c_B_write 62 = .ok (.pop, 1) := by decide +kernel
theorem d_B_write_63 : decode c_B_write 63 = .ok (.aload_n 0, 1) := by decide +kernel
theorem d_B_write_64 : decode c_B_write 64 = .ok (.getfield 107, 3) := by decide +kernel
theorem d_B_write_67 : decode c_B_write 67 = .ok (.bipush 47, 2) := by decide +kernel
theorem d_B_write_69 : decode c_B_write 69 = .ok (.invokevirtual 206, 3) := by decide +kernel
theorem d_B_write_72 : decode c_B_write 72 = .ok (.pop, 1) := by decide +kernel
theorem d_B_write_73 : decode c_B_write 73 = .ok (.aload_n 0, 1) := by decide +kernel
theorem d_B_write_74 : decode c_B_write 74 = .ok (.getfield 107, 3) := by decide +kernel
theorem d_B_write_77 : decode c_B_write 77 = .ok (.lload 4, 2) := by decide +kernel
theorem d_B_write_79 : decode c_B_write 79 = .ok (.invokestatic 144, 3) := by decide +kernel
theorem d_B_write_82 : decode c_B_write 82 = .ok (.invokevirtual 202, 3) := by decide +kernel
theorem d_B_write_85 : decode c_B_write 85 = .ok (.pop, 1) := by decide +kernel
theorem d_B_write_86 : decode c_B_write 86 = .ok (.aload_n 0, 1) := by decide +kernel
theorem d_B_write_87 : decode c_B_write 87 = .ok (.getfield 107, 3) := by decide +kernel
theorem d_B_write_90 : decode c_B_write 90 = .ok (.bipush 47, 2) := by decide +kernel
theorem d_B_write_92 : decode c_B_write 92 = .ok (.invokevirtual 206, 3) := by decide +kernel
theorem d_B_write_95 : decode c_B_write 95 = .ok (.pop, 1) := by decide +kernel
theorem d_B_write_96 : decode c_B_write 96 = .ok (.aload_n 0, 1) := by decide +kernel
theorem d_B_write_97 : decode c_B_write 97 = .ok (.getfield 107, 3) := by decide +kernel
theorem d_B_write_100 : decode c_B_write 100 = .ok (.lload 4, 2) := by decide +kernel
theorem d_B_write_102 : decode c_B_write 102 = .ok (.invokestatic 147, 3) := by decide +kernel
theorem d_B_write_105 : decode c_B_write 105 = .ok (.invokevirtual 202, 3) := by decide +kernel
theorem d_B_write_108 : decode c_B_write 108 = .ok (.pop, 1) := by decide +kernel
theorem d_B_write_109 : decode c_B_write 109 = .ok (.aload_n 0, 1) := by decide +kernel
theorem d_B_write_110 : decode c_B_write 110 = .ok (.getfield 107, 3) := by decide +kernel
theorem d_B_write_113 : decode c_B_write 113 = .ok (.invokevirtual 209, 3) := by decide +kernel
theorem d_B_write_116 : decode c_B_write 116 = .ok (.ireturn, 1) := by decide +kernel
theorem d_B_yearIn_0 : decode c_B_yearIn 0 = .ok (.lload_n 0, 1) := by decide +kernel
theorem d_B_yearIn_1 : decode c_B_yearIn 1 = .ok (.bipush 16, 2) := by decide +kernel
theorem d_B_yearIn_3 : decode c_B_yearIn 3 = .ok (.lshr, 1) := by decide +kernel
theorem d_B_yearIn_4 : decode c_B_yearIn 4 = .ok (.l2i, 1) := by decide +kernel
theorem d_B_yearIn_5 : decode c_B_yearIn 5 = .ok (.ireturn, 1) := by decide +kernel
theorem d_C_init_0 : decode c_C_init 0 = .ok (.aload_n 0, 1) := by decide +kernel
theorem d_C_init_1 : decode c_C_init 1 = .ok (.invokespecial 1, 3) := by decide +kernel
theorem d_C_init_4 : decode c_C_init 4 = .ok (.return_, 1) := by decide +kernel
theorem d_C_hasYear_0 : decode c_C_hasYear 0 = .ok (.iconst 1, 1) := by decide +kernel
theorem d_C_hasYear_1 : decode c_C_hasYear 1 = .ok (.ireturn, 1) := by decide +kernel
theorem d_C_isLeap_0 : decode c_C_isLeap 0 = .ok (.iconst 0, 1) := by decide +kernel
theorem d_C_isLeap_1 : decode c_C_isLeap 1 = .ok (.ireturn, 1) := by decide +kernel
theorem d_CR_init_0 : decode c_CR_init 0 = .ok (.aload_n 0, 1) := by decide +kernel
theorem d_CR_init_1 : decode c_CR_init 1 = .ok (.invokespecial 1, 3) := by decide +kernel
theorem d_CR_init_4 : decode c_CR_init 4 = .ok (.aload_n 0, 1) := by decide +kernel
theorem d_CR_init_5 : decode c_CR_init 5 = .ok (.lload_n 1, 1) := by decide +kernel
theorem d_CR_init_6 : decode c_CR_init 6 = .ok (.putfield 7, 3) := by decide +kernel
theorem d_CR_init_9 : decode c_CR_init 9 = .ok (.aload_n 0, 1) := by decide +kernel
theorem d_CR_init_10 : decode c_CR_init 10 = .ok (.iload_n 3, 1) := by decide +kernel
theorem d_CR_init_11 : decode c_CR_init 11 = .ok (.putfield 13, 3) := by decide +kernel
theorem d_CR_init_14 : decode c_CR_init 14 = .ok (.return_, 1) := by decide +kernel
theorem d_CR_isLeapCount_0 : decode c_CR_isLeapCount 0 = .ok (.lload_n 1, 1) := by decide +kernel
theorem d_CR_isLeapCount_1 : decode c_CR_isLeapCount 1 = .ok (.aload_n 0, 1) := by decide +kernel
theorem d_CR_isLeapCount_2 : decode c_CR_isLeapCount 2 = .ok (.getfield 7, 3) := by decide +kernel
theorem d_CR_isLeapCount_5 : decode c_CR_isLeapCount 5 = .ok (.ladd, 1) := by decide +kernel
theorem d_CR_isLeapCount_6 : decode c_CR_isLeapCount 6 = .ok (.lstore_n 3, 1) := by decide +kernel
theorem d_CR_isLeapCount_7 : decode c_CR_isLeapCount 7 = .ok (.aload_n 0, 1) := by decide +kernel
theorem d_CR_isLeapCount_8 : decode c_CR_isLeapCount 8 = .ok (.getfield 13, 3) := by decide +kernel
theorem d_CR_isLeapCount_11 : decode c_CR_isLeapCount 11 = .ok (.ifCond .eq 17, 3) := by decide +kernel
theorem d_CR_isLeapCount_14 : decode c_CR_isLeapCount 14 = .ok (.lload_n 3, 1) := by decide +kernel
theorem d_CR_isLeapCount_15 : decode c_CR_isLeapCount 15 = .ok (.ldc2_w 17, 3) := by decide +kernel
theorem d_CR_isLeapCount_18 : decode c_CR_isLeapCount 18 = .ok (.invokestatic 19, 3) := by decide +kernel
theorem d_CR_isLeapCount_21 : decode c_CR_isLeapCount 21 = .ok (.lconst 0, 1) := by decide +kernel
theorem d_CR_isLeapCount_22 : decode c_CR_isLeapCount 22 = .ok (.lcmp, 1) := by decide +kernel
theorem d_CR_isLeapCount_23 : decode c_CR_isLeapCount 23 = .ok (.ifCond .ne 5, 3) := by decide +kernel
theorem d_CR_isLeapCount_26 : decode c_CR_isLeapCount 26 = .ok (.iconst 0, 1) := by decide +kernel
theorem d_CR_isLeapCount_27 : decode c_CR_isLeapCount 27 = .ok (.ireturn, 1) := by decide +kernel
theorem d_CR_isLeapCount_28 : decode c_CR_isLeapCount 28 = .ok (.lload_n 3, 1) := by decide +kernel
theorem d_CR_isLeapCount_29 : decode c_CR_isLeapCount 29 = .ok (.ldc2_w 25, 3) := by decide +kernel
theorem d_CR_isLeapCount_32 : decode c_CR_isLeapCount 32 = .ok (.invokestatic 19, 3) := by decide +kernel
theorem d_CR_isLeapCount_35 : decode c_CR_isLeapCount 35 = .ok (.lconst 0, 1) := by decide +kernel
theorem d_CR_isLeapCount_36 : decode c_CR_isLeapCount 36 = .ok (.lcmp, 1) := by decide +kernel
theorem d_CR_isLeapCount_37 : decode c_CR_isLeapCount 37 = .ok (.ifCond .ne 31, 3) := by decide +kernel
theorem d_CR_isLeapCount_40 : decode c_CR_isLeapCount 40 = .ok (.lload_n 3, 1) := by decide +kernel
theorem d_CR_isLeapCount_41 : decode c_CR_isLeapCount 41 = .ok (.ldc2_w 27, 3) := by decide +kernel
theorem d_CR_isLeapCount_44 : decode c_CR_isLeapCount 44 = .ok (.invokestatic 19, 3) := by decide +kernel
theorem d_CR_isLeapCount_47 : decode c_CR_isLeapCount 47 = .ok (.lconst 0, 1) := by decide +kernel
theorem d_CR_isLeapCount_48 : decode c_CR_isLeapCount 48 = .ok (.lcmp, 1) := by decide +kernel
theorem d_CR_isLeapCount_49 : decode c_CR_isLeapCount 49 = .ok (.ifCond .ne 15, 3) := by decide +kernel
theorem d_CR_isLeapCount_52 : decode c_CR_isLeapCount 52 = .ok (.lload_n 3, 1) := by decide +kernel
theorem d_CR_isLeapCount_53 : decode c_CR_isLeapCount 53 = .ok (.ldc2_w 29, 3) := by decide +kernel
theorem d_CR_isLeapCount_56 : decode c_CR_isLeapCount 56 = .ok (.invokestatic 19, 3) := by decide +kernel
theorem d_CR_isLeapCount_59 : decode c_CR_isLeapCount 59 = .ok (.lconst 0, 1) := by decide +kernel
theorem d_CR_isLeapCount_60 : decode c_CR_isLeapCount 60 = .ok (.lcmp, 1) := by decide +kernel
theorem d_CR_isLeapCount_61 : decode c_CR_isLeapCount 61 = .ok (.ifCond .ne 7, 3) := by decide +kernel
theorem d_CR_isLeapCount_64 : decode c_CR_isLeapCount 64 = .ok (.iconst 1, 1) := by decide +kernel
theorem d_CR_isLeapCount_65 : decode c_CR_isLeapCount 65 = .ok (.goto 4, 3) := by decide +kernel
theorem d_CR_isLeapCount_68 : decode c_CR_isLeapCount 68 = .ok (.iconst 0, 1) := by decide +kernel
theorem d_CR_isLeapCount_69 : decode c_CR_isLeapCount 69 = .ok (.ireturn, 1) := by decide +kernel
theorem d_CR_leapsBefore_0 : decode c_CR_leapsBefore 0 = .ok (.lload_n 1, 1) := by decide +kernel
theorem d_CR_leapsBefore_1 : decode c_CR_leapsBefore 1 = .ok (.aload_n 0, 1) := by decide +kernel
theorem d_CR_leapsBefore_2 : decode c_CR_leapsBefore 2 = .ok (.getfield 7, 3) := by decide +kernel
theorem d_CR_leapsBefore_5 : decode c_CR_leapsBefore 5 = .ok (.ladd, 1) := by decide +kernel
theorem d_CR_leapsBefore_6 : decode c_CR_leapsBefore 6 = .ok (.lconst 1, 1) := by decide +kernel
theorem d_CR_leapsBefore_7 : decode c_CR_leapsBefore 7 = .ok (.lsub, 1) := by decide +kernel
theorem d_CR_leapsBefore_8 : decode c_CR_leapsBefore 8 = .ok (.lstore_n 3, 1) := by decide +kernel
theorem d_CR_leapsBefore_9 : decode c_CR_leapsBefore 9 = .ok (.lload_n 3, 1) := by decide +kernel
theorem d_CR_leapsBefore_10 : decode c_CR_leapsBefore 10 = .ok (.ldc2_w 25, 3) := by decide +kernel
theorem d_CR_leapsBefore_13 : decode c_CR_leapsBefore 13 = .ok (.invokestatic 31, 3) := by decide +kernel
theorem d_CR_leapsBefore_16 : decode c_CR_leapsBefore 16 = .ok (.lload_n 3, 1) := by decide +kernel
theorem d_CR_leapsBefore_17 : decode c_CR_leapsBefore 17 = .ok (.ldc2_w 27, 3) := by decide +kernel
theorem d_CR_leapsBefore_20 : decode c_CR_leapsBefore 20 = .ok (.invokestatic 31, 3) := by decide +kernel
theorem d_CR_leapsBefore_23 : decode c_CR_leapsBefore 23 = .ok (.lsub, 1) := by decide +kernel
theorem d_CR_leapsBefore_24 : decode c_CR_leapsBefore 24 = .ok (.lload_n 3, 1) := by decide +kernel
theorem d_CR_leapsBefore_25 : decode c_CR_leapsBefore 25 = .ok (.ldc2_w 29, 3) := by decide +kernel
theorem d_CR_leapsBefore_28 : decode c_CR_leapsBefore 28 = .ok (.invokestatic 31, 3) := by decide +kernel
theorem d_CR_leapsBefore_31 : decode c_CR_leapsBefore 31 = .ok (.ladd, 1) := by decide +kernel
theorem d_CR_leapsBefore_32 : decode c_CR_leapsBefore 32 = .ok (.lstore 5, 2) := by decide +kernel
theorem d_CR_leapsBefore_34 : decode c_CR_leapsBefore 34 = .ok (.aload_n 0, 1) := by decide +kernel
theorem d_CR_leapsBefore_35 : decode c_CR_leapsBefore 35 = .ok (.getfield 13, 3) := by decide +kernel
theorem d_CR_leapsBefore_38 : decode c_CR_leapsBefore 38 = .ok (.ifCond .eq 16, 3) := by decide +kernel
theorem d_CR_leapsBefore_41 : decode c_CR_leapsBefore 41 = .ok (.lload 5, 2) := by decide +kernel
theorem d_CR_leapsBefore_43 : decode c_CR_leapsBefore 43 = .ok (.lload_n 3, 1) := by decide +kernel
theorem d_CR_leapsBefore_44 : decode c_CR_leapsBefore 44 = .ok (.ldc2_w 17, 3) := by decide +kernel
theorem d_CR_leapsBefore_47 : decode c_CR_leapsBefore 47 = .ok (.invokestatic 31, 3) := by decide +kernel
theorem d_CR_leapsBefore_50 : decode c_CR_leapsBefore 50 = .ok (.lsub, 1) := by decide +kernel
theorem d_CR_leapsBefore_51 : decode c_CR_leapsBefore 51 = .ok (.goto 5, 3) := by decide +kernel
theorem d_CR_leapsBefore_54 : decode c_CR_leapsBefore 54 = .ok (.lload 5, 2) := by decide +kernel
theorem d_CR_leapsBefore_56 : decode c_CR_leapsBefore 56 = .ok (.lreturn, 1) := by decide +kernel
theorem d_YR_init_0 : decode c_YR_init 0 = .ok (.aload_n 0, 1) := by decide +kernel
theorem d_YR_init_1 : decode c_YR_init 1 = .ok (.invokespecial 1, 3) := by decide +kernel
theorem d_YR_init_4 : decode c_YR_init 4 = .ok (.return_, 1) := by decide +kernel
theorem d_YR_isLeapCount_0 : decode c_YR_isLeapCount 0 = .ok (.lload_n 1, 1) := by decide +kernel
theorem d_YR_isLeapCount_1 : decode c_YR_isLeapCount 1 = .ok (.ldc2_w 7, 3) := by decide +kernel
theorem d_YR_isLeapCount_4 : decode c_YR_isLeapCount 4 = .ok (.lsub, 1) := by decide +kernel
theorem d_YR_isLeapCount_5 : decode c_YR_isLeapCount 5 = .ok (.ldc2_w 9, 3) := by decide +kernel
theorem d_YR_isLeapCount_8 : decode c_YR_isLeapCount 8 = .ok (.invokestatic 11, 3) := by decide +kernel
theorem d_YR_isLeapCount_11 : decode c_YR_isLeapCount 11 = .ok (.ldc2_w 17, 3) := by decide +kernel
theorem d_YR_isLeapCount_14 : decode c_YR_isLeapCount 14 = .ok (.ladd, 1) := by decide +kernel
theorem d_YR_isLeapCount_15 : decode c_YR_isLeapCount 15 = .ok (.ldc2_w 19, 3) := by decide +kernel
theorem d_YR_isLeapCount_18 : decode c_YR_isLeapCount 18 = .ok (.lmul, 1) := by decide +kernel
theorem d_YR_isLeapCount_19 : decode c_YR_isLeapCount 19 = .ok (.ldc2_w 21, 3) := by decide +kernel
theorem d_YR_isLeapCount_22 : decode c_YR_isLeapCount 22 = .ok (.invokestatic 11, 3) := by decide +kernel
theorem d_YR_isLeapCount_25 : decode c_YR_isLeapCount 25 = .ok (.ldc2_w 19, 3) := by decide +kernel
theorem d_YR_isLeapCount_28 : decode c_YR_isLeapCount 28 = .ok (.lcmp, 1) := by decide +kernel
theorem d_YR_isLeapCount_29 : decode c_YR_isLeapCount 29 = .ok (.ifCond .ge 7, 3) := by decide +kernel
theorem d_YR_isLeapCount_32 : decode c_YR_isLeapCount 32 = .ok (.iconst 1, 1) := by decide +kernel
theorem d_YR_isLeapCount_33 : decode c_YR_isLeapCount 33 = .ok (.goto 4, 3) := by decide +kernel
theorem d_YR_isLeapCount_36 : decode c_YR_isLeapCount 36 = .ok (.iconst 0, 1) := by decide +kernel
theorem d_YR_isLeapCount_37 : decode c_YR_isLeapCount 37 = .ok (.ireturn, 1) := by decide +kernel
theorem d_YR_leapsBefore_0 : decode c_YR_leapsBefore 0 = .ok (.lload_n 1, 1) := by decide +kernel
theorem d_YR_leapsBefore_1 : decode c_YR_leapsBefore 1 = .ok (.ldc2_w 7, 3) := by decide +kernel
theorem d_YR_leapsBefore_4 : decode c_YR_leapsBefore 4 = .ok (.lsub, 1) := by decide +kernel
theorem d_YR_leapsBefore_5 : decode c_YR_leapsBefore 5 = .ok (.lstore_n 3, 1) := by decide +kernel
theorem d_YR_leapsBefore_6 : decode c_YR_leapsBefore 6 = .ok (.ldc2_w 23, 3) := by decide +kernel
theorem d_YR_leapsBefore_9 : decode c_YR_leapsBefore 9 = .ok (.lload_n 3, 1) := by decide +kernel
theorem d_YR_leapsBefore_10 : decode c_YR_leapsBefore 10 = .ok (.ldc2_w 9, 3) := by decide +kernel
theorem d_YR_leapsBefore_13 : decode c_YR_leapsBefore 13 = .ok (.invokestatic 25, 3) := by decide +kernel
theorem d_YR_leapsBefore_16 : decode c_YR_leapsBefore 16 = .ok (.lmul, 1) := by decide +kernel
theorem d_YR_leapsBefore_17 : decode c_YR_leapsBefore 17 = .ok (.lload_n 3, 1) := by decide +kernel
theorem d_YR_leapsBefore_18 : decode c_YR_leapsBefore 18 = .ok (.ldc2_w 9, 3) := by decide +kernel
theorem d_YR_leapsBefore_21 : decode c_YR_leapsBefore 21 = .ok (.invokestatic 11, 3) := by decide +kernel
theorem d_YR_leapsBefore_24 : decode c_YR_leapsBefore 24 = .ok (.ldc2_w 28, 3) := by decide +kernel
theorem d_YR_leapsBefore_27 : decode c_YR_leapsBefore 27 = .ok (.ladd, 1) := by decide +kernel
theorem d_YR_leapsBefore_28 : decode c_YR_leapsBefore 28 = .ok (.ldc2_w 19, 3) := by decide +kernel
theorem d_YR_leapsBefore_31 : decode c_YR_leapsBefore 31 = .ok (.lmul, 1) := by decide +kernel
theorem d_YR_leapsBefore_32 : decode c_YR_leapsBefore 32 = .ok (.ldc2_w 21, 3) := by decide +kernel
theorem d_YR_leapsBefore_35 : decode c_YR_leapsBefore 35 = .ok (.invokestatic 25, 3) := by decide +kernel
theorem d_YR_leapsBefore_38 : decode c_YR_leapsBefore 38 = .ok (.ladd, 1) := by decide +kernel
theorem d_YR_leapsBefore_39 : decode c_YR_leapsBefore 39 = .ok (.lreturn, 1) := by decide +kernel
theorem d_HC_init_0 : decode c_HC_init 0 = .ok (.aload_n 0, 1) := by decide +kernel
theorem d_HC_init_1 : decode c_HC_init 1 = .ok (.invokespecial 1, 3) := by decide +kernel
theorem d_HC_init_4 : decode c_HC_init 4 = .ok (.return_, 1) := by decide +kernel
theorem d_HC_elapsed_0 : decode c_HC_elapsed 0 = .ok (.ldc2_w 31, 3) := by decide +kernel
theorem d_HC_elapsed_3 : decode c_HC_elapsed 3 = .ok (.lload_n 0, 1) := by decide +kernel
theorem d_HC_elapsed_4 : decode c_HC_elapsed 4 = .ok (.lmul, 1) := by decide +kernel
theorem d_HC_elapsed_5 : decode c_HC_elapsed 5 = .ok (.ldc2_w 33, 3) := by decide +kernel
theorem d_HC_elapsed_8 : decode c_HC_elapsed 8 = .ok (.lsub, 1) := by decide +kernel
theorem d_HC_elapsed_9 : decode c_HC_elapsed 9 = .ok (.ldc2_w 9, 3) := by decide +kernel
theorem d_HC_elapsed_12 : decode c_HC_elapsed 12 = .ok (.invokestatic 35, 3) := by decide +kernel
theorem d_HC_elapsed_15 : decode c_HC_elapsed 15 = .ok (.lstore_n 2, 1) := by decide +kernel
theorem d_HC_elapsed_16 : decode c_HC_elapsed 16 = .ok (.ldc2_w 38, 3) := by decide +kernel
theorem d_HC_elapsed_19 : decode c_HC_elapsed 19 = .ok (.lload_n 2, 1) := by decide +kernel
theorem d_HC_elapsed_20 : decode c_HC_elapsed 20 = .ok (.lmul, 1) := by decide +kernel
theorem d_HC_elapsed_21 : decode c_HC_elapsed 21 = .ok (.ldc2_w 40, 3) := by decide +kernel
theorem d_HC_elapsed_24 : decode c_HC_elapsed 24 = .ok (.ldc2_w 42, 3) := by decide +kernel
theorem d_HC_elapsed_27 : decode c_HC_elapsed 27 = .ok (.lload_n 2, 1) := by decide +kernel
theorem d_HC_elapsed_28 : decode c_HC_elapsed 28 = .ok (.lmul, 1) := by decide +kernel
theorem d_HC_elapsed_29 : decode c_HC_elapsed 29 = .ok (.ladd, 1) := by decide +kernel
theorem d_HC_elapsed_30 : decode c_HC_elapsed 30 = .ok (.ldc2_w 44, 3) := by decide +kernel
theorem d_HC_elapsed_33 : decode c_HC_elapsed 33 = .ok (.invokestatic 35, 3) := by decide +kernel
theorem d_HC_elapsed_36 : decode c_HC_elapsed 36 = .ok (.ladd, 1) := by decide +kernel
theorem d_HC_elapsed_37 : decode c_HC_elapsed 37 = .ok (.lstore 4, 2) := by decide +kernel
theorem d_HC_elapsed_39 : decode c_HC_elapsed 39 = .ok (.ldc2_w 46, 3) := by decide +kernel
theorem d_HC_elapsed_42 : decode c_HC_elapsed 42 = .ok (.lload 4, 2) := by decide +kernel
theorem d_HC_elapsed_44 : decode c_HC_elapsed 44 = .ok (.lmul, 1) := by decide +kernel
theorem d_HC_elapsed_45 : decode c_HC_elapsed 45 = .ok (.ldc2_w 46, 3) := by decide +kernel
theorem d_HC_elapsed_48 : decode c_HC_elapsed 48 = .ok (.ladd, 1) := by decide +kernel
theorem d_HC_elapsed_49 : decode c_HC_elapsed 49 = .ok (.ldc2_w 7, 3) := by decide +kernel
theorem d_HC_elapsed_52 : decode c_HC_elapsed 52 = .ok (.invokestatic 11, 3) := by decide +kernel
theorem d_HC_elapsed_55 : decode c_HC_elapsed 55 = .ok (.ldc2_w 46, 3) := by decide +kernel
theorem d_HC_elapsed_58 : decode c_HC_elapsed 58 = .ok (.lcmp, 1) := by decide +kernel
theorem d_HC_elapsed_59 : decode c_HC_elapsed 59 = .ok (.ifCond .ge 10, 3) := by decide +kernel
theorem d_HC_elapsed_62 : decode c_HC_elapsed 62 = .ok (.lload 4, 2) := by decide +kernel
theorem d_HC_elapsed_64 : decode c_HC_elapsed 64 = .ok (.lconst 1, 1) := by decide +kernel
theorem d_HC_elapsed_65 : decode c_HC_elapsed 65 = .ok (.ladd, 1) := by decide +kernel
theorem d_HC_elapsed_66 : decode c_HC_elapsed 66 = .ok (.goto 5, 3) := by decide +kernel
theorem d_HC_elapsed_69 : decode c_HC_elapsed 69 = .ok (.lload 4, 2) := by decide +kernel
theorem d_HC_elapsed_71 : decode c_HC_elapsed 71 = .ok (.lreturn, 1) := by decide +kernel
theorem d_HC_isLeap_0 : decode c_HC_isLeap 0 = .ok (.ldc2_w 7, 3) := by decide +kernel
theorem d_HC_isLeap_3 : decode c_HC_isLeap 3 = .ok (.lload_n 1, 1) := by decide +kernel
theorem d_HC_isLeap_4 : decode c_HC_isLeap 4 = .ok (.lmul, 1) := by decide +kernel
theorem d_HC_isLeap_5 : decode c_HC_isLeap 5 = .ok (.lconst 1, 1) := by decide +kernel
theorem d_HC_isLeap_6 : decode c_HC_isLeap 6 = .ok (.ladd, 1) := by decide +kernel
theorem d_HC_isLeap_7 : decode c_HC_isLeap 7 = .ok (.ldc2_w 9, 3) := by decide +kernel
theorem d_HC_isLeap_10 : decode c_HC_isLeap 10 = .ok (.invokestatic 11, 3) := by decide +kernel
theorem d_HC_isLeap_13 : decode c_HC_isLeap 13 = .ok (.ldc2_w 7, 3) := by decide +kernel
theorem d_HC_isLeap_16 : decode c_HC_isLeap 16 = .ok (.lcmp, 1) := by decide +kernel
theorem d_HC_isLeap_17 : decode c_HC_isLeap 17 = .ok (.ifCond .ge 7, 3) := by decide +kernel
theorem d_HC_isLeap_20 : decode c_HC_isLeap 20 = .ok (.iconst 1, 1) := by decide +kernel
theorem d_HC_isLeap_21 : decode c_HC_isLeap 21 = .ok (.goto 4, 3) := by decide +kernel
theorem d_HC_isLeap_24 : decode c_HC_isLeap 24 = .ok (.iconst 0, 1) := by decide +kernel
theorem d_HC_isLeap_25 : decode c_HC_isLeap 25 = .ok (.ireturn, 1) := by decide +kernel
theorem d_HC_isLong_0 : decode c_HC_isLong 0 = .ok (.iload_n 0, 1) := by decide +kernel
theorem d_HC_isLong_1 : decode c_HC_isLong 1 = .ok (.sipush 355, 3) := by decide +kernel
theorem d_HC_isLong_4 : decode c_HC_isLong 4 = .ok (.if_icmp .le 7, 3) := by decide +kernel
theorem d_HC_isLong_7 : decode c_HC_isLong 7 = .ok (.iconst 1, 1) := by decide +kernel
theorem d_HC_isLong_8 : decode c_HC_isLong 8 = .ok (.goto 4, 3) := by decide +kernel
theorem d_HC_isLong_11 : decode c_HC_isLong 11 = .ok (.iconst 0, 1) := by decide +kernel
theorem d_HC_isLong_12 : decode c_HC_isLong 12 = .ok (.ireturn, 1) := by decide +kernel
theorem d_HC_lengthAt_0 : decode c_HC_lengthAt 0 = .ok (.aload_n 0, 1) := by decide +kernel
theorem d_HC_lengthAt_1 : decode c_HC_lengthAt 1 = .ok (.iload_n 1, 1) := by decide +kernel
theorem d_HC_lengthAt_2 : decode c_HC_lengthAt 2 = .ok (.iload_n 2, 1) := by decide +kernel
theorem d_HC_lengthAt_3 : decode c_HC_lengthAt 3 = .ok (.invokevirtual 52, 3) := by decide +kernel
theorem d_HC_lengthAt_6 : decode c_HC_lengthAt 6 = .ok (.tableswitch 124 2 13 #[121, 124, 121, 124, 121, 124, 62, 84, 121, 124, 106, 121], 62) := by decide +kernel
theorem d_HC_lengthAt_68 : decode c_HC_lengthAt 68 = .ok (.iload_n 2, 1) := by decide +kernel
theorem d_HC_lengthAt_69 : decode c_HC_lengthAt 69 = .ok (.sipush 355, 3) := by decide +kernel
theorem d_HC_lengthAt_72 : decode c_HC_lengthAt 72 = .ok (.if_icmp .eq 10, 3) := by decide +kernel
theorem d_HC_lengthAt_75 : decode c_HC_lengthAt 75 = .ok (.iload_n 2, 1) := by decide +kernel
theorem d_HC_lengthAt_76 : decode c_HC_lengthAt 76 = .ok (.sipush 385, 3) := by decide +kernel
theorem d_HC_lengthAt_79 : decode c_HC_lengthAt 79 = .ok (.if_icmp .ne 8, 3) := by decide +kernel
theorem d_HC_lengthAt_82 : decode c_HC_lengthAt 82 = .ok (.bipush 30, 2) := by decide +kernel
theorem d_HC_lengthAt_84 : decode c_HC_lengthAt 84 = .ok (.goto 5, 3) := by decide +kernel
theorem d_HC_lengthAt_87 : decode c_HC_lengthAt 87 = .ok (.bipush 29, 2) := by decide +kernel
theorem d_HC_lengthAt_89 : decode c_HC_lengthAt 89 = .ok (.ireturn, 1) := by decide +kernel
theorem d_HC_lengthAt_90 : decode c_HC_lengthAt 90 = .ok (.iload_n 2, 1) := by decide +kernel
theorem d_HC_lengthAt_91 : decode c_HC_lengthAt 91 = .ok (.sipush 353, 3) := by decide +kernel
theorem d_HC_lengthAt_94 : decode c_HC_lengthAt 94 = .ok (.if_icmp .eq 10, 3) := by decide +kernel
theorem d_HC_lengthAt_97 : decode c_HC_lengthAt 97 = .ok (.iload_n 2, 1) := by decide +kernel
theorem d_HC_lengthAt_98 : decode c_HC_lengthAt 98 = .ok (.sipush 383, 3) := by decide +kernel
theorem d_HC_lengthAt_101 : decode c_HC_lengthAt 101 = .ok (.if_icmp .ne 8, 3) := by decide +kernel
theorem d_HC_lengthAt_104 : decode c_HC_lengthAt 104 = .ok (.bipush 29, 2) := by decide +kernel
theorem d_HC_lengthAt_106 : decode c_HC_lengthAt 106 = .ok (.goto 5, 3) := by decide +kernel
theorem d_HC_lengthAt_109 : decode c_HC_lengthAt 109 = .ok (.bipush 30, 2) := by decide +kernel
theorem d_HC_lengthAt_111 : decode c_HC_lengthAt 111 = .ok (.ireturn, 1) := by decide +kernel
theorem d_HC_lengthAt_112 : decode c_HC_lengthAt 112 = .ok (.iload_n 2, 1) := by decide +kernel
theorem d_HC_lengthAt_113 : decode c_HC_lengthAt 113 = .ok (.invokestatic 48, 3) := by decide +kernel
theorem d_HC_lengthAt_116 : decode c_HC_lengthAt 116 = .ok (.ifCond .eq 8, 3) := by decide +kernel
theorem d_HC_lengthAt_119 : decode c_HC_lengthAt 119 = .ok (.bipush 30, 2) := by decide +kernel
theorem d_HC_lengthAt_121 : decode c_HC_lengthAt 121 = .ok (.goto 5, 3) := by decide +kernel
theorem d_HC_lengthAt_124 : decode c_HC_lengthAt 124 = .ok (.bipush 29, 2) := by decide +kernel
theorem d_HC_lengthAt_126 : decode c_HC_lengthAt 126 = .ok (.ireturn, 1) := by decide +kernel
theorem d_HC_lengthAt_127 : decode c_HC_lengthAt 127 = .ok (.bipush 29, 2) := by decide +kernel
theorem d_HC_lengthAt_129 : decode c_HC_lengthAt 129 = .ok (.ireturn, 1) := by decide +kernel
theorem d_HC_lengthAt_130 : decode c_HC_lengthAt 130 = .ok (.bipush 30, 2) := by decide +kernel
theorem d_HC_lengthAt_132 : decode c_HC_lengthAt 132 = .ok (.ireturn, 1) := by decide +kernel
theorem d_HC_monthAt_0 : decode c_HC_monthAt 0 = .ok (.iload_n 1, 1) := by decide +kernel
theorem d_HC_monthAt_1 : decode c_HC_monthAt 1 = .ok (.bipush 6, 2) := by decide +kernel
theorem d_HC_monthAt_3 : decode c_HC_monthAt 3 = .ok (.if_icmp .ge 8, 3) := by decide +kernel
theorem d_HC_monthAt_6 : decode c_HC_monthAt 6 = .ok (.iload_n 1, 1) := by decide +kernel
theorem d_HC_monthAt_7 : decode c_HC_monthAt 7 = .ok (.bipush 7, 2) := by decide +kernel
theorem d_HC_monthAt_9 : decode c_HC_monthAt 9 = .ok (.iadd, 1) := by decide +kernel
theorem d_HC_monthAt_10 : decode c_HC_monthAt 10 = .ok (.ireturn, 1) := by decide +kernel
theorem d_HC_monthAt_11 : decode c_HC_monthAt 11 = .ok (.iload_n 2, 1) := by decide +kernel
theorem d_HC_monthAt_12 : decode c_HC_monthAt 12 = .ok (.invokestatic 48, 3) := by decide +kernel
theorem d_HC_monthAt_15 : decode c_HC_monthAt 15 = .ok (.ifCond .ne 7, 3) := by decide +kernel
theorem d_HC_monthAt_18 : decode c_HC_monthAt 18 = .ok (.iload_n 1, 1) := by decide +kernel
theorem d_HC_monthAt_19 : decode c_HC_monthAt 19 = .ok (.iconst 5, 1) := by decide +kernel
theorem d_HC_monthAt_20 : decode c_HC_monthAt 20 = .ok (.isub, 1) := by decide +kernel
theorem d_HC_monthAt_21 : decode c_HC_monthAt 21 = .ok (.ireturn, 1) := by decide +kernel
theorem d_HC_monthAt_22 : decode c_HC_monthAt 22 = .ok (.iload_n 1, 1) := by decide +kernel
theorem d_HC_monthAt_23 : decode c_HC_monthAt 23 = .ok (.bipush 6, 2) := by decide +kernel
theorem d_HC_monthAt_25 : decode c_HC_monthAt 25 = .ok (.if_icmp .ne 8, 3) := by decide +kernel
theorem d_HC_monthAt_28 : decode c_HC_monthAt 28 = .ok (.bipush 13, 2) := by decide +kernel
theorem d_HC_monthAt_30 : decode c_HC_monthAt 30 = .ok (.goto 7, 3) := by decide +kernel
theorem d_HC_monthAt_33 : decode c_HC_monthAt 33 = .ok (.iload_n 1, 1) := by decide +kernel
theorem d_HC_monthAt_34 : decode c_HC_monthAt 34 = .ok (.bipush 6, 2) := by decide +kernel
theorem d_HC_monthAt_36 : decode c_HC_monthAt 36 = .ok (.isub, 1) := by decide +kernel
theorem d_HC_monthAt_37 : decode c_HC_monthAt 37 = .ok (.ireturn, 1) := by decide +kernel
theorem d_HC_monthsIn_0 : decode c_HC_monthsIn 0 = .ok (.iload_n 1, 1) := by decide +kernel
theorem d_HC_monthsIn_1 : decode c_HC_monthsIn 1 = .ok (.invokestatic 48, 3) := by decide +kernel
theorem d_HC_monthsIn_4 : decode c_HC_monthsIn 4 = .ok (.ifCond .eq 8, 3) := by decide +kernel
theorem d_HC_monthsIn_7 : decode c_HC_monthsIn 7 = .ok (.bipush 13, 2) := by decide +kernel
theorem d_HC_monthsIn_9 : decode c_HC_monthsIn 9 = .ok (.goto 5, 3) := by decide +kernel
theorem d_HC_monthsIn_12 : decode c_HC_monthsIn 12 = .ok (.bipush 12, 2) := by decide +kernel
theorem d_HC_monthsIn_14 : decode c_HC_monthsIn 14 = .ok (.ireturn, 1) := by decide +kernel
theorem d_HC_yearStart_0 : decode c_HC_yearStart 0 = .ok (.lload_n 1, 1) := by decide +kernel
theorem d_HC_yearStart_1 : decode c_HC_yearStart 1 = .ok (.invokestatic 17, 3) := by decide +kernel
theorem d_HC_yearStart_4 : decode c_HC_yearStart 4 = .ok (.lstore_n 3, 1) := by decide +kernel
theorem d_HC_yearStart_5 : decode c_HC_yearStart 5 = .ok (.lconst 0, 1) := by decide +kernel
theorem d_HC_yearStart_6 : decode c_HC_yearStart 6 = .ok (.lstore 5, 2) := by decide +kernel
theorem d_HC_yearStart_8 : decode c_HC_yearStart 8 = .ok (.lload_n 1, 1) := by decide +kernel
theorem d_HC_yearStart_9 : decode c_HC_yearStart 9 = .ok (.lconst 1, 1) := by decide +kernel
theorem d_HC_yearStart_10 : decode c_HC_yearStart 10 = .ok (.ladd, 1) := by decide +kernel
theorem d_HC_yearStart_11 : decode c_HC_yearStart 11 = .ok (.invokestatic 17, 3) := by decide +kernel
theorem d_HC_yearStart_14 : decode c_HC_yearStart 14 = .ok (.lload_n 3, 1) := by decide +kernel
theorem d_HC_yearStart_15 : decode c_HC_yearStart 15 = .ok (.lsub, 1) := by decide +kernel
theorem d_HC_yearStart_16 : decode c_HC_yearStart 16 = .ok (.ldc2_w 23, 3) := by decide +kernel
theorem d_HC_yearStart_19 : decode c_HC_yearStart 19 = .ok (.lcmp, 1) := by decide +kernel
theorem d_HC_yearStart_20 : decode c_HC_yearStart 20 = .ok (.ifCond .ne 11, 3) := by decide +kernel
theorem d_HC_yearStart_23 : decode c_HC_yearStart 23 = .ok (.ldc2_w 25, 3) := by decide +kernel
theorem d_HC_yearStart_26 : decode c_HC_yearStart 26 = .ok (.lstore 5, 2) := by decide +kernel
theorem d_HC_yearStart_28 : decode c_HC_yearStart 28 = .ok (.goto 21, 3) := by decide +kernel
theorem d_HC_yearStart_31 : decode c_HC_yearStart 31 = .ok (.lload_n 3, 1) := by decide +kernel
theorem d_HC_yearStart_32 : decode c_HC_yearStart 32 = .ok (.lload_n 1, 1) := by decide +kernel
theorem d_HC_yearStart_33 : decode c_HC_yearStart 33 = .ok (.lconst 1, 1) := by decide +kernel
theorem d_HC_yearStart_34 : decode c_HC_yearStart 34 = .ok (.lsub, 1) := by decide +kernel
theorem d_HC_yearStart_35 : decode c_HC_yearStart 35 = .ok (.invokestatic 17, 3) := by decide +kernel
theorem d_HC_yearStart_38 : decode c_HC_yearStart 38 = .ok (.lsub, 1) := by decide +kernel
theorem d_HC_yearStart_39 : decode c_HC_yearStart 39 = .ok (.ldc2_w 27, 3) := by decide +kernel
theorem d_HC_yearStart_42 : decode c_HC_yearStart 42 = .ok (.lcmp, 1) := by decide +kernel
theorem d_HC_yearStart_43 : decode c_HC_yearStart 43 = .ok (.ifCond .ne 6, 3) := by decide +kernel
theorem d_HC_yearStart_46 : decode c_HC_yearStart 46 = .ok (.lconst 1, 1) := by decide +kernel
theorem d_HC_yearStart_47 : decode c_HC_yearStart 47 = .ok (.lstore 5, 2) := by decide +kernel
theorem d_HC_yearStart_49 : decode c_HC_yearStart 49 = .ok (.ldc2_w 29, 3) := by decide +kernel
theorem d_HC_yearStart_52 : decode c_HC_yearStart 52 = .ok (.lload_n 3, 1) := by decide +kernel
theorem d_HC_yearStart_53 : decode c_HC_yearStart 53 = .ok (.ladd, 1) := by decide +kernel
theorem d_HC_yearStart_54 : decode c_HC_yearStart 54 = .ok (.lload 5, 2) := by decide +kernel
theorem d_HC_yearStart_56 : decode c_HC_yearStart 56 = .ok (.ladd, 1) := by decide +kernel
theorem d_HC_yearStart_57 : decode c_HC_yearStart 57 = .ok (.lreturn, 1) := by decide +kernel
theorem d_LR_init_0 : decode c_LR_init 0 = .ok (.aload_n 0, 1) := by decide +kernel
theorem d_LR_init_1 : decode c_LR_init 1 = .ok (.invokespecial 1, 3) := by decide +kernel
theorem d_LR_init_4 : decode c_LR_init 4 = .ok (.return_, 1) := by decide +kernel
theorem d_LC_init_0 : decode c_LC_init 0 = .ok (.aload_n 0, 1) := by decide +kernel
theorem d_LC_init_1 : decode c_LC_init 1 = .ok (.invokespecial 3, 3) := by decide +kernel
theorem d_LC_init_4 : decode c_LC_init 4 = .ok (.return_, 1) := by decide +kernel
theorem d_LC_dateOf_0 : decode c_LC_dateOf 0 = .ok (.ldc2_w 9, 3) := by decide +kernel
theorem d_LC_dateOf_3 : decode c_LC_dateOf 3 = .ok (.lload_n 1, 1) := by decide +kernel
theorem d_LC_dateOf_4 : decode c_LC_dateOf 4 = .ok (.ldc2_w 13, 3) := by decide +kernel
theorem d_LC_dateOf_7 : decode c_LC_dateOf 7 = .ok (.ladd, 1) := by decide +kernel
theorem d_LC_dateOf_8 : decode c_LC_dateOf 8 = .ok (.lmul, 1) := by decide +kernel
theorem d_LC_dateOf_9 : decode c_LC_dateOf 9 = .ok (.lconst 1, 1) := by decide +kernel
theorem d_LC_dateOf_10 : decode c_LC_dateOf 10 = .ok (.ladd, 1) := by decide +kernel
theorem d_LC_dateOf_11 : decode c_LC_dateOf 11 = .ok (.lstore_n 3, 1) := by decide +kernel
theorem d_LC_dateOf_12 : decode c_LC_dateOf 12 = .ok (.lload_n 3, 1) := by decide +kernel
theorem d_LC_dateOf_13 : decode c_LC_dateOf 13 = .ok (.ldc2_w 15, 3) := by decide +kernel
theorem d_LC_dateOf_16 : decode c_LC_dateOf 16 = .ok (.lmul, 1) := by decide +kernel
theorem d_LC_dateOf_17 : decode c_LC_dateOf 17 = .ok (.ldc2_w 17, 3) := by decide +kernel
theorem d_LC_dateOf_20 : decode c_LC_dateOf 20 = .ok (.invokestatic 19, 3) := by decide +kernel
theorem d_LC_dateOf_23 : decode c_LC_dateOf 23 = .ok (.ldc2_w 25, 3) := by decide +kernel
theorem d_LC_dateOf_26 : decode c_LC_dateOf 26 = .ok (.lmul, 1) := by decide +kernel
theorem d_LC_dateOf_27 : decode c_LC_dateOf 27 = .ok (.lstore 5, 2) := by decide +kernel
theorem d_LC_dateOf_29 : decode c_LC_dateOf 29 = .ok (.lload 5, 2) := by decide +kernel
theorem d_LC_dateOf_31 : decode c_LC_dateOf 31 = .ok (.ldc2_w 15, 3) := by decide +kernel
theorem d_LC_dateOf_34 : decode c_LC_dateOf 34 = .ok (.invokestatic 27, 3) := by decide +kernel
theorem d_LC_dateOf_37 : decode c_LC_dateOf 37 = .ok (.lstore 7, 2) := by decide +kernel
theorem d_LC_dateOf_39 : decode c_LC_dateOf 39 = .ok (.lload 5, 2) := by decide +kernel
theorem d_LC_dateOf_41 : decode c_LC_dateOf 41 = .ok (.ldc2_w 15, 3) := by decide +kernel
theorem d_LC_dateOf_44 : decode c_LC_dateOf 44 = .ok (.invokestatic 30, 3) := by decide +kernel
theorem d_LC_dateOf_47 : decode c_LC_dateOf 47 = .ok (.lstore 9, 2) := by decide +kernel
theorem d_LC_dateOf_49 : decode c_LC_dateOf 49 = .ok (.lload 9, 2) := by decide +kernel
theorem d_LC_dateOf_51 : decode c_LC_dateOf 51 = .ok (.lconst 1, 1) := by decide +kernel
theorem d_LC_dateOf_52 : decode c_LC_dateOf 52 = .ok (.lcmp, 1) := by decide +kernel
theorem d_LC_dateOf_53 : decode c_LC_dateOf 53 = .ok (.ifCond .lt 16, 3) := by decide +kernel
theorem d_LC_dateOf_56 : decode c_LC_dateOf 56 = .ok (.lload 9, 2) := by decide +kernel
theorem d_LC_dateOf_58 : decode c_LC_dateOf 58 = .ok (.ldc2_w 33, 3) := by decide +kernel
theorem d_LC_dateOf_61 : decode c_LC_dateOf 61 = .ok (.lcmp, 1) := by decide +kernel
theorem d_LC_dateOf_62 : decode c_LC_dateOf 62 = .ok (.ifCond .gt 7, 3) := by decide +kernel
theorem d_LC_dateOf_65 : decode c_LC_dateOf 65 = .ok (.iconst 1, 1) := by decide +kernel
theorem d_LC_dateOf_66 : decode c_LC_dateOf 66 = .ok (.goto 4, 3) := by decide +kernel
theorem d_LC_dateOf_69 : decode c_LC_dateOf 69 = .ok (.iconst 0, 1) := by decide +kernel
theorem d_LC_dateOf_70 : decode c_LC_dateOf 70 = .ok (.istore 11, 2) := by decide +kernel
theorem d_LC_dateOf_72 : decode c_LC_dateOf 72 = .ok (.lload 7, 2) := by decide +kernel
theorem d_LC_dateOf_74 : decode c_LC_dateOf 74 = .ok (.ldc2_w 35, 3) := by decide +kernel
theorem d_LC_dateOf_77 : decode c_LC_dateOf 77 = .ok (.invokestatic 30, 3) := by decide +kernel
theorem d_LC_dateOf_80 : decode c_LC_dateOf 80 = .ok (.lconst 1, 1) := by decide +kernel
theorem d_LC_dateOf_81 : decode c_LC_dateOf 81 = .ok (.ladd, 1) := by decide +kernel
theorem d_LC_dateOf_82 : decode c_LC_dateOf 82 = .ok (.lstore 12, 2) := by decide +kernel
theorem d_LC_dateOf_84 : decode c_LC_dateOf 84 = .ok (.lload_n 3, 1) := by decide +kernel
theorem d_LC_dateOf_85 : decode c_LC_dateOf 85 = .ok (.ldc2_w 37, 3) := by decide +kernel
theorem d_LC_dateOf_88 : decode c_LC_dateOf 88 = .ok (.lmul, 1) := by decide +kernel
theorem d_LC_dateOf_89 : decode c_LC_dateOf 89 = .ok (.ldc2_w 17, 3) := by decide +kernel
theorem d_LC_dateOf_92 : decode c_LC_dateOf 92 = .ok (.invokestatic 19, 3) := by decide +kernel
theorem d_LC_dateOf_95 : decode c_LC_dateOf 95 = .ok (.ldc2_w 39, 3) := by decide +kernel
theorem d_LC_dateOf_98 : decode c_LC_dateOf 98 = .ok (.invokestatic 30, 3) := by decide +kernel
theorem d_LC_dateOf_101 : decode c_LC_dateOf 101 = .ok (.lconst 1, 1) := by decide +kernel
theorem d_LC_dateOf_102 : decode c_LC_dateOf 102 = .ok (.ladd, 1) := by decide +kernel
theorem d_LC_dateOf_103 : decode c_LC_dateOf 103 = .ok (.lstore 14, 2) := by decide +kernel
theorem d_LC_dateOf_105 : decode c_LC_dateOf 105 = .ok (.lload 7, 2) := by decide +kernel
theorem d_LC_dateOf_107 : decode c_LC_dateOf 107 = .ok (.ldc2_w 35, 3) := by decide +kernel
theorem d_LC_dateOf_110 : decode c_LC_dateOf 110 = .ok (.invokestatic 19, 3) := by decide +kernel
theorem d_LC_dateOf_113 : decode c_LC_dateOf 113 = .ok (.iload 11, 2) := by decide +kernel
theorem d_LC_dateOf_115 : decode c_LC_dateOf 115 = .ok (.ifCond .eq 12, 3) := by decide +kernel
theorem d_LC_dateOf_118 : decode c_LC_dateOf 118 = .ok (.lload 12, 2) := by decide +kernel
theorem d_LC_dateOf_120 : decode c_LC_dateOf 120 = .ok (.ldc2_w 41, 3) := by decide +kernel
theorem d_LC_dateOf_123 : decode c_LC_dateOf 123 = .ok (.ladd, 1) := by decide +kernel
theorem d_LC_dateOf_124 : decode c_LC_dateOf 124 = .ok (.goto 5, 3) := by decide +kernel
theorem d_LC_dateOf_127 : decode c_LC_dateOf 127 = .ok (.lload 12, 2) := by decide +kernel
theorem d_LC_dateOf_129 : decode c_LC_dateOf 129 = .ok (.lload 14, 2) := by decide +kernel
theorem d_LC_dateOf_131 : decode c_LC_dateOf 131 = .ok (.invokestatic 43, 3) := by decide +kernel
theorem d_LC_dateOf_134 : decode c_LC_dateOf 134 = .ok (.lreturn, 1) := by decide +kernel
theorem d_LC_dayOf_0 : decode c_LC_dayOf 0 = .ok (.iload_n 3, 1) := by decide +kernel
theorem d_LC_dayOf_1 : decode c_LC_dayOf 1 = .ok (.bipush 100, 2) := by decide +kernel
theorem d_LC_dayOf_3 : decode c_LC_dayOf 3 = .ok (.if_icmp .le 7, 3) := by decide +kernel
theorem d_LC_dayOf_6 : decode c_LC_dayOf 6 = .ok (.iconst 1, 1) := by decide +kernel
theorem d_LC_dayOf_7 : decode c_LC_dayOf 7 = .ok (.goto 4, 3) := by decide +kernel
theorem d_LC_dayOf_10 : decode c_LC_dayOf 10 = .ok (.iconst 0, 1) := by decide +kernel
theorem d_LC_dayOf_11 : decode c_LC_dayOf 11 = .ok (.istore 5, 2) := by decide +kernel
theorem d_LC_dayOf_13 : decode c_LC_dayOf 13 = .ok (.iload 5, 2) := by decide +kernel
theorem d_LC_dayOf_15 : decode c_LC_dayOf 15 = .ok (.ifCond .eq 10, 3) := by decide +kernel
theorem d_LC_dayOf_18 : decode c_LC_dayOf 18 = .ok (.iload_n 3, 1) := by decide +kernel
theorem d_LC_dayOf_19 : decode c_LC_dayOf 19 = .ok (.bipush 100, 2) := by decide +kernel
theorem d_LC_dayOf_21 : decode c_LC_dayOf 21 = .ok (.isub, 1) := by decide +kernel
theorem d_LC_dayOf_22 : decode c_LC_dayOf 22 = .ok (.goto 4, 3) := by decide +kernel
theorem d_LC_dayOf_25 : decode c_LC_dayOf 25 = .ok (.iload_n 3, 1) := by decide +kernel
theorem d_LC_dayOf_26 : decode c_LC_dayOf 26 = .ok (.istore 6, 2) := by decide +kernel
theorem d_LC_dayOf_28 : decode c_LC_dayOf 28 = .ok (.iload 6, 2) := by decide +kernel
theorem d_LC_dayOf_30 : decode c_LC_dayOf 30 = .ok (.iconst 1, 1) := by decide +kernel
theorem d_LC_dayOf_31 : decode c_LC_dayOf 31 = .ok (.if_icmp .lt 23, 3) := by decide +kernel
theorem d_LC_dayOf_34 : decode c_LC_dayOf 34 = .ok (.iload 6, 2) := by decide +kernel
theorem d_LC_dayOf_36 : decode c_LC_dayOf 36 = .ok (.bipush 12, 2) := by decide +kernel
theorem d_LC_dayOf_38 : decode c_LC_dayOf 38 = .ok (.if_icmp .gt 16, 3) := by decide +kernel
theorem d_LC_dayOf_41 : decode c_LC_dayOf 41 = .ok (.iload 4, 2) := by decide +kernel
theorem d_LC_dayOf_43 : decode c_LC_dayOf 43 = .ok (.iconst 1, 1) := by decide +kernel
theorem d_LC_dayOf_44 : decode c_LC_dayOf 44 = .ok (.if_icmp .lt 10, 3) := by decide +kernel
theorem d_LC_dayOf_47 : decode c_LC_dayOf 47 = .ok (.iload 4, 2) := by decide +kernel
theorem d_LC_dayOf_49 : decode c_LC_dayOf 49 = .ok (.bipush 30, 2) := by decide +kernel
theorem d_LC_dayOf_51 : decode c_LC_dayOf 51 = .ok (.if_icmp .le 7, 3) := by decide +kernel
theorem d_LC_dayOf_54 : decode c_LC_dayOf 54 = .ok (.ldc2_w 47, 3) := by decide +kernel
theorem d_LC_dayOf_57 : decode c_LC_dayOf 57 = .ok (.lreturn, 1) := by decide +kernel
theorem d_LC_dayOf_58 : decode c_LC_dayOf 58 = .ok (.ldc2_w 35, 3) := by decide +kernel
theorem d_LC_dayOf_61 : decode c_LC_dayOf 61 = .ok (.lload_n 1, 1) := by decide +kernel
theorem d_LC_dayOf_62 : decode c_LC_dayOf 62 = .ok (.lmul, 1) := by decide +kernel
theorem d_LC_dayOf_63 : decode c_LC_dayOf 63 = .ok (.iload 6, 2) := by decide +kernel
theorem d_LC_dayOf_65 : decode c_LC_dayOf 65 = .ok (.i2l, 1) := by decide +kernel
theorem d_LC_dayOf_66 : decode c_LC_dayOf 66 = .ok (.ladd, 1) := by decide +kernel
theorem d_LC_dayOf_67 : decode c_LC_dayOf 67 = .ok (.lconst 1, 1) := by decide +kernel
theorem d_LC_dayOf_68 : decode c_LC_dayOf 68 = .ok (.lsub, 1) := by decide +kernel
theorem d_LC_dayOf_69 : decode c_LC_dayOf 69 = .ok (.ldc2_w 15, 3) := by decide +kernel
theorem d_LC_dayOf_72 : decode c_LC_dayOf 72 = .ok (.lmul, 1) := by decide +kernel
theorem d_LC_dayOf_73 : decode c_LC_dayOf 73 = .ok (.ldc2_w 25, 3) := by decide +kernel
theorem d_LC_dayOf_76 : decode c_LC_dayOf 76 = .ok (.invokestatic 19, 3) := by decide +kernel
theorem d_LC_dayOf_79 : decode c_LC_dayOf 79 = .ok (.lstore 7, 2) := by decide +kernel
theorem d_LC_dayOf_81 : decode c_LC_dayOf 81 = .ok (.ldc2_w 39, 3) := by decide +kernel
theorem d_LC_dayOf_84 : decode c_LC_dayOf 84 = .ok (.iload 5, 2) := by decide +kernel
theorem d_LC_dayOf_86 : decode c_LC_dayOf 86 = .ok (.ifCond .eq 10, 3) := by decide +kernel
theorem d_LC_dayOf_89 : decode c_LC_dayOf 89 = .ok (.lload 7, 2) := by decide +kernel
theorem d_LC_dayOf_91 : decode c_LC_dayOf 91 = .ok (.lconst 1, 1) := by decide +kernel
theorem d_LC_dayOf_92 : decode c_LC_dayOf 92 = .ok (.lsub, 1) := by decide +kernel
theorem d_LC_dayOf_93 : decode c_LC_dayOf 93 = .ok (.goto 5, 3) := by decide +kernel
theorem d_LC_dayOf_96 : decode c_LC_dayOf 96 = .ok (.lload 7, 2) := by decide +kernel
theorem d_LC_dayOf_98 : decode c_LC_dayOf 98 = .ok (.lmul, 1) := by decide +kernel
theorem d_LC_dayOf_99 : decode c_LC_dayOf 99 = .ok (.iload 4, 2) := by decide +kernel
theorem d_LC_dayOf_101 : decode c_LC_dayOf 101 = .ok (.i2l, 1) := by decide +kernel
theorem d_LC_dayOf_102 : decode c_LC_dayOf 102 = .ok (.ladd, 1) := by decide +kernel
theorem d_LC_dayOf_103 : decode c_LC_dayOf 103 = .ok (.lconst 1, 1) := by decide +kernel
theorem d_LC_dayOf_104 : decode c_LC_dayOf 104 = .ok (.lsub, 1) := by decide +kernel
theorem d_LC_dayOf_105 : decode c_LC_dayOf 105 = .ok (.lstore 9, 2) := by decide +kernel
theorem d_LC_dayOf_107 : decode c_LC_dayOf 107 = .ok (.lload 9, 2) := by decide +kernel
theorem d_LC_dayOf_109 : decode c_LC_dayOf 109 = .ok (.ldc2_w 17, 3) := by decide +kernel
theorem d_LC_dayOf_112 : decode c_LC_dayOf 112 = .ok (.lmul, 1) := by decide +kernel
theorem d_LC_dayOf_113 : decode c_LC_dayOf 113 = .ok (.ldc2_w 37, 3) := by decide +kernel
theorem d_LC_dayOf_116 : decode c_LC_dayOf 116 = .ok (.invokestatic 27, 3) := by decide +kernel
theorem d_LC_dayOf_119 : decode c_LC_dayOf 119 = .ok (.lstore 11, 2) := by decide +kernel
theorem d_LC_dayOf_121 : decode c_LC_dayOf 121 = .ok (.lload 11, 2) := by decide +kernel
theorem d_LC_dayOf_123 : decode c_LC_dayOf 123 = .ok (.lconst 1, 1) := by decide +kernel
theorem d_LC_dayOf_124 : decode c_LC_dayOf 124 = .ok (.lsub, 1) := by decide +kernel
theorem d_LC_dayOf_125 : decode c_LC_dayOf 125 = .ok (.ldc2_w 9, 3) := by decide +kernel
theorem d_LC_dayOf_128 : decode c_LC_dayOf 128 = .ok (.invokestatic 27, 3) := by decide +kernel
theorem d_LC_dayOf_131 : decode c_LC_dayOf 131 = .ok (.ldc2_w 13, 3) := by decide +kernel
theorem d_LC_dayOf_134 : decode c_LC_dayOf 134 = .ok (.lsub, 1) := by decide +kernel
theorem d_LC_dayOf_135 : decode c_LC_dayOf 135 = .ok (.lstore 13, 2) := by decide +kernel
theorem d_LC_dayOf_137 : decode c_LC_dayOf 137 = .ok (.aload_n 0, 1) := by decide +kernel
theorem d_LC_dayOf_138 : decode c_LC_dayOf 138 = .ok (.lload 13, 2) := by decide +kernel
theorem d_LC_dayOf_140 : decode c_LC_dayOf 140 = .ok (.invokevirtual 49, 3) := by decide +kernel
theorem d_LC_dayOf_143 : decode c_LC_dayOf 143 = .ok (.lload_n 1, 1) := by decide +kernel
theorem d_LC_dayOf_144 : decode c_LC_dayOf 144 = .ok (.iload_n 3, 1) := by decide +kernel
theorem d_LC_dayOf_145 : decode c_LC_dayOf 145 = .ok (.i2l, 1) := by decide +kernel
theorem d_LC_dayOf_146 : decode c_LC_dayOf 146 = .ok (.iload 4, 2) := by decide +kernel
theorem d_LC_dayOf_148 : decode c_LC_dayOf 148 = .ok (.i2l, 1) := by decide +kernel
theorem d_LC_dayOf_149 : decode c_LC_dayOf 149 = .ok (.invokestatic 43, 3) := by decide +kernel
theorem d_LC_dayOf_152 : decode c_LC_dayOf 152 = .ok (.lcmp, 1) := by decide +kernel
theorem d_LC_dayOf_153 : decode c_LC_dayOf 153 = .ok (.ifCond .ne 8, 3) := by decide +kernel
theorem d_LC_dayOf_156 : decode c_LC_dayOf 156 = .ok (.lload 13, 2) := by decide +kernel
theorem d_LC_dayOf_158 : decode c_LC_dayOf 158 = .ok (.goto 6, 3) := by decide +kernel
theorem d_LC_dayOf_161 : decode c_LC_dayOf 161 = .ok (.ldc2_w 47, 3) := by decide +kernel
theorem d_LC_dayOf_164 : decode c_LC_dayOf 164 = .ok (.lreturn, 1) := by decide +kernel
theorem d_MC_init_0 : decode c_MC_init 0 = .ok (.aload_n 0, 1) := by decide +kernel
theorem d_MC_init_1 : decode c_MC_init 1 = .ok (.invokespecial 1, 3) := by decide +kernel
theorem d_MC_init_4 : decode c_MC_init 4 = .ok (.aload_n 0, 1) := by decide +kernel
theorem d_MC_init_5 : decode c_MC_init 5 = .ok (.aload_n 1, 1) := by decide +kernel
theorem d_MC_init_6 : decode c_MC_init 6 = .ok (.putfield 7, 3) := by decide +kernel
theorem d_MC_init_9 : decode c_MC_init 9 = .ok (.aload_n 0, 1) := by decide +kernel
theorem d_MC_init_10 : decode c_MC_init 10 = .ok (.aload_n 2, 1) := by decide +kernel
theorem d_MC_init_11 : decode c_MC_init 11 = .ok (.putfield 13, 3) := by decide +kernel
theorem d_MC_init_14 : decode c_MC_init 14 = .ok (.aload_n 0, 1) := by decide +kernel
theorem d_MC_init_15 : decode c_MC_init 15 = .ok (.iload_n 3, 1) := by decide +kernel
theorem d_MC_init_16 : decode c_MC_init 16 = .ok (.putfield 16, 3) := by decide +kernel
theorem d_MC_init_19 : decode c_MC_init 19 = .ok (.aload_n 0, 1) := by decide +kernel
theorem d_MC_init_20 : decode c_MC_init 20 = .ok (.lload 4, 2) := by decide +kernel
theorem d_MC_init_22 : decode c_MC_init 22 = .ok (.putfield 20, 3) := by decide +kernel
theorem d_MC_init_25 : decode c_MC_init 25 = .ok (.aload_n 0, 1) := by decide +kernel
theorem d_MC_init_26 : decode c_MC_init 26 = .ok (.iload 6, 2) := by decide +kernel
theorem d_MC_init_28 : decode c_MC_init 28 = .ok (.putfield 24, 3) := by decide +kernel
theorem d_MC_init_31 : decode c_MC_init 31 = .ok (.aload_n 0, 1) := by decide +kernel
theorem d_MC_init_32 : decode c_MC_init 32 = .ok (.aload 7, 2) := by decide +kernel
theorem d_MC_init_34 : decode c_MC_init 34 = .ok (.putfield 28, 3) := by decide +kernel
theorem d_MC_init_37 : decode c_MC_init 37 = .ok (.iconst 0, 1) := by decide +kernel
theorem d_MC_init_38 : decode c_MC_init 38 = .ok (.istore 8, 2) := by decide +kernel
theorem d_MC_init_40 : decode c_MC_init 40 = .ok (.aload_n 2, 1) := by decide +kernel
theorem d_MC_init_41 : decode c_MC_init 41 = .ok (.astore 9, 2) := by decide +kernel
theorem d_MC_init_43 : decode c_MC_init 43 = .ok (.aload 9, 2) := by decide +kernel
theorem d_MC_init_45 : decode c_MC_init 45 = .ok (.arraylength, 1) := by decide +kernel
theorem d_MC_init_46 : decode c_MC_init 46 = .ok (.istore 10, 2) := by decide +kernel
theorem d_MC_init_48 : decode c_MC_init 48 = .ok (.iconst 0, 1) := by decide +kernel
theorem d_MC_init_49 : decode c_MC_init 49 = .ok (.istore 11, 2) := by decide +kernel
theorem d_MC_init_51 : decode c_MC_init 51 = .ok (.iload 11, 2) := by decide +kernel
theorem d_MC_init_53 : decode c_MC_init 53 = .ok (.iload 10, 2) := by decide +kernel
theorem d_MC_init_55 : decode c_MC_init 55 = .ok (.if_icmp .ge 23, 3) := by decide +kernel
theorem d_MC_init_58 : decode c_MC_init 58 = .ok (.aload 9, 2) := by decide +kernel
theorem d_MC_init_60 : decode c_MC_init 60 = .ok (.iload 11, 2) := by decide +kernel
theorem d_MC_init_62 : decode c_MC_init 62 = .ok (.iaload, 1) := by decide +kernel
theorem d_MC_init_63 : decode c_MC_init 63 = .ok (.istore 12, 2) := by decide +kernel
theorem d_MC_init_65 : decode c_MC_init 65 = .ok (.iload 8, 2) := by decide +kernel
theorem d_MC_init_67 : decode c_MC_init 67 = .ok (.iload 12, 2) := by decide +kernel
theorem d_MC_init_69 : decode c_MC_init 69 = .ok (.iadd, 1) := by decide +kernel
theorem d_MC_init_70 : decode c_MC_init 70 = .ok (.istore 8, 2) := by decide +kernel
theorem d_MC_init_72 : decode c_MC_init 72 = .ok (.iinc 11 1, 3) := by decide +kernel
theorem d_MC_init_75 : decode c_MC_init 75 = .ok (.goto (-24), 3) := by decide +kernel
theorem d_MC_init_78 : decode c_MC_init 78 = .ok (.aload_n 0, 1) := by decide +kernel
theorem d_MC_init_79 : decode c_MC_init 79 = .ok (.iload 8, 2) := by decide +kernel
theorem d_MC_init_81 : decode c_MC_init 81 = .ok (.putfield 32, 3) := by decide +kernel
theorem d_MC_init_84 : decode c_MC_init 84 = .ok (.return_, 1) := by decide +kernel
theorem d_MC_countOf_0 : decode c_MC_countOf 0 = .ok (.aload_n 0, 1) := by decide +kernel
theorem d_MC_countOf_1 : decode c_MC_countOf 1 = .ok (.getfield 24, 3) := by decide +kernel
theorem d_MC_countOf_4 : decode c_MC_countOf 4 = .ok (.ifCond .ne 9, 3) := by decide +kernel
theorem d_MC_countOf_7 : decode c_MC_countOf 7 = .ok (.lload_n 1, 1) := by decide +kernel
theorem d_MC_countOf_8 : decode c_MC_countOf 8 = .ok (.lconst 0, 1) := by decide +kernel
theorem d_MC_countOf_9 : decode c_MC_countOf 9 = .ok (.lcmp, 1) := by decide +kernel
theorem d_MC_countOf_10 : decode c_MC_countOf 10 = .ok (.ifCond .le 7, 3) := by decide +kernel
theorem d_MC_countOf_13 : decode c_MC_countOf 13 = .ok (.lload_n 1, 1) := by decide +kernel
theorem d_MC_countOf_14 : decode c_MC_countOf 14 = .ok (.goto 6, 3) := by decide +kernel
theorem d_MC_countOf_17 : decode c_MC_countOf 17 = .ok (.lload_n 1, 1) := by decide +kernel
theorem d_MC_countOf_18 : decode c_MC_countOf 18 = .ok (.lconst 1, 1) := by decide +kernel
theorem d_MC_countOf_19 : decode c_MC_countOf 19 = .ok (.ladd, 1) := by decide +kernel
theorem d_MC_countOf_20 : decode c_MC_countOf 20 = .ok (.lreturn, 1) := by decide +kernel
theorem d_MC_hasYear_0 : decode c_MC_hasYear 0 = .ok (.aload_n 0, 1) := by decide +kernel
theorem d_MC_hasYear_1 : decode c_MC_hasYear 1 = .ok (.getfield 24, 3) := by decide +kernel
theorem d_MC_hasYear_4 : decode c_MC_hasYear 4 = .ok (.ifCond .ne 9, 3) := by decide +kernel
theorem d_MC_hasYear_7 : decode c_MC_hasYear 7 = .ok (.lload_n 1, 1) := by decide +kernel
theorem d_MC_hasYear_8 : decode c_MC_hasYear 8 = .ok (.lconst 0, 1) := by decide +kernel
theorem d_MC_hasYear_9 : decode c_MC_hasYear 9 = .ok (.lcmp, 1) := by decide +kernel
theorem d_MC_hasYear_10 : decode c_MC_hasYear 10 = .ok (.ifCond .eq 7, 3) := by decide +kernel
theorem d_MC_hasYear_13 : decode c_MC_hasYear 13 = .ok (.iconst 1, 1) := by decide +kernel
theorem d_MC_hasYear_14 : decode c_MC_hasYear 14 = .ok (.goto 4, 3) := by decide +kernel
theorem d_MC_hasYear_17 : decode c_MC_hasYear 17 = .ok (.iconst 0, 1) := by decide +kernel
theorem d_MC_hasYear_18 : decode c_MC_hasYear 18 = .ok (.ireturn, 1) := by decide +kernel
theorem d_MC_isLeap_0 : decode c_MC_isLeap 0 = .ok (.aload_n 0, 1) := by decide +kernel
theorem d_MC_isLeap_1 : decode c_MC_isLeap 1 = .ok (.getfield 28, 3) := by decide +kernel
theorem d_MC_isLeap_4 : decode c_MC_isLeap 4 = .ok (.aload_n 0, 1) := by decide +kernel
theorem d_MC_isLeap_5 : decode c_MC_isLeap 5 = .ok (.lload_n 1, 1) := by decide +kernel
theorem d_MC_isLeap_6 : decode c_MC_isLeap 6 = .ok (.invokevirtual 35, 3) := by decide +kernel
theorem d_MC_isLeap_9 : decode c_MC_isLeap 9 = .ok (.invokevirtual 39, 3) := by decide +kernel
theorem d_MC_isLeap_12 : decode c_MC_isLeap 12 = .ok (.ireturn, 1) := by decide +kernel
theorem d_MC_lengthAt_0 : decode c_MC_lengthAt 0 = .ok (.iload_n 1, 1) := by decide +kernel
theorem d_MC_lengthAt_1 : decode c_MC_lengthAt 1 = .ok (.aload_n 0, 1) := by decide +kernel
theorem d_MC_lengthAt_2 : decode c_MC_lengthAt 2 = .ok (.getfield 16, 3) := by decide +kernel
theorem d_MC_lengthAt_5 : decode c_MC_lengthAt 5 = .ok (.if_icmp .ne 22, 3) := by decide +kernel
theorem d_MC_lengthAt_8 : decode c_MC_lengthAt 8 = .ok (.iload_n 2, 1) := by decide +kernel
theorem d_MC_lengthAt_9 : decode c_MC_lengthAt 9 = .ok (.aload_n 0, 1) := by decide +kernel
theorem d_MC_lengthAt_10 : decode c_MC_lengthAt 10 = .ok (.getfield 32, 3) := by decide +kernel
theorem d_MC_lengthAt_13 : decode c_MC_lengthAt 13 = .ok (.if_icmp .le 14, 3) := by decide +kernel
theorem d_MC_lengthAt_16 : decode c_MC_lengthAt 16 = .ok (.aload_n 0, 1) := by decide +kernel
theorem d_MC_lengthAt_17 : decode c_MC_lengthAt 17 = .ok (.getfield 13, 3) := by decide +kernel
theorem d_MC_lengthAt_20 : decode c_MC_lengthAt 20 = .ok (.iload_n 1, 1) := by decide +kernel
theorem d_MC_lengthAt_21 : decode c_MC_lengthAt 21 = .ok (.iaload, 1) := by decide +kernel
theorem d_MC_lengthAt_22 : decode c_MC_lengthAt 22 = .ok (.iconst 1, 1) := by decide +kernel
theorem d_MC_lengthAt_23 : decode c_MC_lengthAt 23 = .ok (.iadd, 1) := by decide +kernel
theorem d_MC_lengthAt_24 : decode c_MC_lengthAt 24 = .ok (.goto 9, 3) := by decide +kernel
theorem d_MC_lengthAt_27 : decode c_MC_lengthAt 27 = .ok (.aload_n 0, 1) := by decide +kernel
theorem d_MC_lengthAt_28 : decode c_MC_lengthAt 28 = .ok (.getfield 13, 3) := by decide +kernel
theorem d_MC_lengthAt_31 : decode c_MC_lengthAt 31 = .ok (.iload_n 1, 1) := by decide +kernel
theorem d_MC_lengthAt_32 : decode c_MC_lengthAt 32 = .ok (.iaload, 1) := by decide +kernel
theorem d_MC_lengthAt_33 : decode c_MC_lengthAt 33 = .ok (.ireturn, 1) := by decide +kernel
theorem d_MC_monthAt_0 : decode c_MC_monthAt 0 = .ok (.aload_n 0, 1) := by decide +kernel
theorem d_MC_monthAt_1 : decode c_MC_monthAt 1 = .ok (.getfield 7, 3) := by decide +kernel
theorem d_MC_monthAt_4 : decode c_MC_monthAt 4 = .ok (.iload_n 1, 1) := by decide +kernel
theorem d_MC_monthAt_5 : decode c_MC_monthAt 5 = .ok (.iaload, 1) := by decide +kernel
theorem d_MC_monthAt_6 : decode c_MC_monthAt 6 = .ok (.ireturn, 1) := by decide +kernel
theorem d_MC_monthsIn_0 : decode c_MC_monthsIn 0 = .ok (.aload_n 0, 1) := by decide +kernel
theorem d_MC_monthsIn_1 : decode c_MC_monthsIn 1 = .ok (.getfield 13, 3) := by decide +kernel
theorem d_MC_monthsIn_4 : decode c_MC_monthsIn 4 = .ok (.arraylength, 1) := by decide +kernel
theorem d_MC_monthsIn_5 : decode c_MC_monthsIn 5 = .ok (.ireturn, 1) := by decide +kernel
theorem d_MC_yearAt_0 : decode c_MC_yearAt 0 = .ok (.aload_n 0, 1) := by decide +kernel
theorem d_MC_yearAt_1 : decode c_MC_yearAt 1 = .ok (.getfield 24, 3) := by decide +kernel
theorem d_MC_yearAt_4 : decode c_MC_yearAt 4 = .ok (.ifCond .ne 9, 3) := by decide +kernel
theorem d_MC_yearAt_7 : decode c_MC_yearAt 7 = .ok (.lload_n 1, 1) := by decide +kernel
theorem d_MC_yearAt_8 : decode c_MC_yearAt 8 = .ok (.lconst 0, 1) := by decide +kernel
theorem d_MC_yearAt_9 : decode c_MC_yearAt 9 = .ok (.lcmp, 1) := by decide +kernel
theorem d_MC_yearAt_10 : decode c_MC_yearAt 10 = .ok (.ifCond .le 7, 3) := by decide +kernel
theorem d_MC_yearAt_13 : decode c_MC_yearAt 13 = .ok (.lload_n 1, 1) := by decide +kernel
theorem d_MC_yearAt_14 : decode c_MC_yearAt 14 = .ok (.goto 6, 3) := by decide +kernel
theorem d_MC_yearAt_17 : decode c_MC_yearAt 17 = .ok (.lload_n 1, 1) := by decide +kernel
theorem d_MC_yearAt_18 : decode c_MC_yearAt 18 = .ok (.lconst 1, 1) := by decide +kernel
theorem d_MC_yearAt_19 : decode c_MC_yearAt 19 = .ok (.lsub, 1) := by decide +kernel
theorem d_MC_yearAt_20 : decode c_MC_yearAt 20 = .ok (.lreturn, 1) := by decide +kernel
theorem d_MC_yearStart_0 : decode c_MC_yearStart 0 = .ok (.aload_n 0, 1) := by decide +kernel
theorem d_MC_yearStart_1 : decode c_MC_yearStart 1 = .ok (.getfield 20, 3) := by decide +kernel
theorem d_MC_yearStart_4 : decode c_MC_yearStart 4 = .ok (.aload_n 0, 1) := by decide +kernel
theorem d_MC_yearStart_5 : decode c_MC_yearStart 5 = .ok (.getfield 32, 3) := by decide +kernel
theorem d_MC_yearStart_8 : decode c_MC_yearStart 8 = .ok (.i2l, 1) := by decide +kernel
theorem d_MC_yearStart_9 : decode c_MC_yearStart 9 = .ok (.lload_n 1, 1) := by decide +kernel
theorem d_MC_yearStart_10 : decode c_MC_yearStart 10 = .ok (.lconst 1, 1) := by decide +kernel
theorem d_MC_yearStart_11 : decode c_MC_yearStart 11 = .ok (.lsub, 1) := by decide +kernel
theorem d_MC_yearStart_12 : decode c_MC_yearStart 12 = .ok (.lmul, 1) := by decide +kernel
theorem d_MC_yearStart_13 : decode c_MC_yearStart 13 = .ok (.ladd, 1) := by decide +kernel
theorem d_MC_yearStart_14 : decode c_MC_yearStart 14 = .ok (.aload_n 0, 1) := by decide +kernel
theorem d_MC_yearStart_15 : decode c_MC_yearStart 15 = .ok (.getfield 28, 3) := by decide +kernel
theorem d_MC_yearStart_18 : decode c_MC_yearStart 18 = .ok (.lload_n 1, 1) := by decide +kernel
theorem d_MC_yearStart_19 : decode c_MC_yearStart 19 = .ok (.invokevirtual 45, 3) := by decide +kernel
theorem d_MC_yearStart_22 : decode c_MC_yearStart 22 = .ok (.ladd, 1) := by decide +kernel
theorem d_MC_yearStart_23 : decode c_MC_yearStart 23 = .ok (.aload_n 0, 1) := by decide +kernel
theorem d_MC_yearStart_24 : decode c_MC_yearStart 24 = .ok (.getfield 28, 3) := by decide +kernel
theorem d_MC_yearStart_27 : decode c_MC_yearStart 27 = .ok (.lconst 1, 1) := by decide +kernel
theorem d_MC_yearStart_28 : decode c_MC_yearStart 28 = .ok (.invokevirtual 45, 3) := by decide +kernel
theorem d_MC_yearStart_31 : decode c_MC_yearStart 31 = .ok (.lsub, 1) := by decide +kernel
theorem d_MC_yearStart_32 : decode c_MC_yearStart 32 = .ok (.lreturn, 1) := by decide +kernel
theorem d_SC_init_0 : decode c_SC_init 0 = .ok (.aload_n 0, 1) := by decide +kernel
theorem d_SC_init_1 : decode c_SC_init 1 = .ok (.invokespecial 3, 3) := by decide +kernel
theorem d_SC_init_4 : decode c_SC_init 4 = .ok (.return_, 1) := by decide +kernel
theorem d_SC_dateOf_0 : decode c_SC_dateOf 0 = .ok (.ldc2_w 11, 3) := by decide +kernel
theorem d_SC_dateOf_3 : decode c_SC_dateOf 3 = .ok (.lload_n 1, 1) := by decide +kernel
theorem d_SC_dateOf_4 : decode c_SC_dateOf 4 = .ok (.ldc2_w 13, 3) := by decide +kernel
theorem d_SC_dateOf_7 : decode c_SC_dateOf 7 = .ok (.ladd, 1) := by decide +kernel
theorem d_SC_dateOf_8 : decode c_SC_dateOf 8 = .ok (.lmul, 1) := by decide +kernel
theorem d_SC_dateOf_9 : decode c_SC_dateOf 9 = .ok (.ldc2_w 15, 3) := by decide +kernel
theorem d_SC_dateOf_12 : decode c_SC_dateOf 12 = .ok (.ladd, 1) := by decide +kernel
theorem d_SC_dateOf_13 : decode c_SC_dateOf 13 = .ok (.lstore_n 3, 1) := by decide +kernel
theorem d_SC_dateOf_14 : decode c_SC_dateOf 14 = .ok (.lload_n 3, 1) := by decide +kernel
theorem d_SC_dateOf_15 : decode c_SC_dateOf 15 = .ok (.ldc2_w 17, 3) := by decide +kernel
theorem d_SC_dateOf_18 : decode c_SC_dateOf 18 = .ok (.invokestatic 19, 3) := by decide +kernel
theorem d_SC_dateOf_21 : decode c_SC_dateOf 21 = .ok (.lstore 5, 2) := by decide +kernel
theorem d_SC_dateOf_23 : decode c_SC_dateOf 23 = .ok (.lload_n 3, 1) := by decide +kernel
theorem d_SC_dateOf_24 : decode c_SC_dateOf 24 = .ok (.ldc2_w 17, 3) := by decide +kernel
theorem d_SC_dateOf_27 : decode c_SC_dateOf 27 = .ok (.invokestatic 25, 3) := by decide +kernel
theorem d_SC_dateOf_30 : decode c_SC_dateOf 30 = .ok (.ldc2_w 11, 3) := by decide +kernel
theorem d_SC_dateOf_33 : decode c_SC_dateOf 33 = .ok (.ldiv, 1) := by decide +kernel
theorem d_SC_dateOf_34 : decode c_SC_dateOf 34 = .ok (.lconst 1, 1) := by decide +kernel
theorem d_SC_dateOf_35 : decode c_SC_dateOf 35 = .ok (.ladd, 1) := by decide +kernel
theorem d_SC_dateOf_36 : decode c_SC_dateOf 36 = .ok (.lstore 7, 2) := by decide +kernel
theorem d_SC_dateOf_38 : decode c_SC_dateOf 38 = .ok (.lload 5, 2) := by decide +kernel
theorem d_SC_dateOf_40 : decode c_SC_dateOf 40 = .ok (.ldc2_w 28, 3) := by decide +kernel
theorem d_SC_dateOf_43 : decode c_SC_dateOf 43 = .ok (.invokestatic 19, 3) := by decide +kernel
theorem d_SC_dateOf_46 : decode c_SC_dateOf 46 = .ok (.lload 5, 2) := by decide +kernel
theorem d_SC_dateOf_48 : decode c_SC_dateOf 48 = .ok (.ldc2_w 28, 3) := by decide +kernel
theorem d_SC_dateOf_51 : decode c_SC_dateOf 51 = .ok (.invokestatic 25, 3) := by decide +kernel
theorem d_SC_dateOf_54 : decode c_SC_dateOf 54 = .ok (.lconst 1, 1) := by decide +kernel
theorem d_SC_dateOf_55 : decode c_SC_dateOf 55 = .ok (.ladd, 1) := by decide +kernel
theorem d_SC_dateOf_56 : decode c_SC_dateOf 56 = .ok (.lload 7, 2) := by decide +kernel
theorem d_SC_dateOf_58 : decode c_SC_dateOf 58 = .ok (.invokestatic 30, 3) := by decide +kernel
theorem d_SC_dateOf_61 : decode c_SC_dateOf 61 = .ok (.lreturn, 1) := by decide +kernel
theorem d_SC_dayOf_0 : decode c_SC_dayOf 0 = .ok (.iload_n 3, 1) := by decide +kernel
theorem d_SC_dayOf_1 : decode c_SC_dayOf 1 = .ok (.iconst 1, 1) := by decide +kernel
theorem d_SC_dayOf_2 : decode c_SC_dayOf 2 = .ok (.if_icmp .lt 22, 3) := by decide +kernel
theorem d_SC_dayOf_5 : decode c_SC_dayOf 5 = .ok (.iload_n 3, 1) := by decide +kernel
theorem d_SC_dayOf_6 : decode c_SC_dayOf 6 = .ok (.bipush 12, 2) := by decide +kernel
theorem d_SC_dayOf_8 : decode c_SC_dayOf 8 = .ok (.if_icmp .gt 16, 3) := by decide +kernel
theorem d_SC_dayOf_11 : decode c_SC_dayOf 11 = .ok (.iload 4, 2) := by decide +kernel
theorem d_SC_dayOf_13 : decode c_SC_dayOf 13 = .ok (.iconst 1, 1) := by decide +kernel
theorem d_SC_dayOf_14 : decode c_SC_dayOf 14 = .ok (.if_icmp .lt 10, 3) := by decide +kernel
theorem d_SC_dayOf_17 : decode c_SC_dayOf 17 = .ok (.iload 4, 2) := by decide +kernel
theorem d_SC_dayOf_19 : decode c_SC_dayOf 19 = .ok (.bipush 31, 2) := by decide +kernel
theorem d_SC_dayOf_21 : decode c_SC_dayOf 21 = .ok (.if_icmp .le 7, 3) := by decide +kernel
theorem d_SC_dayOf_24 : decode c_SC_dayOf 24 = .ok (.ldc2_w 34, 3) := by decide +kernel
theorem d_SC_dayOf_27 : decode c_SC_dayOf 27 = .ok (.lreturn, 1) := by decide +kernel
theorem d_SC_dayOf_28 : decode c_SC_dayOf 28 = .ok (.ldc2_w 28, 3) := by decide +kernel
theorem d_SC_dayOf_31 : decode c_SC_dayOf 31 = .ok (.lload_n 1, 1) := by decide +kernel
theorem d_SC_dayOf_32 : decode c_SC_dayOf 32 = .ok (.lmul, 1) := by decide +kernel
theorem d_SC_dayOf_33 : decode c_SC_dayOf 33 = .ok (.iload_n 3, 1) := by decide +kernel
theorem d_SC_dayOf_34 : decode c_SC_dayOf 34 = .ok (.i2l, 1) := by decide +kernel
theorem d_SC_dayOf_35 : decode c_SC_dayOf 35 = .ok (.ladd, 1) := by decide +kernel
theorem d_SC_dayOf_36 : decode c_SC_dayOf 36 = .ok (.lconst 1, 1) := by decide +kernel
theorem d_SC_dayOf_37 : decode c_SC_dayOf 37 = .ok (.lsub, 1) := by decide +kernel
theorem d_SC_dayOf_38 : decode c_SC_dayOf 38 = .ok (.lstore 5, 2) := by decide +kernel
theorem d_SC_dayOf_40 : decode c_SC_dayOf 40 = .ok (.lload 5, 2) := by decide +kernel
theorem d_SC_dayOf_42 : decode c_SC_dayOf 42 = .ok (.ldc2_w 17, 3) := by decide +kernel
theorem d_SC_dayOf_45 : decode c_SC_dayOf 45 = .ok (.lmul, 1) := by decide +kernel
theorem d_SC_dayOf_46 : decode c_SC_dayOf 46 = .ok (.ldc2_w 15, 3) := by decide +kernel
theorem d_SC_dayOf_49 : decode c_SC_dayOf 49 = .ok (.lsub, 1) := by decide +kernel
theorem d_SC_dayOf_50 : decode c_SC_dayOf 50 = .ok (.ldc2_w 11, 3) := by decide +kernel
theorem d_SC_dayOf_53 : decode c_SC_dayOf 53 = .ok (.invokestatic 36, 3) := by decide +kernel
theorem d_SC_dayOf_56 : decode c_SC_dayOf 56 = .ok (.ldc2_w 13, 3) := by decide +kernel
theorem d_SC_dayOf_59 : decode c_SC_dayOf 59 = .ok (.lsub, 1) := by decide +kernel
theorem d_SC_dayOf_60 : decode c_SC_dayOf 60 = .ok (.iload 4, 2) := by decide +kernel
theorem d_SC_dayOf_62 : decode c_SC_dayOf 62 = .ok (.i2l, 1) := by decide +kernel
theorem d_SC_dayOf_63 : decode c_SC_dayOf 63 = .ok (.ladd, 1) := by decide +kernel
theorem d_SC_dayOf_64 : decode c_SC_dayOf 64 = .ok (.lconst 1, 1) := by decide +kernel
theorem d_SC_dayOf_65 : decode c_SC_dayOf 65 = .ok (.lsub, 1) := by decide +kernel
theorem d_SC_dayOf_66 : decode c_SC_dayOf 66 = .ok (.lstore 7, 2) := by decide +kernel
theorem d_SC_dayOf_68 : decode c_SC_dayOf 68 = .ok (.aload_n 0, 1) := by decide +kernel
theorem d_SC_dayOf_69 : decode c_SC_dayOf 69 = .ok (.lload 7, 2) := by decide +kernel
theorem d_SC_dayOf_71 : decode c_SC_dayOf 71 = .ok (.invokevirtual 39, 3) := by decide +kernel
theorem d_SC_dayOf_74 : decode c_SC_dayOf 74 = .ok (.lload_n 1, 1) := by decide +kernel
theorem d_SC_dayOf_75 : decode c_SC_dayOf 75 = .ok (.iload_n 3, 1) := by decide +kernel
theorem d_SC_dayOf_76 : decode c_SC_dayOf 76 = .ok (.i2l, 1) := by decide +kernel
theorem d_SC_dayOf_77 : decode c_SC_dayOf 77 = .ok (.iload 4, 2) := by decide +kernel
theorem d_SC_dayOf_79 : decode c_SC_dayOf 79 = .ok (.i2l, 1) := by decide +kernel
theorem d_SC_dayOf_80 : decode c_SC_dayOf 80 = .ok (.invokestatic 30, 3) := by decide +kernel
theorem d_SC_dayOf_83 : decode c_SC_dayOf 83 = .ok (.lcmp, 1) := by decide +kernel
theorem d_SC_dayOf_84 : decode c_SC_dayOf 84 = .ok (.ifCond .ne 8, 3) := by decide +kernel
theorem d_SC_dayOf_87 : decode c_SC_dayOf 87 = .ok (.lload 7, 2) := by decide +kernel
theorem d_SC_dayOf_89 : decode c_SC_dayOf 89 = .ok (.goto 6, 3) := by decide +kernel
theorem d_SC_dayOf_92 : decode c_SC_dayOf 92 = .ok (.ldc2_w 34, 3) := by decide +kernel
theorem d_SC_dayOf_95 : decode c_SC_dayOf 95 = .ok (.lreturn, 1) := by decide +kernel
theorem d_SR_init_0 : decode c_SR_init 0 = .ok (.aload_n 0, 1) := by decide +kernel
theorem d_SR_init_1 : decode c_SR_init 1 = .ok (.invokespecial 1, 3) := by decide +kernel
theorem d_SR_init_4 : decode c_SR_init 4 = .ok (.aload_n 0, 1) := by decide +kernel
theorem d_SR_init_5 : decode c_SR_init 5 = .ok (.lload_n 1, 1) := by decide +kernel
theorem d_SR_init_6 : decode c_SR_init 6 = .ok (.putfield 7, 3) := by decide +kernel
theorem d_SR_init_9 : decode c_SR_init 9 = .ok (.aload_n 0, 1) := by decide +kernel
theorem d_SR_init_10 : decode c_SR_init 10 = .ok (.lload_n 3, 1) := by decide +kernel
theorem d_SR_init_11 : decode c_SR_init 11 = .ok (.putfield 13, 3) := by decide +kernel
theorem d_SR_init_14 : decode c_SR_init 14 = .ok (.aload_n 0, 1) := by decide +kernel
theorem d_SR_init_15 : decode c_SR_init 15 = .ok (.lload 5, 2) := by decide +kernel
theorem d_SR_init_17 : decode c_SR_init 17 = .ok (.putfield 16, 3) := by decide +kernel
theorem d_SR_init_20 : decode c_SR_init 20 = .ok (.return_, 1) := by decide +kernel
theorem d_SR_isLeapCount_0 : decode c_SR_isLeapCount 0 = .ok (.aload_n 0, 1) := by decide +kernel
theorem d_SR_isLeapCount_1 : decode c_SR_isLeapCount 1 = .ok (.getfield 7, 3) := by decide +kernel
theorem d_SR_isLeapCount_4 : decode c_SR_isLeapCount 4 = .ok (.lload_n 1, 1) := by decide +kernel
theorem d_SR_isLeapCount_5 : decode c_SR_isLeapCount 5 = .ok (.lmul, 1) := by decide +kernel
theorem d_SR_isLeapCount_6 : decode c_SR_isLeapCount 6 = .ok (.aload_n 0, 1) := by decide +kernel
theorem d_SR_isLeapCount_7 : decode c_SR_isLeapCount 7 = .ok (.getfield 13, 3) := by decide +kernel
theorem d_SR_isLeapCount_10 : decode c_SR_isLeapCount 10 = .ok (.ladd, 1) := by decide +kernel
theorem d_SR_isLeapCount_11 : decode c_SR_isLeapCount 11 = .ok (.aload_n 0, 1) := by decide +kernel
theorem d_SR_isLeapCount_12 : decode c_SR_isLeapCount 12 = .ok (.getfield 16, 3) := by decide +kernel
theorem d_SR_isLeapCount_15 : decode c_SR_isLeapCount 15 = .ok (.invokestatic 19, 3) := by decide +kernel
theorem d_SR_isLeapCount_18 : decode c_SR_isLeapCount 18 = .ok (.aload_n 0, 1) := by decide +kernel
theorem d_SR_isLeapCount_19 : decode c_SR_isLeapCount 19 = .ok (.getfield 7, 3) := by decide +kernel
theorem d_SR_isLeapCount_22 : decode c_SR_isLeapCount 22 = .ok (.lcmp, 1) := by decide +kernel
theorem d_SR_isLeapCount_23 : decode c_SR_isLeapCount 23 = .ok (.ifCond .ge 7, 3) := by decide +kernel
theorem d_SR_isLeapCount_26 : decode c_SR_isLeapCount 26 = .ok (.iconst 1, 1) := by decide +kernel
theorem d_SR_isLeapCount_27 : decode c_SR_isLeapCount 27 = .ok (.goto 4, 3) := by decide +kernel
theorem d_SR_isLeapCount_30 : decode c_SR_isLeapCount 30 = .ok (.iconst 0, 1) := by decide +kernel
theorem d_SR_isLeapCount_31 : decode c_SR_isLeapCount 31 = .ok (.ireturn, 1) := by decide +kernel
theorem d_SR_leapsBefore_0 : decode c_SR_leapsBefore 0 = .ok (.aload_n 0, 1) := by decide +kernel
theorem d_SR_leapsBefore_1 : decode c_SR_leapsBefore 1 = .ok (.getfield 7, 3) := by decide +kernel
theorem d_SR_leapsBefore_4 : decode c_SR_leapsBefore 4 = .ok (.lload_n 1, 1) := by decide +kernel
theorem d_SR_leapsBefore_5 : decode c_SR_leapsBefore 5 = .ok (.lconst 1, 1) := by decide +kernel
theorem d_SR_leapsBefore_6 : decode c_SR_leapsBefore 6 = .ok (.lsub, 1) := by decide +kernel
theorem d_SR_leapsBefore_7 : decode c_SR_leapsBefore 7 = .ok (.lmul, 1) := by decide +kernel
theorem d_SR_leapsBefore_8 : decode c_SR_leapsBefore 8 = .ok (.aload_n 0, 1) := by decide +kernel
theorem d_SR_leapsBefore_9 : decode c_SR_leapsBefore 9 = .ok (.getfield 13, 3) := by decide +kernel
theorem d_SR_leapsBefore_12 : decode c_SR_leapsBefore 12 = .ok (.ladd, 1) := by decide +kernel
theorem d_SR_leapsBefore_13 : decode c_SR_leapsBefore 13 = .ok (.aload_n 0, 1) := by decide +kernel
theorem d_SR_leapsBefore_14 : decode c_SR_leapsBefore 14 = .ok (.getfield 16, 3) := by decide +kernel
theorem d_SR_leapsBefore_17 : decode c_SR_leapsBefore 17 = .ok (.invokestatic 25, 3) := by decide +kernel
theorem d_SR_leapsBefore_20 : decode c_SR_leapsBefore 20 = .ok (.lreturn, 1) := by decide +kernel
theorem d_WC_init_0 : decode c_WC_init 0 = .ok (.aload_n 0, 1) := by decide +kernel
theorem d_WC_init_1 : decode c_WC_init 1 = .ok (.invokespecial 1, 3) := by decide +kernel
theorem d_WC_init_4 : decode c_WC_init 4 = .ok (.aload_n 0, 1) := by decide +kernel
theorem d_WC_init_5 : decode c_WC_init 5 = .ok (.aload_n 1, 1) := by decide +kernel
theorem d_WC_init_6 : decode c_WC_init 6 = .ok (.putfield 7, 3) := by decide +kernel
theorem d_WC_init_9 : decode c_WC_init 9 = .ok (.return_, 1) := by decide +kernel
theorem d_WC_lengthAt_0 : decode c_WC_lengthAt 0 = .ok (.bipush 7, 2) := by decide +kernel
theorem d_WC_lengthAt_2 : decode c_WC_lengthAt 2 = .ok (.ireturn, 1) := by decide +kernel
theorem d_WC_monthAt_0 : decode c_WC_monthAt 0 = .ok (.iload_n 1, 1) := by decide +kernel
theorem d_WC_monthAt_1 : decode c_WC_monthAt 1 = .ok (.iconst 1, 1) := by decide +kernel
theorem d_WC_monthAt_2 : decode c_WC_monthAt 2 = .ok (.iadd, 1) := by decide +kernel
theorem d_WC_monthAt_3 : decode c_WC_monthAt 3 = .ok (.ireturn, 1) := by decide +kernel
theorem d_WC_monthsIn_0 : decode c_WC_monthsIn 0 = .ok (.iload_n 1, 1) := by decide +kernel
theorem d_WC_monthsIn_1 : decode c_WC_monthsIn 1 = .ok (.bipush 7, 2) := by decide +kernel
theorem d_WC_monthsIn_3 : decode c_WC_monthsIn 3 = .ok (.idiv, 1) := by decide +kernel
theorem d_WC_monthsIn_4 : decode c_WC_monthsIn 4 = .ok (.ireturn, 1) := by decide +kernel
theorem d_WC_yearStart_0 : decode c_WC_yearStart 0 = .ok (.aload_n 0, 1) := by decide +kernel
theorem d_WC_yearStart_1 : decode c_WC_yearStart 1 = .ok (.getfield 7, 3) := by decide +kernel
theorem d_WC_yearStart_4 : decode c_WC_yearStart 4 = .ok (.lload_n 1, 1) := by decide +kernel
theorem d_WC_yearStart_5 : decode c_WC_yearStart 5 = .ok (.invokevirtual 13, 3) := by decide +kernel
theorem d_WC_yearStart_8 : decode c_WC_yearStart 8 = .ok (.ldc2_w 19, 3) := by decide +kernel
theorem d_WC_yearStart_11 : decode c_WC_yearStart 11 = .ok (.ladd, 1) := by decide +kernel
theorem d_WC_yearStart_12 : decode c_WC_yearStart 12 = .ok (.lstore_n 3, 1) := by decide +kernel
theorem d_WC_yearStart_13 : decode c_WC_yearStart 13 = .ok (.lload_n 3, 1) := by decide +kernel
theorem d_WC_yearStart_14 : decode c_WC_yearStart 14 = .ok (.lload_n 3, 1) := by decide +kernel
theorem d_WC_yearStart_15 : decode c_WC_yearStart 15 = .ok (.lconst 1, 1) := by decide +kernel
theorem d_WC_yearStart_16 : decode c_WC_yearStart 16 = .ok (.lsub, 1) := by decide +kernel
theorem d_WC_yearStart_17 : decode c_WC_yearStart 17 = .ok (.ldc2_w 21, 3) := by decide +kernel
theorem d_WC_yearStart_20 : decode c_WC_yearStart 20 = .ok (.invokestatic 23, 3) := by decide +kernel
theorem d_WC_yearStart_23 : decode c_WC_yearStart 23 = .ok (.lsub, 1) := by decide +kernel
theorem d_WC_yearStart_24 : decode c_WC_yearStart 24 = .ok (.lreturn, 1) := by decide +kernel
theorem d_Y_init_0 : decode c_Y_init 0 = .ok (.aload_n 0, 1) := by decide +kernel
theorem d_Y_init_1 : decode c_Y_init 1 = .ok (.invokespecial 3, 3) := by decide +kernel
theorem d_Y_init_4 : decode c_Y_init 4 = .ok (.return_, 1) := by decide +kernel
theorem d_Y_countOf_0 : decode c_Y_countOf 0 = .ok (.lload_n 1, 1) := by decide +kernel
theorem d_Y_countOf_1 : decode c_Y_countOf 1 = .ok (.lreturn, 1) := by decide +kernel
theorem d_Y_countWith_0 : decode c_Y_countWith 0 = .ok (.ldc2_w 49, 3) := by decide +kernel
theorem d_Y_countWith_3 : decode c_Y_countWith 3 = .ok (.lstore_n 3, 1) := by decide +kernel
theorem d_Y_countWith_4 : decode c_Y_countWith 4 = .ok (.ldc2_w 51, 3) := by decide +kernel
theorem d_Y_countWith_7 : decode c_Y_countWith 7 = .ok (.lstore 5, 2) := by decide +kernel
theorem d_Y_countWith_9 : decode c_Y_countWith 9 = .ok (.lload 5, 2) := by decide +kernel
theorem d_Y_countWith_11 : decode c_Y_countWith 11 = .ok (.lconst 0, 1) := by decide +kernel
theorem d_Y_countWith_12 : decode c_Y_countWith 12 = .ok (.lcmp, 1) := by decide +kernel
theorem d_Y_countWith_13 : decode c_Y_countWith 13 = .ok (.ifCond .le 32, 3) := by decide +kernel
theorem d_Y_countWith_16 : decode c_Y_countWith 16 = .ok (.aload_n 0, 1) := by decide +kernel
theorem d_Y_countWith_17 : decode c_Y_countWith 17 = .ok (.lload_n 3, 1) := by decide +kernel
theorem d_Y_countWith_18 : decode c_Y_countWith 18 = .ok (.lload 5, 2) := by decide +kernel
theorem d_Y_countWith_20 : decode c_Y_countWith 20 = .ok (.ladd, 1) := by decide +kernel
theorem d_Y_countWith_21 : decode c_Y_countWith 21 = .ok (.invokevirtual 23, 3) := by decide +kernel
theorem d_Y_countWith_24 : decode c_Y_countWith 24 = .ok (.lload_n 1, 1) := by decide +kernel
theorem d_Y_countWith_25 : decode c_Y_countWith 25 = .ok (.lcmp, 1) := by decide +kernel
theorem d_Y_countWith_26 : decode c_Y_countWith 26 = .ok (.ifCond .gt 8, 3) := by decide +kernel
theorem d_Y_countWith_29 : decode c_Y_countWith 29 = .ok (.lload_n 3, 1) := by decide +kernel
theorem d_Y_countWith_30 : decode c_Y_countWith 30 = .ok (.lload 5, 2) := by decide +kernel
theorem d_Y_countWith_32 : decode c_Y_countWith 32 = .ok (.ladd, 1) := by decide +kernel
theorem d_Y_countWith_33 : decode c_Y_countWith 33 = .ok (.lstore_n 3, 1) := by decide +kernel
theorem d_Y_countWith_34 : decode c_Y_countWith 34 = .ok (.lload 5, 2) := by decide +kernel
theorem d_Y_countWith_36 : decode c_Y_countWith 36 = .ok (.ldc2_w 53, 3) := by decide +kernel
theorem d_Y_countWith_39 : decode c_Y_countWith 39 = .ok (.ldiv, 1) := by decide +kernel
theorem d_Y_countWith_40 : decode c_Y_countWith 40 = .ok (.lstore 5, 2) := by decide +kernel
theorem d_Y_countWith_42 : decode c_Y_countWith 42 = .ok (.goto (-33), 3) := by decide +kernel
theorem d_Y_countWith_45 : decode c_Y_countWith 45 = .ok (.lload_n 3, 1) := by decide +kernel
theorem d_Y_countWith_46 : decode c_Y_countWith 46 = .ok (.lreturn, 1) := by decide +kernel
theorem d_Y_dateOf_0 : decode c_Y_dateOf 0 = .ok (.aload_n 0, 1) := by decide +kernel
theorem d_Y_dateOf_1 : decode c_Y_dateOf 1 = .ok (.lload_n 1, 1) := by decide +kernel
theorem d_Y_dateOf_2 : decode c_Y_dateOf 2 = .ok (.invokevirtual 9, 3) := by decide +kernel
theorem d_Y_dateOf_5 : decode c_Y_dateOf 5 = .ok (.lstore_n 3, 1) := by decide +kernel
theorem d_Y_dateOf_6 : decode c_Y_dateOf 6 = .ok (.aload_n 0, 1) := by decide +kernel
theorem d_Y_dateOf_7 : decode c_Y_dateOf 7 = .ok (.lload_n 3, 1) := by decide +kernel
theorem d_Y_dateOf_8 : decode c_Y_dateOf 8 = .ok (.invokevirtual 15, 3) := by decide +kernel
theorem d_Y_dateOf_11 : decode c_Y_dateOf 11 = .ok (.istore 5, 2) := by decide +kernel
theorem d_Y_dateOf_13 : decode c_Y_dateOf 13 = .ok (.aload_n 0, 1) := by decide +kernel
theorem d_Y_dateOf_14 : decode c_Y_dateOf 14 = .ok (.iload 5, 2) := by decide +kernel
theorem d_Y_dateOf_16 : decode c_Y_dateOf 16 = .ok (.invokevirtual 19, 3) := by decide +kernel
theorem d_Y_dateOf_19 : decode c_Y_dateOf 19 = .ok (.iconst 1, 1) := by decide +kernel
theorem d_Y_dateOf_20 : decode c_Y_dateOf 20 = .ok (.isub, 1) := by decide +kernel
theorem d_Y_dateOf_21 : decode c_Y_dateOf 21 = .ok (.istore 6, 2) := by decide +kernel
theorem d_Y_dateOf_23 : decode c_Y_dateOf 23 = .ok (.lload_n 1, 1) := by decide +kernel
theorem d_Y_dateOf_24 : decode c_Y_dateOf 24 = .ok (.aload_n 0, 1) := by decide +kernel
theorem d_Y_dateOf_25 : decode c_Y_dateOf 25 = .ok (.lload_n 3, 1) := by decide +kernel
theorem d_Y_dateOf_26 : decode c_Y_dateOf 26 = .ok (.invokevirtual 23, 3) := by decide +kernel
theorem d_Y_dateOf_29 : decode c_Y_dateOf 29 = .ok (.lsub, 1) := by decide +kernel
theorem d_Y_dateOf_30 : decode c_Y_dateOf 30 = .ok (.lstore 7, 2) := by decide +kernel
theorem d_Y_dateOf_32 : decode c_Y_dateOf 32 = .ok (.iconst 0, 1) := by decide +kernel
theorem d_Y_dateOf_33 : decode c_Y_dateOf 33 = .ok (.istore 9, 2) := by decide +kernel
theorem d_Y_dateOf_35 : decode c_Y_dateOf 35 = .ok (.iload 9, 2) := by decide +kernel
theorem d_Y_dateOf_37 : decode c_Y_dateOf 37 = .ok (.iload 6, 2) := by decide +kernel
theorem d_Y_dateOf_39 : decode c_Y_dateOf 39 = .ok (.if_icmp .ge 38, 3) := by decide +kernel
theorem d_Y_dateOf_42 : decode c_Y_dateOf 42 = .ok (.lload 7, 2) := by decide +kernel
theorem d_Y_dateOf_44 : decode c_Y_dateOf 44 = .ok (.aload_n 0, 1) := by decide +kernel
theorem d_Y_dateOf_45 : decode c_Y_dateOf 45 = .ok (.iload 9, 2) := by decide +kernel
theorem d_Y_dateOf_47 : decode c_Y_dateOf 47 = .ok (.iload 5, 2) := by decide +kernel
theorem d_Y_dateOf_49 : decode c_Y_dateOf 49 = .ok (.invokevirtual 26, 3) := by decide +kernel
theorem d_Y_dateOf_52 : decode c_Y_dateOf 52 = .ok (.i2l, 1) := by decide +kernel
theorem d_Y_dateOf_53 : decode c_Y_dateOf 53 = .ok (.lcmp, 1) := by decide +kernel
theorem d_Y_dateOf_54 : decode c_Y_dateOf 54 = .ok (.ifCond .lt 23, 3) := by decide +kernel
theorem d_Y_dateOf_57 : decode c_Y_dateOf 57 = .ok (.lload 7, 2) := by decide +kernel
theorem d_Y_dateOf_59 : decode c_Y_dateOf 59 = .ok (.aload_n 0, 1) := by decide +kernel
theorem d_Y_dateOf_60 : decode c_Y_dateOf 60 = .ok (.iload 9, 2) := by decide +kernel
theorem d_Y_dateOf_62 : decode c_Y_dateOf 62 = .ok (.iload 5, 2) := by decide +kernel
theorem d_Y_dateOf_64 : decode c_Y_dateOf 64 = .ok (.invokevirtual 26, 3) := by decide +kernel
theorem d_Y_dateOf_67 : decode c_Y_dateOf 67 = .ok (.i2l, 1) := by decide +kernel
theorem d_Y_dateOf_68 : decode c_Y_dateOf 68 = .ok (.lsub, 1) := by decide +kernel
theorem d_Y_dateOf_69 : decode c_Y_dateOf 69 = .ok (.lstore 7, 2) := by decide +kernel
theorem d_Y_dateOf_71 : decode c_Y_dateOf 71 = .ok (.iinc 9 1, 3) := by decide +kernel
theorem d_Y_dateOf_74 : decode c_Y_dateOf 74 = .ok (.goto (-39), 3) := by decide +kernel
theorem d_Y_dateOf_77 : decode c_Y_dateOf 77 = .ok (.aload_n 0, 1) := by decide +kernel
theorem d_Y_dateOf_78 : decode c_Y_dateOf 78 = .ok (.lload_n 3, 1) := by decide +kernel
theorem d_Y_dateOf_79 : decode c_Y_dateOf 79 = .ok (.invokevirtual 30, 3) := by decide +kernel
theorem d_Y_dateOf_82 : decode c_Y_dateOf 82 = .ok (.aload_n 0, 1) := by decide +kernel
theorem d_Y_dateOf_83 : decode c_Y_dateOf 83 = .ok (.iload 9, 2) := by decide +kernel
theorem d_Y_dateOf_85 : decode c_Y_dateOf 85 = .ok (.iload 5, 2) := by decide +kernel
theorem d_Y_dateOf_87 : decode c_Y_dateOf 87 = .ok (.invokevirtual 33, 3) := by decide +kernel
theorem d_Y_dateOf_90 : decode c_Y_dateOf 90 = .ok (.i2l, 1) := by decide +kernel
theorem d_Y_dateOf_91 : decode c_Y_dateOf 91 = .ok (.lload 7, 2) := by decide +kernel
theorem d_Y_dateOf_93 : decode c_Y_dateOf 93 = .ok (.lconst 1, 1) := by decide +kernel
theorem d_Y_dateOf_94 : decode c_Y_dateOf 94 = .ok (.ladd, 1) := by decide +kernel
theorem d_Y_dateOf_95 : decode c_Y_dateOf 95 = .ok (.invokestatic 36, 3) := by decide +kernel
theorem d_Y_dateOf_98 : decode c_Y_dateOf 98 = .ok (.lreturn, 1) := by decide +kernel
theorem d_Y_dayOf_0 : decode c_Y_dayOf 0 = .ok (.aload_n 0, 1) := by decide +kernel
theorem d_Y_dayOf_1 : decode c_Y_dayOf 1 = .ok (.lload_n 1, 1) := by decide +kernel
theorem d_Y_dayOf_2 : decode c_Y_dayOf 2 = .ok (.invokevirtual 40, 3) := by decide +kernel
theorem d_Y_dayOf_5 : decode c_Y_dayOf 5 = .ok (.ifCond .ne 7, 3) := by decide +kernel
theorem d_Y_dayOf_8 : decode c_Y_dayOf 8 = .ok (.ldc2_w 44, 3) := by decide +kernel
theorem d_Y_dayOf_11 : decode c_Y_dayOf 11 = .ok (.lreturn, 1) := by decide +kernel
theorem d_Y_dayOf_12 : decode c_Y_dayOf 12 = .ok (.aload_n 0, 1) := by decide +kernel
theorem d_Y_dayOf_13 : decode c_Y_dayOf 13 = .ok (.lload_n 1, 1) := by decide +kernel
theorem d_Y_dayOf_14 : decode c_Y_dayOf 14 = .ok (.invokevirtual 46, 3) := by decide +kernel
theorem d_Y_dayOf_17 : decode c_Y_dayOf 17 = .ok (.lstore 5, 2) := by decide +kernel
theorem d_Y_dayOf_19 : decode c_Y_dayOf 19 = .ok (.aload_n 0, 1) := by decide +kernel
theorem d_Y_dayOf_20 : decode c_Y_dayOf 20 = .ok (.lload 5, 2) := by decide +kernel
theorem d_Y_dayOf_22 : decode c_Y_dayOf 22 = .ok (.invokevirtual 15, 3) := by decide +kernel
theorem d_Y_dayOf_25 : decode c_Y_dayOf 25 = .ok (.istore 7, 2) := by decide +kernel
theorem d_Y_dayOf_27 : decode c_Y_dayOf 27 = .ok (.aload_n 0, 1) := by decide +kernel
theorem d_Y_dayOf_28 : decode c_Y_dayOf 28 = .ok (.iload 7, 2) := by decide +kernel
theorem d_Y_dayOf_30 : decode c_Y_dayOf 30 = .ok (.invokevirtual 19, 3) := by decide +kernel
theorem d_Y_dayOf_33 : decode c_Y_dayOf 33 = .ok (.istore 8, 2) := by decide +kernel
theorem d_Y_dayOf_35 : decode c_Y_dayOf 35 = .ok (.aload_n 0, 1) := by decide +kernel
theorem d_Y_dayOf_36 : decode c_Y_dayOf 36 = .ok (.lload 5, 2) := by decide +kernel
theorem d_Y_dayOf_38 : decode c_Y_dayOf 38 = .ok (.invokevirtual 23, 3) := by decide +kernel
theorem d_Y_dayOf_41 : decode c_Y_dayOf 41 = .ok (.lstore 9, 2) := by decide +kernel
theorem d_Y_dayOf_43 : decode c_Y_dayOf 43 = .ok (.iconst 0, 1) := by decide +kernel
theorem d_Y_dayOf_44 : decode c_Y_dayOf 44 = .ok (.istore 11, 2) := by decide +kernel
theorem d_Y_dayOf_46 : decode c_Y_dayOf 46 = .ok (.iload 11, 2) := by decide +kernel
theorem d_Y_dayOf_48 : decode c_Y_dayOf 48 = .ok (.iload 8, 2) := by decide +kernel
theorem d_Y_dayOf_50 : decode c_Y_dayOf 50 = .ok (.if_icmp .ge 67, 3) := by decide +kernel
theorem d_Y_dayOf_53 : decode c_Y_dayOf 53 = .ok (.aload_n 0, 1) := by decide +kernel
theorem d_Y_dayOf_54 : decode c_Y_dayOf 54 = .ok (.iload 11, 2) := by decide +kernel
theorem d_Y_dayOf_56 : decode c_Y_dayOf 56 = .ok (.iload 7, 2) := by decide +kernel
theorem d_Y_dayOf_58 : decode c_Y_dayOf 58 = .ok (.invokevirtual 26, 3) := by decide +kernel
theorem d_Y_dayOf_61 : decode c_Y_dayOf 61 = .ok (.istore 12, 2) := by decide +kernel
theorem d_Y_dayOf_63 : decode c_Y_dayOf 63 = .ok (.aload_n 0, 1) := by decide +kernel
theorem d_Y_dayOf_64 : decode c_Y_dayOf 64 = .ok (.iload 11, 2) := by decide +kernel
theorem d_Y_dayOf_66 : decode c_Y_dayOf 66 = .ok (.iload 7, 2) := by decide +kernel
theorem d_Y_dayOf_68 : decode c_Y_dayOf 68 = .ok (.invokevirtual 33, 3) := by decide +kernel
theorem d_Y_dayOf_71 : decode c_Y_dayOf 71 = .ok (.iload_n 3, 1) := by decide +kernel
theorem d_Y_dayOf_72 : decode c_Y_dayOf 72 = .ok (.if_icmp .ne 31, 3) := by decide +kernel
theorem d_Y_dayOf_75 : decode c_Y_dayOf 75 = .ok (.iload 4, 2) := by decide +kernel
theorem d_Y_dayOf_77 : decode c_Y_dayOf 77 = .ok (.iconst 1, 1) := by decide +kernel
theorem d_Y_dayOf_78 : decode c_Y_dayOf 78 = .ok (.if_icmp .lt 21, 3) := by decide +kernel
theorem d_Y_dayOf_81 : decode c_Y_dayOf 81 = .ok (.iload 4, 2) := by decide +kernel
theorem d_Y_dayOf_83 : decode c_Y_dayOf 83 = .ok (.iload 12, 2) := by decide +kernel
theorem d_Y_dayOf_85 : decode c_Y_dayOf 85 = .ok (.if_icmp .gt 14, 3) := by decide +kernel
theorem d_Y_dayOf_88 : decode c_Y_dayOf 88 = .ok (.lload 9, 2) := by decide +kernel
theorem d_Y_dayOf_90 : decode c_Y_dayOf 90 = .ok (.iload 4, 2) := by decide +kernel
theorem d_Y_dayOf_92 : decode c_Y_dayOf 92 = .ok (.i2l, 1) := by decide +kernel
theorem d_Y_dayOf_93 : decode c_Y_dayOf 93 = .ok (.ladd, 1) := by decide +kernel
theorem d_Y_dayOf_94 : decode c_Y_dayOf 94 = .ok (.lconst 1, 1) := by decide +kernel
theorem d_Y_dayOf_95 : decode c_Y_dayOf 95 = .ok (.lsub, 1) := by decide +kernel
theorem d_Y_dayOf_96 : decode c_Y_dayOf 96 = .ok (.goto 6, 3) := by decide +kernel
theorem d_Y_dayOf_99 : decode c_Y_dayOf 99 = .ok (.ldc2_w 44, 3) := by decide +kernel
theorem d_Y_dayOf_102 : decode c_Y_dayOf 102 = .ok (.lreturn, 1) := by decide +kernel
theorem d_Y_dayOf_103 : decode c_Y_dayOf 103 = .ok (.lload 9, 2) := by decide +kernel
theorem d_Y_dayOf_105 : decode c_Y_dayOf 105 = .ok (.iload 12, 2) := by decide +kernel
theorem d_Y_dayOf_107 : decode c_Y_dayOf 107 = .ok (.i2l, 1) := by decide +kernel
theorem d_Y_dayOf_108 : decode c_Y_dayOf 108 = .ok (.ladd, 1) := by decide +kernel
theorem d_Y_dayOf_109 : decode c_Y_dayOf 109 = .ok (.lstore 9, 2) := by decide +kernel
theorem d_Y_dayOf_111 : decode c_Y_dayOf 111 = .ok (.iinc 11 1, 3) := by decide +kernel
theorem d_Y_dayOf_114 : decode c_Y_dayOf 114 = .ok (.goto (-68), 3) := by decide +kernel
theorem d_Y_dayOf_117 : decode c_Y_dayOf 117 = .ok (.ldc2_w 44, 3) := by decide +kernel
theorem d_Y_dayOf_120 : decode c_Y_dayOf 120 = .ok (.lreturn, 1) := by decide +kernel
theorem d_Y_daysIn_0 : decode c_Y_daysIn 0 = .ok (.aload_n 0, 1) := by decide +kernel
theorem d_Y_daysIn_1 : decode c_Y_daysIn 1 = .ok (.lload_n 1, 1) := by decide +kernel
theorem d_Y_daysIn_2 : decode c_Y_daysIn 2 = .ok (.lconst 1, 1) := by decide +kernel
theorem d_Y_daysIn_3 : decode c_Y_daysIn 3 = .ok (.ladd, 1) := by decide +kernel
theorem d_Y_daysIn_4 : decode c_Y_daysIn 4 = .ok (.invokevirtual 23, 3) := by decide +kernel
theorem d_Y_daysIn_7 : decode c_Y_daysIn 7 = .ok (.aload_n 0, 1) := by decide +kernel
theorem d_Y_daysIn_8 : decode c_Y_daysIn 8 = .ok (.lload_n 1, 1) := by decide +kernel
theorem d_Y_daysIn_9 : decode c_Y_daysIn 9 = .ok (.invokevirtual 23, 3) := by decide +kernel
theorem d_Y_daysIn_12 : decode c_Y_daysIn 12 = .ok (.lsub, 1) := by decide +kernel
theorem d_Y_daysIn_13 : decode c_Y_daysIn 13 = .ok (.l2i, 1) := by decide +kernel
theorem d_Y_daysIn_14 : decode c_Y_daysIn 14 = .ok (.ireturn, 1) := by decide +kernel
theorem d_Y_yearAt_0 : decode c_Y_yearAt 0 = .ok (.lload_n 1, 1) := by decide +kernel
theorem d_Y_yearAt_1 : decode c_Y_yearAt 1 = .ok (.lreturn, 1) := by decide +kernel
theorem d_W_date_0 : decode c_W_date 0 = .ok (.aload 4, 2) := by decide +kernel
theorem d_W_date_2 : decode c_W_date 2 = .ok (.iconst 0, 1) := by decide +kernel
theorem d_W_date_3 : decode c_W_date 3 = .ok (.aload_n 0, 1) := by decide +kernel
theorem d_W_date_4 : decode c_W_date 4 = .ok (.iload_n 1, 1) := by decide +kernel
theorem d_W_date_5 : decode c_W_date 5 = .ok (.iload_n 2, 1) := by decide +kernel
theorem d_W_date_6 : decode c_W_date 6 = .ok (.iload_n 3, 1) := by decide +kernel
theorem d_W_date_7 : decode c_W_date 7 = .ok (.invokevirtual 17, 3) := by decide +kernel
theorem d_W_date_10 : decode c_W_date 10 = .ok (.i2l, 1) := by decide +kernel
theorem d_W_date_11 : decode c_W_date 11 = .ok (.lastore, 1) := by decide +kernel
theorem d_W_date_12 : decode c_W_date 12 = .ok (.goto 11, 3) := by decide +kernel
theorem d_W_date_15 : decode c_W_date 15 = .ok (.astore 5, 2) := by decide +kernel
theorem d_W_date_17 : decode c_W_date 17 = .ok (.iconst 1, 1) := by decide +kernel
theorem d_W_date_18 : decode c_W_date 18 = .ok (.ireturn, 1) := by decide +kernel
theorem d_W_date_19 : decode c_W_date 19 = .ok (.astore 5, 2) := by decide +kernel
theorem d_W_date_21 : decode c_W_date 21 = .ok (.iconst 2, 1) := by decide +kernel
theorem d_W_date_22 : decode c_W_date 22 = .ok (.ireturn, 1) := by decide +kernel
theorem d_W_date_23 : decode c_W_date 23 = .ok (.iconst 0, 1) := by decide +kernel
theorem d_W_date_24 : decode c_W_date 24 = .ok (.ireturn, 1) := by decide +kernel
theorem d_W_feast_0 : decode c_W_feast 0 = .ok (.aload_n 3, 1) := by decide +kernel
theorem d_W_feast_1 : decode c_W_feast 1 = .ok (.iconst 0, 1) := by decide +kernel
theorem d_W_feast_2 : decode c_W_feast 2 = .ok (.aload_n 0, 1) := by decide +kernel
theorem d_W_feast_3 : decode c_W_feast 3 = .ok (.iload_n 1, 1) := by decide +kernel
theorem d_W_feast_4 : decode c_W_feast 4 = .ok (.iload_n 2, 1) := by decide +kernel
theorem d_W_feast_5 : decode c_W_feast 5 = .ok (.invokevirtual 37, 3) := by decide +kernel
theorem d_W_feast_8 : decode c_W_feast 8 = .ok (.i2l, 1) := by decide +kernel
theorem d_W_feast_9 : decode c_W_feast 9 = .ok (.lastore, 1) := by decide +kernel
theorem d_W_feast_10 : decode c_W_feast 10 = .ok (.goto 11, 3) := by decide +kernel
theorem d_W_feast_13 : decode c_W_feast 13 = .ok (.astore 4, 2) := by decide +kernel
theorem d_W_feast_15 : decode c_W_feast 15 = .ok (.iconst 1, 1) := by decide +kernel
theorem d_W_feast_16 : decode c_W_feast 16 = .ok (.ireturn, 1) := by decide +kernel
theorem d_W_feast_17 : decode c_W_feast 17 = .ok (.astore 4, 2) := by decide +kernel
theorem d_W_feast_19 : decode c_W_feast 19 = .ok (.iconst 2, 1) := by decide +kernel
theorem d_W_feast_20 : decode c_W_feast 20 = .ok (.ireturn, 1) := by decide +kernel
theorem d_W_feast_21 : decode c_W_feast 21 = .ok (.iconst 0, 1) := by decide +kernel
theorem d_W_feast_22 : decode c_W_feast 22 = .ok (.ireturn, 1) := by decide +kernel
theorem d_W_fixed_0 : decode c_W_fixed 0 = .ok (.aload 5, 2) := by decide +kernel
theorem d_W_fixed_2 : decode c_W_fixed 2 = .ok (.iconst 0, 1) := by decide +kernel
theorem d_W_fixed_3 : decode c_W_fixed 3 = .ok (.aload_n 0, 1) := by decide +kernel
theorem d_W_fixed_4 : decode c_W_fixed 4 = .ok (.iload_n 1, 1) := by decide +kernel
theorem d_W_fixed_5 : decode c_W_fixed 5 = .ok (.iload_n 2, 1) := by decide +kernel
theorem d_W_fixed_6 : decode c_W_fixed 6 = .ok (.iload_n 3, 1) := by decide +kernel
theorem d_W_fixed_7 : decode c_W_fixed 7 = .ok (.iload 4, 2) := by decide +kernel
theorem d_W_fixed_9 : decode c_W_fixed 9 = .ok (.invokevirtual 23, 3) := by decide +kernel
theorem d_W_fixed_12 : decode c_W_fixed 12 = .ok (.i2l, 1) := by decide +kernel
theorem d_W_fixed_13 : decode c_W_fixed 13 = .ok (.lastore, 1) := by decide +kernel
theorem d_W_fixed_14 : decode c_W_fixed 14 = .ok (.goto 15, 3) := by decide +kernel
theorem d_W_fixed_17 : decode c_W_fixed 17 = .ok (.astore 6, 2) := by decide +kernel
theorem d_W_fixed_19 : decode c_W_fixed 19 = .ok (.iconst 1, 1) := by decide +kernel
theorem d_W_fixed_20 : decode c_W_fixed 20 = .ok (.ireturn, 1) := by decide +kernel
theorem d_W_fixed_21 : decode c_W_fixed 21 = .ok (.astore 6, 2) := by decide +kernel
theorem d_W_fixed_23 : decode c_W_fixed 23 = .ok (.iconst 2, 1) := by decide +kernel
theorem d_W_fixed_24 : decode c_W_fixed 24 = .ok (.ireturn, 1) := by decide +kernel
theorem d_W_fixed_25 : decode c_W_fixed 25 = .ok (.astore 6, 2) := by decide +kernel
theorem d_W_fixed_27 : decode c_W_fixed 27 = .ok (.iconst 3, 1) := by decide +kernel
theorem d_W_fixed_28 : decode c_W_fixed 28 = .ok (.ireturn, 1) := by decide +kernel
theorem d_W_fixed_29 : decode c_W_fixed 29 = .ok (.iconst 0, 1) := by decide +kernel
theorem d_W_fixed_30 : decode c_W_fixed 30 = .ok (.ireturn, 1) := by decide +kernel
theorem d_W_leap_0 : decode c_W_leap 0 = .ok (.aload_n 3, 1) := by decide +kernel
theorem d_W_leap_1 : decode c_W_leap 1 = .ok (.iconst 0, 1) := by decide +kernel
theorem d_W_leap_2 : decode c_W_leap 2 = .ok (.aload_n 0, 1) := by decide +kernel
theorem d_W_leap_3 : decode c_W_leap 3 = .ok (.iload_n 1, 1) := by decide +kernel
theorem d_W_leap_4 : decode c_W_leap 4 = .ok (.iload_n 2, 1) := by decide +kernel
theorem d_W_leap_5 : decode c_W_leap 5 = .ok (.invokevirtual 27, 3) := by decide +kernel
theorem d_W_leap_8 : decode c_W_leap 8 = .ok (.ifCond .eq 7, 3) := by decide +kernel
theorem d_W_leap_11 : decode c_W_leap 11 = .ok (.lconst 1, 1) := by decide +kernel
theorem d_W_leap_12 : decode c_W_leap 12 = .ok (.goto 4, 3) := by decide +kernel
theorem d_W_leap_15 : decode c_W_leap 15 = .ok (.lconst 0, 1) := by decide +kernel
theorem d_W_leap_16 : decode c_W_leap 16 = .ok (.lastore, 1) := by decide +kernel
theorem d_W_leap_17 : decode c_W_leap 17 = .ok (.goto 19, 3) := by decide +kernel
theorem d_W_leap_20 : decode c_W_leap 20 = .ok (.astore 4, 2) := by decide +kernel
theorem d_W_leap_22 : decode c_W_leap 22 = .ok (.iconst 1, 1) := by decide +kernel
theorem d_W_leap_23 : decode c_W_leap 23 = .ok (.ireturn, 1) := by decide +kernel
theorem d_W_leap_24 : decode c_W_leap 24 = .ok (.astore 4, 2) := by decide +kernel
theorem d_W_leap_26 : decode c_W_leap 26 = .ok (.iconst 2, 1) := by decide +kernel
theorem d_W_leap_27 : decode c_W_leap 27 = .ok (.ireturn, 1) := by decide +kernel
theorem d_W_leap_28 : decode c_W_leap 28 = .ok (.astore 4, 2) := by decide +kernel
theorem d_W_leap_30 : decode c_W_leap 30 = .ok (.iconst 3, 1) := by decide +kernel
theorem d_W_leap_31 : decode c_W_leap 31 = .ok (.ireturn, 1) := by decide +kernel
theorem d_W_leap_32 : decode c_W_leap 32 = .ok (.astore 4, 2) := by decide +kernel
theorem d_W_leap_34 : decode c_W_leap 34 = .ok (.iconst 4, 1) := by decide +kernel
theorem d_W_leap_35 : decode c_W_leap 35 = .ok (.ireturn, 1) := by decide +kernel
theorem d_W_leap_36 : decode c_W_leap 36 = .ok (.iconst 0, 1) := by decide +kernel
theorem d_W_leap_37 : decode c_W_leap 37 = .ok (.ireturn, 1) := by decide +kernel
theorem d_W_onOrBefore_0 : decode c_W_onOrBefore 0 = .ok (.aload_n 3, 1) := by decide +kernel
theorem d_W_onOrBefore_1 : decode c_W_onOrBefore 1 = .ok (.iconst 0, 1) := by decide +kernel
theorem d_W_onOrBefore_2 : decode c_W_onOrBefore 2 = .ok (.aload_n 0, 1) := by decide +kernel
theorem d_W_onOrBefore_3 : decode c_W_onOrBefore 3 = .ok (.iload_n 1, 1) := by decide +kernel
theorem d_W_onOrBefore_4 : decode c_W_onOrBefore 4 = .ok (.iload_n 2, 1) := by decide +kernel
theorem d_W_onOrBefore_5 : decode c_W_onOrBefore 5 = .ok (.invokevirtual 33, 3) := by decide +kernel
theorem d_W_onOrBefore_8 : decode c_W_onOrBefore 8 = .ok (.i2l, 1) := by decide +kernel
theorem d_W_onOrBefore_9 : decode c_W_onOrBefore 9 = .ok (.lastore, 1) := by decide +kernel
theorem d_W_onOrBefore_10 : decode c_W_onOrBefore 10 = .ok (.goto 11, 3) := by decide +kernel
theorem d_W_onOrBefore_13 : decode c_W_onOrBefore 13 = .ok (.astore 4, 2) := by decide +kernel
theorem d_W_onOrBefore_15 : decode c_W_onOrBefore 15 = .ok (.iconst 1, 1) := by decide +kernel
theorem d_W_onOrBefore_16 : decode c_W_onOrBefore 16 = .ok (.ireturn, 1) := by decide +kernel
theorem d_W_onOrBefore_17 : decode c_W_onOrBefore 17 = .ok (.astore 4, 2) := by decide +kernel
theorem d_W_onOrBefore_19 : decode c_W_onOrBefore 19 = .ok (.iconst 2, 1) := by decide +kernel
theorem d_W_onOrBefore_20 : decode c_W_onOrBefore 20 = .ok (.ireturn, 1) := by decide +kernel
theorem d_W_onOrBefore_21 : decode c_W_onOrBefore 21 = .ok (.iconst 0, 1) := by decide +kernel
theorem d_W_onOrBefore_22 : decode c_W_onOrBefore 22 = .ok (.ireturn, 1) := by decide +kernel
theorem d_W_plug_0 : decode c_W_plug 0 = .ok (.aload 8, 2) := by decide +kernel
theorem d_W_plug_2 : decode c_W_plug 2 = .ok (.iconst 0, 1) := by decide +kernel
theorem d_W_plug_3 : decode c_W_plug 3 = .ok (.aload_n 0, 1) := by decide +kernel
theorem d_W_plug_4 : decode c_W_plug 4 = .ok (.iload_n 1, 1) := by decide +kernel
theorem d_W_plug_5 : decode c_W_plug 5 = .ok (.iload_n 2, 1) := by decide +kernel
theorem d_W_plug_6 : decode c_W_plug 6 = .ok (.iload_n 3, 1) := by decide +kernel
theorem d_W_plug_7 : decode c_W_plug 7 = .ok (.iload 4, 2) := by decide +kernel
theorem d_W_plug_9 : decode c_W_plug 9 = .ok (.iload 5, 2) := by decide +kernel
theorem d_W_plug_11 : decode c_W_plug 11 = .ok (.iload 6, 2) := by decide +kernel
theorem d_W_plug_13 : decode c_W_plug 13 = .ok (.iload 7, 2) := by decide +kernel
theorem d_W_plug_15 : decode c_W_plug 15 = .ok (.invokevirtual 7, 3) := by decide +kernel
theorem d_W_plug_18 : decode c_W_plug 18 = .ok (.ifCond .eq 7, 3) := by decide +kernel
theorem d_W_plug_21 : decode c_W_plug 21 = .ok (.lconst 1, 1) := by decide +kernel
theorem d_W_plug_22 : decode c_W_plug 22 = .ok (.goto 4, 3) := by decide +kernel
theorem d_W_plug_25 : decode c_W_plug 25 = .ok (.lconst 0, 1) := by decide +kernel
theorem d_W_plug_26 : decode c_W_plug 26 = .ok (.lastore, 1) := by decide +kernel
theorem d_W_plug_27 : decode c_W_plug 27 = .ok (.goto 11, 3) := by decide +kernel
theorem d_W_plug_30 : decode c_W_plug 30 = .ok (.astore 9, 2) := by decide +kernel
theorem d_W_plug_32 : decode c_W_plug 32 = .ok (.iconst 1, 1) := by decide +kernel
theorem d_W_plug_33 : decode c_W_plug 33 = .ok (.ireturn, 1) := by decide +kernel
theorem d_W_plug_34 : decode c_W_plug 34 = .ok (.astore 9, 2) := by decide +kernel
theorem d_W_plug_36 : decode c_W_plug 36 = .ok (.iconst 2, 1) := by decide +kernel
theorem d_W_plug_37 : decode c_W_plug 37 = .ok (.ireturn, 1) := by decide +kernel
theorem d_W_plug_38 : decode c_W_plug 38 = .ok (.iconst 0, 1) := by decide +kernel
theorem d_W_plug_39 : decode c_W_plug 39 = .ok (.ireturn, 1) := by decide +kernel
theorem d_W_read_0 : decode c_W_read 0 = .ok (.aload_n 2, 1) := by decide +kernel
theorem d_W_read_1 : decode c_W_read 1 = .ok (.iconst 0, 1) := by decide +kernel
theorem d_W_read_2 : decode c_W_read 2 = .ok (.aload_n 0, 1) := by decide +kernel
theorem d_W_read_3 : decode c_W_read 3 = .ok (.iload_n 1, 1) := by decide +kernel
theorem d_W_read_4 : decode c_W_read 4 = .ok (.invokevirtual 47, 3) := by decide +kernel
theorem d_W_read_7 : decode c_W_read 7 = .ok (.i2l, 1) := by decide +kernel
theorem d_W_read_8 : decode c_W_read 8 = .ok (.lastore, 1) := by decide +kernel
theorem d_W_read_9 : decode c_W_read 9 = .ok (.goto 9, 3) := by decide +kernel
theorem d_W_read_12 : decode c_W_read 12 = .ok (.astore_n 3, 1) := by decide +kernel
theorem d_W_read_13 : decode c_W_read 13 = .ok (.iconst 1, 1) := by decide +kernel
theorem d_W_read_14 : decode c_W_read 14 = .ok (.ireturn, 1) := by decide +kernel
theorem d_W_read_15 : decode c_W_read 15 = .ok (.astore_n 3, 1) := by decide +kernel
theorem d_W_read_16 : decode c_W_read 16 = .ok (.iconst 2, 1) := by decide +kernel
theorem d_W_read_17 : decode c_W_read 17 = .ok (.ireturn, 1) := by decide +kernel
theorem d_W_read_18 : decode c_W_read 18 = .ok (.iconst 0, 1) := by decide +kernel
theorem d_W_read_19 : decode c_W_read 19 = .ok (.ireturn, 1) := by decide +kernel
theorem d_W_when_0 : decode c_W_when 0 = .ok (.aload 6, 2) := by decide +kernel
theorem d_W_when_2 : decode c_W_when 2 = .ok (.iconst 0, 1) := by decide +kernel
theorem d_W_when_3 : decode c_W_when 3 = .ok (.aload_n 0, 1) := by decide +kernel
theorem d_W_when_4 : decode c_W_when 4 = .ok (.iload_n 1, 1) := by decide +kernel
theorem d_W_when_5 : decode c_W_when 5 = .ok (.iload_n 2, 1) := by decide +kernel
theorem d_W_when_6 : decode c_W_when 6 = .ok (.iload_n 3, 1) := by decide +kernel
theorem d_W_when_7 : decode c_W_when 7 = .ok (.iload 4, 2) := by decide +kernel
theorem d_W_when_9 : decode c_W_when 9 = .ok (.iload 5, 2) := by decide +kernel
theorem d_W_when_11 : decode c_W_when 11 = .ok (.invokevirtual 40, 3) := by decide +kernel
theorem d_W_when_14 : decode c_W_when 14 = .ok (.i2l, 1) := by decide +kernel
theorem d_W_when_15 : decode c_W_when 15 = .ok (.lastore, 1) := by decide +kernel
theorem d_W_when_16 : decode c_W_when 16 = .ok (.goto 11, 3) := by decide +kernel
theorem d_W_when_19 : decode c_W_when 19 = .ok (.astore 7, 2) := by decide +kernel
theorem d_W_when_21 : decode c_W_when 21 = .ok (.iconst 1, 1) := by decide +kernel
theorem d_W_when_22 : decode c_W_when 22 = .ok (.ireturn, 1) := by decide +kernel
theorem d_W_when_23 : decode c_W_when 23 = .ok (.astore 7, 2) := by decide +kernel
theorem d_W_when_25 : decode c_W_when 25 = .ok (.iconst 2, 1) := by decide +kernel
theorem d_W_when_26 : decode c_W_when 26 = .ok (.ireturn, 1) := by decide +kernel
theorem d_W_when_27 : decode c_W_when 27 = .ok (.iconst 0, 1) := by decide +kernel
theorem d_W_when_28 : decode c_W_when 28 = .ok (.ireturn, 1) := by decide +kernel
theorem d_W_write_0 : decode c_W_write 0 = .ok (.aload_n 3, 1) := by decide +kernel
theorem d_W_write_1 : decode c_W_write 1 = .ok (.iconst 0, 1) := by decide +kernel
theorem d_W_write_2 : decode c_W_write 2 = .ok (.aload_n 0, 1) := by decide +kernel
theorem d_W_write_3 : decode c_W_write 3 = .ok (.iload_n 1, 1) := by decide +kernel
theorem d_W_write_4 : decode c_W_write 4 = .ok (.iload_n 2, 1) := by decide +kernel
theorem d_W_write_5 : decode c_W_write 5 = .ok (.invokevirtual 44, 3) := by decide +kernel
theorem d_W_write_8 : decode c_W_write 8 = .ok (.i2l, 1) := by decide +kernel
theorem d_W_write_9 : decode c_W_write 9 = .ok (.lastore, 1) := by decide +kernel
theorem d_W_write_10 : decode c_W_write 10 = .ok (.goto 11, 3) := by decide +kernel
theorem d_W_write_13 : decode c_W_write 13 = .ok (.astore 4, 2) := by decide +kernel
theorem d_W_write_15 : decode c_W_write 15 = .ok (.iconst 1, 1) := by decide +kernel
theorem d_W_write_16 : decode c_W_write 16 = .ok (.ireturn, 1) := by decide +kernel
theorem d_W_write_17 : decode c_W_write 17 = .ok (.astore 4, 2) := by decide +kernel
theorem d_W_write_19 : decode c_W_write 19 = .ok (.iconst 2, 1) := by decide +kernel
theorem d_W_write_20 : decode c_W_write 20 = .ok (.ireturn, 1) := by decide +kernel
theorem d_W_write_21 : decode c_W_write 21 = .ok (.iconst 0, 1) := by decide +kernel
theorem d_W_write_22 : decode c_W_write 22 = .ok (.ireturn, 1) := by decide +kernel
