/-! 77.decL: laid by program (wip/whole) -/
theorem d_L_0 : decode code 0 = .ok (.new 8, 3) := by decide +kernel
theorem d_L_3 : decode code 3 = .ok (.dup, 1) := by decide +kernel
theorem d_L_4 : decode code 4 = .ok (.invokespecial 51, 3) := by decide +kernel
theorem d_L_7 : decode code 7 = .ok (.astore_n 1, 1) := by decide +kernel
theorem d_L_8 : decode code 8 = .ok (.new 52, 3) := by decide +kernel
theorem d_L_11 : decode code 11 = .ok (.dup, 1) := by decide +kernel
theorem d_L_12 : decode code 12 = .ok (.invokespecial 54, 3) := by decide +kernel
theorem d_L_15 : decode code 15 = .ok (.astore_n 2, 1) := by decide +kernel
theorem d_L_16 : decode code 16 = .ok (.iconst 1, 1) := by decide +kernel
theorem d_L_17 : decode code 17 = .ok (.newarray .long, 2) := by decide +kernel
theorem d_L_19 : decode code 19 = .ok (.astore_n 3, 1) := by decide +kernel
theorem d_L_20 : decode code 20 = .ok (.iconst 0, 1) := by decide +kernel
theorem d_L_21 : decode code 21 = .ok (.istore 4, 2) := by decide +kernel
theorem d_L_23 : decode code 23 = .ok (.iload 4, 2) := by decide +kernel
theorem d_L_25 : decode code 25 = .ok (.aload_n 0, 1) := by decide +kernel
theorem d_L_26 : decode code 26 = .ok (.arraylength, 1) := by decide +kernel
theorem d_L_27 : decode code 27 = .ok (.bipush 8, 2) := by decide +kernel
theorem d_L_29 : decode code 29 = .ok (.isub, 1) := by decide +kernel
theorem d_L_30 : decode code 30 = .ok (.if_icmp .gt 977, 3) := by decide +kernel
theorem d_L_33 : decode code 33 = .ok (.aload_n 0, 1) := by decide +kernel
theorem d_L_34 : decode code 34 = .ok (.iload 4, 2) := by decide +kernel
theorem d_L_36 : decode code 36 = .ok (.iaload, 1) := by decide +kernel
theorem d_L_37 : decode code 37 = .ok (.bipush 15, 2) := by decide +kernel
theorem d_L_39 : decode code 39 = .ok (.iand, 1) := by decide +kernel
theorem d_L_40 : decode code 40 = .ok (.tableswitch 961 0 13 #[72, 211, 291, 383, 458, 526, 551, 600, 668, 772, 840, 867, 880, 905], 72) := by decide +kernel
theorem d_L_112 : decode code 112 = .ok (.aload_n 1, 1) := by decide +kernel
theorem d_L_113 : decode code 113 = .ok (.aload_n 0, 1) := by decide +kernel
theorem d_L_114 : decode code 114 = .ok (.iload 4, 2) := by decide +kernel
theorem d_L_116 : decode code 116 = .ok (.iconst 1, 1) := by decide +kernel
theorem d_L_117 : decode code 117 = .ok (.iadd, 1) := by decide +kernel
theorem d_L_118 : decode code 118 = .ok (.iaload, 1) := by decide +kernel
theorem d_L_119 : decode code 119 = .ok (.aload_n 0, 1) := by decide +kernel
theorem d_L_120 : decode code 120 = .ok (.iload 4, 2) := by decide +kernel
theorem d_L_122 : decode code 122 = .ok (.iconst 2, 1) := by decide +kernel
theorem d_L_123 : decode code 123 = .ok (.iadd, 1) := by decide +kernel
theorem d_L_124 : decode code 124 = .ok (.iaload, 1) := by decide +kernel
theorem d_L_125 : decode code 125 = .ok (.aload_n 0, 1) := by decide +kernel
theorem d_L_126 : decode code 126 = .ok (.iload 4, 2) := by decide +kernel
theorem d_L_128 : decode code 128 = .ok (.iconst 3, 1) := by decide +kernel
theorem d_L_129 : decode code 129 = .ok (.iadd, 1) := by decide +kernel
theorem d_L_130 : decode code 130 = .ok (.iaload, 1) := by decide +kernel
theorem d_L_131 : decode code 131 = .ok (.aload_n 0, 1) := by decide +kernel
theorem d_L_132 : decode code 132 = .ok (.iload 4, 2) := by decide +kernel
theorem d_L_134 : decode code 134 = .ok (.iconst 4, 1) := by decide +kernel
theorem d_L_135 : decode code 135 = .ok (.iadd, 1) := by decide +kernel
theorem d_L_136 : decode code 136 = .ok (.iaload, 1) := by decide +kernel
theorem d_L_137 : decode code 137 = .ok (.aload_n 0, 1) := by decide +kernel
theorem d_L_138 : decode code 138 = .ok (.iload 4, 2) := by decide +kernel
theorem d_L_140 : decode code 140 = .ok (.iconst 5, 1) := by decide +kernel
theorem d_L_141 : decode code 141 = .ok (.iadd, 1) := by decide +kernel
theorem d_L_142 : decode code 142 = .ok (.iaload, 1) := by decide +kernel
theorem d_L_143 : decode code 143 = .ok (.aload_n 0, 1) := by decide +kernel
theorem d_L_144 : decode code 144 = .ok (.iload 4, 2) := by decide +kernel
theorem d_L_146 : decode code 146 = .ok (.bipush 6, 2) := by decide +kernel
theorem d_L_148 : decode code 148 = .ok (.iadd, 1) := by decide +kernel
theorem d_L_149 : decode code 149 = .ok (.iaload, 1) := by decide +kernel
theorem d_L_150 : decode code 150 = .ok (.aload_n 0, 1) := by decide +kernel
theorem d_L_151 : decode code 151 = .ok (.iload 4, 2) := by decide +kernel
theorem d_L_153 : decode code 153 = .ok (.bipush 7, 2) := by decide +kernel
theorem d_L_155 : decode code 155 = .ok (.iadd, 1) := by decide +kernel
theorem d_L_156 : decode code 156 = .ok (.iaload, 1) := by decide +kernel
theorem d_L_157 : decode code 157 = .ok (.aload_n 3, 1) := by decide +kernel
theorem d_L_158 : decode code 158 = .ok (.invokestatic 55, 3) := by decide +kernel
theorem d_L_161 : decode code 161 = .ok (.istore 5, 2) := by decide +kernel
theorem d_L_163 : decode code 163 = .ok (.aload_n 2, 1) := by decide +kernel
theorem d_L_164 : decode code 164 = .ok (.aload_n 0, 1) := by decide +kernel
theorem d_L_165 : decode code 165 = .ok (.iload 4, 2) := by decide +kernel
theorem d_L_167 : decode code 167 = .ok (.iconst 1, 1) := by decide +kernel
theorem d_L_168 : decode code 168 = .ok (.iadd, 1) := by decide +kernel
theorem d_L_169 : decode code 169 = .ok (.iaload, 1) := by decide +kernel
theorem d_L_170 : decode code 170 = .ok (.aload_n 0, 1) := by decide +kernel
theorem d_L_171 : decode code 171 = .ok (.iload 4, 2) := by decide +kernel
theorem d_L_173 : decode code 173 = .ok (.iconst 2, 1) := by decide +kernel
theorem d_L_174 : decode code 174 = .ok (.iadd, 1) := by decide +kernel
theorem d_L_175 : decode code 175 = .ok (.iaload, 1) := by decide +kernel
theorem d_L_176 : decode code 176 = .ok (.aload_n 0, 1) := by decide +kernel
theorem d_L_177 : decode code 177 = .ok (.iload 4, 2) := by decide +kernel
theorem d_L_179 : decode code 179 = .ok (.iconst 3, 1) := by decide +kernel
theorem d_L_180 : decode code 180 = .ok (.iadd, 1) := by decide +kernel
theorem d_L_181 : decode code 181 = .ok (.iaload, 1) := by decide +kernel
theorem d_L_182 : decode code 182 = .ok (.aload_n 0, 1) := by decide +kernel
theorem d_L_183 : decode code 183 = .ok (.iload 4, 2) := by decide +kernel
theorem d_L_185 : decode code 185 = .ok (.iconst 4, 1) := by decide +kernel
theorem d_L_186 : decode code 186 = .ok (.iadd, 1) := by decide +kernel
theorem d_L_187 : decode code 187 = .ok (.iaload, 1) := by decide +kernel
theorem d_L_188 : decode code 188 = .ok (.aload_n 0, 1) := by decide +kernel
theorem d_L_189 : decode code 189 = .ok (.iload 4, 2) := by decide +kernel
theorem d_L_191 : decode code 191 = .ok (.iconst 5, 1) := by decide +kernel
theorem d_L_192 : decode code 192 = .ok (.iadd, 1) := by decide +kernel
theorem d_L_193 : decode code 193 = .ok (.iaload, 1) := by decide +kernel
theorem d_L_194 : decode code 194 = .ok (.aload_n 0, 1) := by decide +kernel
theorem d_L_195 : decode code 195 = .ok (.iload 4, 2) := by decide +kernel
theorem d_L_197 : decode code 197 = .ok (.bipush 6, 2) := by decide +kernel
theorem d_L_199 : decode code 199 = .ok (.iadd, 1) := by decide +kernel
theorem d_L_200 : decode code 200 = .ok (.iaload, 1) := by decide +kernel
theorem d_L_201 : decode code 201 = .ok (.aload_n 0, 1) := by decide +kernel
theorem d_L_202 : decode code 202 = .ok (.iload 4, 2) := by decide +kernel
theorem d_L_204 : decode code 204 = .ok (.bipush 7, 2) := by decide +kernel
theorem d_L_206 : decode code 206 = .ok (.iadd, 1) := by decide +kernel
theorem d_L_207 : decode code 207 = .ok (.iaload, 1) := by decide +kernel
theorem d_L_208 : decode code 208 = .ok (.invokevirtual 60, 3) := by decide +kernel
theorem d_L_211 : decode code 211 = .ok (.istore 6, 2) := by decide +kernel
theorem d_L_213 : decode code 213 = .ok (.aload_n 2, 1) := by decide +kernel
theorem d_L_214 : decode code 214 = .ok (.invokevirtual 61, 3) := by decide +kernel
theorem d_L_217 : decode code 217 = .ok (.iload 5, 2) := by decide +kernel
theorem d_L_219 : decode code 219 = .ok (.if_icmp .eq 5, 3) := by decide +kernel
theorem d_L_222 : decode code 222 = .ok (.iconst 0, 1) := by decide +kernel
theorem d_L_223 : decode code 223 = .ok (.ireturn, 1) := by decide +kernel
theorem d_L_224 : decode code 224 = .ok (.iload 5, 2) := by decide +kernel
theorem d_L_226 : decode code 226 = .ok (.ifCond .ne 22, 3) := by decide +kernel
theorem d_L_229 : decode code 229 = .ok (.aload_n 3, 1) := by decide +kernel
theorem d_L_230 : decode code 230 = .ok (.iconst 0, 1) := by decide +kernel
theorem d_L_231 : decode code 231 = .ok (.laload, 1) := by decide +kernel
theorem d_L_232 : decode code 232 = .ok (.iload 6, 2) := by decide +kernel
theorem d_L_234 : decode code 234 = .ok (.ifCond .eq 7, 3) := by decide +kernel
theorem d_L_237 : decode code 237 = .ok (.lconst 1, 1) := by decide +kernel
theorem d_L_238 : decode code 238 = .ok (.goto 4, 3) := by decide +kernel
theorem d_L_241 : decode code 241 = .ok (.lconst 0, 1) := by decide +kernel
theorem d_L_242 : decode code 242 = .ok (.lcmp, 1) := by decide +kernel
theorem d_L_243 : decode code 243 = .ok (.ifCond .eq 5, 3) := by decide +kernel
theorem d_L_246 : decode code 246 = .ok (.iconst 0, 1) := by decide +kernel
theorem d_L_247 : decode code 247 = .ok (.ireturn, 1) := by decide +kernel
theorem d_L_248 : decode code 248 = .ok (.goto 753, 3) := by decide +kernel
theorem d_L_251 : decode code 251 = .ok (.aload_n 1, 1) := by decide +kernel
theorem d_L_252 : decode code 252 = .ok (.aload_n 0, 1) := by decide +kernel
theorem d_L_253 : decode code 253 = .ok (.iload 4, 2) := by decide +kernel
theorem d_L_255 : decode code 255 = .ok (.iconst 1, 1) := by decide +kernel
theorem d_L_256 : decode code 256 = .ok (.iadd, 1) := by decide +kernel
theorem d_L_257 : decode code 257 = .ok (.iaload, 1) := by decide +kernel
theorem d_L_258 : decode code 258 = .ok (.aload_n 0, 1) := by decide +kernel
theorem d_L_259 : decode code 259 = .ok (.iload 4, 2) := by decide +kernel
theorem d_L_261 : decode code 261 = .ok (.iconst 2, 1) := by decide +kernel
theorem d_L_262 : decode code 262 = .ok (.iadd, 1) := by decide +kernel
theorem d_L_263 : decode code 263 = .ok (.iaload, 1) := by decide +kernel
theorem d_L_264 : decode code 264 = .ok (.aload_n 0, 1) := by decide +kernel
theorem d_L_265 : decode code 265 = .ok (.iload 4, 2) := by decide +kernel
theorem d_L_267 : decode code 267 = .ok (.iconst 3, 1) := by decide +kernel
theorem d_L_268 : decode code 268 = .ok (.iadd, 1) := by decide +kernel
theorem d_L_269 : decode code 269 = .ok (.iaload, 1) := by decide +kernel
theorem d_L_270 : decode code 270 = .ok (.aload_n 3, 1) := by decide +kernel
theorem d_L_271 : decode code 271 = .ok (.invokestatic 65, 3) := by decide +kernel
theorem d_L_274 : decode code 274 = .ok (.istore 5, 2) := by decide +kernel
theorem d_L_276 : decode code 276 = .ok (.aload_n 2, 1) := by decide +kernel
theorem d_L_277 : decode code 277 = .ok (.aload_n 0, 1) := by decide +kernel
theorem d_L_278 : decode code 278 = .ok (.iload 4, 2) := by decide +kernel
theorem d_L_280 : decode code 280 = .ok (.iconst 1, 1) := by decide +kernel
theorem d_L_281 : decode code 281 = .ok (.iadd, 1) := by decide +kernel
theorem d_L_282 : decode code 282 = .ok (.iaload, 1) := by decide +kernel
theorem d_L_283 : decode code 283 = .ok (.aload_n 0, 1) := by decide +kernel
theorem d_L_284 : decode code 284 = .ok (.iload 4, 2) := by decide +kernel
theorem d_L_286 : decode code 286 = .ok (.iconst 2, 1) := by decide +kernel
theorem d_L_287 : decode code 287 = .ok (.iadd, 1) := by decide +kernel
theorem d_L_288 : decode code 288 = .ok (.iaload, 1) := by decide +kernel
theorem d_L_289 : decode code 289 = .ok (.aload_n 0, 1) := by decide +kernel
theorem d_L_290 : decode code 290 = .ok (.iload 4, 2) := by decide +kernel
theorem d_L_292 : decode code 292 = .ok (.iconst 3, 1) := by decide +kernel
theorem d_L_293 : decode code 293 = .ok (.iadd, 1) := by decide +kernel
theorem d_L_294 : decode code 294 = .ok (.iaload, 1) := by decide +kernel
theorem d_L_295 : decode code 295 = .ok (.invokevirtual 68, 3) := by decide +kernel
theorem d_L_298 : decode code 298 = .ok (.istore 6, 2) := by decide +kernel
theorem d_L_300 : decode code 300 = .ok (.aload_n 2, 1) := by decide +kernel
theorem d_L_301 : decode code 301 = .ok (.invokevirtual 61, 3) := by decide +kernel
theorem d_L_304 : decode code 304 = .ok (.iload 5, 2) := by decide +kernel
theorem d_L_306 : decode code 306 = .ok (.if_icmp .eq 5, 3) := by decide +kernel
theorem d_L_309 : decode code 309 = .ok (.iconst 0, 1) := by decide +kernel
theorem d_L_310 : decode code 310 = .ok (.ireturn, 1) := by decide +kernel
theorem d_L_311 : decode code 311 = .ok (.iload 5, 2) := by decide +kernel
theorem d_L_313 : decode code 313 = .ok (.ifCond .ne 15, 3) := by decide +kernel
theorem d_L_316 : decode code 316 = .ok (.aload_n 3, 1) := by decide +kernel
theorem d_L_317 : decode code 317 = .ok (.iconst 0, 1) := by decide +kernel
theorem d_L_318 : decode code 318 = .ok (.laload, 1) := by decide +kernel
theorem d_L_319 : decode code 319 = .ok (.iload 6, 2) := by decide +kernel
theorem d_L_321 : decode code 321 = .ok (.i2l, 1) := by decide +kernel
theorem d_L_322 : decode code 322 = .ok (.lcmp, 1) := by decide +kernel
theorem d_L_323 : decode code 323 = .ok (.ifCond .eq 5, 3) := by decide +kernel
theorem d_L_326 : decode code 326 = .ok (.iconst 0, 1) := by decide +kernel
theorem d_L_327 : decode code 327 = .ok (.ireturn, 1) := by decide +kernel
theorem d_L_328 : decode code 328 = .ok (.goto 673, 3) := by decide +kernel
theorem d_L_331 : decode code 331 = .ok (.aload_n 1, 1) := by decide +kernel
theorem d_L_332 : decode code 332 = .ok (.aload_n 0, 1) := by decide +kernel
theorem d_L_333 : decode code 333 = .ok (.iload 4, 2) := by decide +kernel
theorem d_L_335 : decode code 335 = .ok (.iconst 1, 1) := by decide +kernel
theorem d_L_336 : decode code 336 = .ok (.iadd, 1) := by decide +kernel
theorem d_L_337 : decode code 337 = .ok (.iaload, 1) := by decide +kernel
theorem d_L_338 : decode code 338 = .ok (.aload_n 0, 1) := by decide +kernel
theorem d_L_339 : decode code 339 = .ok (.iload 4, 2) := by decide +kernel
theorem d_L_341 : decode code 341 = .ok (.iconst 2, 1) := by decide +kernel
theorem d_L_342 : decode code 342 = .ok (.iadd, 1) := by decide +kernel
theorem d_L_343 : decode code 343 = .ok (.iaload, 1) := by decide +kernel
theorem d_L_344 : decode code 344 = .ok (.aload_n 0, 1) := by decide +kernel
theorem d_L_345 : decode code 345 = .ok (.iload 4, 2) := by decide +kernel
theorem d_L_347 : decode code 347 = .ok (.iconst 3, 1) := by decide +kernel
theorem d_L_348 : decode code 348 = .ok (.iadd, 1) := by decide +kernel
theorem d_L_349 : decode code 349 = .ok (.iaload, 1) := by decide +kernel
theorem d_L_350 : decode code 350 = .ok (.aload_n 0, 1) := by decide +kernel
theorem d_L_351 : decode code 351 = .ok (.iload 4, 2) := by decide +kernel
theorem d_L_353 : decode code 353 = .ok (.iconst 4, 1) := by decide +kernel
theorem d_L_354 : decode code 354 = .ok (.iadd, 1) := by decide +kernel
theorem d_L_355 : decode code 355 = .ok (.iaload, 1) := by decide +kernel
theorem d_L_356 : decode code 356 = .ok (.aload_n 3, 1) := by decide +kernel
theorem d_L_357 : decode code 357 = .ok (.invokestatic 69, 3) := by decide +kernel
theorem d_L_360 : decode code 360 = .ok (.istore 5, 2) := by decide +kernel
theorem d_L_362 : decode code 362 = .ok (.aload_n 2, 1) := by decide +kernel
theorem d_L_363 : decode code 363 = .ok (.aload_n 0, 1) := by decide +kernel
theorem d_L_364 : decode code 364 = .ok (.iload 4, 2) := by decide +kernel
theorem d_L_366 : decode code 366 = .ok (.iconst 1, 1) := by decide +kernel
theorem d_L_367 : decode code 367 = .ok (.iadd, 1) := by decide +kernel
theorem d_L_368 : decode code 368 = .ok (.iaload, 1) := by decide +kernel
theorem d_L_369 : decode code 369 = .ok (.aload_n 0, 1) := by decide +kernel
theorem d_L_370 : decode code 370 = .ok (.iload 4, 2) := by decide +kernel
theorem d_L_372 : decode code 372 = .ok (.iconst 2, 1) := by decide +kernel
theorem d_L_373 : decode code 373 = .ok (.iadd, 1) := by decide +kernel
theorem d_L_374 : decode code 374 = .ok (.iaload, 1) := by decide +kernel
theorem d_L_375 : decode code 375 = .ok (.aload_n 0, 1) := by decide +kernel
theorem d_L_376 : decode code 376 = .ok (.iload 4, 2) := by decide +kernel
theorem d_L_378 : decode code 378 = .ok (.iconst 3, 1) := by decide +kernel
theorem d_L_379 : decode code 379 = .ok (.iadd, 1) := by decide +kernel
theorem d_L_380 : decode code 380 = .ok (.iaload, 1) := by decide +kernel
theorem d_L_381 : decode code 381 = .ok (.aload_n 0, 1) := by decide +kernel
theorem d_L_382 : decode code 382 = .ok (.iload 4, 2) := by decide +kernel
theorem d_L_384 : decode code 384 = .ok (.iconst 4, 1) := by decide +kernel
theorem d_L_385 : decode code 385 = .ok (.iadd, 1) := by decide +kernel
theorem d_L_386 : decode code 386 = .ok (.iaload, 1) := by decide +kernel
theorem d_L_387 : decode code 387 = .ok (.invokevirtual 72, 3) := by decide +kernel
theorem d_L_390 : decode code 390 = .ok (.istore 6, 2) := by decide +kernel
theorem d_L_392 : decode code 392 = .ok (.aload_n 2, 1) := by decide +kernel
theorem d_L_393 : decode code 393 = .ok (.invokevirtual 61, 3) := by decide +kernel
theorem d_L_396 : decode code 396 = .ok (.iload 5, 2) := by decide +kernel
theorem d_L_398 : decode code 398 = .ok (.if_icmp .eq 5, 3) := by decide +kernel
theorem d_L_401 : decode code 401 = .ok (.iconst 0, 1) := by decide +kernel
theorem d_L_402 : decode code 402 = .ok (.ireturn, 1) := by decide +kernel
theorem d_L_403 : decode code 403 = .ok (.iload 5, 2) := by decide +kernel
theorem d_L_405 : decode code 405 = .ok (.ifCond .ne 15, 3) := by decide +kernel
theorem d_L_408 : decode code 408 = .ok (.aload_n 3, 1) := by decide +kernel
theorem d_L_409 : decode code 409 = .ok (.iconst 0, 1) := by decide +kernel
theorem d_L_410 : decode code 410 = .ok (.laload, 1) := by decide +kernel
theorem d_L_411 : decode code 411 = .ok (.iload 6, 2) := by decide +kernel
theorem d_L_413 : decode code 413 = .ok (.i2l, 1) := by decide +kernel
theorem d_L_414 : decode code 414 = .ok (.lcmp, 1) := by decide +kernel
theorem d_L_415 : decode code 415 = .ok (.ifCond .eq 5, 3) := by decide +kernel
theorem d_L_418 : decode code 418 = .ok (.iconst 0, 1) := by decide +kernel
theorem d_L_419 : decode code 419 = .ok (.ireturn, 1) := by decide +kernel
theorem d_L_420 : decode code 420 = .ok (.goto 581, 3) := by decide +kernel
theorem d_L_423 : decode code 423 = .ok (.aload_n 1, 1) := by decide +kernel
theorem d_L_424 : decode code 424 = .ok (.aload_n 0, 1) := by decide +kernel
theorem d_L_425 : decode code 425 = .ok (.iload 4, 2) := by decide +kernel
theorem d_L_427 : decode code 427 = .ok (.iconst 1, 1) := by decide +kernel
theorem d_L_428 : decode code 428 = .ok (.iadd, 1) := by decide +kernel
theorem d_L_429 : decode code 429 = .ok (.iaload, 1) := by decide +kernel
theorem d_L_430 : decode code 430 = .ok (.aload_n 0, 1) := by decide +kernel
theorem d_L_431 : decode code 431 = .ok (.iload 4, 2) := by decide +kernel
theorem d_L_433 : decode code 433 = .ok (.iconst 2, 1) := by decide +kernel
theorem d_L_434 : decode code 434 = .ok (.iadd, 1) := by decide +kernel
theorem d_L_435 : decode code 435 = .ok (.iaload, 1) := by decide +kernel
theorem d_L_436 : decode code 436 = .ok (.aload_n 3, 1) := by decide +kernel
theorem d_L_437 : decode code 437 = .ok (.invokestatic 73, 3) := by decide +kernel
theorem d_L_440 : decode code 440 = .ok (.istore 5, 2) := by decide +kernel
theorem d_L_442 : decode code 442 = .ok (.aload_n 2, 1) := by decide +kernel
theorem d_L_443 : decode code 443 = .ok (.aload_n 0, 1) := by decide +kernel
theorem d_L_444 : decode code 444 = .ok (.iload 4, 2) := by decide +kernel
theorem d_L_446 : decode code 446 = .ok (.iconst 1, 1) := by decide +kernel
theorem d_L_447 : decode code 447 = .ok (.iadd, 1) := by decide +kernel
theorem d_L_448 : decode code 448 = .ok (.iaload, 1) := by decide +kernel
theorem d_L_449 : decode code 449 = .ok (.aload_n 0, 1) := by decide +kernel
theorem d_L_450 : decode code 450 = .ok (.iload 4, 2) := by decide +kernel
theorem d_L_452 : decode code 452 = .ok (.iconst 2, 1) := by decide +kernel
theorem d_L_453 : decode code 453 = .ok (.iadd, 1) := by decide +kernel
theorem d_L_454 : decode code 454 = .ok (.iaload, 1) := by decide +kernel
theorem d_L_455 : decode code 455 = .ok (.invokevirtual 76, 3) := by decide +kernel
theorem d_L_458 : decode code 458 = .ok (.istore 6, 2) := by decide +kernel
theorem d_L_460 : decode code 460 = .ok (.aload_n 2, 1) := by decide +kernel
theorem d_L_461 : decode code 461 = .ok (.invokevirtual 61, 3) := by decide +kernel
theorem d_L_464 : decode code 464 = .ok (.iload 5, 2) := by decide +kernel
theorem d_L_466 : decode code 466 = .ok (.if_icmp .eq 5, 3) := by decide +kernel
theorem d_L_469 : decode code 469 = .ok (.iconst 0, 1) := by decide +kernel
theorem d_L_470 : decode code 470 = .ok (.ireturn, 1) := by decide +kernel
theorem d_L_471 : decode code 471 = .ok (.iload 5, 2) := by decide +kernel
theorem d_L_473 : decode code 473 = .ok (.ifCond .ne 22, 3) := by decide +kernel
theorem d_L_476 : decode code 476 = .ok (.aload_n 3, 1) := by decide +kernel
theorem d_L_477 : decode code 477 = .ok (.iconst 0, 1) := by decide +kernel
theorem d_L_478 : decode code 478 = .ok (.laload, 1) := by decide +kernel
theorem d_L_479 : decode code 479 = .ok (.iload 6, 2) := by decide +kernel
theorem d_L_481 : decode code 481 = .ok (.ifCond .eq 7, 3) := by decide +kernel
theorem d_L_484 : decode code 484 = .ok (.lconst 1, 1) := by decide +kernel
theorem d_L_485 : decode code 485 = .ok (.goto 4, 3) := by decide +kernel
theorem d_L_488 : decode code 488 = .ok (.lconst 0, 1) := by decide +kernel
theorem d_L_489 : decode code 489 = .ok (.lcmp, 1) := by decide +kernel
theorem d_L_490 : decode code 490 = .ok (.ifCond .eq 5, 3) := by decide +kernel
theorem d_L_493 : decode code 493 = .ok (.iconst 0, 1) := by decide +kernel
theorem d_L_494 : decode code 494 = .ok (.ireturn, 1) := by decide +kernel
theorem d_L_495 : decode code 495 = .ok (.goto 506, 3) := by decide +kernel
theorem d_L_498 : decode code 498 = .ok (.aload_n 1, 1) := by decide +kernel
theorem d_L_499 : decode code 499 = .ok (.aload_n 0, 1) := by decide +kernel
theorem d_L_500 : decode code 500 = .ok (.iload 4, 2) := by decide +kernel
theorem d_L_502 : decode code 502 = .ok (.iconst 1, 1) := by decide +kernel
theorem d_L_503 : decode code 503 = .ok (.iadd, 1) := by decide +kernel
theorem d_L_504 : decode code 504 = .ok (.iaload, 1) := by decide +kernel
theorem d_L_505 : decode code 505 = .ok (.aload_n 0, 1) := by decide +kernel
theorem d_L_506 : decode code 506 = .ok (.iload 4, 2) := by decide +kernel
theorem d_L_508 : decode code 508 = .ok (.iconst 2, 1) := by decide +kernel
theorem d_L_509 : decode code 509 = .ok (.iadd, 1) := by decide +kernel
theorem d_L_510 : decode code 510 = .ok (.iaload, 1) := by decide +kernel
theorem d_L_511 : decode code 511 = .ok (.aload_n 3, 1) := by decide +kernel
theorem d_L_512 : decode code 512 = .ok (.invokestatic 77, 3) := by decide +kernel
theorem d_L_515 : decode code 515 = .ok (.istore 5, 2) := by decide +kernel
theorem d_L_517 : decode code 517 = .ok (.aload_n 2, 1) := by decide +kernel
theorem d_L_518 : decode code 518 = .ok (.aload_n 0, 1) := by decide +kernel
theorem d_L_519 : decode code 519 = .ok (.iload 4, 2) := by decide +kernel
theorem d_L_521 : decode code 521 = .ok (.iconst 1, 1) := by decide +kernel
theorem d_L_522 : decode code 522 = .ok (.iadd, 1) := by decide +kernel
theorem d_L_523 : decode code 523 = .ok (.iaload, 1) := by decide +kernel
theorem d_L_524 : decode code 524 = .ok (.aload_n 0, 1) := by decide +kernel
theorem d_L_525 : decode code 525 = .ok (.iload 4, 2) := by decide +kernel
theorem d_L_527 : decode code 527 = .ok (.iconst 2, 1) := by decide +kernel
theorem d_L_528 : decode code 528 = .ok (.iadd, 1) := by decide +kernel
theorem d_L_529 : decode code 529 = .ok (.iaload, 1) := by decide +kernel
theorem d_L_530 : decode code 530 = .ok (.invokevirtual 79, 3) := by decide +kernel
theorem d_L_533 : decode code 533 = .ok (.istore 6, 2) := by decide +kernel
theorem d_L_535 : decode code 535 = .ok (.aload_n 2, 1) := by decide +kernel
theorem d_L_536 : decode code 536 = .ok (.invokevirtual 61, 3) := by decide +kernel
theorem d_L_539 : decode code 539 = .ok (.iload 5, 2) := by decide +kernel
theorem d_L_541 : decode code 541 = .ok (.if_icmp .eq 5, 3) := by decide +kernel
theorem d_L_544 : decode code 544 = .ok (.iconst 0, 1) := by decide +kernel
theorem d_L_545 : decode code 545 = .ok (.ireturn, 1) := by decide +kernel
theorem d_L_546 : decode code 546 = .ok (.iload 5, 2) := by decide +kernel
theorem d_L_548 : decode code 548 = .ok (.ifCond .ne 15, 3) := by decide +kernel
theorem d_L_551 : decode code 551 = .ok (.aload_n 3, 1) := by decide +kernel
theorem d_L_552 : decode code 552 = .ok (.iconst 0, 1) := by decide +kernel
theorem d_L_553 : decode code 553 = .ok (.laload, 1) := by decide +kernel
theorem d_L_554 : decode code 554 = .ok (.iload 6, 2) := by decide +kernel
theorem d_L_556 : decode code 556 = .ok (.i2l, 1) := by decide +kernel
theorem d_L_557 : decode code 557 = .ok (.lcmp, 1) := by decide +kernel
theorem d_L_558 : decode code 558 = .ok (.ifCond .eq 5, 3) := by decide +kernel
theorem d_L_561 : decode code 561 = .ok (.iconst 0, 1) := by decide +kernel
theorem d_L_562 : decode code 562 = .ok (.ireturn, 1) := by decide +kernel
theorem d_L_563 : decode code 563 = .ok (.goto 438, 3) := by decide +kernel
theorem d_L_566 : decode code 566 = .ok (.aload_n 1, 1) := by decide +kernel
theorem d_L_567 : decode code 567 = .ok (.aload_n 0, 1) := by decide +kernel
theorem d_L_568 : decode code 568 = .ok (.iload 4, 2) := by decide +kernel
theorem d_L_570 : decode code 570 = .ok (.iconst 1, 1) := by decide +kernel
theorem d_L_571 : decode code 571 = .ok (.iadd, 1) := by decide +kernel
theorem d_L_572 : decode code 572 = .ok (.iaload, 1) := by decide +kernel
theorem d_L_573 : decode code 573 = .ok (.invokevirtual 80, 3) := by decide +kernel
theorem d_L_576 : decode code 576 = .ok (.aload_n 2, 1) := by decide +kernel
theorem d_L_577 : decode code 577 = .ok (.aload_n 0, 1) := by decide +kernel
theorem d_L_578 : decode code 578 = .ok (.iload 4, 2) := by decide +kernel
theorem d_L_580 : decode code 580 = .ok (.iconst 1, 1) := by decide +kernel
theorem d_L_581 : decode code 581 = .ok (.iadd, 1) := by decide +kernel
theorem d_L_582 : decode code 582 = .ok (.iaload, 1) := by decide +kernel
theorem d_L_583 : decode code 583 = .ok (.invokevirtual 83, 3) := by decide +kernel
theorem d_L_586 : decode code 586 = .ok (.if_icmp .eq 415, 3) := by decide +kernel
theorem d_L_589 : decode code 589 = .ok (.iconst 0, 1) := by decide +kernel
theorem d_L_590 : decode code 590 = .ok (.ireturn, 1) := by decide +kernel
theorem d_L_591 : decode code 591 = .ok (.aload_n 1, 1) := by decide +kernel
theorem d_L_592 : decode code 592 = .ok (.aload_n 0, 1) := by decide +kernel
theorem d_L_593 : decode code 593 = .ok (.iload 4, 2) := by decide +kernel
theorem d_L_595 : decode code 595 = .ok (.iconst 1, 1) := by decide +kernel
theorem d_L_596 : decode code 596 = .ok (.iadd, 1) := by decide +kernel
theorem d_L_597 : decode code 597 = .ok (.iaload, 1) := by decide +kernel
theorem d_L_598 : decode code 598 = .ok (.aload_n 0, 1) := by decide +kernel
theorem d_L_599 : decode code 599 = .ok (.iload 4, 2) := by decide +kernel
theorem d_L_601 : decode code 601 = .ok (.iconst 2, 1) := by decide +kernel
theorem d_L_602 : decode code 602 = .ok (.iadd, 1) := by decide +kernel
theorem d_L_603 : decode code 603 = .ok (.iaload, 1) := by decide +kernel
theorem d_L_604 : decode code 604 = .ok (.aload_n 0, 1) := by decide +kernel
theorem d_L_605 : decode code 605 = .ok (.iload 4, 2) := by decide +kernel
theorem d_L_607 : decode code 607 = .ok (.iconst 3, 1) := by decide +kernel
theorem d_L_608 : decode code 608 = .ok (.iadd, 1) := by decide +kernel
theorem d_L_609 : decode code 609 = .ok (.iaload, 1) := by decide +kernel
theorem d_L_610 : decode code 610 = .ok (.invokevirtual 84, 3) := by decide +kernel
theorem d_L_613 : decode code 613 = .ok (.aload_n 2, 1) := by decide +kernel
theorem d_L_614 : decode code 614 = .ok (.aload_n 0, 1) := by decide +kernel
theorem d_L_615 : decode code 615 = .ok (.iload 4, 2) := by decide +kernel
theorem d_L_617 : decode code 617 = .ok (.iconst 1, 1) := by decide +kernel
theorem d_L_618 : decode code 618 = .ok (.iadd, 1) := by decide +kernel
theorem d_L_619 : decode code 619 = .ok (.iaload, 1) := by decide +kernel
theorem d_L_620 : decode code 620 = .ok (.aload_n 0, 1) := by decide +kernel
theorem d_L_621 : decode code 621 = .ok (.iload 4, 2) := by decide +kernel
theorem d_L_623 : decode code 623 = .ok (.iconst 2, 1) := by decide +kernel
theorem d_L_624 : decode code 624 = .ok (.iadd, 1) := by decide +kernel
theorem d_L_625 : decode code 625 = .ok (.iaload, 1) := by decide +kernel
theorem d_L_626 : decode code 626 = .ok (.aload_n 0, 1) := by decide +kernel
theorem d_L_627 : decode code 627 = .ok (.iload 4, 2) := by decide +kernel
theorem d_L_629 : decode code 629 = .ok (.iconst 3, 1) := by decide +kernel
theorem d_L_630 : decode code 630 = .ok (.iadd, 1) := by decide +kernel
theorem d_L_631 : decode code 631 = .ok (.iaload, 1) := by decide +kernel
theorem d_L_632 : decode code 632 = .ok (.invokevirtual 87, 3) := by decide +kernel
theorem d_L_635 : decode code 635 = .ok (.if_icmp .eq 366, 3) := by decide +kernel
theorem d_L_638 : decode code 638 = .ok (.iconst 0, 1) := by decide +kernel
theorem d_L_639 : decode code 639 = .ok (.ireturn, 1) := by decide +kernel
theorem d_L_640 : decode code 640 = .ok (.aload_n 1, 1) := by decide +kernel
theorem d_L_641 : decode code 641 = .ok (.aload_n 0, 1) := by decide +kernel
theorem d_L_642 : decode code 642 = .ok (.iload 4, 2) := by decide +kernel
theorem d_L_644 : decode code 644 = .ok (.iconst 1, 1) := by decide +kernel
theorem d_L_645 : decode code 645 = .ok (.iadd, 1) := by decide +kernel
theorem d_L_646 : decode code 646 = .ok (.iaload, 1) := by decide +kernel
theorem d_L_647 : decode code 647 = .ok (.aload_n 0, 1) := by decide +kernel
theorem d_L_648 : decode code 648 = .ok (.iload 4, 2) := by decide +kernel
theorem d_L_650 : decode code 650 = .ok (.iconst 2, 1) := by decide +kernel
theorem d_L_651 : decode code 651 = .ok (.iadd, 1) := by decide +kernel
theorem d_L_652 : decode code 652 = .ok (.iaload, 1) := by decide +kernel
theorem d_L_653 : decode code 653 = .ok (.aload_n 3, 1) := by decide +kernel
theorem d_L_654 : decode code 654 = .ok (.invokestatic 88, 3) := by decide +kernel
theorem d_L_657 : decode code 657 = .ok (.istore 5, 2) := by decide +kernel
theorem d_L_659 : decode code 659 = .ok (.aload_n 2, 1) := by decide +kernel
theorem d_L_660 : decode code 660 = .ok (.aload_n 0, 1) := by decide +kernel
theorem d_L_661 : decode code 661 = .ok (.iload 4, 2) := by decide +kernel
theorem d_L_663 : decode code 663 = .ok (.iconst 1, 1) := by decide +kernel
theorem d_L_664 : decode code 664 = .ok (.iadd, 1) := by decide +kernel
theorem d_L_665 : decode code 665 = .ok (.iaload, 1) := by decide +kernel
theorem d_L_666 : decode code 666 = .ok (.aload_n 0, 1) := by decide +kernel
theorem d_L_667 : decode code 667 = .ok (.iload 4, 2) := by decide +kernel
theorem d_L_669 : decode code 669 = .ok (.iconst 2, 1) := by decide +kernel
theorem d_L_670 : decode code 670 = .ok (.iadd, 1) := by decide +kernel
theorem d_L_671 : decode code 671 = .ok (.iaload, 1) := by decide +kernel
theorem d_L_672 : decode code 672 = .ok (.invokevirtual 90, 3) := by decide +kernel
theorem d_L_675 : decode code 675 = .ok (.istore 6, 2) := by decide +kernel
theorem d_L_677 : decode code 677 = .ok (.aload_n 2, 1) := by decide +kernel
theorem d_L_678 : decode code 678 = .ok (.invokevirtual 61, 3) := by decide +kernel
theorem d_L_681 : decode code 681 = .ok (.iload 5, 2) := by decide +kernel
theorem d_L_683 : decode code 683 = .ok (.if_icmp .eq 5, 3) := by decide +kernel
theorem d_L_686 : decode code 686 = .ok (.iconst 0, 1) := by decide +kernel
theorem d_L_687 : decode code 687 = .ok (.ireturn, 1) := by decide +kernel
theorem d_L_688 : decode code 688 = .ok (.iload 5, 2) := by decide +kernel
theorem d_L_690 : decode code 690 = .ok (.ifCond .ne 15, 3) := by decide +kernel
theorem d_L_693 : decode code 693 = .ok (.aload_n 3, 1) := by decide +kernel
theorem d_L_694 : decode code 694 = .ok (.iconst 0, 1) := by decide +kernel
theorem d_L_695 : decode code 695 = .ok (.laload, 1) := by decide +kernel
theorem d_L_696 : decode code 696 = .ok (.iload 6, 2) := by decide +kernel
theorem d_L_698 : decode code 698 = .ok (.i2l, 1) := by decide +kernel
theorem d_L_699 : decode code 699 = .ok (.lcmp, 1) := by decide +kernel
theorem d_L_700 : decode code 700 = .ok (.ifCond .eq 5, 3) := by decide +kernel
theorem d_L_703 : decode code 703 = .ok (.iconst 0, 1) := by decide +kernel
theorem d_L_704 : decode code 704 = .ok (.ireturn, 1) := by decide +kernel
theorem d_L_705 : decode code 705 = .ok (.goto 296, 3) := by decide +kernel
theorem d_L_708 : decode code 708 = .ok (.aload_n 1, 1) := by decide +kernel
theorem d_L_709 : decode code 709 = .ok (.aload_n 0, 1) := by decide +kernel
theorem d_L_710 : decode code 710 = .ok (.iload 4, 2) := by decide +kernel
theorem d_L_712 : decode code 712 = .ok (.iconst 1, 1) := by decide +kernel
theorem d_L_713 : decode code 713 = .ok (.iadd, 1) := by decide +kernel
theorem d_L_714 : decode code 714 = .ok (.iaload, 1) := by decide +kernel
theorem d_L_715 : decode code 715 = .ok (.aload_n 0, 1) := by decide +kernel
theorem d_L_716 : decode code 716 = .ok (.iload 4, 2) := by decide +kernel
theorem d_L_718 : decode code 718 = .ok (.iconst 2, 1) := by decide +kernel
theorem d_L_719 : decode code 719 = .ok (.iadd, 1) := by decide +kernel
theorem d_L_720 : decode code 720 = .ok (.iaload, 1) := by decide +kernel
theorem d_L_721 : decode code 721 = .ok (.aload_n 0, 1) := by decide +kernel
theorem d_L_722 : decode code 722 = .ok (.iload 4, 2) := by decide +kernel
theorem d_L_724 : decode code 724 = .ok (.iconst 3, 1) := by decide +kernel
theorem d_L_725 : decode code 725 = .ok (.iadd, 1) := by decide +kernel
theorem d_L_726 : decode code 726 = .ok (.iaload, 1) := by decide +kernel
theorem d_L_727 : decode code 727 = .ok (.aload_n 0, 1) := by decide +kernel
theorem d_L_728 : decode code 728 = .ok (.iload 4, 2) := by decide +kernel
theorem d_L_730 : decode code 730 = .ok (.iconst 4, 1) := by decide +kernel
theorem d_L_731 : decode code 731 = .ok (.iadd, 1) := by decide +kernel
theorem d_L_732 : decode code 732 = .ok (.iaload, 1) := by decide +kernel
theorem d_L_733 : decode code 733 = .ok (.aload_n 0, 1) := by decide +kernel
theorem d_L_734 : decode code 734 = .ok (.iload 4, 2) := by decide +kernel
theorem d_L_736 : decode code 736 = .ok (.iconst 5, 1) := by decide +kernel
theorem d_L_737 : decode code 737 = .ok (.iadd, 1) := by decide +kernel
theorem d_L_738 : decode code 738 = .ok (.iaload, 1) := by decide +kernel
theorem d_L_739 : decode code 739 = .ok (.aload_n 3, 1) := by decide +kernel
theorem d_L_740 : decode code 740 = .ok (.invokestatic 91, 3) := by decide +kernel
theorem d_L_743 : decode code 743 = .ok (.istore 5, 2) := by decide +kernel
theorem d_L_745 : decode code 745 = .ok (.aload_n 2, 1) := by decide +kernel
theorem d_L_746 : decode code 746 = .ok (.aload_n 0, 1) := by decide +kernel
theorem d_L_747 : decode code 747 = .ok (.iload 4, 2) := by decide +kernel
theorem d_L_749 : decode code 749 = .ok (.iconst 1, 1) := by decide +kernel
theorem d_L_750 : decode code 750 = .ok (.iadd, 1) := by decide +kernel
theorem d_L_751 : decode code 751 = .ok (.iaload, 1) := by decide +kernel
theorem d_L_752 : decode code 752 = .ok (.aload_n 0, 1) := by decide +kernel
theorem d_L_753 : decode code 753 = .ok (.iload 4, 2) := by decide +kernel
theorem d_L_755 : decode code 755 = .ok (.iconst 2, 1) := by decide +kernel
theorem d_L_756 : decode code 756 = .ok (.iadd, 1) := by decide +kernel
theorem d_L_757 : decode code 757 = .ok (.iaload, 1) := by decide +kernel
theorem d_L_758 : decode code 758 = .ok (.aload_n 0, 1) := by decide +kernel
theorem d_L_759 : decode code 759 = .ok (.iload 4, 2) := by decide +kernel
theorem d_L_761 : decode code 761 = .ok (.iconst 3, 1) := by decide +kernel
theorem d_L_762 : decode code 762 = .ok (.iadd, 1) := by decide +kernel
theorem d_L_763 : decode code 763 = .ok (.iaload, 1) := by decide +kernel
theorem d_L_764 : decode code 764 = .ok (.aload_n 0, 1) := by decide +kernel
theorem d_L_765 : decode code 765 = .ok (.iload 4, 2) := by decide +kernel
theorem d_L_767 : decode code 767 = .ok (.iconst 4, 1) := by decide +kernel
theorem d_L_768 : decode code 768 = .ok (.iadd, 1) := by decide +kernel
theorem d_L_769 : decode code 769 = .ok (.iaload, 1) := by decide +kernel
theorem d_L_770 : decode code 770 = .ok (.aload_n 0, 1) := by decide +kernel
theorem d_L_771 : decode code 771 = .ok (.iload 4, 2) := by decide +kernel
theorem d_L_773 : decode code 773 = .ok (.iconst 5, 1) := by decide +kernel
theorem d_L_774 : decode code 774 = .ok (.iadd, 1) := by decide +kernel
theorem d_L_775 : decode code 775 = .ok (.iaload, 1) := by decide +kernel
theorem d_L_776 : decode code 776 = .ok (.invokevirtual 94, 3) := by decide +kernel
theorem d_L_779 : decode code 779 = .ok (.istore 6, 2) := by decide +kernel
theorem d_L_781 : decode code 781 = .ok (.aload_n 2, 1) := by decide +kernel
theorem d_L_782 : decode code 782 = .ok (.invokevirtual 61, 3) := by decide +kernel
theorem d_L_785 : decode code 785 = .ok (.iload 5, 2) := by decide +kernel
theorem d_L_787 : decode code 787 = .ok (.if_icmp .eq 5, 3) := by decide +kernel
theorem d_L_790 : decode code 790 = .ok (.iconst 0, 1) := by decide +kernel
theorem d_L_791 : decode code 791 = .ok (.ireturn, 1) := by decide +kernel
theorem d_L_792 : decode code 792 = .ok (.iload 5, 2) := by decide +kernel
theorem d_L_794 : decode code 794 = .ok (.ifCond .ne 15, 3) := by decide +kernel
theorem d_L_797 : decode code 797 = .ok (.aload_n 3, 1) := by decide +kernel
theorem d_L_798 : decode code 798 = .ok (.iconst 0, 1) := by decide +kernel
theorem d_L_799 : decode code 799 = .ok (.laload, 1) := by decide +kernel
theorem d_L_800 : decode code 800 = .ok (.iload 6, 2) := by decide +kernel
theorem d_L_802 : decode code 802 = .ok (.i2l, 1) := by decide +kernel
theorem d_L_803 : decode code 803 = .ok (.lcmp, 1) := by decide +kernel
theorem d_L_804 : decode code 804 = .ok (.ifCond .eq 5, 3) := by decide +kernel
theorem d_L_807 : decode code 807 = .ok (.iconst 0, 1) := by decide +kernel
theorem d_L_808 : decode code 808 = .ok (.ireturn, 1) := by decide +kernel
theorem d_L_809 : decode code 809 = .ok (.goto 192, 3) := by decide +kernel
theorem d_L_812 : decode code 812 = .ok (.aload_n 1, 1) := by decide +kernel
theorem d_L_813 : decode code 813 = .ok (.aload_n 0, 1) := by decide +kernel
theorem d_L_814 : decode code 814 = .ok (.iload 4, 2) := by decide +kernel
theorem d_L_816 : decode code 816 = .ok (.iconst 1, 1) := by decide +kernel
theorem d_L_817 : decode code 817 = .ok (.iadd, 1) := by decide +kernel
theorem d_L_818 : decode code 818 = .ok (.iaload, 1) := by decide +kernel
theorem d_L_819 : decode code 819 = .ok (.aload_n 0, 1) := by decide +kernel
theorem d_L_820 : decode code 820 = .ok (.iload 4, 2) := by decide +kernel
theorem d_L_822 : decode code 822 = .ok (.iconst 2, 1) := by decide +kernel
theorem d_L_823 : decode code 823 = .ok (.iadd, 1) := by decide +kernel
theorem d_L_824 : decode code 824 = .ok (.iaload, 1) := by decide +kernel
theorem d_L_825 : decode code 825 = .ok (.aload_n 3, 1) := by decide +kernel
theorem d_L_826 : decode code 826 = .ok (.invokestatic 95, 3) := by decide +kernel
theorem d_L_829 : decode code 829 = .ok (.istore 5, 2) := by decide +kernel
theorem d_L_831 : decode code 831 = .ok (.aload_n 2, 1) := by decide +kernel
theorem d_L_832 : decode code 832 = .ok (.aload_n 0, 1) := by decide +kernel
theorem d_L_833 : decode code 833 = .ok (.iload 4, 2) := by decide +kernel
theorem d_L_835 : decode code 835 = .ok (.iconst 1, 1) := by decide +kernel
theorem d_L_836 : decode code 836 = .ok (.iadd, 1) := by decide +kernel
theorem d_L_837 : decode code 837 = .ok (.iaload, 1) := by decide +kernel
theorem d_L_838 : decode code 838 = .ok (.aload_n 0, 1) := by decide +kernel
theorem d_L_839 : decode code 839 = .ok (.iload 4, 2) := by decide +kernel
theorem d_L_841 : decode code 841 = .ok (.iconst 2, 1) := by decide +kernel
theorem d_L_842 : decode code 842 = .ok (.iadd, 1) := by decide +kernel
theorem d_L_843 : decode code 843 = .ok (.iaload, 1) := by decide +kernel
theorem d_L_844 : decode code 844 = .ok (.invokevirtual 97, 3) := by decide +kernel
theorem d_L_847 : decode code 847 = .ok (.istore 6, 2) := by decide +kernel
theorem d_L_849 : decode code 849 = .ok (.aload_n 2, 1) := by decide +kernel
theorem d_L_850 : decode code 850 = .ok (.invokevirtual 61, 3) := by decide +kernel
theorem d_L_853 : decode code 853 = .ok (.iload 5, 2) := by decide +kernel
theorem d_L_855 : decode code 855 = .ok (.if_icmp .eq 5, 3) := by decide +kernel
theorem d_L_858 : decode code 858 = .ok (.iconst 0, 1) := by decide +kernel
theorem d_L_859 : decode code 859 = .ok (.ireturn, 1) := by decide +kernel
theorem d_L_860 : decode code 860 = .ok (.iload 5, 2) := by decide +kernel
theorem d_L_862 : decode code 862 = .ok (.ifCond .ne 15, 3) := by decide +kernel
theorem d_L_865 : decode code 865 = .ok (.aload_n 3, 1) := by decide +kernel
theorem d_L_866 : decode code 866 = .ok (.iconst 0, 1) := by decide +kernel
theorem d_L_867 : decode code 867 = .ok (.laload, 1) := by decide +kernel
theorem d_L_868 : decode code 868 = .ok (.iload 6, 2) := by decide +kernel
theorem d_L_870 : decode code 870 = .ok (.i2l, 1) := by decide +kernel
theorem d_L_871 : decode code 871 = .ok (.lcmp, 1) := by decide +kernel
theorem d_L_872 : decode code 872 = .ok (.ifCond .eq 5, 3) := by decide +kernel
theorem d_L_875 : decode code 875 = .ok (.iconst 0, 1) := by decide +kernel
theorem d_L_876 : decode code 876 = .ok (.ireturn, 1) := by decide +kernel
theorem d_L_877 : decode code 877 = .ok (.goto 124, 3) := by decide +kernel
theorem d_L_880 : decode code 880 = .ok (.aload_n 1, 1) := by decide +kernel
theorem d_L_881 : decode code 881 = .ok (.aload_n 0, 1) := by decide +kernel
theorem d_L_882 : decode code 882 = .ok (.iload 4, 2) := by decide +kernel
theorem d_L_884 : decode code 884 = .ok (.iconst 1, 1) := by decide +kernel
theorem d_L_885 : decode code 885 = .ok (.iadd, 1) := by decide +kernel
theorem d_L_886 : decode code 886 = .ok (.iaload, 1) := by decide +kernel
theorem d_L_887 : decode code 887 = .ok (.i2c, 1) := by decide +kernel
theorem d_L_888 : decode code 888 = .ok (.invokevirtual 98, 3) := by decide +kernel
theorem d_L_891 : decode code 891 = .ok (.aload_n 2, 1) := by decide +kernel
theorem d_L_892 : decode code 892 = .ok (.aload_n 0, 1) := by decide +kernel
theorem d_L_893 : decode code 893 = .ok (.iload 4, 2) := by decide +kernel
theorem d_L_895 : decode code 895 = .ok (.iconst 1, 1) := by decide +kernel
theorem d_L_896 : decode code 896 = .ok (.iadd, 1) := by decide +kernel
theorem d_L_897 : decode code 897 = .ok (.iaload, 1) := by decide +kernel
theorem d_L_898 : decode code 898 = .ok (.i2c, 1) := by decide +kernel
theorem d_L_899 : decode code 899 = .ok (.invokevirtual 102, 3) := by decide +kernel
theorem d_L_902 : decode code 902 = .ok (.if_icmp .eq 99, 3) := by decide +kernel
theorem d_L_905 : decode code 905 = .ok (.iconst 0, 1) := by decide +kernel
theorem d_L_906 : decode code 906 = .ok (.ireturn, 1) := by decide +kernel
theorem d_L_907 : decode code 907 = .ok (.aload_n 1, 1) := by decide +kernel
theorem d_L_908 : decode code 908 = .ok (.invokevirtual 103, 3) := by decide +kernel
theorem d_L_911 : decode code 911 = .ok (.aload_n 2, 1) := by decide +kernel
theorem d_L_912 : decode code 912 = .ok (.invokevirtual 106, 3) := by decide +kernel
theorem d_L_915 : decode code 915 = .ok (.if_icmp .eq 86, 3) := by decide +kernel
theorem d_L_918 : decode code 918 = .ok (.iconst 0, 1) := by decide +kernel
theorem d_L_919 : decode code 919 = .ok (.ireturn, 1) := by decide +kernel
theorem d_L_920 : decode code 920 = .ok (.aload_n 1, 1) := by decide +kernel
theorem d_L_921 : decode code 921 = .ok (.aload_n 0, 1) := by decide +kernel
theorem d_L_922 : decode code 922 = .ok (.iload 4, 2) := by decide +kernel
theorem d_L_924 : decode code 924 = .ok (.iconst 1, 1) := by decide +kernel
theorem d_L_925 : decode code 925 = .ok (.iadd, 1) := by decide +kernel
theorem d_L_926 : decode code 926 = .ok (.iaload, 1) := by decide +kernel
theorem d_L_927 : decode code 927 = .ok (.invokevirtual 107, 3) := by decide +kernel
theorem d_L_930 : decode code 930 = .ok (.aload_n 2, 1) := by decide +kernel
theorem d_L_931 : decode code 931 = .ok (.aload_n 0, 1) := by decide +kernel
theorem d_L_932 : decode code 932 = .ok (.iload 4, 2) := by decide +kernel
theorem d_L_934 : decode code 934 = .ok (.iconst 1, 1) := by decide +kernel
theorem d_L_935 : decode code 935 = .ok (.iadd, 1) := by decide +kernel
theorem d_L_936 : decode code 936 = .ok (.iaload, 1) := by decide +kernel
theorem d_L_937 : decode code 937 = .ok (.invokevirtual 111, 3) := by decide +kernel
theorem d_L_940 : decode code 940 = .ok (.if_icmp .eq 61, 3) := by decide +kernel
theorem d_L_943 : decode code 943 = .ok (.iconst 0, 1) := by decide +kernel
theorem d_L_944 : decode code 944 = .ok (.ireturn, 1) := by decide +kernel
theorem d_L_945 : decode code 945 = .ok (.aload_n 1, 1) := by decide +kernel
theorem d_L_946 : decode code 946 = .ok (.aload_n 0, 1) := by decide +kernel
theorem d_L_947 : decode code 947 = .ok (.iload 4, 2) := by decide +kernel
theorem d_L_949 : decode code 949 = .ok (.iconst 1, 1) := by decide +kernel
theorem d_L_950 : decode code 950 = .ok (.iadd, 1) := by decide +kernel
theorem d_L_951 : decode code 951 = .ok (.iaload, 1) := by decide +kernel
theorem d_L_952 : decode code 952 = .ok (.aload_n 3, 1) := by decide +kernel
theorem d_L_953 : decode code 953 = .ok (.invokestatic 112, 3) := by decide +kernel
theorem d_L_956 : decode code 956 = .ok (.istore 5, 2) := by decide +kernel
theorem d_L_958 : decode code 958 = .ok (.aload_n 2, 1) := by decide +kernel
theorem d_L_959 : decode code 959 = .ok (.aload_n 0, 1) := by decide +kernel
theorem d_L_960 : decode code 960 = .ok (.iload 4, 2) := by decide +kernel
theorem d_L_962 : decode code 962 = .ok (.iconst 1, 1) := by decide +kernel
theorem d_L_963 : decode code 963 = .ok (.iadd, 1) := by decide +kernel
theorem d_L_964 : decode code 964 = .ok (.iaload, 1) := by decide +kernel
theorem d_L_965 : decode code 965 = .ok (.invokevirtual 115, 3) := by decide +kernel
theorem d_L_968 : decode code 968 = .ok (.istore 6, 2) := by decide +kernel
theorem d_L_970 : decode code 970 = .ok (.aload_n 2, 1) := by decide +kernel
theorem d_L_971 : decode code 971 = .ok (.invokevirtual 61, 3) := by decide +kernel
theorem d_L_974 : decode code 974 = .ok (.iload 5, 2) := by decide +kernel
theorem d_L_976 : decode code 976 = .ok (.if_icmp .eq 5, 3) := by decide +kernel
theorem d_L_979 : decode code 979 = .ok (.iconst 0, 1) := by decide +kernel
theorem d_L_980 : decode code 980 = .ok (.ireturn, 1) := by decide +kernel
theorem d_L_981 : decode code 981 = .ok (.iload 5, 2) := by decide +kernel
theorem d_L_983 : decode code 983 = .ok (.ifCond .ne 15, 3) := by decide +kernel
theorem d_L_986 : decode code 986 = .ok (.aload_n 3, 1) := by decide +kernel
theorem d_L_987 : decode code 987 = .ok (.iconst 0, 1) := by decide +kernel
theorem d_L_988 : decode code 988 = .ok (.laload, 1) := by decide +kernel
theorem d_L_989 : decode code 989 = .ok (.iload 6, 2) := by decide +kernel
theorem d_L_991 : decode code 991 = .ok (.i2l, 1) := by decide +kernel
theorem d_L_992 : decode code 992 = .ok (.lcmp, 1) := by decide +kernel
theorem d_L_993 : decode code 993 = .ok (.ifCond .eq 5, 3) := by decide +kernel
theorem d_L_996 : decode code 996 = .ok (.iconst 0, 1) := by decide +kernel
theorem d_L_997 : decode code 997 = .ok (.ireturn, 1) := by decide +kernel
theorem d_L_998 : decode code 998 = .ok (.goto 3, 3) := by decide +kernel
theorem d_L_1001 : decode code 1001 = .ok (.iinc 4 8, 3) := by decide +kernel
theorem d_L_1004 : decode code 1004 = .ok (.goto (-981), 3) := by decide +kernel
theorem d_L_1007 : decode code 1007 = .ok (.iconst 1, 1) := by decide +kernel
theorem d_L_1008 : decode code 1008 = .ok (.ireturn, 1) := by decide +kernel
