abbrev y_Law_law : MethodName := ⟨"KateDeskLaw", "law", "([I)Z"⟩
theorem hd_Law_law : y_Law_law.cls ≠ "java/lang/invoke/MethodHandle" ∧ y_Law_law.cls ≠ "java/lang/invoke/VarHandle" ∧ (parseMethodDescriptor y_Law_law.desc).map (fun d => d.parameters.length) = some 1 := by decide +kernel
theorem d_Law_law_0 : decode code 0 = .ok (.new 8, 3) := by decide +kernel
theorem d_Law_law_3 : decode code 3 = .ok (.dup, 1) := by decide +kernel
theorem d_Law_law_4 : decode code 4 = .ok (.invokespecial 94, 3) := by decide +kernel
theorem d_Law_law_7 : decode code 7 = .ok (.astore_n 1, 1) := by decide +kernel
theorem d_Law_law_8 : decode code 8 = .ok (.new 95, 3) := by decide +kernel
theorem d_Law_law_11 : decode code 11 = .ok (.dup, 1) := by decide +kernel
theorem d_Law_law_12 : decode code 12 = .ok (.invokespecial 97, 3) := by decide +kernel
theorem d_Law_law_15 : decode code 15 = .ok (.astore_n 2, 1) := by decide +kernel
theorem d_Law_law_16 : decode code 16 = .ok (.iconst 1, 1) := by decide +kernel
theorem d_Law_law_17 : decode code 17 = .ok (.newarray .long, 2) := by decide +kernel
theorem d_Law_law_19 : decode code 19 = .ok (.astore_n 3, 1) := by decide +kernel
theorem d_Law_law_20 : decode code 20 = .ok (.iconst 0, 1) := by decide +kernel
theorem d_Law_law_21 : decode code 21 = .ok (.istore 4, 2) := by decide +kernel
theorem d_Law_law_23 : decode code 23 = .ok (.iload 4, 2) := by decide +kernel
theorem d_Law_law_25 : decode code 25 = .ok (.aload_n 0, 1) := by decide +kernel
theorem d_Law_law_26 : decode code 26 = .ok (.arraylength, 1) := by decide +kernel
theorem d_Law_law_27 : decode code 27 = .ok (.bipush 6, 2) := by decide +kernel
theorem d_Law_law_29 : decode code 29 = .ok (.isub, 1) := by decide +kernel
theorem d_Law_law_30 : decode code 30 = .ok (.if_icmp .gt 1587, 3) := by decide +kernel
theorem d_Law_law_33 : decode code 33 = .ok (.aload_n 0, 1) := by decide +kernel
theorem d_Law_law_34 : decode code 34 = .ok (.iload 4, 2) := by decide +kernel
theorem d_Law_law_36 : decode code 36 = .ok (.iaload, 1) := by decide +kernel
theorem d_Law_law_37 : decode code 37 = .ok (.bipush 31, 2) := by decide +kernel
theorem d_Law_law_39 : decode code 39 = .ok (.iand, 1) := by decide +kernel
theorem d_Law_law_140 : decode code 140 = .ok (.aload_n 1, 1) := by decide +kernel
theorem d_Law_law_141 : decode code 141 = .ok (.aload_n 0, 1) := by decide +kernel
theorem d_Law_law_142 : decode code 142 = .ok (.iload 4, 2) := by decide +kernel
theorem d_Law_law_144 : decode code 144 = .ok (.iconst 1, 1) := by decide +kernel
theorem d_Law_law_145 : decode code 145 = .ok (.iadd, 1) := by decide +kernel
theorem d_Law_law_146 : decode code 146 = .ok (.iaload, 1) := by decide +kernel
theorem d_Law_law_147 : decode code 147 = .ok (.aload_n 0, 1) := by decide +kernel
theorem d_Law_law_148 : decode code 148 = .ok (.iload 4, 2) := by decide +kernel
theorem d_Law_law_150 : decode code 150 = .ok (.iconst 2, 1) := by decide +kernel
theorem d_Law_law_151 : decode code 151 = .ok (.iadd, 1) := by decide +kernel
theorem d_Law_law_152 : decode code 152 = .ok (.iaload, 1) := by decide +kernel
theorem d_Law_law_153 : decode code 153 = .ok (.i2l, 1) := by decide +kernel
theorem d_Law_law_154 : decode code 154 = .ok (.bipush 32, 2) := by decide +kernel
theorem d_Law_law_156 : decode code 156 = .ok (.lshl, 1) := by decide +kernel
theorem d_Law_law_157 : decode code 157 = .ok (.aload_n 0, 1) := by decide +kernel
theorem d_Law_law_158 : decode code 158 = .ok (.iload 4, 2) := by decide +kernel
theorem d_Law_law_160 : decode code 160 = .ok (.iconst 3, 1) := by decide +kernel
theorem d_Law_law_161 : decode code 161 = .ok (.iadd, 1) := by decide +kernel
theorem d_Law_law_162 : decode code 162 = .ok (.iaload, 1) := by decide +kernel
theorem d_Law_law_163 : decode code 163 = .ok (.i2l, 1) := by decide +kernel
theorem d_Law_law_164 : decode code 164 = .ok (.ldc2_w 98, 3) := by decide +kernel
theorem d_Law_law_167 : decode code 167 = .ok (.land, 1) := by decide +kernel
theorem d_Law_law_168 : decode code 168 = .ok (.lor, 1) := by decide +kernel
theorem d_Law_law_169 : decode code 169 = .ok (.aload_n 3, 1) := by decide +kernel
theorem d_Law_law_170 : decode code 170 = .ok (.invokestatic 100, 3) := by decide +kernel
theorem d_Law_law_173 : decode code 173 = .ok (.istore 5, 2) := by decide +kernel
theorem d_Law_law_175 : decode code 175 = .ok (.aload_n 2, 1) := by decide +kernel
theorem d_Law_law_176 : decode code 176 = .ok (.aload_n 0, 1) := by decide +kernel
theorem d_Law_law_177 : decode code 177 = .ok (.iload 4, 2) := by decide +kernel
theorem d_Law_law_179 : decode code 179 = .ok (.iconst 1, 1) := by decide +kernel
theorem d_Law_law_180 : decode code 180 = .ok (.iadd, 1) := by decide +kernel
theorem d_Law_law_181 : decode code 181 = .ok (.iaload, 1) := by decide +kernel
theorem d_Law_law_182 : decode code 182 = .ok (.aload_n 0, 1) := by decide +kernel
theorem d_Law_law_183 : decode code 183 = .ok (.iload 4, 2) := by decide +kernel
theorem d_Law_law_185 : decode code 185 = .ok (.iconst 2, 1) := by decide +kernel
theorem d_Law_law_186 : decode code 186 = .ok (.iadd, 1) := by decide +kernel
theorem d_Law_law_187 : decode code 187 = .ok (.iaload, 1) := by decide +kernel
theorem d_Law_law_188 : decode code 188 = .ok (.i2l, 1) := by decide +kernel
theorem d_Law_law_189 : decode code 189 = .ok (.bipush 32, 2) := by decide +kernel
theorem d_Law_law_191 : decode code 191 = .ok (.lshl, 1) := by decide +kernel
theorem d_Law_law_192 : decode code 192 = .ok (.aload_n 0, 1) := by decide +kernel
theorem d_Law_law_193 : decode code 193 = .ok (.iload 4, 2) := by decide +kernel
theorem d_Law_law_195 : decode code 195 = .ok (.iconst 3, 1) := by decide +kernel
theorem d_Law_law_196 : decode code 196 = .ok (.iadd, 1) := by decide +kernel
theorem d_Law_law_197 : decode code 197 = .ok (.iaload, 1) := by decide +kernel
theorem d_Law_law_198 : decode code 198 = .ok (.i2l, 1) := by decide +kernel
theorem d_Law_law_199 : decode code 199 = .ok (.ldc2_w 98, 3) := by decide +kernel
theorem d_Law_law_202 : decode code 202 = .ok (.land, 1) := by decide +kernel
theorem d_Law_law_203 : decode code 203 = .ok (.lor, 1) := by decide +kernel
theorem d_Law_law_204 : decode code 204 = .ok (.invokevirtual 105, 3) := by decide +kernel
theorem d_Law_law_207 : decode code 207 = .ok (.istore 6, 2) := by decide +kernel
theorem d_Law_law_209 : decode code 209 = .ok (.aload_n 2, 1) := by decide +kernel
theorem d_Law_law_210 : decode code 210 = .ok (.invokevirtual 106, 3) := by decide +kernel
theorem d_Law_law_213 : decode code 213 = .ok (.iload 5, 2) := by decide +kernel
theorem d_Law_law_215 : decode code 215 = .ok (.if_icmp .eq 5, 3) := by decide +kernel
theorem d_Law_law_218 : decode code 218 = .ok (.iconst 0, 1) := by decide +kernel
theorem d_Law_law_219 : decode code 219 = .ok (.ireturn, 1) := by decide +kernel
theorem d_Law_law_220 : decode code 220 = .ok (.iload 5, 2) := by decide +kernel
theorem d_Law_law_222 : decode code 222 = .ok (.ifCond .ne 15, 3) := by decide +kernel
theorem d_Law_law_225 : decode code 225 = .ok (.aload_n 3, 1) := by decide +kernel
theorem d_Law_law_226 : decode code 226 = .ok (.iconst 0, 1) := by decide +kernel
theorem d_Law_law_227 : decode code 227 = .ok (.laload, 1) := by decide +kernel
theorem d_Law_law_228 : decode code 228 = .ok (.iload 6, 2) := by decide +kernel
theorem d_Law_law_230 : decode code 230 = .ok (.i2l, 1) := by decide +kernel
theorem d_Law_law_231 : decode code 231 = .ok (.lcmp, 1) := by decide +kernel
theorem d_Law_law_232 : decode code 232 = .ok (.ifCond .eq 5, 3) := by decide +kernel
theorem d_Law_law_235 : decode code 235 = .ok (.iconst 0, 1) := by decide +kernel
theorem d_Law_law_236 : decode code 236 = .ok (.ireturn, 1) := by decide +kernel
theorem d_Law_law_237 : decode code 237 = .ok (.goto 1374, 3) := by decide +kernel
theorem d_Law_law_240 : decode code 240 = .ok (.aload_n 1, 1) := by decide +kernel
theorem d_Law_law_241 : decode code 241 = .ok (.aload_n 0, 1) := by decide +kernel
theorem d_Law_law_242 : decode code 242 = .ok (.iload 4, 2) := by decide +kernel
theorem d_Law_law_244 : decode code 244 = .ok (.iconst 1, 1) := by decide +kernel
theorem d_Law_law_245 : decode code 245 = .ok (.iadd, 1) := by decide +kernel
theorem d_Law_law_246 : decode code 246 = .ok (.iaload, 1) := by decide +kernel
theorem d_Law_law_247 : decode code 247 = .ok (.aload_n 3, 1) := by decide +kernel
theorem d_Law_law_248 : decode code 248 = .ok (.invokestatic 110, 3) := by decide +kernel
theorem d_Law_law_251 : decode code 251 = .ok (.istore 5, 2) := by decide +kernel
theorem d_Law_law_253 : decode code 253 = .ok (.aload_n 2, 1) := by decide +kernel
theorem d_Law_law_254 : decode code 254 = .ok (.aload_n 0, 1) := by decide +kernel
theorem d_Law_law_255 : decode code 255 = .ok (.iload 4, 2) := by decide +kernel
theorem d_Law_law_257 : decode code 257 = .ok (.iconst 1, 1) := by decide +kernel
theorem d_Law_law_258 : decode code 258 = .ok (.iadd, 1) := by decide +kernel
theorem d_Law_law_259 : decode code 259 = .ok (.iaload, 1) := by decide +kernel
theorem d_Law_law_260 : decode code 260 = .ok (.invokevirtual 113, 3) := by decide +kernel
theorem d_Law_law_263 : decode code 263 = .ok (.istore 6, 2) := by decide +kernel
theorem d_Law_law_265 : decode code 265 = .ok (.aload_n 2, 1) := by decide +kernel
theorem d_Law_law_266 : decode code 266 = .ok (.invokevirtual 106, 3) := by decide +kernel
theorem d_Law_law_269 : decode code 269 = .ok (.iload 5, 2) := by decide +kernel
theorem d_Law_law_271 : decode code 271 = .ok (.if_icmp .eq 5, 3) := by decide +kernel
theorem d_Law_law_274 : decode code 274 = .ok (.iconst 0, 1) := by decide +kernel
theorem d_Law_law_275 : decode code 275 = .ok (.ireturn, 1) := by decide +kernel
theorem d_Law_law_276 : decode code 276 = .ok (.iload 5, 2) := by decide +kernel
theorem d_Law_law_278 : decode code 278 = .ok (.ifCond .ne 22, 3) := by decide +kernel
theorem d_Law_law_281 : decode code 281 = .ok (.aload_n 3, 1) := by decide +kernel
theorem d_Law_law_282 : decode code 282 = .ok (.iconst 0, 1) := by decide +kernel
theorem d_Law_law_283 : decode code 283 = .ok (.laload, 1) := by decide +kernel
theorem d_Law_law_284 : decode code 284 = .ok (.iload 6, 2) := by decide +kernel
theorem d_Law_law_286 : decode code 286 = .ok (.ifCond .eq 7, 3) := by decide +kernel
theorem d_Law_law_289 : decode code 289 = .ok (.lconst 1, 1) := by decide +kernel
theorem d_Law_law_290 : decode code 290 = .ok (.goto 4, 3) := by decide +kernel
theorem d_Law_law_293 : decode code 293 = .ok (.lconst 0, 1) := by decide +kernel
theorem d_Law_law_294 : decode code 294 = .ok (.lcmp, 1) := by decide +kernel
theorem d_Law_law_295 : decode code 295 = .ok (.ifCond .eq 5, 3) := by decide +kernel
theorem d_Law_law_298 : decode code 298 = .ok (.iconst 0, 1) := by decide +kernel
theorem d_Law_law_299 : decode code 299 = .ok (.ireturn, 1) := by decide +kernel
theorem d_Law_law_300 : decode code 300 = .ok (.goto 1311, 3) := by decide +kernel
theorem d_Law_law_303 : decode code 303 = .ok (.aload_n 1, 1) := by decide +kernel
theorem d_Law_law_304 : decode code 304 = .ok (.aload_n 0, 1) := by decide +kernel
theorem d_Law_law_305 : decode code 305 = .ok (.iload 4, 2) := by decide +kernel
theorem d_Law_law_307 : decode code 307 = .ok (.iconst 1, 1) := by decide +kernel
theorem d_Law_law_308 : decode code 308 = .ok (.iadd, 1) := by decide +kernel
theorem d_Law_law_309 : decode code 309 = .ok (.iaload, 1) := by decide +kernel
theorem d_Law_law_310 : decode code 310 = .ok (.aload_n 0, 1) := by decide +kernel
theorem d_Law_law_311 : decode code 311 = .ok (.iload 4, 2) := by decide +kernel
theorem d_Law_law_313 : decode code 313 = .ok (.iconst 2, 1) := by decide +kernel
theorem d_Law_law_314 : decode code 314 = .ok (.iadd, 1) := by decide +kernel
theorem d_Law_law_315 : decode code 315 = .ok (.iaload, 1) := by decide +kernel
theorem d_Law_law_316 : decode code 316 = .ok (.i2l, 1) := by decide +kernel
theorem d_Law_law_317 : decode code 317 = .ok (.bipush 32, 2) := by decide +kernel
theorem d_Law_law_319 : decode code 319 = .ok (.lshl, 1) := by decide +kernel
theorem d_Law_law_320 : decode code 320 = .ok (.aload_n 0, 1) := by decide +kernel
theorem d_Law_law_321 : decode code 321 = .ok (.iload 4, 2) := by decide +kernel
theorem d_Law_law_323 : decode code 323 = .ok (.iconst 3, 1) := by decide +kernel
theorem d_Law_law_324 : decode code 324 = .ok (.iadd, 1) := by decide +kernel
theorem d_Law_law_325 : decode code 325 = .ok (.iaload, 1) := by decide +kernel
theorem d_Law_law_326 : decode code 326 = .ok (.i2l, 1) := by decide +kernel
theorem d_Law_law_327 : decode code 327 = .ok (.ldc2_w 98, 3) := by decide +kernel
theorem d_Law_law_330 : decode code 330 = .ok (.land, 1) := by decide +kernel
theorem d_Law_law_331 : decode code 331 = .ok (.lor, 1) := by decide +kernel
theorem d_Law_law_332 : decode code 332 = .ok (.invokestatic 114, 3) := by decide +kernel
theorem d_Law_law_335 : decode code 335 = .ok (.istore 5, 2) := by decide +kernel
theorem d_Law_law_337 : decode code 337 = .ok (.aload_n 2, 1) := by decide +kernel
theorem d_Law_law_338 : decode code 338 = .ok (.aload_n 0, 1) := by decide +kernel
theorem d_Law_law_339 : decode code 339 = .ok (.iload 4, 2) := by decide +kernel
theorem d_Law_law_341 : decode code 341 = .ok (.iconst 1, 1) := by decide +kernel
theorem d_Law_law_342 : decode code 342 = .ok (.iadd, 1) := by decide +kernel
theorem d_Law_law_343 : decode code 343 = .ok (.iaload, 1) := by decide +kernel
theorem d_Law_law_344 : decode code 344 = .ok (.aload_n 0, 1) := by decide +kernel
theorem d_Law_law_345 : decode code 345 = .ok (.iload 4, 2) := by decide +kernel
theorem d_Law_law_347 : decode code 347 = .ok (.iconst 2, 1) := by decide +kernel
theorem d_Law_law_348 : decode code 348 = .ok (.iadd, 1) := by decide +kernel
theorem d_Law_law_349 : decode code 349 = .ok (.iaload, 1) := by decide +kernel
theorem d_Law_law_350 : decode code 350 = .ok (.i2l, 1) := by decide +kernel
theorem d_Law_law_351 : decode code 351 = .ok (.bipush 32, 2) := by decide +kernel
theorem d_Law_law_353 : decode code 353 = .ok (.lshl, 1) := by decide +kernel
theorem d_Law_law_354 : decode code 354 = .ok (.aload_n 0, 1) := by decide +kernel
theorem d_Law_law_355 : decode code 355 = .ok (.iload 4, 2) := by decide +kernel
theorem d_Law_law_357 : decode code 357 = .ok (.iconst 3, 1) := by decide +kernel
theorem d_Law_law_358 : decode code 358 = .ok (.iadd, 1) := by decide +kernel
theorem d_Law_law_359 : decode code 359 = .ok (.iaload, 1) := by decide +kernel
theorem d_Law_law_360 : decode code 360 = .ok (.i2l, 1) := by decide +kernel
theorem d_Law_law_361 : decode code 361 = .ok (.ldc2_w 98, 3) := by decide +kernel
theorem d_Law_law_364 : decode code 364 = .ok (.land, 1) := by decide +kernel
theorem d_Law_law_365 : decode code 365 = .ok (.lor, 1) := by decide +kernel
theorem d_Law_law_366 : decode code 366 = .ok (.invokevirtual 117, 3) := by decide +kernel
theorem d_Law_law_369 : decode code 369 = .ok (.aload_n 2, 1) := by decide +kernel
theorem d_Law_law_370 : decode code 370 = .ok (.invokevirtual 106, 3) := by decide +kernel
theorem d_Law_law_373 : decode code 373 = .ok (.iload 5, 2) := by decide +kernel
theorem d_Law_law_375 : decode code 375 = .ok (.if_icmp .eq 5, 3) := by decide +kernel
theorem d_Law_law_378 : decode code 378 = .ok (.iconst 0, 1) := by decide +kernel
theorem d_Law_law_379 : decode code 379 = .ok (.ireturn, 1) := by decide +kernel
theorem d_Law_law_380 : decode code 380 = .ok (.goto 1231, 3) := by decide +kernel
theorem d_Law_law_383 : decode code 383 = .ok (.aload_n 1, 1) := by decide +kernel
theorem d_Law_law_384 : decode code 384 = .ok (.aload_n 0, 1) := by decide +kernel
theorem d_Law_law_385 : decode code 385 = .ok (.iload 4, 2) := by decide +kernel
theorem d_Law_law_387 : decode code 387 = .ok (.iconst 1, 1) := by decide +kernel
theorem d_Law_law_388 : decode code 388 = .ok (.iadd, 1) := by decide +kernel
theorem d_Law_law_389 : decode code 389 = .ok (.iaload, 1) := by decide +kernel
theorem d_Law_law_390 : decode code 390 = .ok (.aload_n 0, 1) := by decide +kernel
theorem d_Law_law_391 : decode code 391 = .ok (.iload 4, 2) := by decide +kernel
theorem d_Law_law_393 : decode code 393 = .ok (.iconst 2, 1) := by decide +kernel
theorem d_Law_law_394 : decode code 394 = .ok (.iadd, 1) := by decide +kernel
theorem d_Law_law_395 : decode code 395 = .ok (.iaload, 1) := by decide +kernel
theorem d_Law_law_396 : decode code 396 = .ok (.aload_n 3, 1) := by decide +kernel
theorem d_Law_law_397 : decode code 397 = .ok (.invokestatic 118, 3) := by decide +kernel
theorem d_Law_law_400 : decode code 400 = .ok (.istore 5, 2) := by decide +kernel
theorem d_Law_law_402 : decode code 402 = .ok (.aload_n 2, 1) := by decide +kernel
theorem d_Law_law_403 : decode code 403 = .ok (.aload_n 0, 1) := by decide +kernel
theorem d_Law_law_404 : decode code 404 = .ok (.iload 4, 2) := by decide +kernel
theorem d_Law_law_406 : decode code 406 = .ok (.iconst 1, 1) := by decide +kernel
theorem d_Law_law_407 : decode code 407 = .ok (.iadd, 1) := by decide +kernel
theorem d_Law_law_408 : decode code 408 = .ok (.iaload, 1) := by decide +kernel
theorem d_Law_law_409 : decode code 409 = .ok (.aload_n 0, 1) := by decide +kernel
theorem d_Law_law_410 : decode code 410 = .ok (.iload 4, 2) := by decide +kernel
theorem d_Law_law_412 : decode code 412 = .ok (.iconst 2, 1) := by decide +kernel
theorem d_Law_law_413 : decode code 413 = .ok (.iadd, 1) := by decide +kernel
theorem d_Law_law_414 : decode code 414 = .ok (.iaload, 1) := by decide +kernel
theorem d_Law_law_415 : decode code 415 = .ok (.invokevirtual 121, 3) := by decide +kernel
theorem d_Law_law_418 : decode code 418 = .ok (.lstore 6, 2) := by decide +kernel
theorem d_Law_law_420 : decode code 420 = .ok (.aload_n 2, 1) := by decide +kernel
theorem d_Law_law_421 : decode code 421 = .ok (.invokevirtual 106, 3) := by decide +kernel
theorem d_Law_law_424 : decode code 424 = .ok (.iload 5, 2) := by decide +kernel
theorem d_Law_law_426 : decode code 426 = .ok (.if_icmp .eq 5, 3) := by decide +kernel
theorem d_Law_law_429 : decode code 429 = .ok (.iconst 0, 1) := by decide +kernel
theorem d_Law_law_430 : decode code 430 = .ok (.ireturn, 1) := by decide +kernel
theorem d_Law_law_431 : decode code 431 = .ok (.iload 5, 2) := by decide +kernel
theorem d_Law_law_433 : decode code 433 = .ok (.ifCond .ne 14, 3) := by decide +kernel
theorem d_Law_law_436 : decode code 436 = .ok (.aload_n 3, 1) := by decide +kernel
theorem d_Law_law_437 : decode code 437 = .ok (.iconst 0, 1) := by decide +kernel
theorem d_Law_law_438 : decode code 438 = .ok (.laload, 1) := by decide +kernel
theorem d_Law_law_439 : decode code 439 = .ok (.lload 6, 2) := by decide +kernel
theorem d_Law_law_441 : decode code 441 = .ok (.lcmp, 1) := by decide +kernel
theorem d_Law_law_442 : decode code 442 = .ok (.ifCond .eq 5, 3) := by decide +kernel
theorem d_Law_law_445 : decode code 445 = .ok (.iconst 0, 1) := by decide +kernel
theorem d_Law_law_446 : decode code 446 = .ok (.ireturn, 1) := by decide +kernel
theorem d_Law_law_447 : decode code 447 = .ok (.goto 1164, 3) := by decide +kernel
theorem d_Law_law_450 : decode code 450 = .ok (.aload_n 1, 1) := by decide +kernel
theorem d_Law_law_451 : decode code 451 = .ok (.aload_n 0, 1) := by decide +kernel
theorem d_Law_law_452 : decode code 452 = .ok (.iload 4, 2) := by decide +kernel
theorem d_Law_law_454 : decode code 454 = .ok (.iconst 1, 1) := by decide +kernel
theorem d_Law_law_455 : decode code 455 = .ok (.iadd, 1) := by decide +kernel
theorem d_Law_law_456 : decode code 456 = .ok (.iaload, 1) := by decide +kernel
theorem d_Law_law_457 : decode code 457 = .ok (.aload_n 0, 1) := by decide +kernel
theorem d_Law_law_458 : decode code 458 = .ok (.iload 4, 2) := by decide +kernel
theorem d_Law_law_460 : decode code 460 = .ok (.iconst 2, 1) := by decide +kernel
theorem d_Law_law_461 : decode code 461 = .ok (.iadd, 1) := by decide +kernel
theorem d_Law_law_462 : decode code 462 = .ok (.iaload, 1) := by decide +kernel
theorem d_Law_law_463 : decode code 463 = .ok (.aload_n 0, 1) := by decide +kernel
theorem d_Law_law_464 : decode code 464 = .ok (.iload 4, 2) := by decide +kernel
theorem d_Law_law_466 : decode code 466 = .ok (.iconst 3, 1) := by decide +kernel
theorem d_Law_law_467 : decode code 467 = .ok (.iadd, 1) := by decide +kernel
theorem d_Law_law_468 : decode code 468 = .ok (.iaload, 1) := by decide +kernel
theorem d_Law_law_469 : decode code 469 = .ok (.aload_n 0, 1) := by decide +kernel
theorem d_Law_law_470 : decode code 470 = .ok (.iload 4, 2) := by decide +kernel
theorem d_Law_law_472 : decode code 472 = .ok (.iconst 4, 1) := by decide +kernel
theorem d_Law_law_473 : decode code 473 = .ok (.iadd, 1) := by decide +kernel
theorem d_Law_law_474 : decode code 474 = .ok (.iaload, 1) := by decide +kernel
theorem d_Law_law_475 : decode code 475 = .ok (.invokestatic 122, 3) := by decide +kernel
theorem d_Law_law_478 : decode code 478 = .ok (.istore 5, 2) := by decide +kernel
theorem d_Law_law_480 : decode code 480 = .ok (.aload_n 2, 1) := by decide +kernel
theorem d_Law_law_481 : decode code 481 = .ok (.aload_n 0, 1) := by decide +kernel
theorem d_Law_law_482 : decode code 482 = .ok (.iload 4, 2) := by decide +kernel
theorem d_Law_law_484 : decode code 484 = .ok (.iconst 1, 1) := by decide +kernel
theorem d_Law_law_485 : decode code 485 = .ok (.iadd, 1) := by decide +kernel
theorem d_Law_law_486 : decode code 486 = .ok (.iaload, 1) := by decide +kernel
theorem d_Law_law_487 : decode code 487 = .ok (.aload_n 0, 1) := by decide +kernel
theorem d_Law_law_488 : decode code 488 = .ok (.iload 4, 2) := by decide +kernel
theorem d_Law_law_490 : decode code 490 = .ok (.iconst 2, 1) := by decide +kernel
theorem d_Law_law_491 : decode code 491 = .ok (.iadd, 1) := by decide +kernel
theorem d_Law_law_492 : decode code 492 = .ok (.iaload, 1) := by decide +kernel
theorem d_Law_law_493 : decode code 493 = .ok (.aload_n 0, 1) := by decide +kernel
theorem d_Law_law_494 : decode code 494 = .ok (.iload 4, 2) := by decide +kernel
theorem d_Law_law_496 : decode code 496 = .ok (.iconst 3, 1) := by decide +kernel
theorem d_Law_law_497 : decode code 497 = .ok (.iadd, 1) := by decide +kernel
theorem d_Law_law_498 : decode code 498 = .ok (.iaload, 1) := by decide +kernel
theorem d_Law_law_499 : decode code 499 = .ok (.aload_n 0, 1) := by decide +kernel
theorem d_Law_law_500 : decode code 500 = .ok (.iload 4, 2) := by decide +kernel
theorem d_Law_law_502 : decode code 502 = .ok (.iconst 4, 1) := by decide +kernel
theorem d_Law_law_503 : decode code 503 = .ok (.iadd, 1) := by decide +kernel
theorem d_Law_law_504 : decode code 504 = .ok (.iaload, 1) := by decide +kernel
theorem d_Law_law_505 : decode code 505 = .ok (.invokevirtual 125, 3) := by decide +kernel
theorem d_Law_law_508 : decode code 508 = .ok (.aload_n 2, 1) := by decide +kernel
theorem d_Law_law_509 : decode code 509 = .ok (.invokevirtual 106, 3) := by decide +kernel
theorem d_Law_law_512 : decode code 512 = .ok (.iload 5, 2) := by decide +kernel
theorem d_Law_law_514 : decode code 514 = .ok (.if_icmp .eq 5, 3) := by decide +kernel
theorem d_Law_law_517 : decode code 517 = .ok (.iconst 0, 1) := by decide +kernel
theorem d_Law_law_518 : decode code 518 = .ok (.ireturn, 1) := by decide +kernel
theorem d_Law_law_519 : decode code 519 = .ok (.goto 1092, 3) := by decide +kernel
theorem d_Law_law_522 : decode code 522 = .ok (.aload_n 1, 1) := by decide +kernel
theorem d_Law_law_523 : decode code 523 = .ok (.aload_n 0, 1) := by decide +kernel
theorem d_Law_law_524 : decode code 524 = .ok (.iload 4, 2) := by decide +kernel
theorem d_Law_law_526 : decode code 526 = .ok (.iconst 1, 1) := by decide +kernel
theorem d_Law_law_527 : decode code 527 = .ok (.iadd, 1) := by decide +kernel
theorem d_Law_law_528 : decode code 528 = .ok (.iaload, 1) := by decide +kernel
theorem d_Law_law_529 : decode code 529 = .ok (.aload_n 0, 1) := by decide +kernel
theorem d_Law_law_530 : decode code 530 = .ok (.iload 4, 2) := by decide +kernel
theorem d_Law_law_532 : decode code 532 = .ok (.iconst 2, 1) := by decide +kernel
theorem d_Law_law_533 : decode code 533 = .ok (.iadd, 1) := by decide +kernel
theorem d_Law_law_534 : decode code 534 = .ok (.iaload, 1) := by decide +kernel
theorem d_Law_law_535 : decode code 535 = .ok (.aload_n 0, 1) := by decide +kernel
theorem d_Law_law_536 : decode code 536 = .ok (.iload 4, 2) := by decide +kernel
theorem d_Law_law_538 : decode code 538 = .ok (.iconst 3, 1) := by decide +kernel
theorem d_Law_law_539 : decode code 539 = .ok (.iadd, 1) := by decide +kernel
theorem d_Law_law_540 : decode code 540 = .ok (.iaload, 1) := by decide +kernel
theorem d_Law_law_541 : decode code 541 = .ok (.i2l, 1) := by decide +kernel
theorem d_Law_law_542 : decode code 542 = .ok (.bipush 32, 2) := by decide +kernel
theorem d_Law_law_544 : decode code 544 = .ok (.lshl, 1) := by decide +kernel
theorem d_Law_law_545 : decode code 545 = .ok (.aload_n 0, 1) := by decide +kernel
theorem d_Law_law_546 : decode code 546 = .ok (.iload 4, 2) := by decide +kernel
theorem d_Law_law_548 : decode code 548 = .ok (.iconst 4, 1) := by decide +kernel
theorem d_Law_law_549 : decode code 549 = .ok (.iadd, 1) := by decide +kernel
theorem d_Law_law_550 : decode code 550 = .ok (.iaload, 1) := by decide +kernel
theorem d_Law_law_551 : decode code 551 = .ok (.i2l, 1) := by decide +kernel
theorem d_Law_law_552 : decode code 552 = .ok (.ldc2_w 98, 3) := by decide +kernel
theorem d_Law_law_555 : decode code 555 = .ok (.land, 1) := by decide +kernel
theorem d_Law_law_556 : decode code 556 = .ok (.lor, 1) := by decide +kernel
theorem d_Law_law_557 : decode code 557 = .ok (.invokestatic 126, 3) := by decide +kernel
theorem d_Law_law_560 : decode code 560 = .ok (.istore 5, 2) := by decide +kernel
theorem d_Law_law_562 : decode code 562 = .ok (.aload_n 2, 1) := by decide +kernel
theorem d_Law_law_563 : decode code 563 = .ok (.aload_n 0, 1) := by decide +kernel
theorem d_Law_law_564 : decode code 564 = .ok (.iload 4, 2) := by decide +kernel
theorem d_Law_law_566 : decode code 566 = .ok (.iconst 1, 1) := by decide +kernel
theorem d_Law_law_567 : decode code 567 = .ok (.iadd, 1) := by decide +kernel
theorem d_Law_law_568 : decode code 568 = .ok (.iaload, 1) := by decide +kernel
theorem d_Law_law_569 : decode code 569 = .ok (.aload_n 0, 1) := by decide +kernel
theorem d_Law_law_570 : decode code 570 = .ok (.iload 4, 2) := by decide +kernel
theorem d_Law_law_572 : decode code 572 = .ok (.iconst 2, 1) := by decide +kernel
theorem d_Law_law_573 : decode code 573 = .ok (.iadd, 1) := by decide +kernel
theorem d_Law_law_574 : decode code 574 = .ok (.iaload, 1) := by decide +kernel
theorem d_Law_law_575 : decode code 575 = .ok (.aload_n 0, 1) := by decide +kernel
theorem d_Law_law_576 : decode code 576 = .ok (.iload 4, 2) := by decide +kernel
theorem d_Law_law_578 : decode code 578 = .ok (.iconst 3, 1) := by decide +kernel
theorem d_Law_law_579 : decode code 579 = .ok (.iadd, 1) := by decide +kernel
theorem d_Law_law_580 : decode code 580 = .ok (.iaload, 1) := by decide +kernel
theorem d_Law_law_581 : decode code 581 = .ok (.i2l, 1) := by decide +kernel
theorem d_Law_law_582 : decode code 582 = .ok (.bipush 32, 2) := by decide +kernel
theorem d_Law_law_584 : decode code 584 = .ok (.lshl, 1) := by decide +kernel
theorem d_Law_law_585 : decode code 585 = .ok (.aload_n 0, 1) := by decide +kernel
theorem d_Law_law_586 : decode code 586 = .ok (.iload 4, 2) := by decide +kernel
theorem d_Law_law_588 : decode code 588 = .ok (.iconst 4, 1) := by decide +kernel
theorem d_Law_law_589 : decode code 589 = .ok (.iadd, 1) := by decide +kernel
theorem d_Law_law_590 : decode code 590 = .ok (.iaload, 1) := by decide +kernel
theorem d_Law_law_591 : decode code 591 = .ok (.i2l, 1) := by decide +kernel
theorem d_Law_law_592 : decode code 592 = .ok (.ldc2_w 98, 3) := by decide +kernel
theorem d_Law_law_595 : decode code 595 = .ok (.land, 1) := by decide +kernel
theorem d_Law_law_596 : decode code 596 = .ok (.lor, 1) := by decide +kernel
theorem d_Law_law_597 : decode code 597 = .ok (.invokevirtual 129, 3) := by decide +kernel
theorem d_Law_law_600 : decode code 600 = .ok (.aload_n 2, 1) := by decide +kernel
theorem d_Law_law_601 : decode code 601 = .ok (.invokevirtual 106, 3) := by decide +kernel
theorem d_Law_law_604 : decode code 604 = .ok (.iload 5, 2) := by decide +kernel
theorem d_Law_law_606 : decode code 606 = .ok (.if_icmp .eq 5, 3) := by decide +kernel
theorem d_Law_law_609 : decode code 609 = .ok (.iconst 0, 1) := by decide +kernel
theorem d_Law_law_610 : decode code 610 = .ok (.ireturn, 1) := by decide +kernel
theorem d_Law_law_611 : decode code 611 = .ok (.goto 1000, 3) := by decide +kernel
theorem d_Law_law_614 : decode code 614 = .ok (.aload_n 1, 1) := by decide +kernel
theorem d_Law_law_615 : decode code 615 = .ok (.aload_n 0, 1) := by decide +kernel
theorem d_Law_law_616 : decode code 616 = .ok (.iload 4, 2) := by decide +kernel
theorem d_Law_law_618 : decode code 618 = .ok (.iconst 1, 1) := by decide +kernel
theorem d_Law_law_619 : decode code 619 = .ok (.iadd, 1) := by decide +kernel
theorem d_Law_law_620 : decode code 620 = .ok (.iaload, 1) := by decide +kernel
theorem d_Law_law_621 : decode code 621 = .ok (.aload_n 0, 1) := by decide +kernel
theorem d_Law_law_622 : decode code 622 = .ok (.iload 4, 2) := by decide +kernel
theorem d_Law_law_624 : decode code 624 = .ok (.iconst 2, 1) := by decide +kernel
theorem d_Law_law_625 : decode code 625 = .ok (.iadd, 1) := by decide +kernel
theorem d_Law_law_626 : decode code 626 = .ok (.iaload, 1) := by decide +kernel
theorem d_Law_law_627 : decode code 627 = .ok (.invokestatic 130, 3) := by decide +kernel
theorem d_Law_law_630 : decode code 630 = .ok (.istore 5, 2) := by decide +kernel
theorem d_Law_law_632 : decode code 632 = .ok (.aload_n 2, 1) := by decide +kernel
theorem d_Law_law_633 : decode code 633 = .ok (.aload_n 0, 1) := by decide +kernel
theorem d_Law_law_634 : decode code 634 = .ok (.iload 4, 2) := by decide +kernel
theorem d_Law_law_636 : decode code 636 = .ok (.iconst 1, 1) := by decide +kernel
theorem d_Law_law_637 : decode code 637 = .ok (.iadd, 1) := by decide +kernel
theorem d_Law_law_638 : decode code 638 = .ok (.iaload, 1) := by decide +kernel
theorem d_Law_law_639 : decode code 639 = .ok (.aload_n 0, 1) := by decide +kernel
theorem d_Law_law_640 : decode code 640 = .ok (.iload 4, 2) := by decide +kernel
theorem d_Law_law_642 : decode code 642 = .ok (.iconst 2, 1) := by decide +kernel
theorem d_Law_law_643 : decode code 643 = .ok (.iadd, 1) := by decide +kernel
theorem d_Law_law_644 : decode code 644 = .ok (.iaload, 1) := by decide +kernel
theorem d_Law_law_645 : decode code 645 = .ok (.invokevirtual 133, 3) := by decide +kernel
theorem d_Law_law_648 : decode code 648 = .ok (.aload_n 2, 1) := by decide +kernel
theorem d_Law_law_649 : decode code 649 = .ok (.invokevirtual 106, 3) := by decide +kernel
theorem d_Law_law_652 : decode code 652 = .ok (.iload 5, 2) := by decide +kernel
theorem d_Law_law_654 : decode code 654 = .ok (.if_icmp .eq 5, 3) := by decide +kernel
theorem d_Law_law_657 : decode code 657 = .ok (.iconst 0, 1) := by decide +kernel
theorem d_Law_law_658 : decode code 658 = .ok (.ireturn, 1) := by decide +kernel
theorem d_Law_law_659 : decode code 659 = .ok (.goto 952, 3) := by decide +kernel
theorem d_Law_law_662 : decode code 662 = .ok (.aload_n 1, 1) := by decide +kernel
theorem d_Law_law_663 : decode code 663 = .ok (.aload_n 0, 1) := by decide +kernel
theorem d_Law_law_664 : decode code 664 = .ok (.iload 4, 2) := by decide +kernel
theorem d_Law_law_666 : decode code 666 = .ok (.iconst 1, 1) := by decide +kernel
theorem d_Law_law_667 : decode code 667 = .ok (.iadd, 1) := by decide +kernel
theorem d_Law_law_668 : decode code 668 = .ok (.iaload, 1) := by decide +kernel
theorem d_Law_law_669 : decode code 669 = .ok (.aload_n 3, 1) := by decide +kernel
theorem d_Law_law_670 : decode code 670 = .ok (.invokestatic 134, 3) := by decide +kernel
theorem d_Law_law_673 : decode code 673 = .ok (.istore 5, 2) := by decide +kernel
theorem d_Law_law_675 : decode code 675 = .ok (.aload_n 2, 1) := by decide +kernel
theorem d_Law_law_676 : decode code 676 = .ok (.aload_n 0, 1) := by decide +kernel
theorem d_Law_law_677 : decode code 677 = .ok (.iload 4, 2) := by decide +kernel
theorem d_Law_law_679 : decode code 679 = .ok (.iconst 1, 1) := by decide +kernel
theorem d_Law_law_680 : decode code 680 = .ok (.iadd, 1) := by decide +kernel
theorem d_Law_law_681 : decode code 681 = .ok (.iaload, 1) := by decide +kernel
theorem d_Law_law_682 : decode code 682 = .ok (.invokevirtual 136, 3) := by decide +kernel
theorem d_Law_law_685 : decode code 685 = .ok (.istore 6, 2) := by decide +kernel
theorem d_Law_law_687 : decode code 687 = .ok (.aload_n 2, 1) := by decide +kernel
theorem d_Law_law_688 : decode code 688 = .ok (.invokevirtual 106, 3) := by decide +kernel
theorem d_Law_law_691 : decode code 691 = .ok (.iload 5, 2) := by decide +kernel
theorem d_Law_law_693 : decode code 693 = .ok (.if_icmp .eq 5, 3) := by decide +kernel
theorem d_Law_law_696 : decode code 696 = .ok (.iconst 0, 1) := by decide +kernel
theorem d_Law_law_697 : decode code 697 = .ok (.ireturn, 1) := by decide +kernel
theorem d_Law_law_698 : decode code 698 = .ok (.iload 5, 2) := by decide +kernel
theorem d_Law_law_700 : decode code 700 = .ok (.ifCond .ne 15, 3) := by decide +kernel
theorem d_Law_law_703 : decode code 703 = .ok (.aload_n 3, 1) := by decide +kernel
theorem d_Law_law_704 : decode code 704 = .ok (.iconst 0, 1) := by decide +kernel
theorem d_Law_law_705 : decode code 705 = .ok (.laload, 1) := by decide +kernel
theorem d_Law_law_706 : decode code 706 = .ok (.iload 6, 2) := by decide +kernel
theorem d_Law_law_708 : decode code 708 = .ok (.i2l, 1) := by decide +kernel
theorem d_Law_law_709 : decode code 709 = .ok (.lcmp, 1) := by decide +kernel
theorem d_Law_law_710 : decode code 710 = .ok (.ifCond .eq 5, 3) := by decide +kernel
theorem d_Law_law_713 : decode code 713 = .ok (.iconst 0, 1) := by decide +kernel
theorem d_Law_law_714 : decode code 714 = .ok (.ireturn, 1) := by decide +kernel
theorem d_Law_law_715 : decode code 715 = .ok (.goto 896, 3) := by decide +kernel
theorem d_Law_law_718 : decode code 718 = .ok (.aload_n 1, 1) := by decide +kernel
theorem d_Law_law_719 : decode code 719 = .ok (.aload_n 0, 1) := by decide +kernel
theorem d_Law_law_720 : decode code 720 = .ok (.iload 4, 2) := by decide +kernel
theorem d_Law_law_722 : decode code 722 = .ok (.iconst 1, 1) := by decide +kernel
theorem d_Law_law_723 : decode code 723 = .ok (.iadd, 1) := by decide +kernel
theorem d_Law_law_724 : decode code 724 = .ok (.iaload, 1) := by decide +kernel
theorem d_Law_law_725 : decode code 725 = .ok (.aload_n 0, 1) := by decide +kernel
theorem d_Law_law_726 : decode code 726 = .ok (.iload 4, 2) := by decide +kernel
theorem d_Law_law_728 : decode code 728 = .ok (.iconst 2, 1) := by decide +kernel
theorem d_Law_law_729 : decode code 729 = .ok (.iadd, 1) := by decide +kernel
theorem d_Law_law_730 : decode code 730 = .ok (.iaload, 1) := by decide +kernel
theorem d_Law_law_731 : decode code 731 = .ok (.ifCond .eq 7, 3) := by decide +kernel
theorem d_Law_law_734 : decode code 734 = .ok (.iconst 1, 1) := by decide +kernel
theorem d_Law_law_735 : decode code 735 = .ok (.goto 4, 3) := by decide +kernel
theorem d_Law_law_738 : decode code 738 = .ok (.iconst 0, 1) := by decide +kernel
theorem d_Law_law_739 : decode code 739 = .ok (.invokestatic 137, 3) := by decide +kernel
theorem d_Law_law_742 : decode code 742 = .ok (.istore 5, 2) := by decide +kernel
theorem d_Law_law_744 : decode code 744 = .ok (.aload_n 2, 1) := by decide +kernel
theorem d_Law_law_745 : decode code 745 = .ok (.aload_n 0, 1) := by decide +kernel
theorem d_Law_law_746 : decode code 746 = .ok (.iload 4, 2) := by decide +kernel
theorem d_Law_law_748 : decode code 748 = .ok (.iconst 1, 1) := by decide +kernel
theorem d_Law_law_749 : decode code 749 = .ok (.iadd, 1) := by decide +kernel
theorem d_Law_law_750 : decode code 750 = .ok (.iaload, 1) := by decide +kernel
theorem d_Law_law_751 : decode code 751 = .ok (.aload_n 0, 1) := by decide +kernel
theorem d_Law_law_752 : decode code 752 = .ok (.iload 4, 2) := by decide +kernel
theorem d_Law_law_754 : decode code 754 = .ok (.iconst 2, 1) := by decide +kernel
theorem d_Law_law_755 : decode code 755 = .ok (.iadd, 1) := by decide +kernel
theorem d_Law_law_756 : decode code 756 = .ok (.iaload, 1) := by decide +kernel
theorem d_Law_law_757 : decode code 757 = .ok (.ifCond .eq 7, 3) := by decide +kernel
theorem d_Law_law_760 : decode code 760 = .ok (.iconst 1, 1) := by decide +kernel
theorem d_Law_law_761 : decode code 761 = .ok (.goto 4, 3) := by decide +kernel
theorem d_Law_law_764 : decode code 764 = .ok (.iconst 0, 1) := by decide +kernel
theorem d_Law_law_765 : decode code 765 = .ok (.invokevirtual 140, 3) := by decide +kernel
theorem d_Law_law_768 : decode code 768 = .ok (.aload_n 2, 1) := by decide +kernel
theorem d_Law_law_769 : decode code 769 = .ok (.invokevirtual 106, 3) := by decide +kernel
theorem d_Law_law_772 : decode code 772 = .ok (.iload 5, 2) := by decide +kernel
theorem d_Law_law_774 : decode code 774 = .ok (.if_icmp .eq 5, 3) := by decide +kernel
theorem d_Law_law_777 : decode code 777 = .ok (.iconst 0, 1) := by decide +kernel
theorem d_Law_law_778 : decode code 778 = .ok (.ireturn, 1) := by decide +kernel
theorem d_Law_law_779 : decode code 779 = .ok (.goto 832, 3) := by decide +kernel
theorem d_Law_law_782 : decode code 782 = .ok (.aload_n 1, 1) := by decide +kernel
theorem d_Law_law_783 : decode code 783 = .ok (.aload_n 0, 1) := by decide +kernel
theorem d_Law_law_784 : decode code 784 = .ok (.iload 4, 2) := by decide +kernel
theorem d_Law_law_786 : decode code 786 = .ok (.iconst 1, 1) := by decide +kernel
theorem d_Law_law_787 : decode code 787 = .ok (.iadd, 1) := by decide +kernel
theorem d_Law_law_788 : decode code 788 = .ok (.iaload, 1) := by decide +kernel
theorem d_Law_law_789 : decode code 789 = .ok (.aload_n 3, 1) := by decide +kernel
theorem d_Law_law_790 : decode code 790 = .ok (.invokestatic 141, 3) := by decide +kernel
theorem d_Law_law_793 : decode code 793 = .ok (.istore 5, 2) := by decide +kernel
theorem d_Law_law_795 : decode code 795 = .ok (.aload_n 2, 1) := by decide +kernel
theorem d_Law_law_796 : decode code 796 = .ok (.aload_n 0, 1) := by decide +kernel
theorem d_Law_law_797 : decode code 797 = .ok (.iload 4, 2) := by decide +kernel
theorem d_Law_law_799 : decode code 799 = .ok (.iconst 1, 1) := by decide +kernel
theorem d_Law_law_800 : decode code 800 = .ok (.iadd, 1) := by decide +kernel
theorem d_Law_law_801 : decode code 801 = .ok (.iaload, 1) := by decide +kernel
theorem d_Law_law_802 : decode code 802 = .ok (.invokevirtual 143, 3) := by decide +kernel
theorem d_Law_law_805 : decode code 805 = .ok (.lstore 6, 2) := by decide +kernel
theorem d_Law_law_807 : decode code 807 = .ok (.aload_n 2, 1) := by decide +kernel
theorem d_Law_law_808 : decode code 808 = .ok (.invokevirtual 106, 3) := by decide +kernel
theorem d_Law_law_811 : decode code 811 = .ok (.iload 5, 2) := by decide +kernel
theorem d_Law_law_813 : decode code 813 = .ok (.if_icmp .eq 5, 3) := by decide +kernel
theorem d_Law_law_816 : decode code 816 = .ok (.iconst 0, 1) := by decide +kernel
theorem d_Law_law_817 : decode code 817 = .ok (.ireturn, 1) := by decide +kernel
theorem d_Law_law_818 : decode code 818 = .ok (.iload 5, 2) := by decide +kernel
theorem d_Law_law_820 : decode code 820 = .ok (.ifCond .ne 14, 3) := by decide +kernel
theorem d_Law_law_823 : decode code 823 = .ok (.aload_n 3, 1) := by decide +kernel
theorem d_Law_law_824 : decode code 824 = .ok (.iconst 0, 1) := by decide +kernel
theorem d_Law_law_825 : decode code 825 = .ok (.laload, 1) := by decide +kernel
theorem d_Law_law_826 : decode code 826 = .ok (.lload 6, 2) := by decide +kernel
theorem d_Law_law_828 : decode code 828 = .ok (.lcmp, 1) := by decide +kernel
theorem d_Law_law_829 : decode code 829 = .ok (.ifCond .eq 5, 3) := by decide +kernel
theorem d_Law_law_832 : decode code 832 = .ok (.iconst 0, 1) := by decide +kernel
theorem d_Law_law_833 : decode code 833 = .ok (.ireturn, 1) := by decide +kernel
theorem d_Law_law_834 : decode code 834 = .ok (.goto 777, 3) := by decide +kernel
theorem d_Law_law_837 : decode code 837 = .ok (.aload_n 1, 1) := by decide +kernel
theorem d_Law_law_838 : decode code 838 = .ok (.aload_n 0, 1) := by decide +kernel
theorem d_Law_law_839 : decode code 839 = .ok (.iload 4, 2) := by decide +kernel
theorem d_Law_law_841 : decode code 841 = .ok (.iconst 1, 1) := by decide +kernel
theorem d_Law_law_842 : decode code 842 = .ok (.iadd, 1) := by decide +kernel
theorem d_Law_law_843 : decode code 843 = .ok (.iaload, 1) := by decide +kernel
theorem d_Law_law_844 : decode code 844 = .ok (.aload_n 0, 1) := by decide +kernel
theorem d_Law_law_845 : decode code 845 = .ok (.iload 4, 2) := by decide +kernel
theorem d_Law_law_847 : decode code 847 = .ok (.iconst 2, 1) := by decide +kernel
theorem d_Law_law_848 : decode code 848 = .ok (.iadd, 1) := by decide +kernel
theorem d_Law_law_849 : decode code 849 = .ok (.iaload, 1) := by decide +kernel
theorem d_Law_law_850 : decode code 850 = .ok (.aload_n 0, 1) := by decide +kernel
theorem d_Law_law_851 : decode code 851 = .ok (.iload 4, 2) := by decide +kernel
theorem d_Law_law_853 : decode code 853 = .ok (.iconst 3, 1) := by decide +kernel
theorem d_Law_law_854 : decode code 854 = .ok (.iadd, 1) := by decide +kernel
theorem d_Law_law_855 : decode code 855 = .ok (.iaload, 1) := by decide +kernel
theorem d_Law_law_856 : decode code 856 = .ok (.aload_n 0, 1) := by decide +kernel
theorem d_Law_law_857 : decode code 857 = .ok (.iload 4, 2) := by decide +kernel
theorem d_Law_law_859 : decode code 859 = .ok (.iconst 4, 1) := by decide +kernel
theorem d_Law_law_860 : decode code 860 = .ok (.iadd, 1) := by decide +kernel
theorem d_Law_law_861 : decode code 861 = .ok (.iaload, 1) := by decide +kernel
theorem d_Law_law_862 : decode code 862 = .ok (.invokestatic 144, 3) := by decide +kernel
theorem d_Law_law_865 : decode code 865 = .ok (.istore 5, 2) := by decide +kernel
theorem d_Law_law_867 : decode code 867 = .ok (.aload_n 2, 1) := by decide +kernel
theorem d_Law_law_868 : decode code 868 = .ok (.aload_n 0, 1) := by decide +kernel
theorem d_Law_law_869 : decode code 869 = .ok (.iload 4, 2) := by decide +kernel
theorem d_Law_law_871 : decode code 871 = .ok (.iconst 1, 1) := by decide +kernel
theorem d_Law_law_872 : decode code 872 = .ok (.iadd, 1) := by decide +kernel
theorem d_Law_law_873 : decode code 873 = .ok (.iaload, 1) := by decide +kernel
theorem d_Law_law_874 : decode code 874 = .ok (.aload_n 0, 1) := by decide +kernel
theorem d_Law_law_875 : decode code 875 = .ok (.iload 4, 2) := by decide +kernel
theorem d_Law_law_877 : decode code 877 = .ok (.iconst 2, 1) := by decide +kernel
theorem d_Law_law_878 : decode code 878 = .ok (.iadd, 1) := by decide +kernel
theorem d_Law_law_879 : decode code 879 = .ok (.iaload, 1) := by decide +kernel
theorem d_Law_law_880 : decode code 880 = .ok (.aload_n 0, 1) := by decide +kernel
theorem d_Law_law_881 : decode code 881 = .ok (.iload 4, 2) := by decide +kernel
theorem d_Law_law_883 : decode code 883 = .ok (.iconst 3, 1) := by decide +kernel
theorem d_Law_law_884 : decode code 884 = .ok (.iadd, 1) := by decide +kernel
theorem d_Law_law_885 : decode code 885 = .ok (.iaload, 1) := by decide +kernel
theorem d_Law_law_886 : decode code 886 = .ok (.aload_n 0, 1) := by decide +kernel
theorem d_Law_law_887 : decode code 887 = .ok (.iload 4, 2) := by decide +kernel
theorem d_Law_law_889 : decode code 889 = .ok (.iconst 4, 1) := by decide +kernel
theorem d_Law_law_890 : decode code 890 = .ok (.iadd, 1) := by decide +kernel
theorem d_Law_law_891 : decode code 891 = .ok (.iaload, 1) := by decide +kernel
theorem d_Law_law_892 : decode code 892 = .ok (.invokevirtual 146, 3) := by decide +kernel
theorem d_Law_law_895 : decode code 895 = .ok (.aload_n 2, 1) := by decide +kernel
theorem d_Law_law_896 : decode code 896 = .ok (.invokevirtual 106, 3) := by decide +kernel
theorem d_Law_law_899 : decode code 899 = .ok (.iload 5, 2) := by decide +kernel
theorem d_Law_law_901 : decode code 901 = .ok (.if_icmp .eq 5, 3) := by decide +kernel
theorem d_Law_law_904 : decode code 904 = .ok (.iconst 0, 1) := by decide +kernel
theorem d_Law_law_905 : decode code 905 = .ok (.ireturn, 1) := by decide +kernel
theorem d_Law_law_906 : decode code 906 = .ok (.goto 705, 3) := by decide +kernel
theorem d_Law_law_909 : decode code 909 = .ok (.aload_n 1, 1) := by decide +kernel
theorem d_Law_law_910 : decode code 910 = .ok (.aload_n 0, 1) := by decide +kernel
theorem d_Law_law_911 : decode code 911 = .ok (.iload 4, 2) := by decide +kernel
theorem d_Law_law_913 : decode code 913 = .ok (.iconst 1, 1) := by decide +kernel
theorem d_Law_law_914 : decode code 914 = .ok (.iadd, 1) := by decide +kernel
theorem d_Law_law_915 : decode code 915 = .ok (.iaload, 1) := by decide +kernel
theorem d_Law_law_916 : decode code 916 = .ok (.aload_n 0, 1) := by decide +kernel
theorem d_Law_law_917 : decode code 917 = .ok (.iload 4, 2) := by decide +kernel
theorem d_Law_law_919 : decode code 919 = .ok (.iconst 2, 1) := by decide +kernel
theorem d_Law_law_920 : decode code 920 = .ok (.iadd, 1) := by decide +kernel
theorem d_Law_law_921 : decode code 921 = .ok (.iaload, 1) := by decide +kernel
theorem d_Law_law_922 : decode code 922 = .ok (.aload_n 0, 1) := by decide +kernel
theorem d_Law_law_923 : decode code 923 = .ok (.iload 4, 2) := by decide +kernel
theorem d_Law_law_925 : decode code 925 = .ok (.iconst 3, 1) := by decide +kernel
theorem d_Law_law_926 : decode code 926 = .ok (.iadd, 1) := by decide +kernel
theorem d_Law_law_927 : decode code 927 = .ok (.iaload, 1) := by decide +kernel
theorem d_Law_law_928 : decode code 928 = .ok (.invokestatic 147, 3) := by decide +kernel
theorem d_Law_law_931 : decode code 931 = .ok (.istore 5, 2) := by decide +kernel
theorem d_Law_law_933 : decode code 933 = .ok (.aload_n 2, 1) := by decide +kernel
theorem d_Law_law_934 : decode code 934 = .ok (.aload_n 0, 1) := by decide +kernel
theorem d_Law_law_935 : decode code 935 = .ok (.iload 4, 2) := by decide +kernel
theorem d_Law_law_937 : decode code 937 = .ok (.iconst 1, 1) := by decide +kernel
theorem d_Law_law_938 : decode code 938 = .ok (.iadd, 1) := by decide +kernel
theorem d_Law_law_939 : decode code 939 = .ok (.iaload, 1) := by decide +kernel
theorem d_Law_law_940 : decode code 940 = .ok (.aload_n 0, 1) := by decide +kernel
theorem d_Law_law_941 : decode code 941 = .ok (.iload 4, 2) := by decide +kernel
theorem d_Law_law_943 : decode code 943 = .ok (.iconst 2, 1) := by decide +kernel
theorem d_Law_law_944 : decode code 944 = .ok (.iadd, 1) := by decide +kernel
theorem d_Law_law_945 : decode code 945 = .ok (.iaload, 1) := by decide +kernel
theorem d_Law_law_946 : decode code 946 = .ok (.aload_n 0, 1) := by decide +kernel
theorem d_Law_law_947 : decode code 947 = .ok (.iload 4, 2) := by decide +kernel
theorem d_Law_law_949 : decode code 949 = .ok (.iconst 3, 1) := by decide +kernel
theorem d_Law_law_950 : decode code 950 = .ok (.iadd, 1) := by decide +kernel
theorem d_Law_law_951 : decode code 951 = .ok (.iaload, 1) := by decide +kernel
theorem d_Law_law_952 : decode code 952 = .ok (.invokevirtual 150, 3) := by decide +kernel
theorem d_Law_law_955 : decode code 955 = .ok (.aload_n 2, 1) := by decide +kernel
theorem d_Law_law_956 : decode code 956 = .ok (.invokevirtual 106, 3) := by decide +kernel
theorem d_Law_law_959 : decode code 959 = .ok (.iload 5, 2) := by decide +kernel
theorem d_Law_law_961 : decode code 961 = .ok (.if_icmp .eq 5, 3) := by decide +kernel
theorem d_Law_law_964 : decode code 964 = .ok (.iconst 0, 1) := by decide +kernel
theorem d_Law_law_965 : decode code 965 = .ok (.ireturn, 1) := by decide +kernel
theorem d_Law_law_966 : decode code 966 = .ok (.goto 645, 3) := by decide +kernel
theorem d_Law_law_969 : decode code 969 = .ok (.aload_n 1, 1) := by decide +kernel
theorem d_Law_law_970 : decode code 970 = .ok (.aload_n 0, 1) := by decide +kernel
theorem d_Law_law_971 : decode code 971 = .ok (.iload 4, 2) := by decide +kernel
theorem d_Law_law_973 : decode code 973 = .ok (.iconst 1, 1) := by decide +kernel
theorem d_Law_law_974 : decode code 974 = .ok (.iadd, 1) := by decide +kernel
theorem d_Law_law_975 : decode code 975 = .ok (.iaload, 1) := by decide +kernel
theorem d_Law_law_976 : decode code 976 = .ok (.aload_n 0, 1) := by decide +kernel
theorem d_Law_law_977 : decode code 977 = .ok (.iload 4, 2) := by decide +kernel
theorem d_Law_law_979 : decode code 979 = .ok (.iconst 2, 1) := by decide +kernel
theorem d_Law_law_980 : decode code 980 = .ok (.iadd, 1) := by decide +kernel
theorem d_Law_law_981 : decode code 981 = .ok (.iaload, 1) := by decide +kernel
theorem d_Law_law_982 : decode code 982 = .ok (.aload_n 0, 1) := by decide +kernel
theorem d_Law_law_983 : decode code 983 = .ok (.iload 4, 2) := by decide +kernel
theorem d_Law_law_985 : decode code 985 = .ok (.iconst 3, 1) := by decide +kernel
theorem d_Law_law_986 : decode code 986 = .ok (.iadd, 1) := by decide +kernel
theorem d_Law_law_987 : decode code 987 = .ok (.iaload, 1) := by decide +kernel
theorem d_Law_law_988 : decode code 988 = .ok (.aload_n 0, 1) := by decide +kernel
theorem d_Law_law_989 : decode code 989 = .ok (.iload 4, 2) := by decide +kernel
theorem d_Law_law_991 : decode code 991 = .ok (.iconst 4, 1) := by decide +kernel
theorem d_Law_law_992 : decode code 992 = .ok (.iadd, 1) := by decide +kernel
theorem d_Law_law_993 : decode code 993 = .ok (.iaload, 1) := by decide +kernel
theorem d_Law_law_994 : decode code 994 = .ok (.invokestatic 151, 3) := by decide +kernel
theorem d_Law_law_997 : decode code 997 = .ok (.istore 5, 2) := by decide +kernel
theorem d_Law_law_999 : decode code 999 = .ok (.aload_n 2, 1) := by decide +kernel
theorem d_Law_law_1000 : decode code 1000 = .ok (.aload_n 0, 1) := by decide +kernel
theorem d_Law_law_1001 : decode code 1001 = .ok (.iload 4, 2) := by decide +kernel
theorem d_Law_law_1003 : decode code 1003 = .ok (.iconst 1, 1) := by decide +kernel
theorem d_Law_law_1004 : decode code 1004 = .ok (.iadd, 1) := by decide +kernel
theorem d_Law_law_1005 : decode code 1005 = .ok (.iaload, 1) := by decide +kernel
theorem d_Law_law_1006 : decode code 1006 = .ok (.aload_n 0, 1) := by decide +kernel
theorem d_Law_law_1007 : decode code 1007 = .ok (.iload 4, 2) := by decide +kernel
theorem d_Law_law_1009 : decode code 1009 = .ok (.iconst 2, 1) := by decide +kernel
theorem d_Law_law_1010 : decode code 1010 = .ok (.iadd, 1) := by decide +kernel
theorem d_Law_law_1011 : decode code 1011 = .ok (.iaload, 1) := by decide +kernel
theorem d_Law_law_1012 : decode code 1012 = .ok (.aload_n 0, 1) := by decide +kernel
theorem d_Law_law_1013 : decode code 1013 = .ok (.iload 4, 2) := by decide +kernel
theorem d_Law_law_1015 : decode code 1015 = .ok (.iconst 3, 1) := by decide +kernel
theorem d_Law_law_1016 : decode code 1016 = .ok (.iadd, 1) := by decide +kernel
theorem d_Law_law_1017 : decode code 1017 = .ok (.iaload, 1) := by decide +kernel
theorem d_Law_law_1018 : decode code 1018 = .ok (.aload_n 0, 1) := by decide +kernel
theorem d_Law_law_1019 : decode code 1019 = .ok (.iload 4, 2) := by decide +kernel
theorem d_Law_law_1021 : decode code 1021 = .ok (.iconst 4, 1) := by decide +kernel
theorem d_Law_law_1022 : decode code 1022 = .ok (.iadd, 1) := by decide +kernel
theorem d_Law_law_1023 : decode code 1023 = .ok (.iaload, 1) := by decide +kernel
theorem d_Law_law_1024 : decode code 1024 = .ok (.invokevirtual 153, 3) := by decide +kernel
theorem d_Law_law_1027 : decode code 1027 = .ok (.aload_n 2, 1) := by decide +kernel
theorem d_Law_law_1028 : decode code 1028 = .ok (.invokevirtual 106, 3) := by decide +kernel
theorem d_Law_law_1031 : decode code 1031 = .ok (.iload 5, 2) := by decide +kernel
theorem d_Law_law_1033 : decode code 1033 = .ok (.if_icmp .eq 5, 3) := by decide +kernel
theorem d_Law_law_1036 : decode code 1036 = .ok (.iconst 0, 1) := by decide +kernel
theorem d_Law_law_1037 : decode code 1037 = .ok (.ireturn, 1) := by decide +kernel
theorem d_Law_law_1038 : decode code 1038 = .ok (.goto 573, 3) := by decide +kernel
theorem d_Law_law_1041 : decode code 1041 = .ok (.aload_n 1, 1) := by decide +kernel
theorem d_Law_law_1042 : decode code 1042 = .ok (.aload_n 0, 1) := by decide +kernel
theorem d_Law_law_1043 : decode code 1043 = .ok (.iload 4, 2) := by decide +kernel
theorem d_Law_law_1045 : decode code 1045 = .ok (.iconst 1, 1) := by decide +kernel
theorem d_Law_law_1046 : decode code 1046 = .ok (.iadd, 1) := by decide +kernel
theorem d_Law_law_1047 : decode code 1047 = .ok (.iaload, 1) := by decide +kernel
theorem d_Law_law_1048 : decode code 1048 = .ok (.aload_n 0, 1) := by decide +kernel
theorem d_Law_law_1049 : decode code 1049 = .ok (.iload 4, 2) := by decide +kernel
theorem d_Law_law_1051 : decode code 1051 = .ok (.iconst 2, 1) := by decide +kernel
theorem d_Law_law_1052 : decode code 1052 = .ok (.iadd, 1) := by decide +kernel
theorem d_Law_law_1053 : decode code 1053 = .ok (.iaload, 1) := by decide +kernel
theorem d_Law_law_1054 : decode code 1054 = .ok (.aload_n 3, 1) := by decide +kernel
theorem d_Law_law_1055 : decode code 1055 = .ok (.invokestatic 154, 3) := by decide +kernel
theorem d_Law_law_1058 : decode code 1058 = .ok (.istore 5, 2) := by decide +kernel
theorem d_Law_law_1060 : decode code 1060 = .ok (.aload_n 2, 1) := by decide +kernel
theorem d_Law_law_1061 : decode code 1061 = .ok (.aload_n 0, 1) := by decide +kernel
theorem d_Law_law_1062 : decode code 1062 = .ok (.iload 4, 2) := by decide +kernel
theorem d_Law_law_1064 : decode code 1064 = .ok (.iconst 1, 1) := by decide +kernel
theorem d_Law_law_1065 : decode code 1065 = .ok (.iadd, 1) := by decide +kernel
theorem d_Law_law_1066 : decode code 1066 = .ok (.iaload, 1) := by decide +kernel
theorem d_Law_law_1067 : decode code 1067 = .ok (.aload_n 0, 1) := by decide +kernel
theorem d_Law_law_1068 : decode code 1068 = .ok (.iload 4, 2) := by decide +kernel
theorem d_Law_law_1070 : decode code 1070 = .ok (.iconst 2, 1) := by decide +kernel
theorem d_Law_law_1071 : decode code 1071 = .ok (.iadd, 1) := by decide +kernel
theorem d_Law_law_1072 : decode code 1072 = .ok (.iaload, 1) := by decide +kernel
theorem d_Law_law_1073 : decode code 1073 = .ok (.invokevirtual 156, 3) := by decide +kernel
theorem d_Law_law_1076 : decode code 1076 = .ok (.istore 6, 2) := by decide +kernel
theorem d_Law_law_1078 : decode code 1078 = .ok (.aload_n 2, 1) := by decide +kernel
theorem d_Law_law_1079 : decode code 1079 = .ok (.invokevirtual 106, 3) := by decide +kernel
theorem d_Law_law_1082 : decode code 1082 = .ok (.iload 5, 2) := by decide +kernel
theorem d_Law_law_1084 : decode code 1084 = .ok (.if_icmp .eq 5, 3) := by decide +kernel
theorem d_Law_law_1087 : decode code 1087 = .ok (.iconst 0, 1) := by decide +kernel
theorem d_Law_law_1088 : decode code 1088 = .ok (.ireturn, 1) := by decide +kernel
theorem d_Law_law_1089 : decode code 1089 = .ok (.iload 5, 2) := by decide +kernel
theorem d_Law_law_1091 : decode code 1091 = .ok (.ifCond .ne 22, 3) := by decide +kernel
theorem d_Law_law_1094 : decode code 1094 = .ok (.aload_n 3, 1) := by decide +kernel
theorem d_Law_law_1095 : decode code 1095 = .ok (.iconst 0, 1) := by decide +kernel
theorem d_Law_law_1096 : decode code 1096 = .ok (.laload, 1) := by decide +kernel
theorem d_Law_law_1097 : decode code 1097 = .ok (.iload 6, 2) := by decide +kernel
theorem d_Law_law_1099 : decode code 1099 = .ok (.ifCond .eq 7, 3) := by decide +kernel
theorem d_Law_law_1102 : decode code 1102 = .ok (.lconst 1, 1) := by decide +kernel
theorem d_Law_law_1103 : decode code 1103 = .ok (.goto 4, 3) := by decide +kernel
theorem d_Law_law_1106 : decode code 1106 = .ok (.lconst 0, 1) := by decide +kernel
theorem d_Law_law_1107 : decode code 1107 = .ok (.lcmp, 1) := by decide +kernel
theorem d_Law_law_1108 : decode code 1108 = .ok (.ifCond .eq 5, 3) := by decide +kernel
theorem d_Law_law_1111 : decode code 1111 = .ok (.iconst 0, 1) := by decide +kernel
theorem d_Law_law_1112 : decode code 1112 = .ok (.ireturn, 1) := by decide +kernel
theorem d_Law_law_1113 : decode code 1113 = .ok (.goto 498, 3) := by decide +kernel
theorem d_Law_law_1116 : decode code 1116 = .ok (.aload_n 1, 1) := by decide +kernel
theorem d_Law_law_1117 : decode code 1117 = .ok (.aload_n 0, 1) := by decide +kernel
theorem d_Law_law_1118 : decode code 1118 = .ok (.iload 4, 2) := by decide +kernel
theorem d_Law_law_1120 : decode code 1120 = .ok (.iconst 1, 1) := by decide +kernel
theorem d_Law_law_1121 : decode code 1121 = .ok (.iadd, 1) := by decide +kernel
theorem d_Law_law_1122 : decode code 1122 = .ok (.iaload, 1) := by decide +kernel
theorem d_Law_law_1123 : decode code 1123 = .ok (.aload_n 0, 1) := by decide +kernel
theorem d_Law_law_1124 : decode code 1124 = .ok (.iload 4, 2) := by decide +kernel
theorem d_Law_law_1126 : decode code 1126 = .ok (.iconst 2, 1) := by decide +kernel
theorem d_Law_law_1127 : decode code 1127 = .ok (.iadd, 1) := by decide +kernel
theorem d_Law_law_1128 : decode code 1128 = .ok (.iaload, 1) := by decide +kernel
theorem d_Law_law_1129 : decode code 1129 = .ok (.invokestatic 157, 3) := by decide +kernel
theorem d_Law_law_1132 : decode code 1132 = .ok (.istore 5, 2) := by decide +kernel
theorem d_Law_law_1134 : decode code 1134 = .ok (.aload_n 2, 1) := by decide +kernel
theorem d_Law_law_1135 : decode code 1135 = .ok (.aload_n 0, 1) := by decide +kernel
theorem d_Law_law_1136 : decode code 1136 = .ok (.iload 4, 2) := by decide +kernel
theorem d_Law_law_1138 : decode code 1138 = .ok (.iconst 1, 1) := by decide +kernel
theorem d_Law_law_1139 : decode code 1139 = .ok (.iadd, 1) := by decide +kernel
theorem d_Law_law_1140 : decode code 1140 = .ok (.iaload, 1) := by decide +kernel
theorem d_Law_law_1141 : decode code 1141 = .ok (.aload_n 0, 1) := by decide +kernel
theorem d_Law_law_1142 : decode code 1142 = .ok (.iload 4, 2) := by decide +kernel
theorem d_Law_law_1144 : decode code 1144 = .ok (.iconst 2, 1) := by decide +kernel
theorem d_Law_law_1145 : decode code 1145 = .ok (.iadd, 1) := by decide +kernel
theorem d_Law_law_1146 : decode code 1146 = .ok (.iaload, 1) := by decide +kernel
theorem d_Law_law_1147 : decode code 1147 = .ok (.invokevirtual 159, 3) := by decide +kernel
theorem d_Law_law_1150 : decode code 1150 = .ok (.aload_n 2, 1) := by decide +kernel
theorem d_Law_law_1151 : decode code 1151 = .ok (.invokevirtual 106, 3) := by decide +kernel
theorem d_Law_law_1154 : decode code 1154 = .ok (.iload 5, 2) := by decide +kernel
theorem d_Law_law_1156 : decode code 1156 = .ok (.if_icmp .eq 5, 3) := by decide +kernel
theorem d_Law_law_1159 : decode code 1159 = .ok (.iconst 0, 1) := by decide +kernel
theorem d_Law_law_1160 : decode code 1160 = .ok (.ireturn, 1) := by decide +kernel
theorem d_Law_law_1161 : decode code 1161 = .ok (.goto 450, 3) := by decide +kernel
theorem d_Law_law_1164 : decode code 1164 = .ok (.aload_n 1, 1) := by decide +kernel
theorem d_Law_law_1165 : decode code 1165 = .ok (.aload_n 0, 1) := by decide +kernel
theorem d_Law_law_1166 : decode code 1166 = .ok (.iload 4, 2) := by decide +kernel
theorem d_Law_law_1168 : decode code 1168 = .ok (.iconst 1, 1) := by decide +kernel
theorem d_Law_law_1169 : decode code 1169 = .ok (.iadd, 1) := by decide +kernel
theorem d_Law_law_1170 : decode code 1170 = .ok (.iaload, 1) := by decide +kernel
theorem d_Law_law_1171 : decode code 1171 = .ok (.aload_n 0, 1) := by decide +kernel
theorem d_Law_law_1172 : decode code 1172 = .ok (.iload 4, 2) := by decide +kernel
theorem d_Law_law_1174 : decode code 1174 = .ok (.iconst 2, 1) := by decide +kernel
theorem d_Law_law_1175 : decode code 1175 = .ok (.iadd, 1) := by decide +kernel
theorem d_Law_law_1176 : decode code 1176 = .ok (.iaload, 1) := by decide +kernel
theorem d_Law_law_1177 : decode code 1177 = .ok (.aload_n 0, 1) := by decide +kernel
theorem d_Law_law_1178 : decode code 1178 = .ok (.iload 4, 2) := by decide +kernel
theorem d_Law_law_1180 : decode code 1180 = .ok (.iconst 3, 1) := by decide +kernel
theorem d_Law_law_1181 : decode code 1181 = .ok (.iadd, 1) := by decide +kernel
theorem d_Law_law_1182 : decode code 1182 = .ok (.iaload, 1) := by decide +kernel
theorem d_Law_law_1183 : decode code 1183 = .ok (.invokestatic 160, 3) := by decide +kernel
theorem d_Law_law_1186 : decode code 1186 = .ok (.istore 5, 2) := by decide +kernel
theorem d_Law_law_1188 : decode code 1188 = .ok (.aload_n 2, 1) := by decide +kernel
theorem d_Law_law_1189 : decode code 1189 = .ok (.aload_n 0, 1) := by decide +kernel
theorem d_Law_law_1190 : decode code 1190 = .ok (.iload 4, 2) := by decide +kernel
theorem d_Law_law_1192 : decode code 1192 = .ok (.iconst 1, 1) := by decide +kernel
theorem d_Law_law_1193 : decode code 1193 = .ok (.iadd, 1) := by decide +kernel
theorem d_Law_law_1194 : decode code 1194 = .ok (.iaload, 1) := by decide +kernel
theorem d_Law_law_1195 : decode code 1195 = .ok (.aload_n 0, 1) := by decide +kernel
theorem d_Law_law_1196 : decode code 1196 = .ok (.iload 4, 2) := by decide +kernel
theorem d_Law_law_1198 : decode code 1198 = .ok (.iconst 2, 1) := by decide +kernel
theorem d_Law_law_1199 : decode code 1199 = .ok (.iadd, 1) := by decide +kernel
theorem d_Law_law_1200 : decode code 1200 = .ok (.iaload, 1) := by decide +kernel
theorem d_Law_law_1201 : decode code 1201 = .ok (.aload_n 0, 1) := by decide +kernel
theorem d_Law_law_1202 : decode code 1202 = .ok (.iload 4, 2) := by decide +kernel
theorem d_Law_law_1204 : decode code 1204 = .ok (.iconst 3, 1) := by decide +kernel
theorem d_Law_law_1205 : decode code 1205 = .ok (.iadd, 1) := by decide +kernel
theorem d_Law_law_1206 : decode code 1206 = .ok (.iaload, 1) := by decide +kernel
theorem d_Law_law_1207 : decode code 1207 = .ok (.invokevirtual 162, 3) := by decide +kernel
theorem d_Law_law_1210 : decode code 1210 = .ok (.aload_n 2, 1) := by decide +kernel
theorem d_Law_law_1211 : decode code 1211 = .ok (.invokevirtual 106, 3) := by decide +kernel
theorem d_Law_law_1214 : decode code 1214 = .ok (.iload 5, 2) := by decide +kernel
theorem d_Law_law_1216 : decode code 1216 = .ok (.if_icmp .eq 5, 3) := by decide +kernel
theorem d_Law_law_1219 : decode code 1219 = .ok (.iconst 0, 1) := by decide +kernel
theorem d_Law_law_1220 : decode code 1220 = .ok (.ireturn, 1) := by decide +kernel
theorem d_Law_law_1221 : decode code 1221 = .ok (.goto 390, 3) := by decide +kernel
theorem d_Law_law_1224 : decode code 1224 = .ok (.aload_n 1, 1) := by decide +kernel
theorem d_Law_law_1225 : decode code 1225 = .ok (.aload_n 0, 1) := by decide +kernel
theorem d_Law_law_1226 : decode code 1226 = .ok (.iload 4, 2) := by decide +kernel
theorem d_Law_law_1228 : decode code 1228 = .ok (.iconst 1, 1) := by decide +kernel
theorem d_Law_law_1229 : decode code 1229 = .ok (.iadd, 1) := by decide +kernel
theorem d_Law_law_1230 : decode code 1230 = .ok (.iaload, 1) := by decide +kernel
theorem d_Law_law_1231 : decode code 1231 = .ok (.aload_n 0, 1) := by decide +kernel
theorem d_Law_law_1232 : decode code 1232 = .ok (.iload 4, 2) := by decide +kernel
theorem d_Law_law_1234 : decode code 1234 = .ok (.iconst 2, 1) := by decide +kernel
theorem d_Law_law_1235 : decode code 1235 = .ok (.iadd, 1) := by decide +kernel
theorem d_Law_law_1236 : decode code 1236 = .ok (.iaload, 1) := by decide +kernel
theorem d_Law_law_1237 : decode code 1237 = .ok (.aload_n 0, 1) := by decide +kernel
theorem d_Law_law_1238 : decode code 1238 = .ok (.iload 4, 2) := by decide +kernel
theorem d_Law_law_1240 : decode code 1240 = .ok (.iconst 3, 1) := by decide +kernel
theorem d_Law_law_1241 : decode code 1241 = .ok (.iadd, 1) := by decide +kernel
theorem d_Law_law_1242 : decode code 1242 = .ok (.iaload, 1) := by decide +kernel
theorem d_Law_law_1243 : decode code 1243 = .ok (.aload_n 0, 1) := by decide +kernel
theorem d_Law_law_1244 : decode code 1244 = .ok (.iload 4, 2) := by decide +kernel
theorem d_Law_law_1246 : decode code 1246 = .ok (.iconst 4, 1) := by decide +kernel
theorem d_Law_law_1247 : decode code 1247 = .ok (.iadd, 1) := by decide +kernel
theorem d_Law_law_1248 : decode code 1248 = .ok (.iaload, 1) := by decide +kernel
theorem d_Law_law_1249 : decode code 1249 = .ok (.invokestatic 163, 3) := by decide +kernel
theorem d_Law_law_1252 : decode code 1252 = .ok (.istore 5, 2) := by decide +kernel
theorem d_Law_law_1254 : decode code 1254 = .ok (.aload_n 2, 1) := by decide +kernel
theorem d_Law_law_1255 : decode code 1255 = .ok (.aload_n 0, 1) := by decide +kernel
theorem d_Law_law_1256 : decode code 1256 = .ok (.iload 4, 2) := by decide +kernel
theorem d_Law_law_1258 : decode code 1258 = .ok (.iconst 1, 1) := by decide +kernel
theorem d_Law_law_1259 : decode code 1259 = .ok (.iadd, 1) := by decide +kernel
theorem d_Law_law_1260 : decode code 1260 = .ok (.iaload, 1) := by decide +kernel
theorem d_Law_law_1261 : decode code 1261 = .ok (.aload_n 0, 1) := by decide +kernel
theorem d_Law_law_1262 : decode code 1262 = .ok (.iload 4, 2) := by decide +kernel
theorem d_Law_law_1264 : decode code 1264 = .ok (.iconst 2, 1) := by decide +kernel
theorem d_Law_law_1265 : decode code 1265 = .ok (.iadd, 1) := by decide +kernel
theorem d_Law_law_1266 : decode code 1266 = .ok (.iaload, 1) := by decide +kernel
theorem d_Law_law_1267 : decode code 1267 = .ok (.aload_n 0, 1) := by decide +kernel
theorem d_Law_law_1268 : decode code 1268 = .ok (.iload 4, 2) := by decide +kernel
theorem d_Law_law_1270 : decode code 1270 = .ok (.iconst 3, 1) := by decide +kernel
theorem d_Law_law_1271 : decode code 1271 = .ok (.iadd, 1) := by decide +kernel
theorem d_Law_law_1272 : decode code 1272 = .ok (.iaload, 1) := by decide +kernel
theorem d_Law_law_1273 : decode code 1273 = .ok (.aload_n 0, 1) := by decide +kernel
theorem d_Law_law_1274 : decode code 1274 = .ok (.iload 4, 2) := by decide +kernel
theorem d_Law_law_1276 : decode code 1276 = .ok (.iconst 4, 1) := by decide +kernel
theorem d_Law_law_1277 : decode code 1277 = .ok (.iadd, 1) := by decide +kernel
theorem d_Law_law_1278 : decode code 1278 = .ok (.iaload, 1) := by decide +kernel
theorem d_Law_law_1279 : decode code 1279 = .ok (.invokevirtual 165, 3) := by decide +kernel
theorem d_Law_law_1282 : decode code 1282 = .ok (.aload_n 2, 1) := by decide +kernel
theorem d_Law_law_1283 : decode code 1283 = .ok (.invokevirtual 106, 3) := by decide +kernel
theorem d_Law_law_1286 : decode code 1286 = .ok (.iload 5, 2) := by decide +kernel
theorem d_Law_law_1288 : decode code 1288 = .ok (.if_icmp .eq 5, 3) := by decide +kernel
theorem d_Law_law_1291 : decode code 1291 = .ok (.iconst 0, 1) := by decide +kernel
theorem d_Law_law_1292 : decode code 1292 = .ok (.ireturn, 1) := by decide +kernel
theorem d_Law_law_1293 : decode code 1293 = .ok (.goto 318, 3) := by decide +kernel
theorem d_Law_law_1296 : decode code 1296 = .ok (.aload_n 1, 1) := by decide +kernel
theorem d_Law_law_1297 : decode code 1297 = .ok (.aload_n 0, 1) := by decide +kernel
theorem d_Law_law_1298 : decode code 1298 = .ok (.iload 4, 2) := by decide +kernel
theorem d_Law_law_1300 : decode code 1300 = .ok (.iconst 1, 1) := by decide +kernel
theorem d_Law_law_1301 : decode code 1301 = .ok (.iadd, 1) := by decide +kernel
theorem d_Law_law_1302 : decode code 1302 = .ok (.iaload, 1) := by decide +kernel
theorem d_Law_law_1303 : decode code 1303 = .ok (.aload_n 0, 1) := by decide +kernel
theorem d_Law_law_1304 : decode code 1304 = .ok (.iload 4, 2) := by decide +kernel
theorem d_Law_law_1306 : decode code 1306 = .ok (.iconst 2, 1) := by decide +kernel
theorem d_Law_law_1307 : decode code 1307 = .ok (.iadd, 1) := by decide +kernel
theorem d_Law_law_1308 : decode code 1308 = .ok (.iaload, 1) := by decide +kernel
theorem d_Law_law_1309 : decode code 1309 = .ok (.aload_n 0, 1) := by decide +kernel
theorem d_Law_law_1310 : decode code 1310 = .ok (.iload 4, 2) := by decide +kernel
theorem d_Law_law_1312 : decode code 1312 = .ok (.iconst 3, 1) := by decide +kernel
theorem d_Law_law_1313 : decode code 1313 = .ok (.iadd, 1) := by decide +kernel
theorem d_Law_law_1314 : decode code 1314 = .ok (.iaload, 1) := by decide +kernel
theorem d_Law_law_1315 : decode code 1315 = .ok (.aload_n 0, 1) := by decide +kernel
theorem d_Law_law_1316 : decode code 1316 = .ok (.iload 4, 2) := by decide +kernel
theorem d_Law_law_1318 : decode code 1318 = .ok (.iconst 4, 1) := by decide +kernel
theorem d_Law_law_1319 : decode code 1319 = .ok (.iadd, 1) := by decide +kernel
theorem d_Law_law_1320 : decode code 1320 = .ok (.iaload, 1) := by decide +kernel
theorem d_Law_law_1321 : decode code 1321 = .ok (.aload_n 0, 1) := by decide +kernel
theorem d_Law_law_1322 : decode code 1322 = .ok (.iload 4, 2) := by decide +kernel
theorem d_Law_law_1324 : decode code 1324 = .ok (.iconst 5, 1) := by decide +kernel
theorem d_Law_law_1325 : decode code 1325 = .ok (.iadd, 1) := by decide +kernel
theorem d_Law_law_1326 : decode code 1326 = .ok (.iaload, 1) := by decide +kernel
theorem d_Law_law_1327 : decode code 1327 = .ok (.aload_n 3, 1) := by decide +kernel
theorem d_Law_law_1328 : decode code 1328 = .ok (.invokestatic 166, 3) := by decide +kernel
theorem d_Law_law_1331 : decode code 1331 = .ok (.istore 5, 2) := by decide +kernel
theorem d_Law_law_1333 : decode code 1333 = .ok (.aload_n 2, 1) := by decide +kernel
theorem d_Law_law_1334 : decode code 1334 = .ok (.aload_n 0, 1) := by decide +kernel
theorem d_Law_law_1335 : decode code 1335 = .ok (.iload 4, 2) := by decide +kernel
theorem d_Law_law_1337 : decode code 1337 = .ok (.iconst 1, 1) := by decide +kernel
theorem d_Law_law_1338 : decode code 1338 = .ok (.iadd, 1) := by decide +kernel
theorem d_Law_law_1339 : decode code 1339 = .ok (.iaload, 1) := by decide +kernel
theorem d_Law_law_1340 : decode code 1340 = .ok (.aload_n 0, 1) := by decide +kernel
theorem d_Law_law_1341 : decode code 1341 = .ok (.iload 4, 2) := by decide +kernel
theorem d_Law_law_1343 : decode code 1343 = .ok (.iconst 2, 1) := by decide +kernel
theorem d_Law_law_1344 : decode code 1344 = .ok (.iadd, 1) := by decide +kernel
theorem d_Law_law_1345 : decode code 1345 = .ok (.iaload, 1) := by decide +kernel
theorem d_Law_law_1346 : decode code 1346 = .ok (.aload_n 0, 1) := by decide +kernel
theorem d_Law_law_1347 : decode code 1347 = .ok (.iload 4, 2) := by decide +kernel
theorem d_Law_law_1349 : decode code 1349 = .ok (.iconst 3, 1) := by decide +kernel
theorem d_Law_law_1350 : decode code 1350 = .ok (.iadd, 1) := by decide +kernel
theorem d_Law_law_1351 : decode code 1351 = .ok (.iaload, 1) := by decide +kernel
theorem d_Law_law_1352 : decode code 1352 = .ok (.aload_n 0, 1) := by decide +kernel
theorem d_Law_law_1353 : decode code 1353 = .ok (.iload 4, 2) := by decide +kernel
theorem d_Law_law_1355 : decode code 1355 = .ok (.iconst 4, 1) := by decide +kernel
theorem d_Law_law_1356 : decode code 1356 = .ok (.iadd, 1) := by decide +kernel
theorem d_Law_law_1357 : decode code 1357 = .ok (.iaload, 1) := by decide +kernel
theorem d_Law_law_1358 : decode code 1358 = .ok (.aload_n 0, 1) := by decide +kernel
theorem d_Law_law_1359 : decode code 1359 = .ok (.iload 4, 2) := by decide +kernel
theorem d_Law_law_1361 : decode code 1361 = .ok (.iconst 5, 1) := by decide +kernel
theorem d_Law_law_1362 : decode code 1362 = .ok (.iadd, 1) := by decide +kernel
theorem d_Law_law_1363 : decode code 1363 = .ok (.iaload, 1) := by decide +kernel
theorem d_Law_law_1364 : decode code 1364 = .ok (.invokevirtual 169, 3) := by decide +kernel
theorem d_Law_law_1367 : decode code 1367 = .ok (.istore 6, 2) := by decide +kernel
theorem d_Law_law_1369 : decode code 1369 = .ok (.aload_n 2, 1) := by decide +kernel
theorem d_Law_law_1370 : decode code 1370 = .ok (.invokevirtual 106, 3) := by decide +kernel
theorem d_Law_law_1373 : decode code 1373 = .ok (.iload 5, 2) := by decide +kernel
theorem d_Law_law_1375 : decode code 1375 = .ok (.if_icmp .eq 5, 3) := by decide +kernel
theorem d_Law_law_1378 : decode code 1378 = .ok (.iconst 0, 1) := by decide +kernel
theorem d_Law_law_1379 : decode code 1379 = .ok (.ireturn, 1) := by decide +kernel
theorem d_Law_law_1380 : decode code 1380 = .ok (.iload 5, 2) := by decide +kernel
theorem d_Law_law_1382 : decode code 1382 = .ok (.ifCond .ne 22, 3) := by decide +kernel
theorem d_Law_law_1385 : decode code 1385 = .ok (.aload_n 3, 1) := by decide +kernel
theorem d_Law_law_1386 : decode code 1386 = .ok (.iconst 0, 1) := by decide +kernel
theorem d_Law_law_1387 : decode code 1387 = .ok (.laload, 1) := by decide +kernel
theorem d_Law_law_1388 : decode code 1388 = .ok (.iload 6, 2) := by decide +kernel
theorem d_Law_law_1390 : decode code 1390 = .ok (.ifCond .eq 7, 3) := by decide +kernel
theorem d_Law_law_1393 : decode code 1393 = .ok (.lconst 1, 1) := by decide +kernel
theorem d_Law_law_1394 : decode code 1394 = .ok (.goto 4, 3) := by decide +kernel
theorem d_Law_law_1397 : decode code 1397 = .ok (.lconst 0, 1) := by decide +kernel
theorem d_Law_law_1398 : decode code 1398 = .ok (.lcmp, 1) := by decide +kernel
theorem d_Law_law_1399 : decode code 1399 = .ok (.ifCond .eq 5, 3) := by decide +kernel
theorem d_Law_law_1402 : decode code 1402 = .ok (.iconst 0, 1) := by decide +kernel
theorem d_Law_law_1403 : decode code 1403 = .ok (.ireturn, 1) := by decide +kernel
theorem d_Law_law_1404 : decode code 1404 = .ok (.goto 207, 3) := by decide +kernel
theorem d_Law_law_1407 : decode code 1407 = .ok (.aload_n 1, 1) := by decide +kernel
theorem d_Law_law_1408 : decode code 1408 = .ok (.aload_n 0, 1) := by decide +kernel
theorem d_Law_law_1409 : decode code 1409 = .ok (.iload 4, 2) := by decide +kernel
theorem d_Law_law_1411 : decode code 1411 = .ok (.iconst 1, 1) := by decide +kernel
theorem d_Law_law_1412 : decode code 1412 = .ok (.iadd, 1) := by decide +kernel
theorem d_Law_law_1413 : decode code 1413 = .ok (.iaload, 1) := by decide +kernel
theorem d_Law_law_1414 : decode code 1414 = .ok (.aload_n 0, 1) := by decide +kernel
theorem d_Law_law_1415 : decode code 1415 = .ok (.iload 4, 2) := by decide +kernel
theorem d_Law_law_1417 : decode code 1417 = .ok (.iconst 2, 1) := by decide +kernel
theorem d_Law_law_1418 : decode code 1418 = .ok (.iadd, 1) := by decide +kernel
theorem d_Law_law_1419 : decode code 1419 = .ok (.iaload, 1) := by decide +kernel
theorem d_Law_law_1420 : decode code 1420 = .ok (.aload_n 0, 1) := by decide +kernel
theorem d_Law_law_1421 : decode code 1421 = .ok (.iload 4, 2) := by decide +kernel
theorem d_Law_law_1423 : decode code 1423 = .ok (.iconst 3, 1) := by decide +kernel
theorem d_Law_law_1424 : decode code 1424 = .ok (.iadd, 1) := by decide +kernel
theorem d_Law_law_1425 : decode code 1425 = .ok (.iaload, 1) := by decide +kernel
theorem d_Law_law_1426 : decode code 1426 = .ok (.ifCond .eq 7, 3) := by decide +kernel
theorem d_Law_law_1429 : decode code 1429 = .ok (.iconst 1, 1) := by decide +kernel
theorem d_Law_law_1430 : decode code 1430 = .ok (.goto 4, 3) := by decide +kernel
theorem d_Law_law_1433 : decode code 1433 = .ok (.iconst 0, 1) := by decide +kernel
theorem d_Law_law_1434 : decode code 1434 = .ok (.invokestatic 170, 3) := by decide +kernel
theorem d_Law_law_1437 : decode code 1437 = .ok (.istore 5, 2) := by decide +kernel
theorem d_Law_law_1439 : decode code 1439 = .ok (.aload_n 2, 1) := by decide +kernel
theorem d_Law_law_1440 : decode code 1440 = .ok (.aload_n 0, 1) := by decide +kernel
theorem d_Law_law_1441 : decode code 1441 = .ok (.iload 4, 2) := by decide +kernel
theorem d_Law_law_1443 : decode code 1443 = .ok (.iconst 1, 1) := by decide +kernel
theorem d_Law_law_1444 : decode code 1444 = .ok (.iadd, 1) := by decide +kernel
theorem d_Law_law_1445 : decode code 1445 = .ok (.iaload, 1) := by decide +kernel
theorem d_Law_law_1446 : decode code 1446 = .ok (.aload_n 0, 1) := by decide +kernel
theorem d_Law_law_1447 : decode code 1447 = .ok (.iload 4, 2) := by decide +kernel
theorem d_Law_law_1449 : decode code 1449 = .ok (.iconst 2, 1) := by decide +kernel
theorem d_Law_law_1450 : decode code 1450 = .ok (.iadd, 1) := by decide +kernel
theorem d_Law_law_1451 : decode code 1451 = .ok (.iaload, 1) := by decide +kernel
theorem d_Law_law_1452 : decode code 1452 = .ok (.aload_n 0, 1) := by decide +kernel
theorem d_Law_law_1453 : decode code 1453 = .ok (.iload 4, 2) := by decide +kernel
theorem d_Law_law_1455 : decode code 1455 = .ok (.iconst 3, 1) := by decide +kernel
theorem d_Law_law_1456 : decode code 1456 = .ok (.iadd, 1) := by decide +kernel
theorem d_Law_law_1457 : decode code 1457 = .ok (.iaload, 1) := by decide +kernel
theorem d_Law_law_1458 : decode code 1458 = .ok (.ifCond .eq 7, 3) := by decide +kernel
theorem d_Law_law_1461 : decode code 1461 = .ok (.iconst 1, 1) := by decide +kernel
theorem d_Law_law_1462 : decode code 1462 = .ok (.goto 4, 3) := by decide +kernel
theorem d_Law_law_1465 : decode code 1465 = .ok (.iconst 0, 1) := by decide +kernel
theorem d_Law_law_1466 : decode code 1466 = .ok (.invokevirtual 173, 3) := by decide +kernel
theorem d_Law_law_1469 : decode code 1469 = .ok (.aload_n 2, 1) := by decide +kernel
theorem d_Law_law_1470 : decode code 1470 = .ok (.invokevirtual 106, 3) := by decide +kernel
theorem d_Law_law_1473 : decode code 1473 = .ok (.iload 5, 2) := by decide +kernel
theorem d_Law_law_1475 : decode code 1475 = .ok (.if_icmp .eq 5, 3) := by decide +kernel
theorem d_Law_law_1478 : decode code 1478 = .ok (.iconst 0, 1) := by decide +kernel
theorem d_Law_law_1479 : decode code 1479 = .ok (.ireturn, 1) := by decide +kernel
theorem d_Law_law_1480 : decode code 1480 = .ok (.goto 131, 3) := by decide +kernel
theorem d_Law_law_1483 : decode code 1483 = .ok (.aload_n 1, 1) := by decide +kernel
theorem d_Law_law_1484 : decode code 1484 = .ok (.aload_n 0, 1) := by decide +kernel
theorem d_Law_law_1485 : decode code 1485 = .ok (.iload 4, 2) := by decide +kernel
theorem d_Law_law_1487 : decode code 1487 = .ok (.iconst 1, 1) := by decide +kernel
theorem d_Law_law_1488 : decode code 1488 = .ok (.iadd, 1) := by decide +kernel
theorem d_Law_law_1489 : decode code 1489 = .ok (.iaload, 1) := by decide +kernel
theorem d_Law_law_1490 : decode code 1490 = .ok (.aload_n 0, 1) := by decide +kernel
theorem d_Law_law_1491 : decode code 1491 = .ok (.iload 4, 2) := by decide +kernel
theorem d_Law_law_1493 : decode code 1493 = .ok (.iconst 2, 1) := by decide +kernel
theorem d_Law_law_1494 : decode code 1494 = .ok (.iadd, 1) := by decide +kernel
theorem d_Law_law_1495 : decode code 1495 = .ok (.iaload, 1) := by decide +kernel
theorem d_Law_law_1496 : decode code 1496 = .ok (.aload_n 0, 1) := by decide +kernel
theorem d_Law_law_1497 : decode code 1497 = .ok (.iload 4, 2) := by decide +kernel
theorem d_Law_law_1499 : decode code 1499 = .ok (.iconst 3, 1) := by decide +kernel
theorem d_Law_law_1500 : decode code 1500 = .ok (.iadd, 1) := by decide +kernel
theorem d_Law_law_1501 : decode code 1501 = .ok (.iaload, 1) := by decide +kernel
theorem d_Law_law_1502 : decode code 1502 = .ok (.aload_n 0, 1) := by decide +kernel
theorem d_Law_law_1503 : decode code 1503 = .ok (.iload 4, 2) := by decide +kernel
theorem d_Law_law_1505 : decode code 1505 = .ok (.iconst 4, 1) := by decide +kernel
theorem d_Law_law_1506 : decode code 1506 = .ok (.iadd, 1) := by decide +kernel
theorem d_Law_law_1507 : decode code 1507 = .ok (.iaload, 1) := by decide +kernel
theorem d_Law_law_1508 : decode code 1508 = .ok (.invokestatic 174, 3) := by decide +kernel
theorem d_Law_law_1511 : decode code 1511 = .ok (.istore 5, 2) := by decide +kernel
theorem d_Law_law_1513 : decode code 1513 = .ok (.aload_n 2, 1) := by decide +kernel
theorem d_Law_law_1514 : decode code 1514 = .ok (.aload_n 0, 1) := by decide +kernel
theorem d_Law_law_1515 : decode code 1515 = .ok (.iload 4, 2) := by decide +kernel
theorem d_Law_law_1517 : decode code 1517 = .ok (.iconst 1, 1) := by decide +kernel
theorem d_Law_law_1518 : decode code 1518 = .ok (.iadd, 1) := by decide +kernel
theorem d_Law_law_1519 : decode code 1519 = .ok (.iaload, 1) := by decide +kernel
theorem d_Law_law_1520 : decode code 1520 = .ok (.aload_n 0, 1) := by decide +kernel
theorem d_Law_law_1521 : decode code 1521 = .ok (.iload 4, 2) := by decide +kernel
theorem d_Law_law_1523 : decode code 1523 = .ok (.iconst 2, 1) := by decide +kernel
theorem d_Law_law_1524 : decode code 1524 = .ok (.iadd, 1) := by decide +kernel
theorem d_Law_law_1525 : decode code 1525 = .ok (.iaload, 1) := by decide +kernel
theorem d_Law_law_1526 : decode code 1526 = .ok (.aload_n 0, 1) := by decide +kernel
theorem d_Law_law_1527 : decode code 1527 = .ok (.iload 4, 2) := by decide +kernel
theorem d_Law_law_1529 : decode code 1529 = .ok (.iconst 3, 1) := by decide +kernel
theorem d_Law_law_1530 : decode code 1530 = .ok (.iadd, 1) := by decide +kernel
theorem d_Law_law_1531 : decode code 1531 = .ok (.iaload, 1) := by decide +kernel
theorem d_Law_law_1532 : decode code 1532 = .ok (.aload_n 0, 1) := by decide +kernel
theorem d_Law_law_1533 : decode code 1533 = .ok (.iload 4, 2) := by decide +kernel
theorem d_Law_law_1535 : decode code 1535 = .ok (.iconst 4, 1) := by decide +kernel
theorem d_Law_law_1536 : decode code 1536 = .ok (.iadd, 1) := by decide +kernel
theorem d_Law_law_1537 : decode code 1537 = .ok (.iaload, 1) := by decide +kernel
theorem d_Law_law_1538 : decode code 1538 = .ok (.invokevirtual 176, 3) := by decide +kernel
theorem d_Law_law_1541 : decode code 1541 = .ok (.aload_n 2, 1) := by decide +kernel
theorem d_Law_law_1542 : decode code 1542 = .ok (.invokevirtual 106, 3) := by decide +kernel
theorem d_Law_law_1545 : decode code 1545 = .ok (.iload 5, 2) := by decide +kernel
theorem d_Law_law_1547 : decode code 1547 = .ok (.if_icmp .eq 5, 3) := by decide +kernel
theorem d_Law_law_1550 : decode code 1550 = .ok (.iconst 0, 1) := by decide +kernel
theorem d_Law_law_1551 : decode code 1551 = .ok (.ireturn, 1) := by decide +kernel
theorem d_Law_law_1552 : decode code 1552 = .ok (.goto 59, 3) := by decide +kernel
theorem d_Law_law_1555 : decode code 1555 = .ok (.aload_n 1, 1) := by decide +kernel
theorem d_Law_law_1556 : decode code 1556 = .ok (.aload_n 0, 1) := by decide +kernel
theorem d_Law_law_1557 : decode code 1557 = .ok (.iload 4, 2) := by decide +kernel
theorem d_Law_law_1559 : decode code 1559 = .ok (.iconst 1, 1) := by decide +kernel
theorem d_Law_law_1560 : decode code 1560 = .ok (.iadd, 1) := by decide +kernel
theorem d_Law_law_1561 : decode code 1561 = .ok (.iaload, 1) := by decide +kernel
theorem d_Law_law_1562 : decode code 1562 = .ok (.aload_n 3, 1) := by decide +kernel
theorem d_Law_law_1563 : decode code 1563 = .ok (.invokestatic 177, 3) := by decide +kernel
theorem d_Law_law_1566 : decode code 1566 = .ok (.istore 5, 2) := by decide +kernel
theorem d_Law_law_1568 : decode code 1568 = .ok (.aload_n 2, 1) := by decide +kernel
theorem d_Law_law_1569 : decode code 1569 = .ok (.aload_n 0, 1) := by decide +kernel
theorem d_Law_law_1570 : decode code 1570 = .ok (.iload 4, 2) := by decide +kernel
theorem d_Law_law_1572 : decode code 1572 = .ok (.iconst 1, 1) := by decide +kernel
theorem d_Law_law_1573 : decode code 1573 = .ok (.iadd, 1) := by decide +kernel
theorem d_Law_law_1574 : decode code 1574 = .ok (.iaload, 1) := by decide +kernel
theorem d_Law_law_1575 : decode code 1575 = .ok (.invokevirtual 179, 3) := by decide +kernel
theorem d_Law_law_1578 : decode code 1578 = .ok (.istore 6, 2) := by decide +kernel
theorem d_Law_law_1580 : decode code 1580 = .ok (.aload_n 2, 1) := by decide +kernel
theorem d_Law_law_1581 : decode code 1581 = .ok (.invokevirtual 106, 3) := by decide +kernel
theorem d_Law_law_1584 : decode code 1584 = .ok (.iload 5, 2) := by decide +kernel
theorem d_Law_law_1586 : decode code 1586 = .ok (.if_icmp .eq 5, 3) := by decide +kernel
theorem d_Law_law_1589 : decode code 1589 = .ok (.iconst 0, 1) := by decide +kernel
theorem d_Law_law_1590 : decode code 1590 = .ok (.ireturn, 1) := by decide +kernel
theorem d_Law_law_1591 : decode code 1591 = .ok (.iload 5, 2) := by decide +kernel
theorem d_Law_law_1593 : decode code 1593 = .ok (.ifCond .ne 15, 3) := by decide +kernel
theorem d_Law_law_1596 : decode code 1596 = .ok (.aload_n 3, 1) := by decide +kernel
theorem d_Law_law_1597 : decode code 1597 = .ok (.iconst 0, 1) := by decide +kernel
theorem d_Law_law_1598 : decode code 1598 = .ok (.laload, 1) := by decide +kernel
theorem d_Law_law_1599 : decode code 1599 = .ok (.iload 6, 2) := by decide +kernel
theorem d_Law_law_1601 : decode code 1601 = .ok (.i2l, 1) := by decide +kernel
theorem d_Law_law_1602 : decode code 1602 = .ok (.lcmp, 1) := by decide +kernel
theorem d_Law_law_1603 : decode code 1603 = .ok (.ifCond .eq 5, 3) := by decide +kernel
theorem d_Law_law_1606 : decode code 1606 = .ok (.iconst 0, 1) := by decide +kernel
theorem d_Law_law_1607 : decode code 1607 = .ok (.ireturn, 1) := by decide +kernel
theorem d_Law_law_1608 : decode code 1608 = .ok (.goto 3, 3) := by decide +kernel
theorem d_Law_law_1611 : decode code 1611 = .ok (.iinc 4 6, 3) := by decide +kernel
theorem d_Law_law_1614 : decode code 1614 = .ok (.goto (-1591), 3) := by decide +kernel
theorem d_Law_law_1617 : decode code 1617 = .ok (.iconst 1, 1) := by decide +kernel
theorem d_Law_law_1618 : decode code 1618 = .ok (.ireturn, 1) := by decide +kernel
