abbrev y_Law_law : MethodName := ⟨"KateDeskLaw", "law", "([I)Z"⟩
theorem hd_Law_law : y_Law_law.cls ≠ "java/lang/invoke/MethodHandle" ∧ y_Law_law.cls ≠ "java/lang/invoke/VarHandle" ∧ (parseMethodDescriptor y_Law_law.desc).map (fun d => d.parameters.length) = some 1 := by decide +kernel
theorem d_Law_law_0 : decode code 0 = .ok (.new 8, 3) := by decide +kernel
theorem d_Law_law_3 : decode code 3 = .ok (.dup, 1) := by decide +kernel
theorem d_Law_law_4 : decode code 4 = .ok (.invokespecial 94, 3) := by decide +kernel
theorem d_Law_law_7 : decode code 7 = .ok (.astore_n 1, 1) := by decide +kernel
theorem d_Law_law_8 : decode code 8 = .ok (.new 95, 3) := by decide +kernel
theorem d_Law_law_11 : decode code 11 = .ok (.dup, 1) := by decide +kernel
theorem d_Law_law_12 : decode code 12 = .ok (.invokespecial 97, 3) := by decide +kernel
theorem d_Law_law_15 : decode code 15 = .ok (.astore_n 2, 1) := by decide +kernel
theorem d_Law_law_16 : decode code 16 = .ok (.iconst 1, 1) := by decide +kernel
theorem d_Law_law_17 : decode code 17 = .ok (.newarray .long, 2) := by decide +kernel
theorem d_Law_law_19 : decode code 19 = .ok (.astore_n 3, 1) := by decide +kernel
theorem d_Law_law_20 : decode code 20 = .ok (.iconst 0, 1) := by decide +kernel
theorem d_Law_law_21 : decode code 21 = .ok (.istore 4, 2) := by decide +kernel
theorem d_Law_law_23 : decode code 23 = .ok (.iload 4, 2) := by decide +kernel
theorem d_Law_law_25 : decode code 25 = .ok (.aload_n 0, 1) := by decide +kernel
theorem d_Law_law_26 : decode code 26 = .ok (.arraylength, 1) := by decide +kernel
theorem d_Law_law_27 : decode code 27 = .ok (.bipush 6, 2) := by decide +kernel
theorem d_Law_law_29 : decode code 29 = .ok (.isub, 1) := by decide +kernel
theorem d_Law_law_30 : decode code 30 = .ok (.if_icmp .gt 1228, 3) := by decide +kernel
theorem d_Law_law_33 : decode code 33 = .ok (.aload_n 0, 1) := by decide +kernel
theorem d_Law_law_34 : decode code 34 = .ok (.iload 4, 2) := by decide +kernel
theorem d_Law_law_36 : decode code 36 = .ok (.iaload, 1) := by decide +kernel
theorem d_Law_law_37 : decode code 37 = .ok (.bipush 31, 2) := by decide +kernel
theorem d_Law_law_39 : decode code 39 = .ok (.iand, 1) := by decide +kernel
theorem d_Law_law_140 : decode code 140 = .ok (.aload_n 1, 1) := by decide +kernel
theorem d_Law_law_141 : decode code 141 = .ok (.aload_n 0, 1) := by decide +kernel
theorem d_Law_law_142 : decode code 142 = .ok (.iload 4, 2) := by decide +kernel
theorem d_Law_law_144 : decode code 144 = .ok (.iconst 1, 1) := by decide +kernel
theorem d_Law_law_145 : decode code 145 = .ok (.iadd, 1) := by decide +kernel
theorem d_Law_law_146 : decode code 146 = .ok (.iaload, 1) := by decide +kernel
theorem d_Law_law_147 : decode code 147 = .ok (.aload_n 0, 1) := by decide +kernel
theorem d_Law_law_148 : decode code 148 = .ok (.iload 4, 2) := by decide +kernel
theorem d_Law_law_150 : decode code 150 = .ok (.iconst 2, 1) := by decide +kernel
theorem d_Law_law_151 : decode code 151 = .ok (.iadd, 1) := by decide +kernel
theorem d_Law_law_152 : decode code 152 = .ok (.iaload, 1) := by decide +kernel
theorem d_Law_law_153 : decode code 153 = .ok (.i2l, 1) := by decide +kernel
theorem d_Law_law_154 : decode code 154 = .ok (.bipush 32, 2) := by decide +kernel
theorem d_Law_law_156 : decode code 156 = .ok (.lshl, 1) := by decide +kernel
theorem d_Law_law_157 : decode code 157 = .ok (.aload_n 0, 1) := by decide +kernel
theorem d_Law_law_158 : decode code 158 = .ok (.iload 4, 2) := by decide +kernel
theorem d_Law_law_160 : decode code 160 = .ok (.iconst 3, 1) := by decide +kernel
theorem d_Law_law_161 : decode code 161 = .ok (.iadd, 1) := by decide +kernel
theorem d_Law_law_162 : decode code 162 = .ok (.iaload, 1) := by decide +kernel
theorem d_Law_law_163 : decode code 163 = .ok (.i2l, 1) := by decide +kernel
theorem d_Law_law_164 : decode code 164 = .ok (.ldc2_w 98, 3) := by decide +kernel
theorem d_Law_law_167 : decode code 167 = .ok (.land, 1) := by decide +kernel
theorem d_Law_law_168 : decode code 168 = .ok (.lor, 1) := by decide +kernel
theorem d_Law_law_169 : decode code 169 = .ok (.aload_n 3, 1) := by decide +kernel
theorem d_Law_law_170 : decode code 170 = .ok (.invokestatic 100, 3) := by decide +kernel
theorem d_Law_law_173 : decode code 173 = .ok (.istore 5, 2) := by decide +kernel
theorem d_Law_law_175 : decode code 175 = .ok (.aload_n 2, 1) := by decide +kernel
theorem d_Law_law_176 : decode code 176 = .ok (.aload_n 0, 1) := by decide +kernel
theorem d_Law_law_177 : decode code 177 = .ok (.iload 4, 2) := by decide +kernel
theorem d_Law_law_179 : decode code 179 = .ok (.iconst 1, 1) := by decide +kernel
theorem d_Law_law_180 : decode code 180 = .ok (.iadd, 1) := by decide +kernel
theorem d_Law_law_181 : decode code 181 = .ok (.iaload, 1) := by decide +kernel
theorem d_Law_law_182 : decode code 182 = .ok (.aload_n 0, 1) := by decide +kernel
theorem d_Law_law_183 : decode code 183 = .ok (.iload 4, 2) := by decide +kernel
theorem d_Law_law_185 : decode code 185 = .ok (.iconst 2, 1) := by decide +kernel
theorem d_Law_law_186 : decode code 186 = .ok (.iadd, 1) := by decide +kernel
theorem d_Law_law_187 : decode code 187 = .ok (.iaload, 1) := by decide +kernel
theorem d_Law_law_188 : decode code 188 = .ok (.i2l, 1) := by decide +kernel
theorem d_Law_law_189 : decode code 189 = .ok (.bipush 32, 2) := by decide +kernel
theorem d_Law_law_191 : decode code 191 = .ok (.lshl, 1) := by decide +kernel
theorem d_Law_law_192 : decode code 192 = .ok (.aload_n 0, 1) := by decide +kernel
theorem d_Law_law_193 : decode code 193 = .ok (.iload 4, 2) := by decide +kernel
theorem d_Law_law_195 : decode code 195 = .ok (.iconst 3, 1) := by decide +kernel
theorem d_Law_law_196 : decode code 196 = .ok (.iadd, 1) := by decide +kernel
theorem d_Law_law_197 : decode code 197 = .ok (.iaload, 1) := by decide +kernel
theorem d_Law_law_198 : decode code 198 = .ok (.i2l, 1) := by decide +kernel
theorem d_Law_law_199 : decode code 199 = .ok (.ldc2_w 98, 3) := by decide +kernel
theorem d_Law_law_202 : decode code 202 = .ok (.land, 1) := by decide +kernel
theorem d_Law_law_203 : decode code 203 = .ok (.lor, 1) := by decide +kernel
theorem d_Law_law_204 : decode code 204 = .ok (.invokevirtual 105, 3) := by decide +kernel
theorem d_Law_law_207 : decode code 207 = .ok (.istore 6, 2) := by decide +kernel
theorem d_Law_law_209 : decode code 209 = .ok (.goto 1043, 3) := by decide +kernel
theorem d_Law_law_212 : decode code 212 = .ok (.aload_n 1, 1) := by decide +kernel
theorem d_Law_law_213 : decode code 213 = .ok (.aload_n 0, 1) := by decide +kernel
theorem d_Law_law_214 : decode code 214 = .ok (.iload 4, 2) := by decide +kernel
theorem d_Law_law_216 : decode code 216 = .ok (.iconst 1, 1) := by decide +kernel
theorem d_Law_law_217 : decode code 217 = .ok (.iadd, 1) := by decide +kernel
theorem d_Law_law_218 : decode code 218 = .ok (.iaload, 1) := by decide +kernel
theorem d_Law_law_219 : decode code 219 = .ok (.aload_n 3, 1) := by decide +kernel
theorem d_Law_law_220 : decode code 220 = .ok (.invokestatic 106, 3) := by decide +kernel
theorem d_Law_law_223 : decode code 223 = .ok (.istore 5, 2) := by decide +kernel
theorem d_Law_law_225 : decode code 225 = .ok (.aload_n 2, 1) := by decide +kernel
theorem d_Law_law_226 : decode code 226 = .ok (.aload_n 0, 1) := by decide +kernel
theorem d_Law_law_227 : decode code 227 = .ok (.iload 4, 2) := by decide +kernel
theorem d_Law_law_229 : decode code 229 = .ok (.iconst 1, 1) := by decide +kernel
theorem d_Law_law_230 : decode code 230 = .ok (.iadd, 1) := by decide +kernel
theorem d_Law_law_231 : decode code 231 = .ok (.iaload, 1) := by decide +kernel
theorem d_Law_law_232 : decode code 232 = .ok (.invokevirtual 109, 3) := by decide +kernel
theorem d_Law_law_235 : decode code 235 = .ok (.istore 6, 2) := by decide +kernel
theorem d_Law_law_237 : decode code 237 = .ok (.goto 1015, 3) := by decide +kernel
theorem d_Law_law_240 : decode code 240 = .ok (.aload_n 1, 1) := by decide +kernel
theorem d_Law_law_241 : decode code 241 = .ok (.aload_n 0, 1) := by decide +kernel
theorem d_Law_law_242 : decode code 242 = .ok (.iload 4, 2) := by decide +kernel
theorem d_Law_law_244 : decode code 244 = .ok (.iconst 1, 1) := by decide +kernel
theorem d_Law_law_245 : decode code 245 = .ok (.iadd, 1) := by decide +kernel
theorem d_Law_law_246 : decode code 246 = .ok (.iaload, 1) := by decide +kernel
theorem d_Law_law_247 : decode code 247 = .ok (.aload_n 0, 1) := by decide +kernel
theorem d_Law_law_248 : decode code 248 = .ok (.iload 4, 2) := by decide +kernel
theorem d_Law_law_250 : decode code 250 = .ok (.iconst 2, 1) := by decide +kernel
theorem d_Law_law_251 : decode code 251 = .ok (.iadd, 1) := by decide +kernel
theorem d_Law_law_252 : decode code 252 = .ok (.iaload, 1) := by decide +kernel
theorem d_Law_law_253 : decode code 253 = .ok (.i2l, 1) := by decide +kernel
theorem d_Law_law_254 : decode code 254 = .ok (.bipush 32, 2) := by decide +kernel
theorem d_Law_law_256 : decode code 256 = .ok (.lshl, 1) := by decide +kernel
theorem d_Law_law_257 : decode code 257 = .ok (.aload_n 0, 1) := by decide +kernel
theorem d_Law_law_258 : decode code 258 = .ok (.iload 4, 2) := by decide +kernel
theorem d_Law_law_260 : decode code 260 = .ok (.iconst 3, 1) := by decide +kernel
theorem d_Law_law_261 : decode code 261 = .ok (.iadd, 1) := by decide +kernel
theorem d_Law_law_262 : decode code 262 = .ok (.iaload, 1) := by decide +kernel
theorem d_Law_law_263 : decode code 263 = .ok (.i2l, 1) := by decide +kernel
theorem d_Law_law_264 : decode code 264 = .ok (.ldc2_w 98, 3) := by decide +kernel
theorem d_Law_law_267 : decode code 267 = .ok (.land, 1) := by decide +kernel
theorem d_Law_law_268 : decode code 268 = .ok (.lor, 1) := by decide +kernel
theorem d_Law_law_269 : decode code 269 = .ok (.invokestatic 110, 3) := by decide +kernel
theorem d_Law_law_272 : decode code 272 = .ok (.istore 5, 2) := by decide +kernel
theorem d_Law_law_274 : decode code 274 = .ok (.aload_n 2, 1) := by decide +kernel
theorem d_Law_law_275 : decode code 275 = .ok (.aload_n 0, 1) := by decide +kernel
theorem d_Law_law_276 : decode code 276 = .ok (.iload 4, 2) := by decide +kernel
theorem d_Law_law_278 : decode code 278 = .ok (.iconst 1, 1) := by decide +kernel
theorem d_Law_law_279 : decode code 279 = .ok (.iadd, 1) := by decide +kernel
theorem d_Law_law_280 : decode code 280 = .ok (.iaload, 1) := by decide +kernel
theorem d_Law_law_281 : decode code 281 = .ok (.aload_n 0, 1) := by decide +kernel
theorem d_Law_law_282 : decode code 282 = .ok (.iload 4, 2) := by decide +kernel
theorem d_Law_law_284 : decode code 284 = .ok (.iconst 2, 1) := by decide +kernel
theorem d_Law_law_285 : decode code 285 = .ok (.iadd, 1) := by decide +kernel
theorem d_Law_law_286 : decode code 286 = .ok (.iaload, 1) := by decide +kernel
theorem d_Law_law_287 : decode code 287 = .ok (.i2l, 1) := by decide +kernel
theorem d_Law_law_288 : decode code 288 = .ok (.bipush 32, 2) := by decide +kernel
theorem d_Law_law_290 : decode code 290 = .ok (.lshl, 1) := by decide +kernel
theorem d_Law_law_291 : decode code 291 = .ok (.aload_n 0, 1) := by decide +kernel
theorem d_Law_law_292 : decode code 292 = .ok (.iload 4, 2) := by decide +kernel
theorem d_Law_law_294 : decode code 294 = .ok (.iconst 3, 1) := by decide +kernel
theorem d_Law_law_295 : decode code 295 = .ok (.iadd, 1) := by decide +kernel
theorem d_Law_law_296 : decode code 296 = .ok (.iaload, 1) := by decide +kernel
theorem d_Law_law_297 : decode code 297 = .ok (.i2l, 1) := by decide +kernel
theorem d_Law_law_298 : decode code 298 = .ok (.ldc2_w 98, 3) := by decide +kernel
theorem d_Law_law_301 : decode code 301 = .ok (.land, 1) := by decide +kernel
theorem d_Law_law_302 : decode code 302 = .ok (.lor, 1) := by decide +kernel
theorem d_Law_law_303 : decode code 303 = .ok (.invokevirtual 113, 3) := by decide +kernel
theorem d_Law_law_306 : decode code 306 = .ok (.goto 946, 3) := by decide +kernel
theorem d_Law_law_309 : decode code 309 = .ok (.aload_n 1, 1) := by decide +kernel
theorem d_Law_law_310 : decode code 310 = .ok (.aload_n 0, 1) := by decide +kernel
theorem d_Law_law_311 : decode code 311 = .ok (.iload 4, 2) := by decide +kernel
theorem d_Law_law_313 : decode code 313 = .ok (.iconst 1, 1) := by decide +kernel
theorem d_Law_law_314 : decode code 314 = .ok (.iadd, 1) := by decide +kernel
theorem d_Law_law_315 : decode code 315 = .ok (.iaload, 1) := by decide +kernel
theorem d_Law_law_316 : decode code 316 = .ok (.aload_n 0, 1) := by decide +kernel
theorem d_Law_law_317 : decode code 317 = .ok (.iload 4, 2) := by decide +kernel
theorem d_Law_law_319 : decode code 319 = .ok (.iconst 2, 1) := by decide +kernel
theorem d_Law_law_320 : decode code 320 = .ok (.iadd, 1) := by decide +kernel
theorem d_Law_law_321 : decode code 321 = .ok (.iaload, 1) := by decide +kernel
theorem d_Law_law_322 : decode code 322 = .ok (.aload_n 3, 1) := by decide +kernel
theorem d_Law_law_323 : decode code 323 = .ok (.invokestatic 114, 3) := by decide +kernel
theorem d_Law_law_326 : decode code 326 = .ok (.istore 5, 2) := by decide +kernel
theorem d_Law_law_328 : decode code 328 = .ok (.aload_n 2, 1) := by decide +kernel
theorem d_Law_law_329 : decode code 329 = .ok (.aload_n 0, 1) := by decide +kernel
theorem d_Law_law_330 : decode code 330 = .ok (.iload 4, 2) := by decide +kernel
theorem d_Law_law_332 : decode code 332 = .ok (.iconst 1, 1) := by decide +kernel
theorem d_Law_law_333 : decode code 333 = .ok (.iadd, 1) := by decide +kernel
theorem d_Law_law_334 : decode code 334 = .ok (.iaload, 1) := by decide +kernel
theorem d_Law_law_335 : decode code 335 = .ok (.aload_n 0, 1) := by decide +kernel
theorem d_Law_law_336 : decode code 336 = .ok (.iload 4, 2) := by decide +kernel
theorem d_Law_law_338 : decode code 338 = .ok (.iconst 2, 1) := by decide +kernel
theorem d_Law_law_339 : decode code 339 = .ok (.iadd, 1) := by decide +kernel
theorem d_Law_law_340 : decode code 340 = .ok (.iaload, 1) := by decide +kernel
theorem d_Law_law_341 : decode code 341 = .ok (.invokevirtual 117, 3) := by decide +kernel
theorem d_Law_law_344 : decode code 344 = .ok (.lstore 6, 2) := by decide +kernel
theorem d_Law_law_346 : decode code 346 = .ok (.goto 906, 3) := by decide +kernel
theorem d_Law_law_349 : decode code 349 = .ok (.aload_n 1, 1) := by decide +kernel
theorem d_Law_law_350 : decode code 350 = .ok (.aload_n 0, 1) := by decide +kernel
theorem d_Law_law_351 : decode code 351 = .ok (.iload 4, 2) := by decide +kernel
theorem d_Law_law_353 : decode code 353 = .ok (.iconst 1, 1) := by decide +kernel
theorem d_Law_law_354 : decode code 354 = .ok (.iadd, 1) := by decide +kernel
theorem d_Law_law_355 : decode code 355 = .ok (.iaload, 1) := by decide +kernel
theorem d_Law_law_356 : decode code 356 = .ok (.aload_n 0, 1) := by decide +kernel
theorem d_Law_law_357 : decode code 357 = .ok (.iload 4, 2) := by decide +kernel
theorem d_Law_law_359 : decode code 359 = .ok (.iconst 2, 1) := by decide +kernel
theorem d_Law_law_360 : decode code 360 = .ok (.iadd, 1) := by decide +kernel
theorem d_Law_law_361 : decode code 361 = .ok (.iaload, 1) := by decide +kernel
theorem d_Law_law_362 : decode code 362 = .ok (.aload_n 0, 1) := by decide +kernel
theorem d_Law_law_363 : decode code 363 = .ok (.iload 4, 2) := by decide +kernel
theorem d_Law_law_365 : decode code 365 = .ok (.iconst 3, 1) := by decide +kernel
theorem d_Law_law_366 : decode code 366 = .ok (.iadd, 1) := by decide +kernel
theorem d_Law_law_367 : decode code 367 = .ok (.iaload, 1) := by decide +kernel
theorem d_Law_law_368 : decode code 368 = .ok (.aload_n 0, 1) := by decide +kernel
theorem d_Law_law_369 : decode code 369 = .ok (.iload 4, 2) := by decide +kernel
theorem d_Law_law_371 : decode code 371 = .ok (.iconst 4, 1) := by decide +kernel
theorem d_Law_law_372 : decode code 372 = .ok (.iadd, 1) := by decide +kernel
theorem d_Law_law_373 : decode code 373 = .ok (.iaload, 1) := by decide +kernel
theorem d_Law_law_374 : decode code 374 = .ok (.invokestatic 118, 3) := by decide +kernel
theorem d_Law_law_377 : decode code 377 = .ok (.istore 5, 2) := by decide +kernel
theorem d_Law_law_379 : decode code 379 = .ok (.aload_n 2, 1) := by decide +kernel
theorem d_Law_law_380 : decode code 380 = .ok (.aload_n 0, 1) := by decide +kernel
theorem d_Law_law_381 : decode code 381 = .ok (.iload 4, 2) := by decide +kernel
theorem d_Law_law_383 : decode code 383 = .ok (.iconst 1, 1) := by decide +kernel
theorem d_Law_law_384 : decode code 384 = .ok (.iadd, 1) := by decide +kernel
theorem d_Law_law_385 : decode code 385 = .ok (.iaload, 1) := by decide +kernel
theorem d_Law_law_386 : decode code 386 = .ok (.aload_n 0, 1) := by decide +kernel
theorem d_Law_law_387 : decode code 387 = .ok (.iload 4, 2) := by decide +kernel
theorem d_Law_law_389 : decode code 389 = .ok (.iconst 2, 1) := by decide +kernel
theorem d_Law_law_390 : decode code 390 = .ok (.iadd, 1) := by decide +kernel
theorem d_Law_law_391 : decode code 391 = .ok (.iaload, 1) := by decide +kernel
theorem d_Law_law_392 : decode code 392 = .ok (.aload_n 0, 1) := by decide +kernel
theorem d_Law_law_393 : decode code 393 = .ok (.iload 4, 2) := by decide +kernel
theorem d_Law_law_395 : decode code 395 = .ok (.iconst 3, 1) := by decide +kernel
theorem d_Law_law_396 : decode code 396 = .ok (.iadd, 1) := by decide +kernel
theorem d_Law_law_397 : decode code 397 = .ok (.iaload, 1) := by decide +kernel
theorem d_Law_law_398 : decode code 398 = .ok (.aload_n 0, 1) := by decide +kernel
theorem d_Law_law_399 : decode code 399 = .ok (.iload 4, 2) := by decide +kernel
theorem d_Law_law_401 : decode code 401 = .ok (.iconst 4, 1) := by decide +kernel
theorem d_Law_law_402 : decode code 402 = .ok (.iadd, 1) := by decide +kernel
theorem d_Law_law_403 : decode code 403 = .ok (.iaload, 1) := by decide +kernel
theorem d_Law_law_404 : decode code 404 = .ok (.invokevirtual 121, 3) := by decide +kernel
theorem d_Law_law_407 : decode code 407 = .ok (.goto 845, 3) := by decide +kernel
theorem d_Law_law_410 : decode code 410 = .ok (.aload_n 1, 1) := by decide +kernel
theorem d_Law_law_411 : decode code 411 = .ok (.aload_n 0, 1) := by decide +kernel
theorem d_Law_law_412 : decode code 412 = .ok (.iload 4, 2) := by decide +kernel
theorem d_Law_law_414 : decode code 414 = .ok (.iconst 1, 1) := by decide +kernel
theorem d_Law_law_415 : decode code 415 = .ok (.iadd, 1) := by decide +kernel
theorem d_Law_law_416 : decode code 416 = .ok (.iaload, 1) := by decide +kernel
theorem d_Law_law_417 : decode code 417 = .ok (.aload_n 0, 1) := by decide +kernel
theorem d_Law_law_418 : decode code 418 = .ok (.iload 4, 2) := by decide +kernel
theorem d_Law_law_420 : decode code 420 = .ok (.iconst 2, 1) := by decide +kernel
theorem d_Law_law_421 : decode code 421 = .ok (.iadd, 1) := by decide +kernel
theorem d_Law_law_422 : decode code 422 = .ok (.iaload, 1) := by decide +kernel
theorem d_Law_law_423 : decode code 423 = .ok (.aload_n 0, 1) := by decide +kernel
theorem d_Law_law_424 : decode code 424 = .ok (.iload 4, 2) := by decide +kernel
theorem d_Law_law_426 : decode code 426 = .ok (.iconst 3, 1) := by decide +kernel
theorem d_Law_law_427 : decode code 427 = .ok (.iadd, 1) := by decide +kernel
theorem d_Law_law_428 : decode code 428 = .ok (.iaload, 1) := by decide +kernel
theorem d_Law_law_429 : decode code 429 = .ok (.i2l, 1) := by decide +kernel
theorem d_Law_law_430 : decode code 430 = .ok (.bipush 32, 2) := by decide +kernel
theorem d_Law_law_432 : decode code 432 = .ok (.lshl, 1) := by decide +kernel
theorem d_Law_law_433 : decode code 433 = .ok (.aload_n 0, 1) := by decide +kernel
theorem d_Law_law_434 : decode code 434 = .ok (.iload 4, 2) := by decide +kernel
theorem d_Law_law_436 : decode code 436 = .ok (.iconst 4, 1) := by decide +kernel
theorem d_Law_law_437 : decode code 437 = .ok (.iadd, 1) := by decide +kernel
theorem d_Law_law_438 : decode code 438 = .ok (.iaload, 1) := by decide +kernel
theorem d_Law_law_439 : decode code 439 = .ok (.i2l, 1) := by decide +kernel
theorem d_Law_law_440 : decode code 440 = .ok (.ldc2_w 98, 3) := by decide +kernel
theorem d_Law_law_443 : decode code 443 = .ok (.land, 1) := by decide +kernel
theorem d_Law_law_444 : decode code 444 = .ok (.lor, 1) := by decide +kernel
theorem d_Law_law_445 : decode code 445 = .ok (.invokestatic 122, 3) := by decide +kernel
theorem d_Law_law_448 : decode code 448 = .ok (.istore 5, 2) := by decide +kernel
theorem d_Law_law_450 : decode code 450 = .ok (.aload_n 2, 1) := by decide +kernel
theorem d_Law_law_451 : decode code 451 = .ok (.aload_n 0, 1) := by decide +kernel
theorem d_Law_law_452 : decode code 452 = .ok (.iload 4, 2) := by decide +kernel
theorem d_Law_law_454 : decode code 454 = .ok (.iconst 1, 1) := by decide +kernel
theorem d_Law_law_455 : decode code 455 = .ok (.iadd, 1) := by decide +kernel
theorem d_Law_law_456 : decode code 456 = .ok (.iaload, 1) := by decide +kernel
theorem d_Law_law_457 : decode code 457 = .ok (.aload_n 0, 1) := by decide +kernel
theorem d_Law_law_458 : decode code 458 = .ok (.iload 4, 2) := by decide +kernel
theorem d_Law_law_460 : decode code 460 = .ok (.iconst 2, 1) := by decide +kernel
theorem d_Law_law_461 : decode code 461 = .ok (.iadd, 1) := by decide +kernel
theorem d_Law_law_462 : decode code 462 = .ok (.iaload, 1) := by decide +kernel
theorem d_Law_law_463 : decode code 463 = .ok (.aload_n 0, 1) := by decide +kernel
theorem d_Law_law_464 : decode code 464 = .ok (.iload 4, 2) := by decide +kernel
theorem d_Law_law_466 : decode code 466 = .ok (.iconst 3, 1) := by decide +kernel
theorem d_Law_law_467 : decode code 467 = .ok (.iadd, 1) := by decide +kernel
theorem d_Law_law_468 : decode code 468 = .ok (.iaload, 1) := by decide +kernel
theorem d_Law_law_469 : decode code 469 = .ok (.i2l, 1) := by decide +kernel
theorem d_Law_law_470 : decode code 470 = .ok (.bipush 32, 2) := by decide +kernel
theorem d_Law_law_472 : decode code 472 = .ok (.lshl, 1) := by decide +kernel
theorem d_Law_law_473 : decode code 473 = .ok (.aload_n 0, 1) := by decide +kernel
theorem d_Law_law_474 : decode code 474 = .ok (.iload 4, 2) := by decide +kernel
theorem d_Law_law_476 : decode code 476 = .ok (.iconst 4, 1) := by decide +kernel
theorem d_Law_law_477 : decode code 477 = .ok (.iadd, 1) := by decide +kernel
theorem d_Law_law_478 : decode code 478 = .ok (.iaload, 1) := by decide +kernel
theorem d_Law_law_479 : decode code 479 = .ok (.i2l, 1) := by decide +kernel
theorem d_Law_law_480 : decode code 480 = .ok (.ldc2_w 98, 3) := by decide +kernel
theorem d_Law_law_483 : decode code 483 = .ok (.land, 1) := by decide +kernel
theorem d_Law_law_484 : decode code 484 = .ok (.lor, 1) := by decide +kernel
theorem d_Law_law_485 : decode code 485 = .ok (.invokevirtual 125, 3) := by decide +kernel
theorem d_Law_law_488 : decode code 488 = .ok (.goto 764, 3) := by decide +kernel
theorem d_Law_law_491 : decode code 491 = .ok (.aload_n 1, 1) := by decide +kernel
theorem d_Law_law_492 : decode code 492 = .ok (.aload_n 0, 1) := by decide +kernel
theorem d_Law_law_493 : decode code 493 = .ok (.iload 4, 2) := by decide +kernel
theorem d_Law_law_495 : decode code 495 = .ok (.iconst 1, 1) := by decide +kernel
theorem d_Law_law_496 : decode code 496 = .ok (.iadd, 1) := by decide +kernel
theorem d_Law_law_497 : decode code 497 = .ok (.iaload, 1) := by decide +kernel
theorem d_Law_law_498 : decode code 498 = .ok (.aload_n 0, 1) := by decide +kernel
theorem d_Law_law_499 : decode code 499 = .ok (.iload 4, 2) := by decide +kernel
theorem d_Law_law_501 : decode code 501 = .ok (.iconst 2, 1) := by decide +kernel
theorem d_Law_law_502 : decode code 502 = .ok (.iadd, 1) := by decide +kernel
theorem d_Law_law_503 : decode code 503 = .ok (.iaload, 1) := by decide +kernel
theorem d_Law_law_504 : decode code 504 = .ok (.invokestatic 126, 3) := by decide +kernel
theorem d_Law_law_507 : decode code 507 = .ok (.istore 5, 2) := by decide +kernel
theorem d_Law_law_509 : decode code 509 = .ok (.aload_n 2, 1) := by decide +kernel
theorem d_Law_law_510 : decode code 510 = .ok (.aload_n 0, 1) := by decide +kernel
theorem d_Law_law_511 : decode code 511 = .ok (.iload 4, 2) := by decide +kernel
theorem d_Law_law_513 : decode code 513 = .ok (.iconst 1, 1) := by decide +kernel
theorem d_Law_law_514 : decode code 514 = .ok (.iadd, 1) := by decide +kernel
theorem d_Law_law_515 : decode code 515 = .ok (.iaload, 1) := by decide +kernel
theorem d_Law_law_516 : decode code 516 = .ok (.aload_n 0, 1) := by decide +kernel
theorem d_Law_law_517 : decode code 517 = .ok (.iload 4, 2) := by decide +kernel
theorem d_Law_law_519 : decode code 519 = .ok (.iconst 2, 1) := by decide +kernel
theorem d_Law_law_520 : decode code 520 = .ok (.iadd, 1) := by decide +kernel
theorem d_Law_law_521 : decode code 521 = .ok (.iaload, 1) := by decide +kernel
theorem d_Law_law_522 : decode code 522 = .ok (.invokevirtual 129, 3) := by decide +kernel
theorem d_Law_law_525 : decode code 525 = .ok (.goto 727, 3) := by decide +kernel
theorem d_Law_law_528 : decode code 528 = .ok (.aload_n 1, 1) := by decide +kernel
theorem d_Law_law_529 : decode code 529 = .ok (.aload_n 0, 1) := by decide +kernel
theorem d_Law_law_530 : decode code 530 = .ok (.iload 4, 2) := by decide +kernel
theorem d_Law_law_532 : decode code 532 = .ok (.iconst 1, 1) := by decide +kernel
theorem d_Law_law_533 : decode code 533 = .ok (.iadd, 1) := by decide +kernel
theorem d_Law_law_534 : decode code 534 = .ok (.iaload, 1) := by decide +kernel
theorem d_Law_law_535 : decode code 535 = .ok (.aload_n 3, 1) := by decide +kernel
theorem d_Law_law_536 : decode code 536 = .ok (.invokestatic 130, 3) := by decide +kernel
theorem d_Law_law_539 : decode code 539 = .ok (.istore 5, 2) := by decide +kernel
theorem d_Law_law_541 : decode code 541 = .ok (.aload_n 2, 1) := by decide +kernel
theorem d_Law_law_542 : decode code 542 = .ok (.aload_n 0, 1) := by decide +kernel
theorem d_Law_law_543 : decode code 543 = .ok (.iload 4, 2) := by decide +kernel
theorem d_Law_law_545 : decode code 545 = .ok (.iconst 1, 1) := by decide +kernel
theorem d_Law_law_546 : decode code 546 = .ok (.iadd, 1) := by decide +kernel
theorem d_Law_law_547 : decode code 547 = .ok (.iaload, 1) := by decide +kernel
theorem d_Law_law_548 : decode code 548 = .ok (.invokevirtual 132, 3) := by decide +kernel
theorem d_Law_law_551 : decode code 551 = .ok (.istore 6, 2) := by decide +kernel
theorem d_Law_law_553 : decode code 553 = .ok (.goto 699, 3) := by decide +kernel
theorem d_Law_law_556 : decode code 556 = .ok (.aload_n 1, 1) := by decide +kernel
theorem d_Law_law_557 : decode code 557 = .ok (.aload_n 0, 1) := by decide +kernel
theorem d_Law_law_558 : decode code 558 = .ok (.iload 4, 2) := by decide +kernel
theorem d_Law_law_560 : decode code 560 = .ok (.iconst 1, 1) := by decide +kernel
theorem d_Law_law_561 : decode code 561 = .ok (.iadd, 1) := by decide +kernel
theorem d_Law_law_562 : decode code 562 = .ok (.iaload, 1) := by decide +kernel
theorem d_Law_law_563 : decode code 563 = .ok (.aload_n 0, 1) := by decide +kernel
theorem d_Law_law_564 : decode code 564 = .ok (.iload 4, 2) := by decide +kernel
theorem d_Law_law_566 : decode code 566 = .ok (.iconst 2, 1) := by decide +kernel
theorem d_Law_law_567 : decode code 567 = .ok (.iadd, 1) := by decide +kernel
theorem d_Law_law_568 : decode code 568 = .ok (.iaload, 1) := by decide +kernel
theorem d_Law_law_569 : decode code 569 = .ok (.ifCond .eq 7, 3) := by decide +kernel
theorem d_Law_law_572 : decode code 572 = .ok (.iconst 1, 1) := by decide +kernel
theorem d_Law_law_573 : decode code 573 = .ok (.goto 4, 3) := by decide +kernel
theorem d_Law_law_576 : decode code 576 = .ok (.iconst 0, 1) := by decide +kernel
theorem d_Law_law_577 : decode code 577 = .ok (.invokestatic 133, 3) := by decide +kernel
theorem d_Law_law_580 : decode code 580 = .ok (.istore 5, 2) := by decide +kernel
theorem d_Law_law_582 : decode code 582 = .ok (.aload_n 2, 1) := by decide +kernel
theorem d_Law_law_583 : decode code 583 = .ok (.aload_n 0, 1) := by decide +kernel
theorem d_Law_law_584 : decode code 584 = .ok (.iload 4, 2) := by decide +kernel
theorem d_Law_law_586 : decode code 586 = .ok (.iconst 1, 1) := by decide +kernel
theorem d_Law_law_587 : decode code 587 = .ok (.iadd, 1) := by decide +kernel
theorem d_Law_law_588 : decode code 588 = .ok (.iaload, 1) := by decide +kernel
theorem d_Law_law_589 : decode code 589 = .ok (.aload_n 0, 1) := by decide +kernel
theorem d_Law_law_590 : decode code 590 = .ok (.iload 4, 2) := by decide +kernel
theorem d_Law_law_592 : decode code 592 = .ok (.iconst 2, 1) := by decide +kernel
theorem d_Law_law_593 : decode code 593 = .ok (.iadd, 1) := by decide +kernel
theorem d_Law_law_594 : decode code 594 = .ok (.iaload, 1) := by decide +kernel
theorem d_Law_law_595 : decode code 595 = .ok (.ifCond .eq 7, 3) := by decide +kernel
theorem d_Law_law_598 : decode code 598 = .ok (.iconst 1, 1) := by decide +kernel
theorem d_Law_law_599 : decode code 599 = .ok (.goto 4, 3) := by decide +kernel
theorem d_Law_law_602 : decode code 602 = .ok (.iconst 0, 1) := by decide +kernel
theorem d_Law_law_603 : decode code 603 = .ok (.invokevirtual 136, 3) := by decide +kernel
theorem d_Law_law_606 : decode code 606 = .ok (.goto 646, 3) := by decide +kernel
theorem d_Law_law_609 : decode code 609 = .ok (.aload_n 1, 1) := by decide +kernel
theorem d_Law_law_610 : decode code 610 = .ok (.aload_n 0, 1) := by decide +kernel
theorem d_Law_law_611 : decode code 611 = .ok (.iload 4, 2) := by decide +kernel
theorem d_Law_law_613 : decode code 613 = .ok (.iconst 1, 1) := by decide +kernel
theorem d_Law_law_614 : decode code 614 = .ok (.iadd, 1) := by decide +kernel
theorem d_Law_law_615 : decode code 615 = .ok (.iaload, 1) := by decide +kernel
theorem d_Law_law_616 : decode code 616 = .ok (.aload_n 3, 1) := by decide +kernel
theorem d_Law_law_617 : decode code 617 = .ok (.invokestatic 137, 3) := by decide +kernel
theorem d_Law_law_620 : decode code 620 = .ok (.istore 5, 2) := by decide +kernel
theorem d_Law_law_622 : decode code 622 = .ok (.aload_n 2, 1) := by decide +kernel
theorem d_Law_law_623 : decode code 623 = .ok (.aload_n 0, 1) := by decide +kernel
theorem d_Law_law_624 : decode code 624 = .ok (.iload 4, 2) := by decide +kernel
theorem d_Law_law_626 : decode code 626 = .ok (.iconst 1, 1) := by decide +kernel
theorem d_Law_law_627 : decode code 627 = .ok (.iadd, 1) := by decide +kernel
theorem d_Law_law_628 : decode code 628 = .ok (.iaload, 1) := by decide +kernel
theorem d_Law_law_629 : decode code 629 = .ok (.invokevirtual 139, 3) := by decide +kernel
theorem d_Law_law_632 : decode code 632 = .ok (.lstore 6, 2) := by decide +kernel
theorem d_Law_law_634 : decode code 634 = .ok (.aload_n 2, 1) := by decide +kernel
theorem d_Law_law_635 : decode code 635 = .ok (.invokevirtual 140, 3) := by decide +kernel
theorem d_Law_law_638 : decode code 638 = .ok (.iload 5, 2) := by decide +kernel
theorem d_Law_law_640 : decode code 640 = .ok (.if_icmp .eq 5, 3) := by decide +kernel
theorem d_Law_law_643 : decode code 643 = .ok (.iconst 0, 1) := by decide +kernel
theorem d_Law_law_644 : decode code 644 = .ok (.ireturn, 1) := by decide +kernel
theorem d_Law_law_645 : decode code 645 = .ok (.iload 5, 2) := by decide +kernel
theorem d_Law_law_647 : decode code 647 = .ok (.ifCond .ne 14, 3) := by decide +kernel
theorem d_Law_law_650 : decode code 650 = .ok (.aload_n 3, 1) := by decide +kernel
theorem d_Law_law_651 : decode code 651 = .ok (.iconst 0, 1) := by decide +kernel
theorem d_Law_law_652 : decode code 652 = .ok (.laload, 1) := by decide +kernel
theorem d_Law_law_653 : decode code 653 = .ok (.lload 6, 2) := by decide +kernel
theorem d_Law_law_655 : decode code 655 = .ok (.lcmp, 1) := by decide +kernel
theorem d_Law_law_656 : decode code 656 = .ok (.ifCond .eq 5, 3) := by decide +kernel
theorem d_Law_law_659 : decode code 659 = .ok (.iconst 0, 1) := by decide +kernel
theorem d_Law_law_660 : decode code 660 = .ok (.ireturn, 1) := by decide +kernel
theorem d_Law_law_661 : decode code 661 = .ok (.goto 591, 3) := by decide +kernel
theorem d_Law_law_664 : decode code 664 = .ok (.aload_n 1, 1) := by decide +kernel
theorem d_Law_law_665 : decode code 665 = .ok (.aload_n 0, 1) := by decide +kernel
theorem d_Law_law_666 : decode code 666 = .ok (.iload 4, 2) := by decide +kernel
theorem d_Law_law_668 : decode code 668 = .ok (.iconst 1, 1) := by decide +kernel
theorem d_Law_law_669 : decode code 669 = .ok (.iadd, 1) := by decide +kernel
theorem d_Law_law_670 : decode code 670 = .ok (.iaload, 1) := by decide +kernel
theorem d_Law_law_671 : decode code 671 = .ok (.aload_n 0, 1) := by decide +kernel
theorem d_Law_law_672 : decode code 672 = .ok (.iload 4, 2) := by decide +kernel
theorem d_Law_law_674 : decode code 674 = .ok (.iconst 2, 1) := by decide +kernel
theorem d_Law_law_675 : decode code 675 = .ok (.iadd, 1) := by decide +kernel
theorem d_Law_law_676 : decode code 676 = .ok (.iaload, 1) := by decide +kernel
theorem d_Law_law_677 : decode code 677 = .ok (.aload_n 0, 1) := by decide +kernel
theorem d_Law_law_678 : decode code 678 = .ok (.iload 4, 2) := by decide +kernel
theorem d_Law_law_680 : decode code 680 = .ok (.iconst 3, 1) := by decide +kernel
theorem d_Law_law_681 : decode code 681 = .ok (.iadd, 1) := by decide +kernel
theorem d_Law_law_682 : decode code 682 = .ok (.iaload, 1) := by decide +kernel
theorem d_Law_law_683 : decode code 683 = .ok (.aload_n 0, 1) := by decide +kernel
theorem d_Law_law_684 : decode code 684 = .ok (.iload 4, 2) := by decide +kernel
theorem d_Law_law_686 : decode code 686 = .ok (.iconst 4, 1) := by decide +kernel
theorem d_Law_law_687 : decode code 687 = .ok (.iadd, 1) := by decide +kernel
theorem d_Law_law_688 : decode code 688 = .ok (.iaload, 1) := by decide +kernel
theorem d_Law_law_689 : decode code 689 = .ok (.invokestatic 144, 3) := by decide +kernel
theorem d_Law_law_692 : decode code 692 = .ok (.istore 5, 2) := by decide +kernel
theorem d_Law_law_694 : decode code 694 = .ok (.aload_n 2, 1) := by decide +kernel
theorem d_Law_law_695 : decode code 695 = .ok (.aload_n 0, 1) := by decide +kernel
theorem d_Law_law_696 : decode code 696 = .ok (.iload 4, 2) := by decide +kernel
theorem d_Law_law_698 : decode code 698 = .ok (.iconst 1, 1) := by decide +kernel
theorem d_Law_law_699 : decode code 699 = .ok (.iadd, 1) := by decide +kernel
theorem d_Law_law_700 : decode code 700 = .ok (.iaload, 1) := by decide +kernel
theorem d_Law_law_701 : decode code 701 = .ok (.aload_n 0, 1) := by decide +kernel
theorem d_Law_law_702 : decode code 702 = .ok (.iload 4, 2) := by decide +kernel
theorem d_Law_law_704 : decode code 704 = .ok (.iconst 2, 1) := by decide +kernel
theorem d_Law_law_705 : decode code 705 = .ok (.iadd, 1) := by decide +kernel
theorem d_Law_law_706 : decode code 706 = .ok (.iaload, 1) := by decide +kernel
theorem d_Law_law_707 : decode code 707 = .ok (.aload_n 0, 1) := by decide +kernel
theorem d_Law_law_708 : decode code 708 = .ok (.iload 4, 2) := by decide +kernel
theorem d_Law_law_710 : decode code 710 = .ok (.iconst 3, 1) := by decide +kernel
theorem d_Law_law_711 : decode code 711 = .ok (.iadd, 1) := by decide +kernel
theorem d_Law_law_712 : decode code 712 = .ok (.iaload, 1) := by decide +kernel
theorem d_Law_law_713 : decode code 713 = .ok (.aload_n 0, 1) := by decide +kernel
theorem d_Law_law_714 : decode code 714 = .ok (.iload 4, 2) := by decide +kernel
theorem d_Law_law_716 : decode code 716 = .ok (.iconst 4, 1) := by decide +kernel
theorem d_Law_law_717 : decode code 717 = .ok (.iadd, 1) := by decide +kernel
theorem d_Law_law_718 : decode code 718 = .ok (.iaload, 1) := by decide +kernel
theorem d_Law_law_719 : decode code 719 = .ok (.invokevirtual 146, 3) := by decide +kernel
theorem d_Law_law_722 : decode code 722 = .ok (.goto 530, 3) := by decide +kernel
theorem d_Law_law_725 : decode code 725 = .ok (.aload_n 1, 1) := by decide +kernel
theorem d_Law_law_726 : decode code 726 = .ok (.aload_n 0, 1) := by decide +kernel
theorem d_Law_law_727 : decode code 727 = .ok (.iload 4, 2) := by decide +kernel
theorem d_Law_law_729 : decode code 729 = .ok (.iconst 1, 1) := by decide +kernel
theorem d_Law_law_730 : decode code 730 = .ok (.iadd, 1) := by decide +kernel
theorem d_Law_law_731 : decode code 731 = .ok (.iaload, 1) := by decide +kernel
theorem d_Law_law_732 : decode code 732 = .ok (.aload_n 0, 1) := by decide +kernel
theorem d_Law_law_733 : decode code 733 = .ok (.iload 4, 2) := by decide +kernel
theorem d_Law_law_735 : decode code 735 = .ok (.iconst 2, 1) := by decide +kernel
theorem d_Law_law_736 : decode code 736 = .ok (.iadd, 1) := by decide +kernel
theorem d_Law_law_737 : decode code 737 = .ok (.iaload, 1) := by decide +kernel
theorem d_Law_law_738 : decode code 738 = .ok (.aload_n 0, 1) := by decide +kernel
theorem d_Law_law_739 : decode code 739 = .ok (.iload 4, 2) := by decide +kernel
theorem d_Law_law_741 : decode code 741 = .ok (.iconst 3, 1) := by decide +kernel
theorem d_Law_law_742 : decode code 742 = .ok (.iadd, 1) := by decide +kernel
theorem d_Law_law_743 : decode code 743 = .ok (.iaload, 1) := by decide +kernel
theorem d_Law_law_744 : decode code 744 = .ok (.invokestatic 147, 3) := by decide +kernel
theorem d_Law_law_747 : decode code 747 = .ok (.istore 5, 2) := by decide +kernel
theorem d_Law_law_749 : decode code 749 = .ok (.aload_n 2, 1) := by decide +kernel
theorem d_Law_law_750 : decode code 750 = .ok (.aload_n 0, 1) := by decide +kernel
theorem d_Law_law_751 : decode code 751 = .ok (.iload 4, 2) := by decide +kernel
theorem d_Law_law_753 : decode code 753 = .ok (.iconst 1, 1) := by decide +kernel
theorem d_Law_law_754 : decode code 754 = .ok (.iadd, 1) := by decide +kernel
theorem d_Law_law_755 : decode code 755 = .ok (.iaload, 1) := by decide +kernel
theorem d_Law_law_756 : decode code 756 = .ok (.aload_n 0, 1) := by decide +kernel
theorem d_Law_law_757 : decode code 757 = .ok (.iload 4, 2) := by decide +kernel
theorem d_Law_law_759 : decode code 759 = .ok (.iconst 2, 1) := by decide +kernel
theorem d_Law_law_760 : decode code 760 = .ok (.iadd, 1) := by decide +kernel
theorem d_Law_law_761 : decode code 761 = .ok (.iaload, 1) := by decide +kernel
theorem d_Law_law_762 : decode code 762 = .ok (.aload_n 0, 1) := by decide +kernel
theorem d_Law_law_763 : decode code 763 = .ok (.iload 4, 2) := by decide +kernel
theorem d_Law_law_765 : decode code 765 = .ok (.iconst 3, 1) := by decide +kernel
theorem d_Law_law_766 : decode code 766 = .ok (.iadd, 1) := by decide +kernel
theorem d_Law_law_767 : decode code 767 = .ok (.iaload, 1) := by decide +kernel
theorem d_Law_law_768 : decode code 768 = .ok (.invokevirtual 150, 3) := by decide +kernel
theorem d_Law_law_771 : decode code 771 = .ok (.goto 481, 3) := by decide +kernel
theorem d_Law_law_774 : decode code 774 = .ok (.aload_n 1, 1) := by decide +kernel
theorem d_Law_law_775 : decode code 775 = .ok (.aload_n 0, 1) := by decide +kernel
theorem d_Law_law_776 : decode code 776 = .ok (.iload 4, 2) := by decide +kernel
theorem d_Law_law_778 : decode code 778 = .ok (.iconst 1, 1) := by decide +kernel
theorem d_Law_law_779 : decode code 779 = .ok (.iadd, 1) := by decide +kernel
theorem d_Law_law_780 : decode code 780 = .ok (.iaload, 1) := by decide +kernel
theorem d_Law_law_781 : decode code 781 = .ok (.aload_n 0, 1) := by decide +kernel
theorem d_Law_law_782 : decode code 782 = .ok (.iload 4, 2) := by decide +kernel
theorem d_Law_law_784 : decode code 784 = .ok (.iconst 2, 1) := by decide +kernel
theorem d_Law_law_785 : decode code 785 = .ok (.iadd, 1) := by decide +kernel
theorem d_Law_law_786 : decode code 786 = .ok (.iaload, 1) := by decide +kernel
theorem d_Law_law_787 : decode code 787 = .ok (.aload_n 0, 1) := by decide +kernel
theorem d_Law_law_788 : decode code 788 = .ok (.iload 4, 2) := by decide +kernel
theorem d_Law_law_790 : decode code 790 = .ok (.iconst 3, 1) := by decide +kernel
theorem d_Law_law_791 : decode code 791 = .ok (.iadd, 1) := by decide +kernel
theorem d_Law_law_792 : decode code 792 = .ok (.iaload, 1) := by decide +kernel
theorem d_Law_law_793 : decode code 793 = .ok (.aload_n 0, 1) := by decide +kernel
theorem d_Law_law_794 : decode code 794 = .ok (.iload 4, 2) := by decide +kernel
theorem d_Law_law_796 : decode code 796 = .ok (.iconst 4, 1) := by decide +kernel
theorem d_Law_law_797 : decode code 797 = .ok (.iadd, 1) := by decide +kernel
theorem d_Law_law_798 : decode code 798 = .ok (.iaload, 1) := by decide +kernel
theorem d_Law_law_799 : decode code 799 = .ok (.invokestatic 151, 3) := by decide +kernel
theorem d_Law_law_802 : decode code 802 = .ok (.istore 5, 2) := by decide +kernel
theorem d_Law_law_804 : decode code 804 = .ok (.aload_n 2, 1) := by decide +kernel
theorem d_Law_law_805 : decode code 805 = .ok (.aload_n 0, 1) := by decide +kernel
theorem d_Law_law_806 : decode code 806 = .ok (.iload 4, 2) := by decide +kernel
theorem d_Law_law_808 : decode code 808 = .ok (.iconst 1, 1) := by decide +kernel
theorem d_Law_law_809 : decode code 809 = .ok (.iadd, 1) := by decide +kernel
theorem d_Law_law_810 : decode code 810 = .ok (.iaload, 1) := by decide +kernel
theorem d_Law_law_811 : decode code 811 = .ok (.aload_n 0, 1) := by decide +kernel
theorem d_Law_law_812 : decode code 812 = .ok (.iload 4, 2) := by decide +kernel
theorem d_Law_law_814 : decode code 814 = .ok (.iconst 2, 1) := by decide +kernel
theorem d_Law_law_815 : decode code 815 = .ok (.iadd, 1) := by decide +kernel
theorem d_Law_law_816 : decode code 816 = .ok (.iaload, 1) := by decide +kernel
theorem d_Law_law_817 : decode code 817 = .ok (.aload_n 0, 1) := by decide +kernel
theorem d_Law_law_818 : decode code 818 = .ok (.iload 4, 2) := by decide +kernel
theorem d_Law_law_820 : decode code 820 = .ok (.iconst 3, 1) := by decide +kernel
theorem d_Law_law_821 : decode code 821 = .ok (.iadd, 1) := by decide +kernel
theorem d_Law_law_822 : decode code 822 = .ok (.iaload, 1) := by decide +kernel
theorem d_Law_law_823 : decode code 823 = .ok (.aload_n 0, 1) := by decide +kernel
theorem d_Law_law_824 : decode code 824 = .ok (.iload 4, 2) := by decide +kernel
theorem d_Law_law_826 : decode code 826 = .ok (.iconst 4, 1) := by decide +kernel
theorem d_Law_law_827 : decode code 827 = .ok (.iadd, 1) := by decide +kernel
theorem d_Law_law_828 : decode code 828 = .ok (.iaload, 1) := by decide +kernel
theorem d_Law_law_829 : decode code 829 = .ok (.invokevirtual 153, 3) := by decide +kernel
theorem d_Law_law_832 : decode code 832 = .ok (.goto 420, 3) := by decide +kernel
theorem d_Law_law_835 : decode code 835 = .ok (.aload_n 1, 1) := by decide +kernel
theorem d_Law_law_836 : decode code 836 = .ok (.aload_n 0, 1) := by decide +kernel
theorem d_Law_law_837 : decode code 837 = .ok (.iload 4, 2) := by decide +kernel
theorem d_Law_law_839 : decode code 839 = .ok (.iconst 1, 1) := by decide +kernel
theorem d_Law_law_840 : decode code 840 = .ok (.iadd, 1) := by decide +kernel
theorem d_Law_law_841 : decode code 841 = .ok (.iaload, 1) := by decide +kernel
theorem d_Law_law_842 : decode code 842 = .ok (.aload_n 0, 1) := by decide +kernel
theorem d_Law_law_843 : decode code 843 = .ok (.iload 4, 2) := by decide +kernel
theorem d_Law_law_845 : decode code 845 = .ok (.iconst 2, 1) := by decide +kernel
theorem d_Law_law_846 : decode code 846 = .ok (.iadd, 1) := by decide +kernel
theorem d_Law_law_847 : decode code 847 = .ok (.iaload, 1) := by decide +kernel
theorem d_Law_law_848 : decode code 848 = .ok (.aload_n 3, 1) := by decide +kernel
theorem d_Law_law_849 : decode code 849 = .ok (.invokestatic 154, 3) := by decide +kernel
theorem d_Law_law_852 : decode code 852 = .ok (.istore 5, 2) := by decide +kernel
theorem d_Law_law_854 : decode code 854 = .ok (.aload_n 2, 1) := by decide +kernel
theorem d_Law_law_855 : decode code 855 = .ok (.aload_n 0, 1) := by decide +kernel
theorem d_Law_law_856 : decode code 856 = .ok (.iload 4, 2) := by decide +kernel
theorem d_Law_law_858 : decode code 858 = .ok (.iconst 1, 1) := by decide +kernel
theorem d_Law_law_859 : decode code 859 = .ok (.iadd, 1) := by decide +kernel
theorem d_Law_law_860 : decode code 860 = .ok (.iaload, 1) := by decide +kernel
theorem d_Law_law_861 : decode code 861 = .ok (.aload_n 0, 1) := by decide +kernel
theorem d_Law_law_862 : decode code 862 = .ok (.iload 4, 2) := by decide +kernel
theorem d_Law_law_864 : decode code 864 = .ok (.iconst 2, 1) := by decide +kernel
theorem d_Law_law_865 : decode code 865 = .ok (.iadd, 1) := by decide +kernel
theorem d_Law_law_866 : decode code 866 = .ok (.iaload, 1) := by decide +kernel
theorem d_Law_law_867 : decode code 867 = .ok (.invokevirtual 156, 3) := by decide +kernel
theorem d_Law_law_870 : decode code 870 = .ok (.istore 6, 2) := by decide +kernel
theorem d_Law_law_872 : decode code 872 = .ok (.goto 380, 3) := by decide +kernel
theorem d_Law_law_875 : decode code 875 = .ok (.aload_n 1, 1) := by decide +kernel
theorem d_Law_law_876 : decode code 876 = .ok (.aload_n 0, 1) := by decide +kernel
theorem d_Law_law_877 : decode code 877 = .ok (.iload 4, 2) := by decide +kernel
theorem d_Law_law_879 : decode code 879 = .ok (.iconst 1, 1) := by decide +kernel
theorem d_Law_law_880 : decode code 880 = .ok (.iadd, 1) := by decide +kernel
theorem d_Law_law_881 : decode code 881 = .ok (.iaload, 1) := by decide +kernel
theorem d_Law_law_882 : decode code 882 = .ok (.aload_n 0, 1) := by decide +kernel
theorem d_Law_law_883 : decode code 883 = .ok (.iload 4, 2) := by decide +kernel
theorem d_Law_law_885 : decode code 885 = .ok (.iconst 2, 1) := by decide +kernel
theorem d_Law_law_886 : decode code 886 = .ok (.iadd, 1) := by decide +kernel
theorem d_Law_law_887 : decode code 887 = .ok (.iaload, 1) := by decide +kernel
theorem d_Law_law_888 : decode code 888 = .ok (.invokestatic 157, 3) := by decide +kernel
theorem d_Law_law_891 : decode code 891 = .ok (.istore 5, 2) := by decide +kernel
theorem d_Law_law_893 : decode code 893 = .ok (.aload_n 2, 1) := by decide +kernel
theorem d_Law_law_894 : decode code 894 = .ok (.aload_n 0, 1) := by decide +kernel
theorem d_Law_law_895 : decode code 895 = .ok (.iload 4, 2) := by decide +kernel
theorem d_Law_law_897 : decode code 897 = .ok (.iconst 1, 1) := by decide +kernel
theorem d_Law_law_898 : decode code 898 = .ok (.iadd, 1) := by decide +kernel
theorem d_Law_law_899 : decode code 899 = .ok (.iaload, 1) := by decide +kernel
theorem d_Law_law_900 : decode code 900 = .ok (.aload_n 0, 1) := by decide +kernel
theorem d_Law_law_901 : decode code 901 = .ok (.iload 4, 2) := by decide +kernel
theorem d_Law_law_903 : decode code 903 = .ok (.iconst 2, 1) := by decide +kernel
theorem d_Law_law_904 : decode code 904 = .ok (.iadd, 1) := by decide +kernel
theorem d_Law_law_905 : decode code 905 = .ok (.iaload, 1) := by decide +kernel
theorem d_Law_law_906 : decode code 906 = .ok (.invokevirtual 159, 3) := by decide +kernel
theorem d_Law_law_909 : decode code 909 = .ok (.goto 343, 3) := by decide +kernel
theorem d_Law_law_912 : decode code 912 = .ok (.aload_n 1, 1) := by decide +kernel
theorem d_Law_law_913 : decode code 913 = .ok (.aload_n 0, 1) := by decide +kernel
theorem d_Law_law_914 : decode code 914 = .ok (.iload 4, 2) := by decide +kernel
theorem d_Law_law_916 : decode code 916 = .ok (.iconst 1, 1) := by decide +kernel
theorem d_Law_law_917 : decode code 917 = .ok (.iadd, 1) := by decide +kernel
theorem d_Law_law_918 : decode code 918 = .ok (.iaload, 1) := by decide +kernel
theorem d_Law_law_919 : decode code 919 = .ok (.aload_n 0, 1) := by decide +kernel
theorem d_Law_law_920 : decode code 920 = .ok (.iload 4, 2) := by decide +kernel
theorem d_Law_law_922 : decode code 922 = .ok (.iconst 2, 1) := by decide +kernel
theorem d_Law_law_923 : decode code 923 = .ok (.iadd, 1) := by decide +kernel
theorem d_Law_law_924 : decode code 924 = .ok (.iaload, 1) := by decide +kernel
theorem d_Law_law_925 : decode code 925 = .ok (.aload_n 0, 1) := by decide +kernel
theorem d_Law_law_926 : decode code 926 = .ok (.iload 4, 2) := by decide +kernel
theorem d_Law_law_928 : decode code 928 = .ok (.iconst 3, 1) := by decide +kernel
theorem d_Law_law_929 : decode code 929 = .ok (.iadd, 1) := by decide +kernel
theorem d_Law_law_930 : decode code 930 = .ok (.iaload, 1) := by decide +kernel
theorem d_Law_law_931 : decode code 931 = .ok (.invokestatic 160, 3) := by decide +kernel
theorem d_Law_law_934 : decode code 934 = .ok (.istore 5, 2) := by decide +kernel
theorem d_Law_law_936 : decode code 936 = .ok (.aload_n 2, 1) := by decide +kernel
theorem d_Law_law_937 : decode code 937 = .ok (.aload_n 0, 1) := by decide +kernel
theorem d_Law_law_938 : decode code 938 = .ok (.iload 4, 2) := by decide +kernel
theorem d_Law_law_940 : decode code 940 = .ok (.iconst 1, 1) := by decide +kernel
theorem d_Law_law_941 : decode code 941 = .ok (.iadd, 1) := by decide +kernel
theorem d_Law_law_942 : decode code 942 = .ok (.iaload, 1) := by decide +kernel
theorem d_Law_law_943 : decode code 943 = .ok (.aload_n 0, 1) := by decide +kernel
theorem d_Law_law_944 : decode code 944 = .ok (.iload 4, 2) := by decide +kernel
theorem d_Law_law_946 : decode code 946 = .ok (.iconst 2, 1) := by decide +kernel
theorem d_Law_law_947 : decode code 947 = .ok (.iadd, 1) := by decide +kernel
theorem d_Law_law_948 : decode code 948 = .ok (.iaload, 1) := by decide +kernel
theorem d_Law_law_949 : decode code 949 = .ok (.aload_n 0, 1) := by decide +kernel
theorem d_Law_law_950 : decode code 950 = .ok (.iload 4, 2) := by decide +kernel
theorem d_Law_law_952 : decode code 952 = .ok (.iconst 3, 1) := by decide +kernel
theorem d_Law_law_953 : decode code 953 = .ok (.iadd, 1) := by decide +kernel
theorem d_Law_law_954 : decode code 954 = .ok (.iaload, 1) := by decide +kernel
theorem d_Law_law_955 : decode code 955 = .ok (.invokevirtual 162, 3) := by decide +kernel
theorem d_Law_law_958 : decode code 958 = .ok (.goto 294, 3) := by decide +kernel
theorem d_Law_law_961 : decode code 961 = .ok (.aload_n 1, 1) := by decide +kernel
theorem d_Law_law_962 : decode code 962 = .ok (.aload_n 0, 1) := by decide +kernel
theorem d_Law_law_963 : decode code 963 = .ok (.iload 4, 2) := by decide +kernel
theorem d_Law_law_965 : decode code 965 = .ok (.iconst 1, 1) := by decide +kernel
theorem d_Law_law_966 : decode code 966 = .ok (.iadd, 1) := by decide +kernel
theorem d_Law_law_967 : decode code 967 = .ok (.iaload, 1) := by decide +kernel
theorem d_Law_law_968 : decode code 968 = .ok (.aload_n 0, 1) := by decide +kernel
theorem d_Law_law_969 : decode code 969 = .ok (.iload 4, 2) := by decide +kernel
theorem d_Law_law_971 : decode code 971 = .ok (.iconst 2, 1) := by decide +kernel
theorem d_Law_law_972 : decode code 972 = .ok (.iadd, 1) := by decide +kernel
theorem d_Law_law_973 : decode code 973 = .ok (.iaload, 1) := by decide +kernel
theorem d_Law_law_974 : decode code 974 = .ok (.aload_n 0, 1) := by decide +kernel
theorem d_Law_law_975 : decode code 975 = .ok (.iload 4, 2) := by decide +kernel
theorem d_Law_law_977 : decode code 977 = .ok (.iconst 3, 1) := by decide +kernel
theorem d_Law_law_978 : decode code 978 = .ok (.iadd, 1) := by decide +kernel
theorem d_Law_law_979 : decode code 979 = .ok (.iaload, 1) := by decide +kernel
theorem d_Law_law_980 : decode code 980 = .ok (.aload_n 0, 1) := by decide +kernel
theorem d_Law_law_981 : decode code 981 = .ok (.iload 4, 2) := by decide +kernel
theorem d_Law_law_983 : decode code 983 = .ok (.iconst 4, 1) := by decide +kernel
theorem d_Law_law_984 : decode code 984 = .ok (.iadd, 1) := by decide +kernel
theorem d_Law_law_985 : decode code 985 = .ok (.iaload, 1) := by decide +kernel
theorem d_Law_law_986 : decode code 986 = .ok (.invokestatic 163, 3) := by decide +kernel
theorem d_Law_law_989 : decode code 989 = .ok (.istore 5, 2) := by decide +kernel
theorem d_Law_law_991 : decode code 991 = .ok (.aload_n 2, 1) := by decide +kernel
theorem d_Law_law_992 : decode code 992 = .ok (.aload_n 0, 1) := by decide +kernel
theorem d_Law_law_993 : decode code 993 = .ok (.iload 4, 2) := by decide +kernel
theorem d_Law_law_995 : decode code 995 = .ok (.iconst 1, 1) := by decide +kernel
theorem d_Law_law_996 : decode code 996 = .ok (.iadd, 1) := by decide +kernel
theorem d_Law_law_997 : decode code 997 = .ok (.iaload, 1) := by decide +kernel
theorem d_Law_law_998 : decode code 998 = .ok (.aload_n 0, 1) := by decide +kernel
theorem d_Law_law_999 : decode code 999 = .ok (.iload 4, 2) := by decide +kernel
theorem d_Law_law_1001 : decode code 1001 = .ok (.iconst 2, 1) := by decide +kernel
theorem d_Law_law_1002 : decode code 1002 = .ok (.iadd, 1) := by decide +kernel
theorem d_Law_law_1003 : decode code 1003 = .ok (.iaload, 1) := by decide +kernel
theorem d_Law_law_1004 : decode code 1004 = .ok (.aload_n 0, 1) := by decide +kernel
theorem d_Law_law_1005 : decode code 1005 = .ok (.iload 4, 2) := by decide +kernel
theorem d_Law_law_1007 : decode code 1007 = .ok (.iconst 3, 1) := by decide +kernel
theorem d_Law_law_1008 : decode code 1008 = .ok (.iadd, 1) := by decide +kernel
theorem d_Law_law_1009 : decode code 1009 = .ok (.iaload, 1) := by decide +kernel
theorem d_Law_law_1010 : decode code 1010 = .ok (.aload_n 0, 1) := by decide +kernel
theorem d_Law_law_1011 : decode code 1011 = .ok (.iload 4, 2) := by decide +kernel
theorem d_Law_law_1013 : decode code 1013 = .ok (.iconst 4, 1) := by decide +kernel
theorem d_Law_law_1014 : decode code 1014 = .ok (.iadd, 1) := by decide +kernel
theorem d_Law_law_1015 : decode code 1015 = .ok (.iaload, 1) := by decide +kernel
theorem d_Law_law_1016 : decode code 1016 = .ok (.invokevirtual 165, 3) := by decide +kernel
theorem d_Law_law_1019 : decode code 1019 = .ok (.goto 233, 3) := by decide +kernel
theorem d_Law_law_1022 : decode code 1022 = .ok (.aload_n 1, 1) := by decide +kernel
theorem d_Law_law_1023 : decode code 1023 = .ok (.aload_n 0, 1) := by decide +kernel
theorem d_Law_law_1024 : decode code 1024 = .ok (.iload 4, 2) := by decide +kernel
theorem d_Law_law_1026 : decode code 1026 = .ok (.iconst 1, 1) := by decide +kernel
theorem d_Law_law_1027 : decode code 1027 = .ok (.iadd, 1) := by decide +kernel
theorem d_Law_law_1028 : decode code 1028 = .ok (.iaload, 1) := by decide +kernel
theorem d_Law_law_1029 : decode code 1029 = .ok (.aload_n 0, 1) := by decide +kernel
theorem d_Law_law_1030 : decode code 1030 = .ok (.iload 4, 2) := by decide +kernel
theorem d_Law_law_1032 : decode code 1032 = .ok (.iconst 2, 1) := by decide +kernel
theorem d_Law_law_1033 : decode code 1033 = .ok (.iadd, 1) := by decide +kernel
theorem d_Law_law_1034 : decode code 1034 = .ok (.iaload, 1) := by decide +kernel
theorem d_Law_law_1035 : decode code 1035 = .ok (.aload_n 0, 1) := by decide +kernel
theorem d_Law_law_1036 : decode code 1036 = .ok (.iload 4, 2) := by decide +kernel
theorem d_Law_law_1038 : decode code 1038 = .ok (.iconst 3, 1) := by decide +kernel
theorem d_Law_law_1039 : decode code 1039 = .ok (.iadd, 1) := by decide +kernel
theorem d_Law_law_1040 : decode code 1040 = .ok (.iaload, 1) := by decide +kernel
theorem d_Law_law_1041 : decode code 1041 = .ok (.aload_n 0, 1) := by decide +kernel
theorem d_Law_law_1042 : decode code 1042 = .ok (.iload 4, 2) := by decide +kernel
theorem d_Law_law_1044 : decode code 1044 = .ok (.iconst 4, 1) := by decide +kernel
theorem d_Law_law_1045 : decode code 1045 = .ok (.iadd, 1) := by decide +kernel
theorem d_Law_law_1046 : decode code 1046 = .ok (.iaload, 1) := by decide +kernel
theorem d_Law_law_1047 : decode code 1047 = .ok (.aload_n 0, 1) := by decide +kernel
theorem d_Law_law_1048 : decode code 1048 = .ok (.iload 4, 2) := by decide +kernel
theorem d_Law_law_1050 : decode code 1050 = .ok (.iconst 5, 1) := by decide +kernel
theorem d_Law_law_1051 : decode code 1051 = .ok (.iadd, 1) := by decide +kernel
theorem d_Law_law_1052 : decode code 1052 = .ok (.iaload, 1) := by decide +kernel
theorem d_Law_law_1053 : decode code 1053 = .ok (.aload_n 3, 1) := by decide +kernel
theorem d_Law_law_1054 : decode code 1054 = .ok (.invokestatic 166, 3) := by decide +kernel
theorem d_Law_law_1057 : decode code 1057 = .ok (.istore 5, 2) := by decide +kernel
theorem d_Law_law_1059 : decode code 1059 = .ok (.aload_n 2, 1) := by decide +kernel
theorem d_Law_law_1060 : decode code 1060 = .ok (.aload_n 0, 1) := by decide +kernel
theorem d_Law_law_1061 : decode code 1061 = .ok (.iload 4, 2) := by decide +kernel
theorem d_Law_law_1063 : decode code 1063 = .ok (.iconst 1, 1) := by decide +kernel
theorem d_Law_law_1064 : decode code 1064 = .ok (.iadd, 1) := by decide +kernel
theorem d_Law_law_1065 : decode code 1065 = .ok (.iaload, 1) := by decide +kernel
theorem d_Law_law_1066 : decode code 1066 = .ok (.aload_n 0, 1) := by decide +kernel
theorem d_Law_law_1067 : decode code 1067 = .ok (.iload 4, 2) := by decide +kernel
theorem d_Law_law_1069 : decode code 1069 = .ok (.iconst 2, 1) := by decide +kernel
theorem d_Law_law_1070 : decode code 1070 = .ok (.iadd, 1) := by decide +kernel
theorem d_Law_law_1071 : decode code 1071 = .ok (.iaload, 1) := by decide +kernel
theorem d_Law_law_1072 : decode code 1072 = .ok (.aload_n 0, 1) := by decide +kernel
theorem d_Law_law_1073 : decode code 1073 = .ok (.iload 4, 2) := by decide +kernel
theorem d_Law_law_1075 : decode code 1075 = .ok (.iconst 3, 1) := by decide +kernel
theorem d_Law_law_1076 : decode code 1076 = .ok (.iadd, 1) := by decide +kernel
theorem d_Law_law_1077 : decode code 1077 = .ok (.iaload, 1) := by decide +kernel
theorem d_Law_law_1078 : decode code 1078 = .ok (.aload_n 0, 1) := by decide +kernel
theorem d_Law_law_1079 : decode code 1079 = .ok (.iload 4, 2) := by decide +kernel
theorem d_Law_law_1081 : decode code 1081 = .ok (.iconst 4, 1) := by decide +kernel
theorem d_Law_law_1082 : decode code 1082 = .ok (.iadd, 1) := by decide +kernel
theorem d_Law_law_1083 : decode code 1083 = .ok (.iaload, 1) := by decide +kernel
theorem d_Law_law_1084 : decode code 1084 = .ok (.aload_n 0, 1) := by decide +kernel
theorem d_Law_law_1085 : decode code 1085 = .ok (.iload 4, 2) := by decide +kernel
theorem d_Law_law_1087 : decode code 1087 = .ok (.iconst 5, 1) := by decide +kernel
theorem d_Law_law_1088 : decode code 1088 = .ok (.iadd, 1) := by decide +kernel
theorem d_Law_law_1089 : decode code 1089 = .ok (.iaload, 1) := by decide +kernel
theorem d_Law_law_1090 : decode code 1090 = .ok (.invokevirtual 169, 3) := by decide +kernel
theorem d_Law_law_1093 : decode code 1093 = .ok (.istore 6, 2) := by decide +kernel
theorem d_Law_law_1095 : decode code 1095 = .ok (.goto 157, 3) := by decide +kernel
theorem d_Law_law_1098 : decode code 1098 = .ok (.aload_n 1, 1) := by decide +kernel
theorem d_Law_law_1099 : decode code 1099 = .ok (.aload_n 0, 1) := by decide +kernel
theorem d_Law_law_1100 : decode code 1100 = .ok (.iload 4, 2) := by decide +kernel
theorem d_Law_law_1102 : decode code 1102 = .ok (.iconst 1, 1) := by decide +kernel
theorem d_Law_law_1103 : decode code 1103 = .ok (.iadd, 1) := by decide +kernel
theorem d_Law_law_1104 : decode code 1104 = .ok (.iaload, 1) := by decide +kernel
theorem d_Law_law_1105 : decode code 1105 = .ok (.aload_n 0, 1) := by decide +kernel
theorem d_Law_law_1106 : decode code 1106 = .ok (.iload 4, 2) := by decide +kernel
theorem d_Law_law_1108 : decode code 1108 = .ok (.iconst 2, 1) := by decide +kernel
theorem d_Law_law_1109 : decode code 1109 = .ok (.iadd, 1) := by decide +kernel
theorem d_Law_law_1110 : decode code 1110 = .ok (.iaload, 1) := by decide +kernel
theorem d_Law_law_1111 : decode code 1111 = .ok (.aload_n 0, 1) := by decide +kernel
theorem d_Law_law_1112 : decode code 1112 = .ok (.iload 4, 2) := by decide +kernel
theorem d_Law_law_1114 : decode code 1114 = .ok (.iconst 3, 1) := by decide +kernel
theorem d_Law_law_1115 : decode code 1115 = .ok (.iadd, 1) := by decide +kernel
theorem d_Law_law_1116 : decode code 1116 = .ok (.iaload, 1) := by decide +kernel
theorem d_Law_law_1117 : decode code 1117 = .ok (.ifCond .eq 7, 3) := by decide +kernel
theorem d_Law_law_1120 : decode code 1120 = .ok (.iconst 1, 1) := by decide +kernel
theorem d_Law_law_1121 : decode code 1121 = .ok (.goto 4, 3) := by decide +kernel
theorem d_Law_law_1124 : decode code 1124 = .ok (.iconst 0, 1) := by decide +kernel
theorem d_Law_law_1125 : decode code 1125 = .ok (.invokestatic 170, 3) := by decide +kernel
theorem d_Law_law_1128 : decode code 1128 = .ok (.istore 5, 2) := by decide +kernel
theorem d_Law_law_1130 : decode code 1130 = .ok (.aload_n 2, 1) := by decide +kernel
theorem d_Law_law_1131 : decode code 1131 = .ok (.aload_n 0, 1) := by decide +kernel
theorem d_Law_law_1132 : decode code 1132 = .ok (.iload 4, 2) := by decide +kernel
theorem d_Law_law_1134 : decode code 1134 = .ok (.iconst 1, 1) := by decide +kernel
theorem d_Law_law_1135 : decode code 1135 = .ok (.iadd, 1) := by decide +kernel
theorem d_Law_law_1136 : decode code 1136 = .ok (.iaload, 1) := by decide +kernel
theorem d_Law_law_1137 : decode code 1137 = .ok (.aload_n 0, 1) := by decide +kernel
theorem d_Law_law_1138 : decode code 1138 = .ok (.iload 4, 2) := by decide +kernel
theorem d_Law_law_1140 : decode code 1140 = .ok (.iconst 2, 1) := by decide +kernel
theorem d_Law_law_1141 : decode code 1141 = .ok (.iadd, 1) := by decide +kernel
theorem d_Law_law_1142 : decode code 1142 = .ok (.iaload, 1) := by decide +kernel
theorem d_Law_law_1143 : decode code 1143 = .ok (.aload_n 0, 1) := by decide +kernel
theorem d_Law_law_1144 : decode code 1144 = .ok (.iload 4, 2) := by decide +kernel
theorem d_Law_law_1146 : decode code 1146 = .ok (.iconst 3, 1) := by decide +kernel
theorem d_Law_law_1147 : decode code 1147 = .ok (.iadd, 1) := by decide +kernel
theorem d_Law_law_1148 : decode code 1148 = .ok (.iaload, 1) := by decide +kernel
theorem d_Law_law_1149 : decode code 1149 = .ok (.ifCond .eq 7, 3) := by decide +kernel
theorem d_Law_law_1152 : decode code 1152 = .ok (.iconst 1, 1) := by decide +kernel
theorem d_Law_law_1153 : decode code 1153 = .ok (.goto 4, 3) := by decide +kernel
theorem d_Law_law_1156 : decode code 1156 = .ok (.iconst 0, 1) := by decide +kernel
theorem d_Law_law_1157 : decode code 1157 = .ok (.invokevirtual 173, 3) := by decide +kernel
theorem d_Law_law_1160 : decode code 1160 = .ok (.goto 92, 3) := by decide +kernel
theorem d_Law_law_1163 : decode code 1163 = .ok (.aload_n 1, 1) := by decide +kernel
theorem d_Law_law_1164 : decode code 1164 = .ok (.aload_n 0, 1) := by decide +kernel
theorem d_Law_law_1165 : decode code 1165 = .ok (.iload 4, 2) := by decide +kernel
theorem d_Law_law_1167 : decode code 1167 = .ok (.iconst 1, 1) := by decide +kernel
theorem d_Law_law_1168 : decode code 1168 = .ok (.iadd, 1) := by decide +kernel
theorem d_Law_law_1169 : decode code 1169 = .ok (.iaload, 1) := by decide +kernel
theorem d_Law_law_1170 : decode code 1170 = .ok (.aload_n 0, 1) := by decide +kernel
theorem d_Law_law_1171 : decode code 1171 = .ok (.iload 4, 2) := by decide +kernel
theorem d_Law_law_1173 : decode code 1173 = .ok (.iconst 2, 1) := by decide +kernel
theorem d_Law_law_1174 : decode code 1174 = .ok (.iadd, 1) := by decide +kernel
theorem d_Law_law_1175 : decode code 1175 = .ok (.iaload, 1) := by decide +kernel
theorem d_Law_law_1176 : decode code 1176 = .ok (.aload_n 0, 1) := by decide +kernel
theorem d_Law_law_1177 : decode code 1177 = .ok (.iload 4, 2) := by decide +kernel
theorem d_Law_law_1179 : decode code 1179 = .ok (.iconst 3, 1) := by decide +kernel
theorem d_Law_law_1180 : decode code 1180 = .ok (.iadd, 1) := by decide +kernel
theorem d_Law_law_1181 : decode code 1181 = .ok (.iaload, 1) := by decide +kernel
theorem d_Law_law_1182 : decode code 1182 = .ok (.aload_n 0, 1) := by decide +kernel
theorem d_Law_law_1183 : decode code 1183 = .ok (.iload 4, 2) := by decide +kernel
theorem d_Law_law_1185 : decode code 1185 = .ok (.iconst 4, 1) := by decide +kernel
theorem d_Law_law_1186 : decode code 1186 = .ok (.iadd, 1) := by decide +kernel
theorem d_Law_law_1187 : decode code 1187 = .ok (.iaload, 1) := by decide +kernel
theorem d_Law_law_1188 : decode code 1188 = .ok (.invokestatic 174, 3) := by decide +kernel
theorem d_Law_law_1191 : decode code 1191 = .ok (.istore 5, 2) := by decide +kernel
theorem d_Law_law_1193 : decode code 1193 = .ok (.aload_n 2, 1) := by decide +kernel
theorem d_Law_law_1194 : decode code 1194 = .ok (.aload_n 0, 1) := by decide +kernel
theorem d_Law_law_1195 : decode code 1195 = .ok (.iload 4, 2) := by decide +kernel
theorem d_Law_law_1197 : decode code 1197 = .ok (.iconst 1, 1) := by decide +kernel
theorem d_Law_law_1198 : decode code 1198 = .ok (.iadd, 1) := by decide +kernel
theorem d_Law_law_1199 : decode code 1199 = .ok (.iaload, 1) := by decide +kernel
theorem d_Law_law_1200 : decode code 1200 = .ok (.aload_n 0, 1) := by decide +kernel
theorem d_Law_law_1201 : decode code 1201 = .ok (.iload 4, 2) := by decide +kernel
theorem d_Law_law_1203 : decode code 1203 = .ok (.iconst 2, 1) := by decide +kernel
theorem d_Law_law_1204 : decode code 1204 = .ok (.iadd, 1) := by decide +kernel
theorem d_Law_law_1205 : decode code 1205 = .ok (.iaload, 1) := by decide +kernel
theorem d_Law_law_1206 : decode code 1206 = .ok (.aload_n 0, 1) := by decide +kernel
theorem d_Law_law_1207 : decode code 1207 = .ok (.iload 4, 2) := by decide +kernel
theorem d_Law_law_1209 : decode code 1209 = .ok (.iconst 3, 1) := by decide +kernel
theorem d_Law_law_1210 : decode code 1210 = .ok (.iadd, 1) := by decide +kernel
theorem d_Law_law_1211 : decode code 1211 = .ok (.iaload, 1) := by decide +kernel
theorem d_Law_law_1212 : decode code 1212 = .ok (.aload_n 0, 1) := by decide +kernel
theorem d_Law_law_1213 : decode code 1213 = .ok (.iload 4, 2) := by decide +kernel
theorem d_Law_law_1215 : decode code 1215 = .ok (.iconst 4, 1) := by decide +kernel
theorem d_Law_law_1216 : decode code 1216 = .ok (.iadd, 1) := by decide +kernel
theorem d_Law_law_1217 : decode code 1217 = .ok (.iaload, 1) := by decide +kernel
theorem d_Law_law_1218 : decode code 1218 = .ok (.invokevirtual 176, 3) := by decide +kernel
theorem d_Law_law_1221 : decode code 1221 = .ok (.goto 31, 3) := by decide +kernel
theorem d_Law_law_1224 : decode code 1224 = .ok (.aload_n 1, 1) := by decide +kernel
theorem d_Law_law_1225 : decode code 1225 = .ok (.aload_n 0, 1) := by decide +kernel
theorem d_Law_law_1226 : decode code 1226 = .ok (.iload 4, 2) := by decide +kernel
theorem d_Law_law_1228 : decode code 1228 = .ok (.iconst 1, 1) := by decide +kernel
theorem d_Law_law_1229 : decode code 1229 = .ok (.iadd, 1) := by decide +kernel
theorem d_Law_law_1230 : decode code 1230 = .ok (.iaload, 1) := by decide +kernel
theorem d_Law_law_1231 : decode code 1231 = .ok (.aload_n 3, 1) := by decide +kernel
theorem d_Law_law_1232 : decode code 1232 = .ok (.invokestatic 177, 3) := by decide +kernel
theorem d_Law_law_1235 : decode code 1235 = .ok (.istore 5, 2) := by decide +kernel
theorem d_Law_law_1237 : decode code 1237 = .ok (.aload_n 2, 1) := by decide +kernel
theorem d_Law_law_1238 : decode code 1238 = .ok (.aload_n 0, 1) := by decide +kernel
theorem d_Law_law_1239 : decode code 1239 = .ok (.iload 4, 2) := by decide +kernel
theorem d_Law_law_1241 : decode code 1241 = .ok (.iconst 1, 1) := by decide +kernel
theorem d_Law_law_1242 : decode code 1242 = .ok (.iadd, 1) := by decide +kernel
theorem d_Law_law_1243 : decode code 1243 = .ok (.iaload, 1) := by decide +kernel
theorem d_Law_law_1244 : decode code 1244 = .ok (.invokevirtual 179, 3) := by decide +kernel
theorem d_Law_law_1247 : decode code 1247 = .ok (.istore 6, 2) := by decide +kernel
theorem d_Law_law_1249 : decode code 1249 = .ok (.goto 3, 3) := by decide +kernel
theorem d_Law_law_1252 : decode code 1252 = .ok (.iinc 4 6, 3) := by decide +kernel
theorem d_Law_law_1255 : decode code 1255 = .ok (.goto (-1232), 3) := by decide +kernel
theorem d_Law_law_1258 : decode code 1258 = .ok (.iconst 1, 1) := by decide +kernel
theorem d_Law_law_1259 : decode code 1259 = .ok (.ireturn, 1) := by decide +kernel
