abbrev y_Model_sum : MethodName := ⟨"KateDeskModel", "sum", "(III)V"⟩
theorem hd_Model_sum : y_Model_sum.cls ≠ "java/lang/invoke/MethodHandle" ∧ y_Model_sum.cls ≠ "java/lang/invoke/VarHandle" ∧ (parseMethodDescriptor y_Model_sum.desc).map (fun d => d.parameters.length) = some 3 := by decide +kernel
theorem d_Model_sum_0 : decode prog_11_method_30_code 0 = .ok (.aload_n 0, 1) := by decide +kernel
theorem d_Model_sum_1 : decode prog_11_method_30_code 1 = .ok (.bipush 124, 2) := by decide +kernel
theorem d_Model_sum_3 : decode prog_11_method_30_code 3 = .ok (.iload_n 2, 1) := by decide +kernel
theorem d_Model_sum_4 : decode prog_11_method_30_code 4 = .ok (.iload_n 3, 1) := by decide +kernel
theorem d_Model_sum_5 : decode prog_11_method_30_code 5 = .ok (.invokevirtual 184, 3) := by decide +kernel
theorem d_Model_sum_8 : decode prog_11_method_30_code 8 = .ok (.aload_n 0, 1) := by decide +kernel
theorem d_Model_sum_9 : decode prog_11_method_30_code 9 = .ok (.bipush 125, 2) := by decide +kernel
theorem d_Model_sum_11 : decode prog_11_method_30_code 11 = .ok (.iload_n 2, 1) := by decide +kernel
theorem d_Model_sum_12 : decode prog_11_method_30_code 12 = .ok (.iconst 1, 1) := by decide +kernel
theorem d_Model_sum_13 : decode prog_11_method_30_code 13 = .ok (.iadd, 1) := by decide +kernel
theorem d_Model_sum_14 : decode prog_11_method_30_code 14 = .ok (.iload_n 3, 1) := by decide +kernel
theorem d_Model_sum_15 : decode prog_11_method_30_code 15 = .ok (.iconst 1, 1) := by decide +kernel
theorem d_Model_sum_16 : decode prog_11_method_30_code 16 = .ok (.iadd, 1) := by decide +kernel
theorem d_Model_sum_17 : decode prog_11_method_30_code 17 = .ok (.invokevirtual 184, 3) := by decide +kernel
theorem d_Model_sum_20 : decode prog_11_method_30_code 20 = .ok (.aload_n 0, 1) := by decide +kernel
theorem d_Model_sum_21 : decode prog_11_method_30_code 21 = .ok (.bipush 126, 2) := by decide +kernel
theorem d_Model_sum_23 : decode prog_11_method_30_code 23 = .ok (.iload_n 2, 1) := by decide +kernel
theorem d_Model_sum_24 : decode prog_11_method_30_code 24 = .ok (.iconst 2, 1) := by decide +kernel
theorem d_Model_sum_25 : decode prog_11_method_30_code 25 = .ok (.iadd, 1) := by decide +kernel
theorem d_Model_sum_26 : decode prog_11_method_30_code 26 = .ok (.iload_n 3, 1) := by decide +kernel
theorem d_Model_sum_27 : decode prog_11_method_30_code 27 = .ok (.iconst 2, 1) := by decide +kernel
theorem d_Model_sum_28 : decode prog_11_method_30_code 28 = .ok (.iadd, 1) := by decide +kernel
theorem d_Model_sum_29 : decode prog_11_method_30_code 29 = .ok (.invokevirtual 184, 3) := by decide +kernel
theorem d_Model_sum_32 : decode prog_11_method_30_code 32 = .ok (.aload_n 0, 1) := by decide +kernel
theorem d_Model_sum_33 : decode prog_11_method_30_code 33 = .ok (.bipush 127, 2) := by decide +kernel
theorem d_Model_sum_35 : decode prog_11_method_30_code 35 = .ok (.iload_n 2, 1) := by decide +kernel
theorem d_Model_sum_36 : decode prog_11_method_30_code 36 = .ok (.iload_n 2, 1) := by decide +kernel
theorem d_Model_sum_37 : decode prog_11_method_30_code 37 = .ok (.iconst 1, 1) := by decide +kernel
theorem d_Model_sum_38 : decode prog_11_method_30_code 38 = .ok (.iadd, 1) := by decide +kernel
theorem d_Model_sum_39 : decode prog_11_method_30_code 39 = .ok (.invokevirtual 148, 3) := by decide +kernel
theorem d_Model_sum_42 : decode prog_11_method_30_code 42 = .ok (.aload_n 0, 1) := by decide +kernel
theorem d_Model_sum_43 : decode prog_11_method_30_code 43 = .ok (.sipush 128, 3) := by decide +kernel
theorem d_Model_sum_46 : decode prog_11_method_30_code 46 = .ok (.iload_n 3, 1) := by decide +kernel
theorem d_Model_sum_47 : decode prog_11_method_30_code 47 = .ok (.iload_n 3, 1) := by decide +kernel
theorem d_Model_sum_48 : decode prog_11_method_30_code 48 = .ok (.iconst 1, 1) := by decide +kernel
theorem d_Model_sum_49 : decode prog_11_method_30_code 49 = .ok (.iadd, 1) := by decide +kernel
theorem d_Model_sum_50 : decode prog_11_method_30_code 50 = .ok (.invokevirtual 148, 3) := by decide +kernel
theorem d_Model_sum_53 : decode prog_11_method_30_code 53 = .ok (.aload_n 0, 1) := by decide +kernel
theorem d_Model_sum_54 : decode prog_11_method_30_code 54 = .ok (.bipush 127, 2) := by decide +kernel
theorem d_Model_sum_56 : decode prog_11_method_30_code 56 = .ok (.bipush 127, 2) := by decide +kernel
theorem d_Model_sum_58 : decode prog_11_method_30_code 58 = .ok (.sipush 128, 3) := by decide +kernel
theorem d_Model_sum_61 : decode prog_11_method_30_code 61 = .ok (.invokevirtual 184, 3) := by decide +kernel
theorem d_Model_sum_64 : decode prog_11_method_30_code 64 = .ok (.aload_n 0, 1) := by decide +kernel
theorem d_Model_sum_65 : decode prog_11_method_30_code 65 = .ok (.sipush 128, 3) := by decide +kernel
theorem d_Model_sum_68 : decode prog_11_method_30_code 68 = .ok (.bipush 124, 2) := by decide +kernel
theorem d_Model_sum_70 : decode prog_11_method_30_code 70 = .ok (.bipush 125, 2) := by decide +kernel
theorem d_Model_sum_72 : decode prog_11_method_30_code 72 = .ok (.invokevirtual 148, 3) := by decide +kernel
theorem d_Model_sum_75 : decode prog_11_method_30_code 75 = .ok (.aload_n 0, 1) := by decide +kernel
theorem d_Model_sum_76 : decode prog_11_method_30_code 76 = .ok (.bipush 127, 2) := by decide +kernel
theorem d_Model_sum_78 : decode prog_11_method_30_code 78 = .ok (.bipush 127, 2) := by decide +kernel
theorem d_Model_sum_80 : decode prog_11_method_30_code 80 = .ok (.sipush 128, 3) := by decide +kernel
theorem d_Model_sum_83 : decode prog_11_method_30_code 83 = .ok (.invokevirtual 203, 3) := by decide +kernel
theorem d_Model_sum_86 : decode prog_11_method_30_code 86 = .ok (.aload_n 0, 1) := by decide +kernel
theorem d_Model_sum_87 : decode prog_11_method_30_code 87 = .ok (.sipush 128, 3) := by decide +kernel
theorem d_Model_sum_90 : decode prog_11_method_30_code 90 = .ok (.iload_n 2, 1) := by decide +kernel
theorem d_Model_sum_91 : decode prog_11_method_30_code 91 = .ok (.iconst 1, 1) := by decide +kernel
theorem d_Model_sum_92 : decode prog_11_method_30_code 92 = .ok (.iadd, 1) := by decide +kernel
theorem d_Model_sum_93 : decode prog_11_method_30_code 93 = .ok (.iload_n 2, 1) := by decide +kernel
theorem d_Model_sum_94 : decode prog_11_method_30_code 94 = .ok (.iconst 2, 1) := by decide +kernel
theorem d_Model_sum_95 : decode prog_11_method_30_code 95 = .ok (.iadd, 1) := by decide +kernel
theorem d_Model_sum_96 : decode prog_11_method_30_code 96 = .ok (.invokevirtual 148, 3) := by decide +kernel
theorem d_Model_sum_99 : decode prog_11_method_30_code 99 = .ok (.aload_n 0, 1) := by decide +kernel
theorem d_Model_sum_100 : decode prog_11_method_30_code 100 = .ok (.sipush 129, 3) := by decide +kernel
theorem d_Model_sum_103 : decode prog_11_method_30_code 103 = .ok (.iload_n 3, 1) := by decide +kernel
theorem d_Model_sum_104 : decode prog_11_method_30_code 104 = .ok (.iconst 1, 1) := by decide +kernel
theorem d_Model_sum_105 : decode prog_11_method_30_code 105 = .ok (.iadd, 1) := by decide +kernel
theorem d_Model_sum_106 : decode prog_11_method_30_code 106 = .ok (.iload_n 3, 1) := by decide +kernel
theorem d_Model_sum_107 : decode prog_11_method_30_code 107 = .ok (.iconst 2, 1) := by decide +kernel
theorem d_Model_sum_108 : decode prog_11_method_30_code 108 = .ok (.iadd, 1) := by decide +kernel
theorem d_Model_sum_109 : decode prog_11_method_30_code 109 = .ok (.invokevirtual 148, 3) := by decide +kernel
theorem d_Model_sum_112 : decode prog_11_method_30_code 112 = .ok (.aload_n 0, 1) := by decide +kernel
theorem d_Model_sum_113 : decode prog_11_method_30_code 113 = .ok (.sipush 128, 3) := by decide +kernel
theorem d_Model_sum_116 : decode prog_11_method_30_code 116 = .ok (.sipush 128, 3) := by decide +kernel
theorem d_Model_sum_119 : decode prog_11_method_30_code 119 = .ok (.sipush 129, 3) := by decide +kernel
theorem d_Model_sum_122 : decode prog_11_method_30_code 122 = .ok (.invokevirtual 184, 3) := by decide +kernel
theorem d_Model_sum_125 : decode prog_11_method_30_code 125 = .ok (.aload_n 0, 1) := by decide +kernel
theorem d_Model_sum_126 : decode prog_11_method_30_code 126 = .ok (.sipush 129, 3) := by decide +kernel
theorem d_Model_sum_129 : decode prog_11_method_30_code 129 = .ok (.bipush 125, 2) := by decide +kernel
theorem d_Model_sum_131 : decode prog_11_method_30_code 131 = .ok (.bipush 126, 2) := by decide +kernel
theorem d_Model_sum_133 : decode prog_11_method_30_code 133 = .ok (.invokevirtual 148, 3) := by decide +kernel
theorem d_Model_sum_136 : decode prog_11_method_30_code 136 = .ok (.aload_n 0, 1) := by decide +kernel
theorem d_Model_sum_137 : decode prog_11_method_30_code 137 = .ok (.sipush 128, 3) := by decide +kernel
theorem d_Model_sum_140 : decode prog_11_method_30_code 140 = .ok (.sipush 128, 3) := by decide +kernel
theorem d_Model_sum_143 : decode prog_11_method_30_code 143 = .ok (.sipush 129, 3) := by decide +kernel
theorem d_Model_sum_146 : decode prog_11_method_30_code 146 = .ok (.invokevirtual 203, 3) := by decide +kernel
theorem d_Model_sum_149 : decode prog_11_method_30_code 149 = .ok (.aload_n 0, 1) := by decide +kernel
theorem d_Model_sum_150 : decode prog_11_method_30_code 150 = .ok (.sipush 129, 3) := by decide +kernel
theorem d_Model_sum_153 : decode prog_11_method_30_code 153 = .ok (.iload_n 2, 1) := by decide +kernel
theorem d_Model_sum_154 : decode prog_11_method_30_code 154 = .ok (.iload_n 2, 1) := by decide +kernel
theorem d_Model_sum_155 : decode prog_11_method_30_code 155 = .ok (.iconst 2, 1) := by decide +kernel
theorem d_Model_sum_156 : decode prog_11_method_30_code 156 = .ok (.iadd, 1) := by decide +kernel
theorem d_Model_sum_157 : decode prog_11_method_30_code 157 = .ok (.invokevirtual 148, 3) := by decide +kernel
theorem d_Model_sum_160 : decode prog_11_method_30_code 160 = .ok (.aload_n 0, 1) := by decide +kernel
theorem d_Model_sum_161 : decode prog_11_method_30_code 161 = .ok (.sipush 130, 3) := by decide +kernel
theorem d_Model_sum_164 : decode prog_11_method_30_code 164 = .ok (.iload_n 3, 1) := by decide +kernel
theorem d_Model_sum_165 : decode prog_11_method_30_code 165 = .ok (.iload_n 3, 1) := by decide +kernel
theorem d_Model_sum_166 : decode prog_11_method_30_code 166 = .ok (.iconst 2, 1) := by decide +kernel
theorem d_Model_sum_167 : decode prog_11_method_30_code 167 = .ok (.iadd, 1) := by decide +kernel
theorem d_Model_sum_168 : decode prog_11_method_30_code 168 = .ok (.invokevirtual 148, 3) := by decide +kernel
theorem d_Model_sum_171 : decode prog_11_method_30_code 171 = .ok (.aload_n 0, 1) := by decide +kernel
theorem d_Model_sum_172 : decode prog_11_method_30_code 172 = .ok (.sipush 129, 3) := by decide +kernel
theorem d_Model_sum_175 : decode prog_11_method_30_code 175 = .ok (.sipush 129, 3) := by decide +kernel
theorem d_Model_sum_178 : decode prog_11_method_30_code 178 = .ok (.sipush 130, 3) := by decide +kernel
theorem d_Model_sum_181 : decode prog_11_method_30_code 181 = .ok (.invokevirtual 184, 3) := by decide +kernel
theorem d_Model_sum_184 : decode prog_11_method_30_code 184 = .ok (.aload_n 0, 1) := by decide +kernel
theorem d_Model_sum_185 : decode prog_11_method_30_code 185 = .ok (.sipush 130, 3) := by decide +kernel
theorem d_Model_sum_188 : decode prog_11_method_30_code 188 = .ok (.bipush 124, 2) := by decide +kernel
theorem d_Model_sum_190 : decode prog_11_method_30_code 190 = .ok (.bipush 126, 2) := by decide +kernel
theorem d_Model_sum_192 : decode prog_11_method_30_code 192 = .ok (.invokevirtual 148, 3) := by decide +kernel
theorem d_Model_sum_195 : decode prog_11_method_30_code 195 = .ok (.aload_n 0, 1) := by decide +kernel
theorem d_Model_sum_196 : decode prog_11_method_30_code 196 = .ok (.sipush 130, 3) := by decide +kernel
theorem d_Model_sum_199 : decode prog_11_method_30_code 199 = .ok (.sipush 129, 3) := by decide +kernel
theorem d_Model_sum_202 : decode prog_11_method_30_code 202 = .ok (.sipush 130, 3) := by decide +kernel
theorem d_Model_sum_205 : decode prog_11_method_30_code 205 = .ok (.invokevirtual 203, 3) := by decide +kernel
theorem d_Model_sum_208 : decode prog_11_method_30_code 208 = .ok (.aload_n 0, 1) := by decide +kernel
theorem d_Model_sum_209 : decode prog_11_method_30_code 209 = .ok (.sipush 129, 3) := by decide +kernel
theorem d_Model_sum_212 : decode prog_11_method_30_code 212 = .ok (.bipush 124, 2) := by decide +kernel
theorem d_Model_sum_214 : decode prog_11_method_30_code 214 = .ok (.bipush 124, 2) := by decide +kernel
theorem d_Model_sum_216 : decode prog_11_method_30_code 216 = .ok (.invokevirtual 148, 3) := by decide +kernel
theorem d_Model_sum_219 : decode prog_11_method_30_code 219 = .ok (.aload_n 0, 1) := by decide +kernel
theorem d_Model_sum_220 : decode prog_11_method_30_code 220 = .ok (.bipush 124, 2) := by decide +kernel
theorem d_Model_sum_222 : decode prog_11_method_30_code 222 = .ok (.sipush 129, 3) := by decide +kernel
theorem d_Model_sum_225 : decode prog_11_method_30_code 225 = .ok (.bipush 124, 2) := by decide +kernel
theorem d_Model_sum_227 : decode prog_11_method_30_code 227 = .ok (.invokevirtual 148, 3) := by decide +kernel
theorem d_Model_sum_230 : decode prog_11_method_30_code 230 = .ok (.aload_n 0, 1) := by decide +kernel
theorem d_Model_sum_231 : decode prog_11_method_30_code 231 = .ok (.bipush 126, 2) := by decide +kernel
theorem d_Model_sum_233 : decode prog_11_method_30_code 233 = .ok (.invokevirtual 206, 3) := by decide +kernel
theorem d_Model_sum_236 : decode prog_11_method_30_code 236 = .ok (.aload_n 0, 1) := by decide +kernel
theorem d_Model_sum_237 : decode prog_11_method_30_code 237 = .ok (.sipush 131, 3) := by decide +kernel
theorem d_Model_sum_240 : decode prog_11_method_30_code 240 = .ok (.bipush 125, 2) := by decide +kernel
theorem d_Model_sum_242 : decode prog_11_method_30_code 242 = .ok (.bipush 126, 2) := by decide +kernel
theorem d_Model_sum_244 : decode prog_11_method_30_code 244 = .ok (.invokevirtual 148, 3) := by decide +kernel
theorem d_Model_sum_247 : decode prog_11_method_30_code 247 = .ok (.aload_n 0, 1) := by decide +kernel
theorem d_Model_sum_248 : decode prog_11_method_30_code 248 = .ok (.bipush 125, 2) := by decide +kernel
theorem d_Model_sum_250 : decode prog_11_method_30_code 250 = .ok (.bipush 125, 2) := by decide +kernel
theorem d_Model_sum_252 : decode prog_11_method_30_code 252 = .ok (.bipush 126, 2) := by decide +kernel
theorem d_Model_sum_254 : decode prog_11_method_30_code 254 = .ok (.invokevirtual 203, 3) := by decide +kernel
theorem d_Model_sum_257 : decode prog_11_method_30_code 257 = .ok (.aload_n 0, 1) := by decide +kernel
theorem d_Model_sum_258 : decode prog_11_method_30_code 258 = .ok (.sipush 130, 3) := by decide +kernel
theorem d_Model_sum_261 : decode prog_11_method_30_code 261 = .ok (.invokevirtual 206, 3) := by decide +kernel
theorem d_Model_sum_264 : decode prog_11_method_30_code 264 = .ok (.aload_n 0, 1) := by decide +kernel
theorem d_Model_sum_265 : decode prog_11_method_30_code 265 = .ok (.sipush 129, 3) := by decide +kernel
theorem d_Model_sum_268 : decode prog_11_method_30_code 268 = .ok (.sipush 128, 3) := by decide +kernel
theorem d_Model_sum_271 : decode prog_11_method_30_code 271 = .ok (.sipush 130, 3) := by decide +kernel
theorem d_Model_sum_274 : decode prog_11_method_30_code 274 = .ok (.invokevirtual 184, 3) := by decide +kernel
theorem d_Model_sum_277 : decode prog_11_method_30_code 277 = .ok (.aload_n 0, 1) := by decide +kernel
theorem d_Model_sum_278 : decode prog_11_method_30_code 278 = .ok (.bipush 126, 2) := by decide +kernel
theorem d_Model_sum_280 : decode prog_11_method_30_code 280 = .ok (.bipush 127, 2) := by decide +kernel
theorem d_Model_sum_282 : decode prog_11_method_30_code 282 = .ok (.bipush 125, 2) := by decide +kernel
theorem d_Model_sum_284 : decode prog_11_method_30_code 284 = .ok (.invokevirtual 184, 3) := by decide +kernel
theorem d_Model_sum_287 : decode prog_11_method_30_code 287 = .ok (.aload_n 0, 1) := by decide +kernel
theorem d_Model_sum_288 : decode prog_11_method_30_code 288 = .ok (.iload_n 1, 1) := by decide +kernel
theorem d_Model_sum_289 : decode prog_11_method_30_code 289 = .ok (.bipush 126, 2) := by decide +kernel
theorem d_Model_sum_291 : decode prog_11_method_30_code 291 = .ok (.sipush 129, 3) := by decide +kernel
theorem d_Model_sum_294 : decode prog_11_method_30_code 294 = .ok (.invokevirtual 203, 3) := by decide +kernel
theorem d_Model_sum_297 : decode prog_11_method_30_code 297 = .ok (.aload_n 0, 1) := by decide +kernel
theorem d_Model_sum_298 : decode prog_11_method_30_code 298 = .ok (.sipush 130, 3) := by decide +kernel
theorem d_Model_sum_301 : decode prog_11_method_30_code 301 = .ok (.sipush 130, 3) := by decide +kernel
theorem d_Model_sum_304 : decode prog_11_method_30_code 304 = .ok (.bipush 124, 2) := by decide +kernel
theorem d_Model_sum_306 : decode prog_11_method_30_code 306 = .ok (.invokevirtual 184, 3) := by decide +kernel
theorem d_Model_sum_309 : decode prog_11_method_30_code 309 = .ok (.aload_n 0, 1) := by decide +kernel
theorem d_Model_sum_310 : decode prog_11_method_30_code 310 = .ok (.bipush 125, 2) := by decide +kernel
theorem d_Model_sum_312 : decode prog_11_method_30_code 312 = .ok (.bipush 125, 2) := by decide +kernel
theorem d_Model_sum_314 : decode prog_11_method_30_code 314 = .ok (.sipush 131, 3) := by decide +kernel
theorem d_Model_sum_317 : decode prog_11_method_30_code 317 = .ok (.invokevirtual 184, 3) := by decide +kernel
theorem d_Model_sum_320 : decode prog_11_method_30_code 320 = .ok (.aload_n 0, 1) := by decide +kernel
theorem d_Model_sum_321 : decode prog_11_method_30_code 321 = .ok (.iload_n 1, 1) := by decide +kernel
theorem d_Model_sum_322 : decode prog_11_method_30_code 322 = .ok (.iconst 1, 1) := by decide +kernel
theorem d_Model_sum_323 : decode prog_11_method_30_code 323 = .ok (.iadd, 1) := by decide +kernel
theorem d_Model_sum_324 : decode prog_11_method_30_code 324 = .ok (.bipush 125, 2) := by decide +kernel
theorem d_Model_sum_326 : decode prog_11_method_30_code 326 = .ok (.sipush 130, 3) := by decide +kernel
theorem d_Model_sum_329 : decode prog_11_method_30_code 329 = .ok (.invokevirtual 148, 3) := by decide +kernel
theorem d_Model_sum_332 : decode prog_11_method_30_code 332 = .ok (.aload_n 0, 1) := by decide +kernel
theorem d_Model_sum_333 : decode prog_11_method_30_code 333 = .ok (.bipush 124, 2) := by decide +kernel
theorem d_Model_sum_335 : decode prog_11_method_30_code 335 = .ok (.bipush 124, 2) := by decide +kernel
theorem d_Model_sum_337 : decode prog_11_method_30_code 337 = .ok (.bipush 127, 2) := by decide +kernel
theorem d_Model_sum_339 : decode prog_11_method_30_code 339 = .ok (.invokevirtual 184, 3) := by decide +kernel
theorem d_Model_sum_342 : decode prog_11_method_30_code 342 = .ok (.aload_n 0, 1) := by decide +kernel
theorem d_Model_sum_343 : decode prog_11_method_30_code 343 = .ok (.sipush 131, 3) := by decide +kernel
theorem d_Model_sum_346 : decode prog_11_method_30_code 346 = .ok (.sipush 131, 3) := by decide +kernel
theorem d_Model_sum_349 : decode prog_11_method_30_code 349 = .ok (.sipush 128, 3) := by decide +kernel
theorem d_Model_sum_352 : decode prog_11_method_30_code 352 = .ok (.invokevirtual 184, 3) := by decide +kernel
theorem d_Model_sum_355 : decode prog_11_method_30_code 355 = .ok (.aload_n 0, 1) := by decide +kernel
theorem d_Model_sum_356 : decode prog_11_method_30_code 356 = .ok (.iload_n 1, 1) := by decide +kernel
theorem d_Model_sum_357 : decode prog_11_method_30_code 357 = .ok (.iconst 2, 1) := by decide +kernel
theorem d_Model_sum_358 : decode prog_11_method_30_code 358 = .ok (.iadd, 1) := by decide +kernel
theorem d_Model_sum_359 : decode prog_11_method_30_code 359 = .ok (.sipush 131, 3) := by decide +kernel
theorem d_Model_sum_362 : decode prog_11_method_30_code 362 = .ok (.bipush 124, 2) := by decide +kernel
theorem d_Model_sum_364 : decode prog_11_method_30_code 364 = .ok (.invokevirtual 148, 3) := by decide +kernel
theorem d_Model_sum_367 : decode prog_11_method_30_code 367 = .ok (.return_, 1) := by decide +kernel
set_option maxHeartbeats 4000000 in
set_option maxRecDepth 100000 in
theorem c_Model_sum (l : Launch) (g : WG) (n0 : Nat → Prop) (mo r a b : Nat) (th pw td wr : Int32) (w n : Nat) (hw : WH w n) (fd : Nat → Int64) (hr1 : r + 2 < 124 ∨ (135 ≤ r ∧ r + 2 < 170)) (ha : a + 2 < 124 ∨ (135 ≤ a ∧ a + 2 < 170)) (hb1 : b + 2 < 124 ∨ (135 ≤ b ∧ b + 2 < 170)) (C9 D9 : Prop) (y1 y2 : Int) (hc9 : C9 → (SV fd a n = 0 ∧ SV fd (a + 1) n = y1 ∧ SV fd (a + 2) n = 0 ∧ SV fd b n = 0 ∧ SV fd (b + 1) n = y2 ∧ SV fd (b + 2) n = 0) ∧ (0 ≤ y1 ∧ y1 < PP w n) ∧ (0 ≤ y2 ∧ y2 < PP w n) ∧ (0 ≤ y1 * y2 ∧ y1 * y2 < PP w n)) (hd9 : D9 → C9 ∧ y1 * y2 = 1) : Ctr l y_Model_sum (.code y_Model_sum prog_11_method_30_code 4 none) 4 96 0 0 n0 g [.ref mo, .int (nI r), .int (nI a), .int (nI b)] (fun H => MS g n0 H mo th pw td wr w n fd) (QV (fun H H' => FRM (MR mo) H H' ∧ ∃ fd', MS g n0 H' mo th pw td wr w n fd' ∧ SAME fd fd' (fun t => (124 ≤ t ∧ t ≤ 134) ∨ t = r ∨ t = r + 1 ∨ t = r + 2) ∧ (C9 → SV fd' r n = 0 ∧ SV fd' (r + 2) n = 0) ∧ (D9 → SV fd' (r + 1) n = 1))) := by
  refine ctr_mk l (lv0 := [(0, .ref mo), (1, .int (nI r)), (2, .int (nI a)), (3, .int (nI b))]) (by decide) (Nat.le_of_ble_eq_true rfl) rfl ?_
  intro p e s m below meth c ls E hr hlk hnm hl hP
  have hx := E.1
  have hb := E.2.1
  have hK := E.2.2.2.2.2
  have hF : ∀ q ∈ ([] : List Loc), n0 q.base := fun q hq => absurd hq List.not_mem_nil
  have hm := hP
  have hDD := hm.2.2.2.2.2.1
  obtain ⟨hpd, hn1, hn14, hw1, hPT, hP1, hT0, hT1⟩ := wh_kP hw
  have hfr : FRM (MR mo) s.heap s.heap := FRM.rf
  have l_a0 : a < 170 := by clear hc9 hd9; omega
  have n_a0 : ∀ t, 124 ≤ t → t ≤ 134 → a ≠ t := by clear hc9 hd9; intro t h1 h2; omega
  have l_a1 : (a + 1) < 170 := by clear hc9 hd9; omega
  have n_a1 : ∀ t, 124 ≤ t → t ≤ 134 → (a + 1) ≠ t := by clear hc9 hd9; intro t h1 h2; omega
  have l_a2 : (a + 2) < 170 := by clear hc9 hd9; omega
  have n_a2 : ∀ t, 124 ≤ t → t ≤ 134 → (a + 2) ≠ t := by clear hc9 hd9; intro t h1 h2; omega
  have l_b0 : b < 170 := by clear hc9 hd9; omega
  have n_b0 : ∀ t, 124 ≤ t → t ≤ 134 → b ≠ t := by clear hc9 hd9; intro t h1 h2; omega
  have l_b1 : (b + 1) < 170 := by clear hc9 hd9; omega
  have n_b1 : ∀ t, 124 ≤ t → t ≤ 134 → (b + 1) ≠ t := by clear hc9 hd9; intro t h1 h2; omega
  have l_b2 : (b + 2) < 170 := by clear hc9 hd9; omega
  have n_b2 : ∀ t, 124 ≤ t → t ≤ 134 → (b + 2) ≠ t := by clear hc9 hd9; intro t h1 h2; omega
  have l_r0 : r < 170 := by clear hc9 hd9; omega
  have n_r0 : ∀ t, 124 ≤ t → t ≤ 134 → r ≠ t := by clear hc9 hd9; intro t h1 h2; omega
  have l_r1 : (r + 1) < 170 := by clear hc9 hd9; omega
  have n_r1 : ∀ t, 124 ≤ t → t ≤ 134 → (r + 1) ≠ t := by clear hc9 hd9; intro t h1 h2; omega
  have l_r2 : (r + 2) < 170 := by clear hc9 hd9; omega
  have n_r2 : ∀ t, 124 ≤ t → t ≤ 134 → (r + 2) ≠ t := by clear hc9 hd9; intro t h1 h2; omega
  have hS : SAME fd fd (fun t => (124 ≤ t ∧ t ≤ 134) ∨ t = r ∨ t = r + 1 ∨ t = r + 2) := SAME.rf
  have hpp := pp2 hw
  have r0 : 0 ≤ (0 : Int) ∧ 0 < PP w n := ⟨Int.le_refl _, by clear hc9 hd9; omega⟩
  have n_r01 : r ≠ r + 1 := by clear hc9 hd9; omega
  have n_r02 : r ≠ r + 2 := by clear hc9 hd9; omega
  have n_r12 : r + 1 ≠ r + 2 := by clear hc9 hd9; omega
  have u_0 : C9 → SV fd a n = 0 := fun h9 => (hc9 h9).1.1
  have u_1 : C9 → SV fd (a + 1) n = y1 := fun h9 => (hc9 h9).1.2.1
  have u_2 : C9 → SV fd (a + 2) n = 0 := fun h9 => (hc9 h9).1.2.2.1
  have u_3 : C9 → SV fd b n = 0 := fun h9 => (hc9 h9).1.2.2.2.1
  have u_4 : C9 → SV fd (b + 1) n = y2 := fun h9 => (hc9 h9).1.2.2.2.2.1
  have u_5 : C9 → SV fd (b + 2) n = 0 := fun h9 => (hc9 h9).1.2.2.2.2.2
  refine lv_aload_n hx hb d_Model_sum_0 rfl (lv_at hl 0 rfl) ?_
  refine lv_bipush (v := nI 124) hx hb d_Model_sum_1 (by decide) ?_
  refine lv_iload_n hx hb d_Model_sum_3 rfl (lv_at hl 2 rfl) ?_
  refine lv_iload_n hx hb d_Model_sum_4 rfl (lv_at hl 3 rfl) ?_
  refine q_cV (rest := []) E (c_Model_product l g n0 mo 124 a b th pw td wr w n hw fd (by decide) l_a0 l_b0) w_1113 w_15 w_1110 w_1112 (bw_s 32 rfl) hd_Model_product rfl ⟨by decide, by decide⟩ (OB.recv E.2.2.2.2.2 (by rfl) hm.1) hm hF hl.1 rfl (Nat.le_of_ble_eq_true rfl) d_Model_sum_5 ⟨by decide, by decide⟩ (qv (fun H1 locs hq hF => ?_))
  obtain ⟨hq, fd_1, hm, hpv, hv⟩ := hq
  have hfr := hfr.tr (kjR hq)
  have v_1 : C9 → SV fd_1 124 n = 0 := fun h9 => r_mulL hv (u_0 h9) r0 hpp
  have u_0 : C9 → SV fd_1 a n = 0 := fun h9 => (out_sv hpv.1 (n_a0 124 (by decide) (by decide)) hn14).trans (u_0 h9)
  have u_1 : C9 → SV fd_1 (a + 1) n = y1 := fun h9 => (out_sv hpv.1 (n_a1 124 (by decide) (by decide)) hn14).trans (u_1 h9)
  have u_2 : C9 → SV fd_1 (a + 2) n = 0 := fun h9 => (out_sv hpv.1 (n_a2 124 (by decide) (by decide)) hn14).trans (u_2 h9)
  have u_3 : C9 → SV fd_1 b n = 0 := fun h9 => (out_sv hpv.1 (n_b0 124 (by decide) (by decide)) hn14).trans (u_3 h9)
  have u_4 : C9 → SV fd_1 (b + 1) n = y2 := fun h9 => (out_sv hpv.1 (n_b1 124 (by decide) (by decide)) hn14).trans (u_4 h9)
  have u_5 : C9 → SV fd_1 (b + 2) n = 0 := fun h9 => (out_sv hpv.1 (n_b2 124 (by decide) (by decide)) hn14).trans (u_5 h9)
  have hS := hS.put hpv.1 (Or.inl ⟨by decide, by decide⟩)
  clear hv hpv hq
  refine lv_aload_n hx hb d_Model_sum_8 rfl (lv_at hl 0 rfl) ?_
  refine lv_bipush (v := nI 125) hx hb d_Model_sum_9 (by decide) ?_
  refine lv_iload_n hx hb d_Model_sum_11 rfl (lv_at hl 2 rfl) ?_
  refine lv_iconst (v := nI 1) hx hb d_Model_sum_12 (by decide) ?_
  refine lv_iadd hx hb d_Model_sum_13 ?_
  refine lv_topi (fun t9 e9 => ?_)
  obtain rfl : t9 = nI (a + 1) := e9.trans (nI_add _ _)
  refine lv_iload_n hx hb d_Model_sum_14 rfl (lv_at hl 3 rfl) ?_
  refine lv_iconst (v := nI 1) hx hb d_Model_sum_15 (by decide) ?_
  refine lv_iadd hx hb d_Model_sum_16 ?_
  refine lv_topi (fun t9 e9 => ?_)
  obtain rfl : t9 = nI (b + 1) := e9.trans (nI_add _ _)
  refine q_cV (rest := []) E (c_Model_product l g n0 mo 125 (a + 1) (b + 1) th pw td wr w n hw fd_1 (by decide) l_a1 l_b1) w_1113 w_15 w_1110 w_1112 (bw_s 32 rfl) hd_Model_product rfl ⟨by decide, by decide⟩ (OB.recv E.2.2.2.2.2 (by rfl) hm.1) hm hF hl.1 rfl (Nat.le_of_ble_eq_true rfl) d_Model_sum_17 ⟨by decide, by decide⟩ (qv (fun H2 locs hq hF => ?_))
  obtain ⟨hq, fd_2, hm, hpv, hv⟩ := hq
  have hfr := hfr.tr (kjR hq)
  have v_2 : C9 → SV fd_2 125 n = y1 * y2 := fun h9 => r_mul hv (u_1 h9) (u_4 h9) rfl (hc9 h9).2.2.2 hpp
  have u_0 : C9 → SV fd_2 a n = 0 := fun h9 => (out_sv hpv.1 (n_a0 125 (by decide) (by decide)) hn14).trans (u_0 h9)
  have u_1 : C9 → SV fd_2 (a + 1) n = y1 := fun h9 => (out_sv hpv.1 (n_a1 125 (by decide) (by decide)) hn14).trans (u_1 h9)
  have u_2 : C9 → SV fd_2 (a + 2) n = 0 := fun h9 => (out_sv hpv.1 (n_a2 125 (by decide) (by decide)) hn14).trans (u_2 h9)
  have u_3 : C9 → SV fd_2 b n = 0 := fun h9 => (out_sv hpv.1 (n_b0 125 (by decide) (by decide)) hn14).trans (u_3 h9)
  have u_4 : C9 → SV fd_2 (b + 1) n = y2 := fun h9 => (out_sv hpv.1 (n_b1 125 (by decide) (by decide)) hn14).trans (u_4 h9)
  have u_5 : C9 → SV fd_2 (b + 2) n = 0 := fun h9 => (out_sv hpv.1 (n_b2 125 (by decide) (by decide)) hn14).trans (u_5 h9)
  have v_1 : C9 → SV fd_2 124 n = 0 := fun h9 => (out_sv hpv.1 (by decide) hn14).trans (v_1 h9)
  have hS := hS.put hpv.1 (Or.inl ⟨by decide, by decide⟩)
  clear hv hpv hq
  refine lv_aload_n hx hb d_Model_sum_20 rfl (lv_at hl 0 rfl) ?_
  refine lv_bipush (v := nI 126) hx hb d_Model_sum_21 (by decide) ?_
  refine lv_iload_n hx hb d_Model_sum_23 rfl (lv_at hl 2 rfl) ?_
  refine lv_iconst (v := nI 2) hx hb d_Model_sum_24 (by decide) ?_
  refine lv_iadd hx hb d_Model_sum_25 ?_
  refine lv_topi (fun t9 e9 => ?_)
  obtain rfl : t9 = nI (a + 2) := e9.trans (nI_add _ _)
  refine lv_iload_n hx hb d_Model_sum_26 rfl (lv_at hl 3 rfl) ?_
  refine lv_iconst (v := nI 2) hx hb d_Model_sum_27 (by decide) ?_
  refine lv_iadd hx hb d_Model_sum_28 ?_
  refine lv_topi (fun t9 e9 => ?_)
  obtain rfl : t9 = nI (b + 2) := e9.trans (nI_add _ _)
  refine q_cV (rest := []) E (c_Model_product l g n0 mo 126 (a + 2) (b + 2) th pw td wr w n hw fd_2 (by decide) l_a2 l_b2) w_1113 w_15 w_1110 w_1112 (bw_s 32 rfl) hd_Model_product rfl ⟨by decide, by decide⟩ (OB.recv E.2.2.2.2.2 (by rfl) hm.1) hm hF hl.1 rfl (Nat.le_of_ble_eq_true rfl) d_Model_sum_29 ⟨by decide, by decide⟩ (qv (fun H3 locs hq hF => ?_))
  obtain ⟨hq, fd_3, hm, hpv, hv⟩ := hq
  have hfr := hfr.tr (kjR hq)
  have v_3 : C9 → SV fd_3 126 n = 0 := fun h9 => r_mulL hv (u_2 h9) r0 hpp
  have u_0 : C9 → SV fd_3 a n = 0 := fun h9 => (out_sv hpv.1 (n_a0 126 (by decide) (by decide)) hn14).trans (u_0 h9)
  have u_1 : C9 → SV fd_3 (a + 1) n = y1 := fun h9 => (out_sv hpv.1 (n_a1 126 (by decide) (by decide)) hn14).trans (u_1 h9)
  have u_2 : C9 → SV fd_3 (a + 2) n = 0 := fun h9 => (out_sv hpv.1 (n_a2 126 (by decide) (by decide)) hn14).trans (u_2 h9)
  have u_3 : C9 → SV fd_3 b n = 0 := fun h9 => (out_sv hpv.1 (n_b0 126 (by decide) (by decide)) hn14).trans (u_3 h9)
  have u_4 : C9 → SV fd_3 (b + 1) n = y2 := fun h9 => (out_sv hpv.1 (n_b1 126 (by decide) (by decide)) hn14).trans (u_4 h9)
  have u_5 : C9 → SV fd_3 (b + 2) n = 0 := fun h9 => (out_sv hpv.1 (n_b2 126 (by decide) (by decide)) hn14).trans (u_5 h9)
  have v_1 : C9 → SV fd_3 124 n = 0 := fun h9 => (out_sv hpv.1 (by decide) hn14).trans (v_1 h9)
  have v_2 : C9 → SV fd_3 125 n = y1 * y2 := fun h9 => (out_sv hpv.1 (by decide) hn14).trans (v_2 h9)
  have hS := hS.put hpv.1 (Or.inl ⟨by decide, by decide⟩)
  clear hv hpv hq
  refine lv_aload_n hx hb d_Model_sum_32 rfl (lv_at hl 0 rfl) ?_
  refine lv_bipush (v := nI 127) hx hb d_Model_sum_33 (by decide) ?_
  refine lv_iload_n hx hb d_Model_sum_35 rfl (lv_at hl 2 rfl) ?_
  refine lv_iload_n hx hb d_Model_sum_36 rfl (lv_at hl 2 rfl) ?_
  refine lv_iconst (v := nI 1) hx hb d_Model_sum_37 (by decide) ?_
  refine lv_iadd hx hb d_Model_sum_38 ?_
  refine lv_topi (fun t9 e9 => ?_)
  obtain rfl : t9 = nI (a + 1) := e9.trans (nI_add _ _)
  refine q_cV (rest := []) E (c_Model_add l g n0 mo 127 a (a + 1) th pw td wr w n hw fd_3 (by decide) l_a0 l_a1) w_975 w_15 w_972 w_974 (bw_s 17 rfl) hd_Model_add rfl ⟨by decide, by decide⟩ (OB.recv E.2.2.2.2.2 (by rfl) hm.1) hm hF hl.1 rfl (Nat.le_of_ble_eq_true rfl) d_Model_sum_39 ⟨by decide, by decide⟩ (qv (fun H4 locs hq hF => ?_))
  obtain ⟨hq, fd_4, hm, hpv, hv⟩ := hq
  have hfr := hfr.tr (kjR hq)
  have v_4 : C9 → SV fd_4 127 n = y1 := fun h9 => r_add hv (u_0 h9) (u_1 h9) (Int.zero_add _) (hc9 h9).2.1 hpp
  have u_0 : C9 → SV fd_4 a n = 0 := fun h9 => (out_sv hpv.1 (n_a0 127 (by decide) (by decide)) hn14).trans (u_0 h9)
  have u_1 : C9 → SV fd_4 (a + 1) n = y1 := fun h9 => (out_sv hpv.1 (n_a1 127 (by decide) (by decide)) hn14).trans (u_1 h9)
  have u_2 : C9 → SV fd_4 (a + 2) n = 0 := fun h9 => (out_sv hpv.1 (n_a2 127 (by decide) (by decide)) hn14).trans (u_2 h9)
  have u_3 : C9 → SV fd_4 b n = 0 := fun h9 => (out_sv hpv.1 (n_b0 127 (by decide) (by decide)) hn14).trans (u_3 h9)
  have u_4 : C9 → SV fd_4 (b + 1) n = y2 := fun h9 => (out_sv hpv.1 (n_b1 127 (by decide) (by decide)) hn14).trans (u_4 h9)
  have u_5 : C9 → SV fd_4 (b + 2) n = 0 := fun h9 => (out_sv hpv.1 (n_b2 127 (by decide) (by decide)) hn14).trans (u_5 h9)
  have v_1 : C9 → SV fd_4 124 n = 0 := fun h9 => (out_sv hpv.1 (by decide) hn14).trans (v_1 h9)
  have v_2 : C9 → SV fd_4 125 n = y1 * y2 := fun h9 => (out_sv hpv.1 (by decide) hn14).trans (v_2 h9)
  have v_3 : C9 → SV fd_4 126 n = 0 := fun h9 => (out_sv hpv.1 (by decide) hn14).trans (v_3 h9)
  have hS := hS.put hpv.1 (Or.inl ⟨by decide, by decide⟩)
  clear hv hpv hq
  refine lv_aload_n hx hb d_Model_sum_42 rfl (lv_at hl 0 rfl) ?_
  refine lv_sipush (v := nI 128) hx hb d_Model_sum_43 (by decide) ?_
  refine lv_iload_n hx hb d_Model_sum_46 rfl (lv_at hl 3 rfl) ?_
  refine lv_iload_n hx hb d_Model_sum_47 rfl (lv_at hl 3 rfl) ?_
  refine lv_iconst (v := nI 1) hx hb d_Model_sum_48 (by decide) ?_
  refine lv_iadd hx hb d_Model_sum_49 ?_
  refine lv_topi (fun t9 e9 => ?_)
  obtain rfl : t9 = nI (b + 1) := e9.trans (nI_add _ _)
  refine q_cV (rest := []) E (c_Model_add l g n0 mo 128 b (b + 1) th pw td wr w n hw fd_4 (by decide) l_b0 l_b1) w_975 w_15 w_972 w_974 (bw_s 17 rfl) hd_Model_add rfl ⟨by decide, by decide⟩ (OB.recv E.2.2.2.2.2 (by rfl) hm.1) hm hF hl.1 rfl (Nat.le_of_ble_eq_true rfl) d_Model_sum_50 ⟨by decide, by decide⟩ (qv (fun H5 locs hq hF => ?_))
  obtain ⟨hq, fd_5, hm, hpv, hv⟩ := hq
  have hfr := hfr.tr (kjR hq)
  have v_5 : C9 → SV fd_5 128 n = y2 := fun h9 => r_add hv (u_3 h9) (u_4 h9) (Int.zero_add _) (hc9 h9).2.2.1 hpp
  have u_0 : C9 → SV fd_5 a n = 0 := fun h9 => (out_sv hpv.1 (n_a0 128 (by decide) (by decide)) hn14).trans (u_0 h9)
  have u_1 : C9 → SV fd_5 (a + 1) n = y1 := fun h9 => (out_sv hpv.1 (n_a1 128 (by decide) (by decide)) hn14).trans (u_1 h9)
  have u_2 : C9 → SV fd_5 (a + 2) n = 0 := fun h9 => (out_sv hpv.1 (n_a2 128 (by decide) (by decide)) hn14).trans (u_2 h9)
  have u_3 : C9 → SV fd_5 b n = 0 := fun h9 => (out_sv hpv.1 (n_b0 128 (by decide) (by decide)) hn14).trans (u_3 h9)
  have u_4 : C9 → SV fd_5 (b + 1) n = y2 := fun h9 => (out_sv hpv.1 (n_b1 128 (by decide) (by decide)) hn14).trans (u_4 h9)
  have u_5 : C9 → SV fd_5 (b + 2) n = 0 := fun h9 => (out_sv hpv.1 (n_b2 128 (by decide) (by decide)) hn14).trans (u_5 h9)
  have v_1 : C9 → SV fd_5 124 n = 0 := fun h9 => (out_sv hpv.1 (by decide) hn14).trans (v_1 h9)
  have v_2 : C9 → SV fd_5 125 n = y1 * y2 := fun h9 => (out_sv hpv.1 (by decide) hn14).trans (v_2 h9)
  have v_3 : C9 → SV fd_5 126 n = 0 := fun h9 => (out_sv hpv.1 (by decide) hn14).trans (v_3 h9)
  have v_4 : C9 → SV fd_5 127 n = y1 := fun h9 => (out_sv hpv.1 (by decide) hn14).trans (v_4 h9)
  have hS := hS.put hpv.1 (Or.inl ⟨by decide, by decide⟩)
  clear hv hpv hq
  refine lv_aload_n hx hb d_Model_sum_53 rfl (lv_at hl 0 rfl) ?_
  refine lv_bipush (v := nI 127) hx hb d_Model_sum_54 (by decide) ?_
  refine lv_bipush (v := nI 127) hx hb d_Model_sum_56 (by decide) ?_
  refine lv_sipush (v := nI 128) hx hb d_Model_sum_58 (by decide) ?_
  refine q_cV (rest := []) E (c_Model_product l g n0 mo 127 127 128 th pw td wr w n hw fd_5 (by decide) (by decide) (by decide)) w_1113 w_15 w_1110 w_1112 (bw_s 32 rfl) hd_Model_product rfl ⟨by decide, by decide⟩ (OB.recv E.2.2.2.2.2 (by rfl) hm.1) hm hF hl.1 rfl (Nat.le_of_ble_eq_true rfl) d_Model_sum_61 ⟨by decide, by decide⟩ (qv (fun H6 locs hq hF => ?_))
  obtain ⟨hq, fd_6, hm, hpv, hv⟩ := hq
  have hfr := hfr.tr (kjR hq)
  have v_6 : C9 → SV fd_6 127 n = y1 * y2 := fun h9 => r_mul hv (v_4 h9) (v_5 h9) rfl (hc9 h9).2.2.2 hpp
  have u_0 : C9 → SV fd_6 a n = 0 := fun h9 => (out_sv hpv.1 (n_a0 127 (by decide) (by decide)) hn14).trans (u_0 h9)
  have u_1 : C9 → SV fd_6 (a + 1) n = y1 := fun h9 => (out_sv hpv.1 (n_a1 127 (by decide) (by decide)) hn14).trans (u_1 h9)
  have u_2 : C9 → SV fd_6 (a + 2) n = 0 := fun h9 => (out_sv hpv.1 (n_a2 127 (by decide) (by decide)) hn14).trans (u_2 h9)
  have u_3 : C9 → SV fd_6 b n = 0 := fun h9 => (out_sv hpv.1 (n_b0 127 (by decide) (by decide)) hn14).trans (u_3 h9)
  have u_4 : C9 → SV fd_6 (b + 1) n = y2 := fun h9 => (out_sv hpv.1 (n_b1 127 (by decide) (by decide)) hn14).trans (u_4 h9)
  have u_5 : C9 → SV fd_6 (b + 2) n = 0 := fun h9 => (out_sv hpv.1 (n_b2 127 (by decide) (by decide)) hn14).trans (u_5 h9)
  have v_1 : C9 → SV fd_6 124 n = 0 := fun h9 => (out_sv hpv.1 (by decide) hn14).trans (v_1 h9)
  have v_2 : C9 → SV fd_6 125 n = y1 * y2 := fun h9 => (out_sv hpv.1 (by decide) hn14).trans (v_2 h9)
  have v_3 : C9 → SV fd_6 126 n = 0 := fun h9 => (out_sv hpv.1 (by decide) hn14).trans (v_3 h9)
  have v_5 : C9 → SV fd_6 128 n = y2 := fun h9 => (out_sv hpv.1 (by decide) hn14).trans (v_5 h9)
  have hS := hS.put hpv.1 (Or.inl ⟨by decide, by decide⟩)
  clear hv hpv hq
  refine lv_aload_n hx hb d_Model_sum_64 rfl (lv_at hl 0 rfl) ?_
  refine lv_sipush (v := nI 128) hx hb d_Model_sum_65 (by decide) ?_
  refine lv_bipush (v := nI 124) hx hb d_Model_sum_68 (by decide) ?_
  refine lv_bipush (v := nI 125) hx hb d_Model_sum_70 (by decide) ?_
  refine q_cV (rest := []) E (c_Model_add l g n0 mo 128 124 125 th pw td wr w n hw fd_6 (by decide) (by decide) (by decide)) w_975 w_15 w_972 w_974 (bw_s 17 rfl) hd_Model_add rfl ⟨by decide, by decide⟩ (OB.recv E.2.2.2.2.2 (by rfl) hm.1) hm hF hl.1 rfl (Nat.le_of_ble_eq_true rfl) d_Model_sum_72 ⟨by decide, by decide⟩ (qv (fun H7 locs hq hF => ?_))
  obtain ⟨hq, fd_7, hm, hpv, hv⟩ := hq
  have hfr := hfr.tr (kjR hq)
  have v_7 : C9 → SV fd_7 128 n = y1 * y2 := fun h9 => r_add hv (v_1 h9) (v_2 h9) (Int.zero_add _) (hc9 h9).2.2.2 hpp
  have u_0 : C9 → SV fd_7 a n = 0 := fun h9 => (out_sv hpv.1 (n_a0 128 (by decide) (by decide)) hn14).trans (u_0 h9)
  have u_1 : C9 → SV fd_7 (a + 1) n = y1 := fun h9 => (out_sv hpv.1 (n_a1 128 (by decide) (by decide)) hn14).trans (u_1 h9)
  have u_2 : C9 → SV fd_7 (a + 2) n = 0 := fun h9 => (out_sv hpv.1 (n_a2 128 (by decide) (by decide)) hn14).trans (u_2 h9)
  have u_3 : C9 → SV fd_7 b n = 0 := fun h9 => (out_sv hpv.1 (n_b0 128 (by decide) (by decide)) hn14).trans (u_3 h9)
  have u_4 : C9 → SV fd_7 (b + 1) n = y2 := fun h9 => (out_sv hpv.1 (n_b1 128 (by decide) (by decide)) hn14).trans (u_4 h9)
  have u_5 : C9 → SV fd_7 (b + 2) n = 0 := fun h9 => (out_sv hpv.1 (n_b2 128 (by decide) (by decide)) hn14).trans (u_5 h9)
  have v_1 : C9 → SV fd_7 124 n = 0 := fun h9 => (out_sv hpv.1 (by decide) hn14).trans (v_1 h9)
  have v_2 : C9 → SV fd_7 125 n = y1 * y2 := fun h9 => (out_sv hpv.1 (by decide) hn14).trans (v_2 h9)
  have v_3 : C9 → SV fd_7 126 n = 0 := fun h9 => (out_sv hpv.1 (by decide) hn14).trans (v_3 h9)
  have v_6 : C9 → SV fd_7 127 n = y1 * y2 := fun h9 => (out_sv hpv.1 (by decide) hn14).trans (v_6 h9)
  have hS := hS.put hpv.1 (Or.inl ⟨by decide, by decide⟩)
  clear hv hpv hq
  refine lv_aload_n hx hb d_Model_sum_75 rfl (lv_at hl 0 rfl) ?_
  refine lv_bipush (v := nI 127) hx hb d_Model_sum_76 (by decide) ?_
  refine lv_bipush (v := nI 127) hx hb d_Model_sum_78 (by decide) ?_
  refine lv_sipush (v := nI 128) hx hb d_Model_sum_80 (by decide) ?_
  refine q_cV (rest := []) E (c_Model_less l g n0 mo 127 127 128 th pw td wr w n hw fd_7 (by decide) (by decide) (by decide)) w_1109 w_15 w_1106 w_1108 (bw_s 31 rfl) hd_Model_less rfl ⟨by decide, by decide⟩ (OB.recv E.2.2.2.2.2 (by rfl) hm.1) hm hF hl.1 rfl (Nat.le_of_ble_eq_true rfl) d_Model_sum_83 ⟨by decide, by decide⟩ (qv (fun H8 locs hq hF => ?_))
  obtain ⟨hq, fd_8, hm, hpv, hv⟩ := hq
  have hfr := hfr.tr (kjR hq)
  have v_8 : C9 → SV fd_8 127 n = 0 := fun h9 => r_less hv (v_6 h9) (v_7 h9) (Int.sub_self _) r0 hpp
  have u_0 : C9 → SV fd_8 a n = 0 := fun h9 => (out_sv hpv.1 (n_a0 127 (by decide) (by decide)) hn14).trans (u_0 h9)
  have u_1 : C9 → SV fd_8 (a + 1) n = y1 := fun h9 => (out_sv hpv.1 (n_a1 127 (by decide) (by decide)) hn14).trans (u_1 h9)
  have u_2 : C9 → SV fd_8 (a + 2) n = 0 := fun h9 => (out_sv hpv.1 (n_a2 127 (by decide) (by decide)) hn14).trans (u_2 h9)
  have u_3 : C9 → SV fd_8 b n = 0 := fun h9 => (out_sv hpv.1 (n_b0 127 (by decide) (by decide)) hn14).trans (u_3 h9)
  have u_4 : C9 → SV fd_8 (b + 1) n = y2 := fun h9 => (out_sv hpv.1 (n_b1 127 (by decide) (by decide)) hn14).trans (u_4 h9)
  have u_5 : C9 → SV fd_8 (b + 2) n = 0 := fun h9 => (out_sv hpv.1 (n_b2 127 (by decide) (by decide)) hn14).trans (u_5 h9)
  have v_1 : C9 → SV fd_8 124 n = 0 := fun h9 => (out_sv hpv.1 (by decide) hn14).trans (v_1 h9)
  have v_2 : C9 → SV fd_8 125 n = y1 * y2 := fun h9 => (out_sv hpv.1 (by decide) hn14).trans (v_2 h9)
  have v_3 : C9 → SV fd_8 126 n = 0 := fun h9 => (out_sv hpv.1 (by decide) hn14).trans (v_3 h9)
  have v_7 : C9 → SV fd_8 128 n = y1 * y2 := fun h9 => (out_sv hpv.1 (by decide) hn14).trans (v_7 h9)
  have hS := hS.put hpv.1 (Or.inl ⟨by decide, by decide⟩)
  clear hv hpv hq
  refine lv_aload_n hx hb d_Model_sum_86 rfl (lv_at hl 0 rfl) ?_
  refine lv_sipush (v := nI 128) hx hb d_Model_sum_87 (by decide) ?_
  refine lv_iload_n hx hb d_Model_sum_90 rfl (lv_at hl 2 rfl) ?_
  refine lv_iconst (v := nI 1) hx hb d_Model_sum_91 (by decide) ?_
  refine lv_iadd hx hb d_Model_sum_92 ?_
  refine lv_topi (fun t9 e9 => ?_)
  obtain rfl : t9 = nI (a + 1) := e9.trans (nI_add _ _)
  refine lv_iload_n hx hb d_Model_sum_93 rfl (lv_at hl 2 rfl) ?_
  refine lv_iconst (v := nI 2) hx hb d_Model_sum_94 (by decide) ?_
  refine lv_iadd hx hb d_Model_sum_95 ?_
  refine lv_topi (fun t9 e9 => ?_)
  obtain rfl : t9 = nI (a + 2) := e9.trans (nI_add _ _)
  refine q_cV (rest := []) E (c_Model_add l g n0 mo 128 (a + 1) (a + 2) th pw td wr w n hw fd_8 (by decide) l_a1 l_a2) w_975 w_15 w_972 w_974 (bw_s 17 rfl) hd_Model_add rfl ⟨by decide, by decide⟩ (OB.recv E.2.2.2.2.2 (by rfl) hm.1) hm hF hl.1 rfl (Nat.le_of_ble_eq_true rfl) d_Model_sum_96 ⟨by decide, by decide⟩ (qv (fun H9 locs hq hF => ?_))
  obtain ⟨hq, fd_9, hm, hpv, hv⟩ := hq
  have hfr := hfr.tr (kjR hq)
  have v_9 : C9 → SV fd_9 128 n = y1 := fun h9 => r_add hv (u_1 h9) (u_2 h9) (Int.add_zero _) (hc9 h9).2.1 hpp
  have u_0 : C9 → SV fd_9 a n = 0 := fun h9 => (out_sv hpv.1 (n_a0 128 (by decide) (by decide)) hn14).trans (u_0 h9)
  have u_1 : C9 → SV fd_9 (a + 1) n = y1 := fun h9 => (out_sv hpv.1 (n_a1 128 (by decide) (by decide)) hn14).trans (u_1 h9)
  have u_2 : C9 → SV fd_9 (a + 2) n = 0 := fun h9 => (out_sv hpv.1 (n_a2 128 (by decide) (by decide)) hn14).trans (u_2 h9)
  have u_3 : C9 → SV fd_9 b n = 0 := fun h9 => (out_sv hpv.1 (n_b0 128 (by decide) (by decide)) hn14).trans (u_3 h9)
  have u_4 : C9 → SV fd_9 (b + 1) n = y2 := fun h9 => (out_sv hpv.1 (n_b1 128 (by decide) (by decide)) hn14).trans (u_4 h9)
  have u_5 : C9 → SV fd_9 (b + 2) n = 0 := fun h9 => (out_sv hpv.1 (n_b2 128 (by decide) (by decide)) hn14).trans (u_5 h9)
  have v_1 : C9 → SV fd_9 124 n = 0 := fun h9 => (out_sv hpv.1 (by decide) hn14).trans (v_1 h9)
  have v_2 : C9 → SV fd_9 125 n = y1 * y2 := fun h9 => (out_sv hpv.1 (by decide) hn14).trans (v_2 h9)
  have v_3 : C9 → SV fd_9 126 n = 0 := fun h9 => (out_sv hpv.1 (by decide) hn14).trans (v_3 h9)
  have v_8 : C9 → SV fd_9 127 n = 0 := fun h9 => (out_sv hpv.1 (by decide) hn14).trans (v_8 h9)
  have hS := hS.put hpv.1 (Or.inl ⟨by decide, by decide⟩)
  clear hv hpv hq
  refine lv_aload_n hx hb d_Model_sum_99 rfl (lv_at hl 0 rfl) ?_
  refine lv_sipush (v := nI 129) hx hb d_Model_sum_100 (by decide) ?_
  refine lv_iload_n hx hb d_Model_sum_103 rfl (lv_at hl 3 rfl) ?_
  refine lv_iconst (v := nI 1) hx hb d_Model_sum_104 (by decide) ?_
  refine lv_iadd hx hb d_Model_sum_105 ?_
  refine lv_topi (fun t9 e9 => ?_)
  obtain rfl : t9 = nI (b + 1) := e9.trans (nI_add _ _)
  refine lv_iload_n hx hb d_Model_sum_106 rfl (lv_at hl 3 rfl) ?_
  refine lv_iconst (v := nI 2) hx hb d_Model_sum_107 (by decide) ?_
  refine lv_iadd hx hb d_Model_sum_108 ?_
  refine lv_topi (fun t9 e9 => ?_)
  obtain rfl : t9 = nI (b + 2) := e9.trans (nI_add _ _)
  refine q_cV (rest := []) E (c_Model_add l g n0 mo 129 (b + 1) (b + 2) th pw td wr w n hw fd_9 (by decide) l_b1 l_b2) w_975 w_15 w_972 w_974 (bw_s 17 rfl) hd_Model_add rfl ⟨by decide, by decide⟩ (OB.recv E.2.2.2.2.2 (by rfl) hm.1) hm hF hl.1 rfl (Nat.le_of_ble_eq_true rfl) d_Model_sum_109 ⟨by decide, by decide⟩ (qv (fun H10 locs hq hF => ?_))
  obtain ⟨hq, fd_10, hm, hpv, hv⟩ := hq
  have hfr := hfr.tr (kjR hq)
  have v_10 : C9 → SV fd_10 129 n = y2 := fun h9 => r_add hv (u_4 h9) (u_5 h9) (Int.add_zero _) (hc9 h9).2.2.1 hpp
  have u_0 : C9 → SV fd_10 a n = 0 := fun h9 => (out_sv hpv.1 (n_a0 129 (by decide) (by decide)) hn14).trans (u_0 h9)
  have u_1 : C9 → SV fd_10 (a + 1) n = y1 := fun h9 => (out_sv hpv.1 (n_a1 129 (by decide) (by decide)) hn14).trans (u_1 h9)
  have u_2 : C9 → SV fd_10 (a + 2) n = 0 := fun h9 => (out_sv hpv.1 (n_a2 129 (by decide) (by decide)) hn14).trans (u_2 h9)
  have u_3 : C9 → SV fd_10 b n = 0 := fun h9 => (out_sv hpv.1 (n_b0 129 (by decide) (by decide)) hn14).trans (u_3 h9)
  have u_4 : C9 → SV fd_10 (b + 1) n = y2 := fun h9 => (out_sv hpv.1 (n_b1 129 (by decide) (by decide)) hn14).trans (u_4 h9)
  have u_5 : C9 → SV fd_10 (b + 2) n = 0 := fun h9 => (out_sv hpv.1 (n_b2 129 (by decide) (by decide)) hn14).trans (u_5 h9)
  have v_1 : C9 → SV fd_10 124 n = 0 := fun h9 => (out_sv hpv.1 (by decide) hn14).trans (v_1 h9)
  have v_2 : C9 → SV fd_10 125 n = y1 * y2 := fun h9 => (out_sv hpv.1 (by decide) hn14).trans (v_2 h9)
  have v_3 : C9 → SV fd_10 126 n = 0 := fun h9 => (out_sv hpv.1 (by decide) hn14).trans (v_3 h9)
  have v_8 : C9 → SV fd_10 127 n = 0 := fun h9 => (out_sv hpv.1 (by decide) hn14).trans (v_8 h9)
  have v_9 : C9 → SV fd_10 128 n = y1 := fun h9 => (out_sv hpv.1 (by decide) hn14).trans (v_9 h9)
  have hS := hS.put hpv.1 (Or.inl ⟨by decide, by decide⟩)
  clear hv hpv hq
  refine lv_aload_n hx hb d_Model_sum_112 rfl (lv_at hl 0 rfl) ?_
  refine lv_sipush (v := nI 128) hx hb d_Model_sum_113 (by decide) ?_
  refine lv_sipush (v := nI 128) hx hb d_Model_sum_116 (by decide) ?_
  refine lv_sipush (v := nI 129) hx hb d_Model_sum_119 (by decide) ?_
  refine q_cV (rest := []) E (c_Model_product l g n0 mo 128 128 129 th pw td wr w n hw fd_10 (by decide) (by decide) (by decide)) w_1113 w_15 w_1110 w_1112 (bw_s 32 rfl) hd_Model_product rfl ⟨by decide, by decide⟩ (OB.recv E.2.2.2.2.2 (by rfl) hm.1) hm hF hl.1 rfl (Nat.le_of_ble_eq_true rfl) d_Model_sum_122 ⟨by decide, by decide⟩ (qv (fun H11 locs hq hF => ?_))
  obtain ⟨hq, fd_11, hm, hpv, hv⟩ := hq
  have hfr := hfr.tr (kjR hq)
  have v_11 : C9 → SV fd_11 128 n = y1 * y2 := fun h9 => r_mul hv (v_9 h9) (v_10 h9) rfl (hc9 h9).2.2.2 hpp
  have u_0 : C9 → SV fd_11 a n = 0 := fun h9 => (out_sv hpv.1 (n_a0 128 (by decide) (by decide)) hn14).trans (u_0 h9)
  have u_1 : C9 → SV fd_11 (a + 1) n = y1 := fun h9 => (out_sv hpv.1 (n_a1 128 (by decide) (by decide)) hn14).trans (u_1 h9)
  have u_2 : C9 → SV fd_11 (a + 2) n = 0 := fun h9 => (out_sv hpv.1 (n_a2 128 (by decide) (by decide)) hn14).trans (u_2 h9)
  have u_3 : C9 → SV fd_11 b n = 0 := fun h9 => (out_sv hpv.1 (n_b0 128 (by decide) (by decide)) hn14).trans (u_3 h9)
  have u_4 : C9 → SV fd_11 (b + 1) n = y2 := fun h9 => (out_sv hpv.1 (n_b1 128 (by decide) (by decide)) hn14).trans (u_4 h9)
  have u_5 : C9 → SV fd_11 (b + 2) n = 0 := fun h9 => (out_sv hpv.1 (n_b2 128 (by decide) (by decide)) hn14).trans (u_5 h9)
  have v_1 : C9 → SV fd_11 124 n = 0 := fun h9 => (out_sv hpv.1 (by decide) hn14).trans (v_1 h9)
  have v_2 : C9 → SV fd_11 125 n = y1 * y2 := fun h9 => (out_sv hpv.1 (by decide) hn14).trans (v_2 h9)
  have v_3 : C9 → SV fd_11 126 n = 0 := fun h9 => (out_sv hpv.1 (by decide) hn14).trans (v_3 h9)
  have v_8 : C9 → SV fd_11 127 n = 0 := fun h9 => (out_sv hpv.1 (by decide) hn14).trans (v_8 h9)
  have v_10 : C9 → SV fd_11 129 n = y2 := fun h9 => (out_sv hpv.1 (by decide) hn14).trans (v_10 h9)
  have hS := hS.put hpv.1 (Or.inl ⟨by decide, by decide⟩)
  clear hv hpv hq
  refine lv_aload_n hx hb d_Model_sum_125 rfl (lv_at hl 0 rfl) ?_
  refine lv_sipush (v := nI 129) hx hb d_Model_sum_126 (by decide) ?_
  refine lv_bipush (v := nI 125) hx hb d_Model_sum_129 (by decide) ?_
  refine lv_bipush (v := nI 126) hx hb d_Model_sum_131 (by decide) ?_
  refine q_cV (rest := []) E (c_Model_add l g n0 mo 129 125 126 th pw td wr w n hw fd_11 (by decide) (by decide) (by decide)) w_975 w_15 w_972 w_974 (bw_s 17 rfl) hd_Model_add rfl ⟨by decide, by decide⟩ (OB.recv E.2.2.2.2.2 (by rfl) hm.1) hm hF hl.1 rfl (Nat.le_of_ble_eq_true rfl) d_Model_sum_133 ⟨by decide, by decide⟩ (qv (fun H12 locs hq hF => ?_))
  obtain ⟨hq, fd_12, hm, hpv, hv⟩ := hq
  have hfr := hfr.tr (kjR hq)
  have v_12 : C9 → SV fd_12 129 n = y1 * y2 := fun h9 => r_add hv (v_2 h9) (v_3 h9) (Int.add_zero _) (hc9 h9).2.2.2 hpp
  have u_0 : C9 → SV fd_12 a n = 0 := fun h9 => (out_sv hpv.1 (n_a0 129 (by decide) (by decide)) hn14).trans (u_0 h9)
  have u_1 : C9 → SV fd_12 (a + 1) n = y1 := fun h9 => (out_sv hpv.1 (n_a1 129 (by decide) (by decide)) hn14).trans (u_1 h9)
  have u_2 : C9 → SV fd_12 (a + 2) n = 0 := fun h9 => (out_sv hpv.1 (n_a2 129 (by decide) (by decide)) hn14).trans (u_2 h9)
  have u_3 : C9 → SV fd_12 b n = 0 := fun h9 => (out_sv hpv.1 (n_b0 129 (by decide) (by decide)) hn14).trans (u_3 h9)
  have u_4 : C9 → SV fd_12 (b + 1) n = y2 := fun h9 => (out_sv hpv.1 (n_b1 129 (by decide) (by decide)) hn14).trans (u_4 h9)
  have u_5 : C9 → SV fd_12 (b + 2) n = 0 := fun h9 => (out_sv hpv.1 (n_b2 129 (by decide) (by decide)) hn14).trans (u_5 h9)
  have v_1 : C9 → SV fd_12 124 n = 0 := fun h9 => (out_sv hpv.1 (by decide) hn14).trans (v_1 h9)
  have v_2 : C9 → SV fd_12 125 n = y1 * y2 := fun h9 => (out_sv hpv.1 (by decide) hn14).trans (v_2 h9)
  have v_3 : C9 → SV fd_12 126 n = 0 := fun h9 => (out_sv hpv.1 (by decide) hn14).trans (v_3 h9)
  have v_8 : C9 → SV fd_12 127 n = 0 := fun h9 => (out_sv hpv.1 (by decide) hn14).trans (v_8 h9)
  have v_11 : C9 → SV fd_12 128 n = y1 * y2 := fun h9 => (out_sv hpv.1 (by decide) hn14).trans (v_11 h9)
  have hS := hS.put hpv.1 (Or.inl ⟨by decide, by decide⟩)
  clear hv hpv hq
  refine lv_aload_n hx hb d_Model_sum_136 rfl (lv_at hl 0 rfl) ?_
  refine lv_sipush (v := nI 128) hx hb d_Model_sum_137 (by decide) ?_
  refine lv_sipush (v := nI 128) hx hb d_Model_sum_140 (by decide) ?_
  refine lv_sipush (v := nI 129) hx hb d_Model_sum_143 (by decide) ?_
  refine q_cV (rest := []) E (c_Model_less l g n0 mo 128 128 129 th pw td wr w n hw fd_12 (by decide) (by decide) (by decide)) w_1109 w_15 w_1106 w_1108 (bw_s 31 rfl) hd_Model_less rfl ⟨by decide, by decide⟩ (OB.recv E.2.2.2.2.2 (by rfl) hm.1) hm hF hl.1 rfl (Nat.le_of_ble_eq_true rfl) d_Model_sum_146 ⟨by decide, by decide⟩ (qv (fun H13 locs hq hF => ?_))
  obtain ⟨hq, fd_13, hm, hpv, hv⟩ := hq
  have hfr := hfr.tr (kjR hq)
  have v_13 : C9 → SV fd_13 128 n = 0 := fun h9 => r_less hv (v_11 h9) (v_12 h9) (Int.sub_self _) r0 hpp
  have u_0 : C9 → SV fd_13 a n = 0 := fun h9 => (out_sv hpv.1 (n_a0 128 (by decide) (by decide)) hn14).trans (u_0 h9)
  have u_1 : C9 → SV fd_13 (a + 1) n = y1 := fun h9 => (out_sv hpv.1 (n_a1 128 (by decide) (by decide)) hn14).trans (u_1 h9)
  have u_2 : C9 → SV fd_13 (a + 2) n = 0 := fun h9 => (out_sv hpv.1 (n_a2 128 (by decide) (by decide)) hn14).trans (u_2 h9)
  have u_3 : C9 → SV fd_13 b n = 0 := fun h9 => (out_sv hpv.1 (n_b0 128 (by decide) (by decide)) hn14).trans (u_3 h9)
  have u_4 : C9 → SV fd_13 (b + 1) n = y2 := fun h9 => (out_sv hpv.1 (n_b1 128 (by decide) (by decide)) hn14).trans (u_4 h9)
  have u_5 : C9 → SV fd_13 (b + 2) n = 0 := fun h9 => (out_sv hpv.1 (n_b2 128 (by decide) (by decide)) hn14).trans (u_5 h9)
  have v_1 : C9 → SV fd_13 124 n = 0 := fun h9 => (out_sv hpv.1 (by decide) hn14).trans (v_1 h9)
  have v_2 : C9 → SV fd_13 125 n = y1 * y2 := fun h9 => (out_sv hpv.1 (by decide) hn14).trans (v_2 h9)
  have v_3 : C9 → SV fd_13 126 n = 0 := fun h9 => (out_sv hpv.1 (by decide) hn14).trans (v_3 h9)
  have v_8 : C9 → SV fd_13 127 n = 0 := fun h9 => (out_sv hpv.1 (by decide) hn14).trans (v_8 h9)
  have v_12 : C9 → SV fd_13 129 n = y1 * y2 := fun h9 => (out_sv hpv.1 (by decide) hn14).trans (v_12 h9)
  have hS := hS.put hpv.1 (Or.inl ⟨by decide, by decide⟩)
  clear hv hpv hq
  refine lv_aload_n hx hb d_Model_sum_149 rfl (lv_at hl 0 rfl) ?_
  refine lv_sipush (v := nI 129) hx hb d_Model_sum_150 (by decide) ?_
  refine lv_iload_n hx hb d_Model_sum_153 rfl (lv_at hl 2 rfl) ?_
  refine lv_iload_n hx hb d_Model_sum_154 rfl (lv_at hl 2 rfl) ?_
  refine lv_iconst (v := nI 2) hx hb d_Model_sum_155 (by decide) ?_
  refine lv_iadd hx hb d_Model_sum_156 ?_
  refine lv_topi (fun t9 e9 => ?_)
  obtain rfl : t9 = nI (a + 2) := e9.trans (nI_add _ _)
  refine q_cV (rest := []) E (c_Model_add l g n0 mo 129 a (a + 2) th pw td wr w n hw fd_13 (by decide) l_a0 l_a2) w_975 w_15 w_972 w_974 (bw_s 17 rfl) hd_Model_add rfl ⟨by decide, by decide⟩ (OB.recv E.2.2.2.2.2 (by rfl) hm.1) hm hF hl.1 rfl (Nat.le_of_ble_eq_true rfl) d_Model_sum_157 ⟨by decide, by decide⟩ (qv (fun H14 locs hq hF => ?_))
  obtain ⟨hq, fd_14, hm, hpv, hv⟩ := hq
  have hfr := hfr.tr (kjR hq)
  have v_14 : C9 → SV fd_14 129 n = 0 := fun h9 => r_add hv (u_0 h9) (u_2 h9) (Int.zero_add _) r0 hpp
  have u_0 : C9 → SV fd_14 a n = 0 := fun h9 => (out_sv hpv.1 (n_a0 129 (by decide) (by decide)) hn14).trans (u_0 h9)
  have u_1 : C9 → SV fd_14 (a + 1) n = y1 := fun h9 => (out_sv hpv.1 (n_a1 129 (by decide) (by decide)) hn14).trans (u_1 h9)
  have u_2 : C9 → SV fd_14 (a + 2) n = 0 := fun h9 => (out_sv hpv.1 (n_a2 129 (by decide) (by decide)) hn14).trans (u_2 h9)
  have u_3 : C9 → SV fd_14 b n = 0 := fun h9 => (out_sv hpv.1 (n_b0 129 (by decide) (by decide)) hn14).trans (u_3 h9)
  have u_4 : C9 → SV fd_14 (b + 1) n = y2 := fun h9 => (out_sv hpv.1 (n_b1 129 (by decide) (by decide)) hn14).trans (u_4 h9)
  have u_5 : C9 → SV fd_14 (b + 2) n = 0 := fun h9 => (out_sv hpv.1 (n_b2 129 (by decide) (by decide)) hn14).trans (u_5 h9)
  have v_1 : C9 → SV fd_14 124 n = 0 := fun h9 => (out_sv hpv.1 (by decide) hn14).trans (v_1 h9)
  have v_2 : C9 → SV fd_14 125 n = y1 * y2 := fun h9 => (out_sv hpv.1 (by decide) hn14).trans (v_2 h9)
  have v_3 : C9 → SV fd_14 126 n = 0 := fun h9 => (out_sv hpv.1 (by decide) hn14).trans (v_3 h9)
  have v_8 : C9 → SV fd_14 127 n = 0 := fun h9 => (out_sv hpv.1 (by decide) hn14).trans (v_8 h9)
  have v_13 : C9 → SV fd_14 128 n = 0 := fun h9 => (out_sv hpv.1 (by decide) hn14).trans (v_13 h9)
  have hS := hS.put hpv.1 (Or.inl ⟨by decide, by decide⟩)
  clear hv hpv hq
  refine lv_aload_n hx hb d_Model_sum_160 rfl (lv_at hl 0 rfl) ?_
  refine lv_sipush (v := nI 130) hx hb d_Model_sum_161 (by decide) ?_
  refine lv_iload_n hx hb d_Model_sum_164 rfl (lv_at hl 3 rfl) ?_
  refine lv_iload_n hx hb d_Model_sum_165 rfl (lv_at hl 3 rfl) ?_
  refine lv_iconst (v := nI 2) hx hb d_Model_sum_166 (by decide) ?_
  refine lv_iadd hx hb d_Model_sum_167 ?_
  refine lv_topi (fun t9 e9 => ?_)
  obtain rfl : t9 = nI (b + 2) := e9.trans (nI_add _ _)
  refine q_cV (rest := []) E (c_Model_add l g n0 mo 130 b (b + 2) th pw td wr w n hw fd_14 (by decide) l_b0 l_b2) w_975 w_15 w_972 w_974 (bw_s 17 rfl) hd_Model_add rfl ⟨by decide, by decide⟩ (OB.recv E.2.2.2.2.2 (by rfl) hm.1) hm hF hl.1 rfl (Nat.le_of_ble_eq_true rfl) d_Model_sum_168 ⟨by decide, by decide⟩ (qv (fun H15 locs hq hF => ?_))
  obtain ⟨hq, fd_15, hm, hpv, hv⟩ := hq
  have hfr := hfr.tr (kjR hq)
  have v_15 : C9 → SV fd_15 130 n = 0 := fun h9 => r_add hv (u_3 h9) (u_5 h9) (Int.zero_add _) r0 hpp
  have u_0 : C9 → SV fd_15 a n = 0 := fun h9 => (out_sv hpv.1 (n_a0 130 (by decide) (by decide)) hn14).trans (u_0 h9)
  have u_1 : C9 → SV fd_15 (a + 1) n = y1 := fun h9 => (out_sv hpv.1 (n_a1 130 (by decide) (by decide)) hn14).trans (u_1 h9)
  have u_2 : C9 → SV fd_15 (a + 2) n = 0 := fun h9 => (out_sv hpv.1 (n_a2 130 (by decide) (by decide)) hn14).trans (u_2 h9)
  have u_3 : C9 → SV fd_15 b n = 0 := fun h9 => (out_sv hpv.1 (n_b0 130 (by decide) (by decide)) hn14).trans (u_3 h9)
  have u_4 : C9 → SV fd_15 (b + 1) n = y2 := fun h9 => (out_sv hpv.1 (n_b1 130 (by decide) (by decide)) hn14).trans (u_4 h9)
  have u_5 : C9 → SV fd_15 (b + 2) n = 0 := fun h9 => (out_sv hpv.1 (n_b2 130 (by decide) (by decide)) hn14).trans (u_5 h9)
  have v_1 : C9 → SV fd_15 124 n = 0 := fun h9 => (out_sv hpv.1 (by decide) hn14).trans (v_1 h9)
  have v_2 : C9 → SV fd_15 125 n = y1 * y2 := fun h9 => (out_sv hpv.1 (by decide) hn14).trans (v_2 h9)
  have v_3 : C9 → SV fd_15 126 n = 0 := fun h9 => (out_sv hpv.1 (by decide) hn14).trans (v_3 h9)
  have v_8 : C9 → SV fd_15 127 n = 0 := fun h9 => (out_sv hpv.1 (by decide) hn14).trans (v_8 h9)
  have v_13 : C9 → SV fd_15 128 n = 0 := fun h9 => (out_sv hpv.1 (by decide) hn14).trans (v_13 h9)
  have v_14 : C9 → SV fd_15 129 n = 0 := fun h9 => (out_sv hpv.1 (by decide) hn14).trans (v_14 h9)
  have hS := hS.put hpv.1 (Or.inl ⟨by decide, by decide⟩)
  clear hv hpv hq
  refine lv_aload_n hx hb d_Model_sum_171 rfl (lv_at hl 0 rfl) ?_
  refine lv_sipush (v := nI 129) hx hb d_Model_sum_172 (by decide) ?_
  refine lv_sipush (v := nI 129) hx hb d_Model_sum_175 (by decide) ?_
  refine lv_sipush (v := nI 130) hx hb d_Model_sum_178 (by decide) ?_
  refine q_cV (rest := []) E (c_Model_product l g n0 mo 129 129 130 th pw td wr w n hw fd_15 (by decide) (by decide) (by decide)) w_1113 w_15 w_1110 w_1112 (bw_s 32 rfl) hd_Model_product rfl ⟨by decide, by decide⟩ (OB.recv E.2.2.2.2.2 (by rfl) hm.1) hm hF hl.1 rfl (Nat.le_of_ble_eq_true rfl) d_Model_sum_181 ⟨by decide, by decide⟩ (qv (fun H16 locs hq hF => ?_))
  obtain ⟨hq, fd_16, hm, hpv, hv⟩ := hq
  have hfr := hfr.tr (kjR hq)
  have v_16 : C9 → SV fd_16 129 n = 0 := fun h9 => r_mulL hv (v_14 h9) r0 hpp
  have u_0 : C9 → SV fd_16 a n = 0 := fun h9 => (out_sv hpv.1 (n_a0 129 (by decide) (by decide)) hn14).trans (u_0 h9)
  have u_1 : C9 → SV fd_16 (a + 1) n = y1 := fun h9 => (out_sv hpv.1 (n_a1 129 (by decide) (by decide)) hn14).trans (u_1 h9)
  have u_2 : C9 → SV fd_16 (a + 2) n = 0 := fun h9 => (out_sv hpv.1 (n_a2 129 (by decide) (by decide)) hn14).trans (u_2 h9)
  have u_3 : C9 → SV fd_16 b n = 0 := fun h9 => (out_sv hpv.1 (n_b0 129 (by decide) (by decide)) hn14).trans (u_3 h9)
  have u_4 : C9 → SV fd_16 (b + 1) n = y2 := fun h9 => (out_sv hpv.1 (n_b1 129 (by decide) (by decide)) hn14).trans (u_4 h9)
  have u_5 : C9 → SV fd_16 (b + 2) n = 0 := fun h9 => (out_sv hpv.1 (n_b2 129 (by decide) (by decide)) hn14).trans (u_5 h9)
  have v_1 : C9 → SV fd_16 124 n = 0 := fun h9 => (out_sv hpv.1 (by decide) hn14).trans (v_1 h9)
  have v_2 : C9 → SV fd_16 125 n = y1 * y2 := fun h9 => (out_sv hpv.1 (by decide) hn14).trans (v_2 h9)
  have v_3 : C9 → SV fd_16 126 n = 0 := fun h9 => (out_sv hpv.1 (by decide) hn14).trans (v_3 h9)
  have v_8 : C9 → SV fd_16 127 n = 0 := fun h9 => (out_sv hpv.1 (by decide) hn14).trans (v_8 h9)
  have v_13 : C9 → SV fd_16 128 n = 0 := fun h9 => (out_sv hpv.1 (by decide) hn14).trans (v_13 h9)
  have v_15 : C9 → SV fd_16 130 n = 0 := fun h9 => (out_sv hpv.1 (by decide) hn14).trans (v_15 h9)
  have hS := hS.put hpv.1 (Or.inl ⟨by decide, by decide⟩)
  clear hv hpv hq
  refine lv_aload_n hx hb d_Model_sum_184 rfl (lv_at hl 0 rfl) ?_
  refine lv_sipush (v := nI 130) hx hb d_Model_sum_185 (by decide) ?_
  refine lv_bipush (v := nI 124) hx hb d_Model_sum_188 (by decide) ?_
  refine lv_bipush (v := nI 126) hx hb d_Model_sum_190 (by decide) ?_
  refine q_cV (rest := []) E (c_Model_add l g n0 mo 130 124 126 th pw td wr w n hw fd_16 (by decide) (by decide) (by decide)) w_975 w_15 w_972 w_974 (bw_s 17 rfl) hd_Model_add rfl ⟨by decide, by decide⟩ (OB.recv E.2.2.2.2.2 (by rfl) hm.1) hm hF hl.1 rfl (Nat.le_of_ble_eq_true rfl) d_Model_sum_192 ⟨by decide, by decide⟩ (qv (fun H17 locs hq hF => ?_))
  obtain ⟨hq, fd_17, hm, hpv, hv⟩ := hq
  have hfr := hfr.tr (kjR hq)
  have v_17 : C9 → SV fd_17 130 n = 0 := fun h9 => r_add hv (v_1 h9) (v_3 h9) (Int.zero_add _) r0 hpp
  have u_0 : C9 → SV fd_17 a n = 0 := fun h9 => (out_sv hpv.1 (n_a0 130 (by decide) (by decide)) hn14).trans (u_0 h9)
  have u_1 : C9 → SV fd_17 (a + 1) n = y1 := fun h9 => (out_sv hpv.1 (n_a1 130 (by decide) (by decide)) hn14).trans (u_1 h9)
  have u_2 : C9 → SV fd_17 (a + 2) n = 0 := fun h9 => (out_sv hpv.1 (n_a2 130 (by decide) (by decide)) hn14).trans (u_2 h9)
  have u_3 : C9 → SV fd_17 b n = 0 := fun h9 => (out_sv hpv.1 (n_b0 130 (by decide) (by decide)) hn14).trans (u_3 h9)
  have u_4 : C9 → SV fd_17 (b + 1) n = y2 := fun h9 => (out_sv hpv.1 (n_b1 130 (by decide) (by decide)) hn14).trans (u_4 h9)
  have u_5 : C9 → SV fd_17 (b + 2) n = 0 := fun h9 => (out_sv hpv.1 (n_b2 130 (by decide) (by decide)) hn14).trans (u_5 h9)
  have v_1 : C9 → SV fd_17 124 n = 0 := fun h9 => (out_sv hpv.1 (by decide) hn14).trans (v_1 h9)
  have v_2 : C9 → SV fd_17 125 n = y1 * y2 := fun h9 => (out_sv hpv.1 (by decide) hn14).trans (v_2 h9)
  have v_3 : C9 → SV fd_17 126 n = 0 := fun h9 => (out_sv hpv.1 (by decide) hn14).trans (v_3 h9)
  have v_8 : C9 → SV fd_17 127 n = 0 := fun h9 => (out_sv hpv.1 (by decide) hn14).trans (v_8 h9)
  have v_13 : C9 → SV fd_17 128 n = 0 := fun h9 => (out_sv hpv.1 (by decide) hn14).trans (v_13 h9)
  have v_16 : C9 → SV fd_17 129 n = 0 := fun h9 => (out_sv hpv.1 (by decide) hn14).trans (v_16 h9)
  have hS := hS.put hpv.1 (Or.inl ⟨by decide, by decide⟩)
  clear hv hpv hq
  refine lv_aload_n hx hb d_Model_sum_195 rfl (lv_at hl 0 rfl) ?_
  refine lv_sipush (v := nI 130) hx hb d_Model_sum_196 (by decide) ?_
  refine lv_sipush (v := nI 129) hx hb d_Model_sum_199 (by decide) ?_
  refine lv_sipush (v := nI 130) hx hb d_Model_sum_202 (by decide) ?_
  refine q_cV (rest := []) E (c_Model_less l g n0 mo 130 129 130 th pw td wr w n hw fd_17 (by decide) (by decide) (by decide)) w_1109 w_15 w_1106 w_1108 (bw_s 31 rfl) hd_Model_less rfl ⟨by decide, by decide⟩ (OB.recv E.2.2.2.2.2 (by rfl) hm.1) hm hF hl.1 rfl (Nat.le_of_ble_eq_true rfl) d_Model_sum_205 ⟨by decide, by decide⟩ (qv (fun H18 locs hq hF => ?_))
  obtain ⟨hq, fd_18, hm, hpv, hv⟩ := hq
  have hfr := hfr.tr (kjR hq)
  have v_18 : C9 → SV fd_18 130 n = 0 := fun h9 => r_less hv (v_16 h9) (v_17 h9) (Int.sub_self _) r0 hpp
  have u_0 : C9 → SV fd_18 a n = 0 := fun h9 => (out_sv hpv.1 (n_a0 130 (by decide) (by decide)) hn14).trans (u_0 h9)
  have u_1 : C9 → SV fd_18 (a + 1) n = y1 := fun h9 => (out_sv hpv.1 (n_a1 130 (by decide) (by decide)) hn14).trans (u_1 h9)
  have u_2 : C9 → SV fd_18 (a + 2) n = 0 := fun h9 => (out_sv hpv.1 (n_a2 130 (by decide) (by decide)) hn14).trans (u_2 h9)
  have u_3 : C9 → SV fd_18 b n = 0 := fun h9 => (out_sv hpv.1 (n_b0 130 (by decide) (by decide)) hn14).trans (u_3 h9)
  have u_4 : C9 → SV fd_18 (b + 1) n = y2 := fun h9 => (out_sv hpv.1 (n_b1 130 (by decide) (by decide)) hn14).trans (u_4 h9)
  have u_5 : C9 → SV fd_18 (b + 2) n = 0 := fun h9 => (out_sv hpv.1 (n_b2 130 (by decide) (by decide)) hn14).trans (u_5 h9)
  have v_1 : C9 → SV fd_18 124 n = 0 := fun h9 => (out_sv hpv.1 (by decide) hn14).trans (v_1 h9)
  have v_2 : C9 → SV fd_18 125 n = y1 * y2 := fun h9 => (out_sv hpv.1 (by decide) hn14).trans (v_2 h9)
  have v_3 : C9 → SV fd_18 126 n = 0 := fun h9 => (out_sv hpv.1 (by decide) hn14).trans (v_3 h9)
  have v_8 : C9 → SV fd_18 127 n = 0 := fun h9 => (out_sv hpv.1 (by decide) hn14).trans (v_8 h9)
  have v_13 : C9 → SV fd_18 128 n = 0 := fun h9 => (out_sv hpv.1 (by decide) hn14).trans (v_13 h9)
  have v_16 : C9 → SV fd_18 129 n = 0 := fun h9 => (out_sv hpv.1 (by decide) hn14).trans (v_16 h9)
  have hS := hS.put hpv.1 (Or.inl ⟨by decide, by decide⟩)
  clear hv hpv hq
  refine lv_aload_n hx hb d_Model_sum_208 rfl (lv_at hl 0 rfl) ?_
  refine lv_sipush (v := nI 129) hx hb d_Model_sum_209 (by decide) ?_
  refine lv_bipush (v := nI 124) hx hb d_Model_sum_212 (by decide) ?_
  refine lv_bipush (v := nI 124) hx hb d_Model_sum_214 (by decide) ?_
  refine q_cV (rest := []) E (c_Model_add l g n0 mo 129 124 124 th pw td wr w n hw fd_18 (by decide) (by decide) (by decide)) w_975 w_15 w_972 w_974 (bw_s 17 rfl) hd_Model_add rfl ⟨by decide, by decide⟩ (OB.recv E.2.2.2.2.2 (by rfl) hm.1) hm hF hl.1 rfl (Nat.le_of_ble_eq_true rfl) d_Model_sum_216 ⟨by decide, by decide⟩ (qv (fun H19 locs hq hF => ?_))
  obtain ⟨hq, fd_19, hm, hpv, hv⟩ := hq
  have hfr := hfr.tr (kjR hq)
  have v_19 : C9 → SV fd_19 129 n = 0 := fun h9 => r_add hv (v_1 h9) (v_1 h9) (Int.zero_add _) r0 hpp
  have u_0 : C9 → SV fd_19 a n = 0 := fun h9 => (out_sv hpv.1 (n_a0 129 (by decide) (by decide)) hn14).trans (u_0 h9)
  have u_1 : C9 → SV fd_19 (a + 1) n = y1 := fun h9 => (out_sv hpv.1 (n_a1 129 (by decide) (by decide)) hn14).trans (u_1 h9)
  have u_2 : C9 → SV fd_19 (a + 2) n = 0 := fun h9 => (out_sv hpv.1 (n_a2 129 (by decide) (by decide)) hn14).trans (u_2 h9)
  have u_3 : C9 → SV fd_19 b n = 0 := fun h9 => (out_sv hpv.1 (n_b0 129 (by decide) (by decide)) hn14).trans (u_3 h9)
  have u_4 : C9 → SV fd_19 (b + 1) n = y2 := fun h9 => (out_sv hpv.1 (n_b1 129 (by decide) (by decide)) hn14).trans (u_4 h9)
  have u_5 : C9 → SV fd_19 (b + 2) n = 0 := fun h9 => (out_sv hpv.1 (n_b2 129 (by decide) (by decide)) hn14).trans (u_5 h9)
  have v_1 : C9 → SV fd_19 124 n = 0 := fun h9 => (out_sv hpv.1 (by decide) hn14).trans (v_1 h9)
  have v_2 : C9 → SV fd_19 125 n = y1 * y2 := fun h9 => (out_sv hpv.1 (by decide) hn14).trans (v_2 h9)
  have v_3 : C9 → SV fd_19 126 n = 0 := fun h9 => (out_sv hpv.1 (by decide) hn14).trans (v_3 h9)
  have v_8 : C9 → SV fd_19 127 n = 0 := fun h9 => (out_sv hpv.1 (by decide) hn14).trans (v_8 h9)
  have v_13 : C9 → SV fd_19 128 n = 0 := fun h9 => (out_sv hpv.1 (by decide) hn14).trans (v_13 h9)
  have v_18 : C9 → SV fd_19 130 n = 0 := fun h9 => (out_sv hpv.1 (by decide) hn14).trans (v_18 h9)
  have hS := hS.put hpv.1 (Or.inl ⟨by decide, by decide⟩)
  clear hv hpv hq
  refine lv_aload_n hx hb d_Model_sum_219 rfl (lv_at hl 0 rfl) ?_
  refine lv_bipush (v := nI 124) hx hb d_Model_sum_220 (by decide) ?_
  refine lv_sipush (v := nI 129) hx hb d_Model_sum_222 (by decide) ?_
  refine lv_bipush (v := nI 124) hx hb d_Model_sum_225 (by decide) ?_
  refine q_cV (rest := []) E (c_Model_add l g n0 mo 124 129 124 th pw td wr w n hw fd_19 (by decide) (by decide) (by decide)) w_975 w_15 w_972 w_974 (bw_s 17 rfl) hd_Model_add rfl ⟨by decide, by decide⟩ (OB.recv E.2.2.2.2.2 (by rfl) hm.1) hm hF hl.1 rfl (Nat.le_of_ble_eq_true rfl) d_Model_sum_227 ⟨by decide, by decide⟩ (qv (fun H20 locs hq hF => ?_))
  obtain ⟨hq, fd_20, hm, hpv, hv⟩ := hq
  have hfr := hfr.tr (kjR hq)
  have v_20 : C9 → SV fd_20 124 n = 0 := fun h9 => r_add hv (v_19 h9) (v_1 h9) (Int.zero_add _) r0 hpp
  have u_0 : C9 → SV fd_20 a n = 0 := fun h9 => (out_sv hpv.1 (n_a0 124 (by decide) (by decide)) hn14).trans (u_0 h9)
  have u_1 : C9 → SV fd_20 (a + 1) n = y1 := fun h9 => (out_sv hpv.1 (n_a1 124 (by decide) (by decide)) hn14).trans (u_1 h9)
  have u_2 : C9 → SV fd_20 (a + 2) n = 0 := fun h9 => (out_sv hpv.1 (n_a2 124 (by decide) (by decide)) hn14).trans (u_2 h9)
  have u_3 : C9 → SV fd_20 b n = 0 := fun h9 => (out_sv hpv.1 (n_b0 124 (by decide) (by decide)) hn14).trans (u_3 h9)
  have u_4 : C9 → SV fd_20 (b + 1) n = y2 := fun h9 => (out_sv hpv.1 (n_b1 124 (by decide) (by decide)) hn14).trans (u_4 h9)
  have u_5 : C9 → SV fd_20 (b + 2) n = 0 := fun h9 => (out_sv hpv.1 (n_b2 124 (by decide) (by decide)) hn14).trans (u_5 h9)
  have v_2 : C9 → SV fd_20 125 n = y1 * y2 := fun h9 => (out_sv hpv.1 (by decide) hn14).trans (v_2 h9)
  have v_3 : C9 → SV fd_20 126 n = 0 := fun h9 => (out_sv hpv.1 (by decide) hn14).trans (v_3 h9)
  have v_8 : C9 → SV fd_20 127 n = 0 := fun h9 => (out_sv hpv.1 (by decide) hn14).trans (v_8 h9)
  have v_13 : C9 → SV fd_20 128 n = 0 := fun h9 => (out_sv hpv.1 (by decide) hn14).trans (v_13 h9)
  have v_18 : C9 → SV fd_20 130 n = 0 := fun h9 => (out_sv hpv.1 (by decide) hn14).trans (v_18 h9)
  have v_19 : C9 → SV fd_20 129 n = 0 := fun h9 => (out_sv hpv.1 (by decide) hn14).trans (v_19 h9)
  have hS := hS.put hpv.1 (Or.inl ⟨by decide, by decide⟩)
  clear hv hpv hq
  refine lv_aload_n hx hb d_Model_sum_230 rfl (lv_at hl 0 rfl) ?_
  refine lv_bipush (v := nI 126) hx hb d_Model_sum_231 (by decide) ?_
  refine q_cV (rest := []) E (c_Model_twelve l g n0 mo 126 th pw td wr w n hw fd_20 (by decide) (by decide)) w_1179 w_15 w_1176 w_1178 (bw_s 43 rfl) hd_Model_twelve rfl ⟨by decide, by decide⟩ (OB.recv E.2.2.2.2.2 (by rfl) hm.1) hm hF hl.1 rfl (Nat.le_of_ble_eq_true rfl) d_Model_sum_233 ⟨by decide, by decide⟩ (qv (fun H21 locs hq hF => ?_))
  obtain ⟨hq, fd_21, hm, hS2, hv⟩ := hq
  have hfr := hfr.tr hq
  have v_3 : C9 → SV fd_21 126 n = 0 := fun h9 => hv (v_3 h9)
  have u_0 : C9 → SV fd_21 a n = 0 := fun h9 => (hS2.sv (fun h => h.elim (n_a0 126 (by decide) (by decide)) (n_a0 134 (by decide) (by decide))) hn14).trans (u_0 h9)
  have u_1 : C9 → SV fd_21 (a + 1) n = y1 := fun h9 => (hS2.sv (fun h => h.elim (n_a1 126 (by decide) (by decide)) (n_a1 134 (by decide) (by decide))) hn14).trans (u_1 h9)
  have u_2 : C9 → SV fd_21 (a + 2) n = 0 := fun h9 => (hS2.sv (fun h => h.elim (n_a2 126 (by decide) (by decide)) (n_a2 134 (by decide) (by decide))) hn14).trans (u_2 h9)
  have u_3 : C9 → SV fd_21 b n = 0 := fun h9 => (hS2.sv (fun h => h.elim (n_b0 126 (by decide) (by decide)) (n_b0 134 (by decide) (by decide))) hn14).trans (u_3 h9)
  have u_4 : C9 → SV fd_21 (b + 1) n = y2 := fun h9 => (hS2.sv (fun h => h.elim (n_b1 126 (by decide) (by decide)) (n_b1 134 (by decide) (by decide))) hn14).trans (u_4 h9)
  have u_5 : C9 → SV fd_21 (b + 2) n = 0 := fun h9 => (hS2.sv (fun h => h.elim (n_b2 126 (by decide) (by decide)) (n_b2 134 (by decide) (by decide))) hn14).trans (u_5 h9)
  have v_2 : C9 → SV fd_21 125 n = y1 * y2 := fun h9 => (hS2.sv (fun h => h.elim (by decide) (by decide)) hn14).trans (v_2 h9)
  have v_8 : C9 → SV fd_21 127 n = 0 := fun h9 => (hS2.sv (fun h => h.elim (by decide) (by decide)) hn14).trans (v_8 h9)
  have v_13 : C9 → SV fd_21 128 n = 0 := fun h9 => (hS2.sv (fun h => h.elim (by decide) (by decide)) hn14).trans (v_13 h9)
  have v_18 : C9 → SV fd_21 130 n = 0 := fun h9 => (hS2.sv (fun h => h.elim (by decide) (by decide)) hn14).trans (v_18 h9)
  have v_19 : C9 → SV fd_21 129 n = 0 := fun h9 => (hS2.sv (fun h => h.elim (by decide) (by decide)) hn14).trans (v_19 h9)
  have v_20 : C9 → SV fd_21 124 n = 0 := fun h9 => (hS2.sv (fun h => h.elim (by decide) (by decide)) hn14).trans (v_20 h9)
  have hS := hS.tr (hS2.mono (fun t h => h.elim (fun e => by rw [e]; exact (Or.inl ⟨by decide, by decide⟩)) (fun e => by rw [e]; exact (Or.inl ⟨by decide, by decide⟩))))
  clear hv hS2 hq
  refine lv_aload_n hx hb d_Model_sum_236 rfl (lv_at hl 0 rfl) ?_
  refine lv_sipush (v := nI 131) hx hb d_Model_sum_237 (by decide) ?_
  refine lv_bipush (v := nI 125) hx hb d_Model_sum_240 (by decide) ?_
  refine lv_bipush (v := nI 126) hx hb d_Model_sum_242 (by decide) ?_
  refine q_cV (rest := []) E (c_Model_add l g n0 mo 131 125 126 th pw td wr w n hw fd_21 (by decide) (by decide) (by decide)) w_975 w_15 w_972 w_974 (bw_s 17 rfl) hd_Model_add rfl ⟨by decide, by decide⟩ (OB.recv E.2.2.2.2.2 (by rfl) hm.1) hm hF hl.1 rfl (Nat.le_of_ble_eq_true rfl) d_Model_sum_244 ⟨by decide, by decide⟩ (qv (fun H22 locs hq hF => ?_))
  obtain ⟨hq, fd_22, hm, hpv, hv⟩ := hq
  have hfr := hfr.tr (kjR hq)
  have v_21 : C9 → SV fd_22 131 n = y1 * y2 := fun h9 => r_add hv (v_2 h9) (v_3 h9) (Int.add_zero _) (hc9 h9).2.2.2 hpp
  have u_0 : C9 → SV fd_22 a n = 0 := fun h9 => (out_sv hpv.1 (n_a0 131 (by decide) (by decide)) hn14).trans (u_0 h9)
  have u_1 : C9 → SV fd_22 (a + 1) n = y1 := fun h9 => (out_sv hpv.1 (n_a1 131 (by decide) (by decide)) hn14).trans (u_1 h9)
  have u_2 : C9 → SV fd_22 (a + 2) n = 0 := fun h9 => (out_sv hpv.1 (n_a2 131 (by decide) (by decide)) hn14).trans (u_2 h9)
  have u_3 : C9 → SV fd_22 b n = 0 := fun h9 => (out_sv hpv.1 (n_b0 131 (by decide) (by decide)) hn14).trans (u_3 h9)
  have u_4 : C9 → SV fd_22 (b + 1) n = y2 := fun h9 => (out_sv hpv.1 (n_b1 131 (by decide) (by decide)) hn14).trans (u_4 h9)
  have u_5 : C9 → SV fd_22 (b + 2) n = 0 := fun h9 => (out_sv hpv.1 (n_b2 131 (by decide) (by decide)) hn14).trans (u_5 h9)
  have v_2 : C9 → SV fd_22 125 n = y1 * y2 := fun h9 => (out_sv hpv.1 (by decide) hn14).trans (v_2 h9)
  have v_3 : C9 → SV fd_22 126 n = 0 := fun h9 => (out_sv hpv.1 (by decide) hn14).trans (v_3 h9)
  have v_8 : C9 → SV fd_22 127 n = 0 := fun h9 => (out_sv hpv.1 (by decide) hn14).trans (v_8 h9)
  have v_13 : C9 → SV fd_22 128 n = 0 := fun h9 => (out_sv hpv.1 (by decide) hn14).trans (v_13 h9)
  have v_18 : C9 → SV fd_22 130 n = 0 := fun h9 => (out_sv hpv.1 (by decide) hn14).trans (v_18 h9)
  have v_19 : C9 → SV fd_22 129 n = 0 := fun h9 => (out_sv hpv.1 (by decide) hn14).trans (v_19 h9)
  have v_20 : C9 → SV fd_22 124 n = 0 := fun h9 => (out_sv hpv.1 (by decide) hn14).trans (v_20 h9)
  have hS := hS.put hpv.1 (Or.inl ⟨by decide, by decide⟩)
  clear hv hpv hq
  refine lv_aload_n hx hb d_Model_sum_247 rfl (lv_at hl 0 rfl) ?_
  refine lv_bipush (v := nI 125) hx hb d_Model_sum_248 (by decide) ?_
  refine lv_bipush (v := nI 125) hx hb d_Model_sum_250 (by decide) ?_
  refine lv_bipush (v := nI 126) hx hb d_Model_sum_252 (by decide) ?_
  refine q_cV (rest := []) E (c_Model_less l g n0 mo 125 125 126 th pw td wr w n hw fd_22 (by decide) (by decide) (by decide)) w_1109 w_15 w_1106 w_1108 (bw_s 31 rfl) hd_Model_less rfl ⟨by decide, by decide⟩ (OB.recv E.2.2.2.2.2 (by rfl) hm.1) hm hF hl.1 rfl (Nat.le_of_ble_eq_true rfl) d_Model_sum_254 ⟨by decide, by decide⟩ (qv (fun H23 locs hq hF => ?_))
  obtain ⟨hq, fd_23, hm, hpv, hv⟩ := hq
  have hfr := hfr.tr (kjR hq)
  have v_22 : C9 → SV fd_23 125 n = y1 * y2 := fun h9 => r_less hv (v_2 h9) (v_3 h9) (Int.sub_zero _) (hc9 h9).2.2.2 hpp
  have u_0 : C9 → SV fd_23 a n = 0 := fun h9 => (out_sv hpv.1 (n_a0 125 (by decide) (by decide)) hn14).trans (u_0 h9)
  have u_1 : C9 → SV fd_23 (a + 1) n = y1 := fun h9 => (out_sv hpv.1 (n_a1 125 (by decide) (by decide)) hn14).trans (u_1 h9)
  have u_2 : C9 → SV fd_23 (a + 2) n = 0 := fun h9 => (out_sv hpv.1 (n_a2 125 (by decide) (by decide)) hn14).trans (u_2 h9)
  have u_3 : C9 → SV fd_23 b n = 0 := fun h9 => (out_sv hpv.1 (n_b0 125 (by decide) (by decide)) hn14).trans (u_3 h9)
  have u_4 : C9 → SV fd_23 (b + 1) n = y2 := fun h9 => (out_sv hpv.1 (n_b1 125 (by decide) (by decide)) hn14).trans (u_4 h9)
  have u_5 : C9 → SV fd_23 (b + 2) n = 0 := fun h9 => (out_sv hpv.1 (n_b2 125 (by decide) (by decide)) hn14).trans (u_5 h9)
  have v_3 : C9 → SV fd_23 126 n = 0 := fun h9 => (out_sv hpv.1 (by decide) hn14).trans (v_3 h9)
  have v_8 : C9 → SV fd_23 127 n = 0 := fun h9 => (out_sv hpv.1 (by decide) hn14).trans (v_8 h9)
  have v_13 : C9 → SV fd_23 128 n = 0 := fun h9 => (out_sv hpv.1 (by decide) hn14).trans (v_13 h9)
  have v_18 : C9 → SV fd_23 130 n = 0 := fun h9 => (out_sv hpv.1 (by decide) hn14).trans (v_18 h9)
  have v_19 : C9 → SV fd_23 129 n = 0 := fun h9 => (out_sv hpv.1 (by decide) hn14).trans (v_19 h9)
  have v_20 : C9 → SV fd_23 124 n = 0 := fun h9 => (out_sv hpv.1 (by decide) hn14).trans (v_20 h9)
  have v_21 : C9 → SV fd_23 131 n = y1 * y2 := fun h9 => (out_sv hpv.1 (by decide) hn14).trans (v_21 h9)
  have hS := hS.put hpv.1 (Or.inl ⟨by decide, by decide⟩)
  clear hv hpv hq
  refine lv_aload_n hx hb d_Model_sum_257 rfl (lv_at hl 0 rfl) ?_
  refine lv_sipush (v := nI 130) hx hb d_Model_sum_258 (by decide) ?_
  refine q_cV (rest := []) E (c_Model_twelve l g n0 mo 130 th pw td wr w n hw fd_23 (by decide) (by decide)) w_1179 w_15 w_1176 w_1178 (bw_s 43 rfl) hd_Model_twelve rfl ⟨by decide, by decide⟩ (OB.recv E.2.2.2.2.2 (by rfl) hm.1) hm hF hl.1 rfl (Nat.le_of_ble_eq_true rfl) d_Model_sum_261 ⟨by decide, by decide⟩ (qv (fun H24 locs hq hF => ?_))
  obtain ⟨hq, fd_24, hm, hS2, hv⟩ := hq
  have hfr := hfr.tr hq
  have v_18 : C9 → SV fd_24 130 n = 0 := fun h9 => hv (v_18 h9)
  have u_0 : C9 → SV fd_24 a n = 0 := fun h9 => (hS2.sv (fun h => h.elim (n_a0 130 (by decide) (by decide)) (n_a0 134 (by decide) (by decide))) hn14).trans (u_0 h9)
  have u_1 : C9 → SV fd_24 (a + 1) n = y1 := fun h9 => (hS2.sv (fun h => h.elim (n_a1 130 (by decide) (by decide)) (n_a1 134 (by decide) (by decide))) hn14).trans (u_1 h9)
  have u_2 : C9 → SV fd_24 (a + 2) n = 0 := fun h9 => (hS2.sv (fun h => h.elim (n_a2 130 (by decide) (by decide)) (n_a2 134 (by decide) (by decide))) hn14).trans (u_2 h9)
  have u_3 : C9 → SV fd_24 b n = 0 := fun h9 => (hS2.sv (fun h => h.elim (n_b0 130 (by decide) (by decide)) (n_b0 134 (by decide) (by decide))) hn14).trans (u_3 h9)
  have u_4 : C9 → SV fd_24 (b + 1) n = y2 := fun h9 => (hS2.sv (fun h => h.elim (n_b1 130 (by decide) (by decide)) (n_b1 134 (by decide) (by decide))) hn14).trans (u_4 h9)
  have u_5 : C9 → SV fd_24 (b + 2) n = 0 := fun h9 => (hS2.sv (fun h => h.elim (n_b2 130 (by decide) (by decide)) (n_b2 134 (by decide) (by decide))) hn14).trans (u_5 h9)
  have v_3 : C9 → SV fd_24 126 n = 0 := fun h9 => (hS2.sv (fun h => h.elim (by decide) (by decide)) hn14).trans (v_3 h9)
  have v_8 : C9 → SV fd_24 127 n = 0 := fun h9 => (hS2.sv (fun h => h.elim (by decide) (by decide)) hn14).trans (v_8 h9)
  have v_13 : C9 → SV fd_24 128 n = 0 := fun h9 => (hS2.sv (fun h => h.elim (by decide) (by decide)) hn14).trans (v_13 h9)
  have v_19 : C9 → SV fd_24 129 n = 0 := fun h9 => (hS2.sv (fun h => h.elim (by decide) (by decide)) hn14).trans (v_19 h9)
  have v_20 : C9 → SV fd_24 124 n = 0 := fun h9 => (hS2.sv (fun h => h.elim (by decide) (by decide)) hn14).trans (v_20 h9)
  have v_21 : C9 → SV fd_24 131 n = y1 * y2 := fun h9 => (hS2.sv (fun h => h.elim (by decide) (by decide)) hn14).trans (v_21 h9)
  have v_22 : C9 → SV fd_24 125 n = y1 * y2 := fun h9 => (hS2.sv (fun h => h.elim (by decide) (by decide)) hn14).trans (v_22 h9)
  have hS := hS.tr (hS2.mono (fun t h => h.elim (fun e => by rw [e]; exact (Or.inl ⟨by decide, by decide⟩)) (fun e => by rw [e]; exact (Or.inl ⟨by decide, by decide⟩))))
  clear hv hS2 hq
  refine lv_aload_n hx hb d_Model_sum_264 rfl (lv_at hl 0 rfl) ?_
  refine lv_sipush (v := nI 129) hx hb d_Model_sum_265 (by decide) ?_
  refine lv_sipush (v := nI 128) hx hb d_Model_sum_268 (by decide) ?_
  refine lv_sipush (v := nI 130) hx hb d_Model_sum_271 (by decide) ?_
  refine q_cV (rest := []) E (c_Model_product l g n0 mo 129 128 130 th pw td wr w n hw fd_24 (by decide) (by decide) (by decide)) w_1113 w_15 w_1110 w_1112 (bw_s 32 rfl) hd_Model_product rfl ⟨by decide, by decide⟩ (OB.recv E.2.2.2.2.2 (by rfl) hm.1) hm hF hl.1 rfl (Nat.le_of_ble_eq_true rfl) d_Model_sum_274 ⟨by decide, by decide⟩ (qv (fun H25 locs hq hF => ?_))
  obtain ⟨hq, fd_25, hm, hpv, hv⟩ := hq
  have hfr := hfr.tr (kjR hq)
  have v_23 : C9 → SV fd_25 129 n = 0 := fun h9 => r_mulL hv (v_13 h9) r0 hpp
  have u_0 : C9 → SV fd_25 a n = 0 := fun h9 => (out_sv hpv.1 (n_a0 129 (by decide) (by decide)) hn14).trans (u_0 h9)
  have u_1 : C9 → SV fd_25 (a + 1) n = y1 := fun h9 => (out_sv hpv.1 (n_a1 129 (by decide) (by decide)) hn14).trans (u_1 h9)
  have u_2 : C9 → SV fd_25 (a + 2) n = 0 := fun h9 => (out_sv hpv.1 (n_a2 129 (by decide) (by decide)) hn14).trans (u_2 h9)
  have u_3 : C9 → SV fd_25 b n = 0 := fun h9 => (out_sv hpv.1 (n_b0 129 (by decide) (by decide)) hn14).trans (u_3 h9)
  have u_4 : C9 → SV fd_25 (b + 1) n = y2 := fun h9 => (out_sv hpv.1 (n_b1 129 (by decide) (by decide)) hn14).trans (u_4 h9)
  have u_5 : C9 → SV fd_25 (b + 2) n = 0 := fun h9 => (out_sv hpv.1 (n_b2 129 (by decide) (by decide)) hn14).trans (u_5 h9)
  have v_3 : C9 → SV fd_25 126 n = 0 := fun h9 => (out_sv hpv.1 (by decide) hn14).trans (v_3 h9)
  have v_8 : C9 → SV fd_25 127 n = 0 := fun h9 => (out_sv hpv.1 (by decide) hn14).trans (v_8 h9)
  have v_13 : C9 → SV fd_25 128 n = 0 := fun h9 => (out_sv hpv.1 (by decide) hn14).trans (v_13 h9)
  have v_18 : C9 → SV fd_25 130 n = 0 := fun h9 => (out_sv hpv.1 (by decide) hn14).trans (v_18 h9)
  have v_20 : C9 → SV fd_25 124 n = 0 := fun h9 => (out_sv hpv.1 (by decide) hn14).trans (v_20 h9)
  have v_21 : C9 → SV fd_25 131 n = y1 * y2 := fun h9 => (out_sv hpv.1 (by decide) hn14).trans (v_21 h9)
  have v_22 : C9 → SV fd_25 125 n = y1 * y2 := fun h9 => (out_sv hpv.1 (by decide) hn14).trans (v_22 h9)
  have hS := hS.put hpv.1 (Or.inl ⟨by decide, by decide⟩)
  clear hv hpv hq
  refine lv_aload_n hx hb d_Model_sum_277 rfl (lv_at hl 0 rfl) ?_
  refine lv_bipush (v := nI 126) hx hb d_Model_sum_278 (by decide) ?_
  refine lv_bipush (v := nI 127) hx hb d_Model_sum_280 (by decide) ?_
  refine lv_bipush (v := nI 125) hx hb d_Model_sum_282 (by decide) ?_
  refine q_cV (rest := []) E (c_Model_product l g n0 mo 126 127 125 th pw td wr w n hw fd_25 (by decide) (by decide) (by decide)) w_1113 w_15 w_1110 w_1112 (bw_s 32 rfl) hd_Model_product rfl ⟨by decide, by decide⟩ (OB.recv E.2.2.2.2.2 (by rfl) hm.1) hm hF hl.1 rfl (Nat.le_of_ble_eq_true rfl) d_Model_sum_284 ⟨by decide, by decide⟩ (qv (fun H26 locs hq hF => ?_))
  obtain ⟨hq, fd_26, hm, hpv, hv⟩ := hq
  have hfr := hfr.tr (kjR hq)
  have v_24 : C9 → SV fd_26 126 n = 0 := fun h9 => r_mulL hv (v_8 h9) r0 hpp
  have u_0 : C9 → SV fd_26 a n = 0 := fun h9 => (out_sv hpv.1 (n_a0 126 (by decide) (by decide)) hn14).trans (u_0 h9)
  have u_1 : C9 → SV fd_26 (a + 1) n = y1 := fun h9 => (out_sv hpv.1 (n_a1 126 (by decide) (by decide)) hn14).trans (u_1 h9)
  have u_2 : C9 → SV fd_26 (a + 2) n = 0 := fun h9 => (out_sv hpv.1 (n_a2 126 (by decide) (by decide)) hn14).trans (u_2 h9)
  have u_3 : C9 → SV fd_26 b n = 0 := fun h9 => (out_sv hpv.1 (n_b0 126 (by decide) (by decide)) hn14).trans (u_3 h9)
  have u_4 : C9 → SV fd_26 (b + 1) n = y2 := fun h9 => (out_sv hpv.1 (n_b1 126 (by decide) (by decide)) hn14).trans (u_4 h9)
  have u_5 : C9 → SV fd_26 (b + 2) n = 0 := fun h9 => (out_sv hpv.1 (n_b2 126 (by decide) (by decide)) hn14).trans (u_5 h9)
  have v_8 : C9 → SV fd_26 127 n = 0 := fun h9 => (out_sv hpv.1 (by decide) hn14).trans (v_8 h9)
  have v_13 : C9 → SV fd_26 128 n = 0 := fun h9 => (out_sv hpv.1 (by decide) hn14).trans (v_13 h9)
  have v_18 : C9 → SV fd_26 130 n = 0 := fun h9 => (out_sv hpv.1 (by decide) hn14).trans (v_18 h9)
  have v_20 : C9 → SV fd_26 124 n = 0 := fun h9 => (out_sv hpv.1 (by decide) hn14).trans (v_20 h9)
  have v_21 : C9 → SV fd_26 131 n = y1 * y2 := fun h9 => (out_sv hpv.1 (by decide) hn14).trans (v_21 h9)
  have v_22 : C9 → SV fd_26 125 n = y1 * y2 := fun h9 => (out_sv hpv.1 (by decide) hn14).trans (v_22 h9)
  have v_23 : C9 → SV fd_26 129 n = 0 := fun h9 => (out_sv hpv.1 (by decide) hn14).trans (v_23 h9)
  have hS := hS.put hpv.1 (Or.inl ⟨by decide, by decide⟩)
  clear hv hpv hq
  refine lv_aload_n hx hb d_Model_sum_287 rfl (lv_at hl 0 rfl) ?_
  refine lv_iload_n hx hb d_Model_sum_288 rfl (lv_at hl 1 rfl) ?_
  refine lv_bipush (v := nI 126) hx hb d_Model_sum_289 (by decide) ?_
  refine lv_sipush (v := nI 129) hx hb d_Model_sum_291 (by decide) ?_
  refine q_cV (rest := []) E (c_Model_less l g n0 mo r 126 129 th pw td wr w n hw fd_26 l_r0 (by decide) (by decide)) w_1109 w_15 w_1106 w_1108 (bw_s 31 rfl) hd_Model_less rfl ⟨by decide, by decide⟩ (OB.recv E.2.2.2.2.2 (by rfl) hm.1) hm hF hl.1 rfl (Nat.le_of_ble_eq_true rfl) d_Model_sum_294 ⟨by decide, by decide⟩ (qv (fun H27 locs hq hF => ?_))
  obtain ⟨hq, fd_27, hm, hpv, hv⟩ := hq
  have hfr := hfr.tr (kjR hq)
  have v_25 : C9 → SV fd_27 r n = 0 := fun h9 => r_less hv (v_24 h9) (v_23 h9) (Int.sub_self _) r0 hpp
  have v_8 : C9 → SV fd_27 127 n = 0 := fun h9 => (out_sv hpv.1 (Ne.symm (n_r0 127 (by decide) (by decide))) hn14).trans (v_8 h9)
  have v_13 : C9 → SV fd_27 128 n = 0 := fun h9 => (out_sv hpv.1 (Ne.symm (n_r0 128 (by decide) (by decide))) hn14).trans (v_13 h9)
  have v_18 : C9 → SV fd_27 130 n = 0 := fun h9 => (out_sv hpv.1 (Ne.symm (n_r0 130 (by decide) (by decide))) hn14).trans (v_18 h9)
  have v_20 : C9 → SV fd_27 124 n = 0 := fun h9 => (out_sv hpv.1 (Ne.symm (n_r0 124 (by decide) (by decide))) hn14).trans (v_20 h9)
  have v_21 : C9 → SV fd_27 131 n = y1 * y2 := fun h9 => (out_sv hpv.1 (Ne.symm (n_r0 131 (by decide) (by decide))) hn14).trans (v_21 h9)
  have v_22 : C9 → SV fd_27 125 n = y1 * y2 := fun h9 => (out_sv hpv.1 (Ne.symm (n_r0 125 (by decide) (by decide))) hn14).trans (v_22 h9)
  have v_23 : C9 → SV fd_27 129 n = 0 := fun h9 => (out_sv hpv.1 (Ne.symm (n_r0 129 (by decide) (by decide))) hn14).trans (v_23 h9)
  have v_24 : C9 → SV fd_27 126 n = 0 := fun h9 => (out_sv hpv.1 (Ne.symm (n_r0 126 (by decide) (by decide))) hn14).trans (v_24 h9)
  have hS := hS.put hpv.1 (Or.inr (Or.inl rfl))
  clear hv hpv hq
  refine lv_aload_n hx hb d_Model_sum_297 rfl (lv_at hl 0 rfl) ?_
  refine lv_sipush (v := nI 130) hx hb d_Model_sum_298 (by decide) ?_
  refine lv_sipush (v := nI 130) hx hb d_Model_sum_301 (by decide) ?_
  refine lv_bipush (v := nI 124) hx hb d_Model_sum_304 (by decide) ?_
  refine q_cV (rest := []) E (c_Model_product l g n0 mo 130 130 124 th pw td wr w n hw fd_27 (by decide) (by decide) (by decide)) w_1113 w_15 w_1110 w_1112 (bw_s 32 rfl) hd_Model_product rfl ⟨by decide, by decide⟩ (OB.recv E.2.2.2.2.2 (by rfl) hm.1) hm hF hl.1 rfl (Nat.le_of_ble_eq_true rfl) d_Model_sum_306 ⟨by decide, by decide⟩ (qv (fun H28 locs hq hF => ?_))
  obtain ⟨hq, fd_28, hm, hpv, hv⟩ := hq
  have hfr := hfr.tr (kjR hq)
  have v_26 : C9 → SV fd_28 130 n = 0 := fun h9 => r_mulL hv (v_18 h9) r0 hpp
  have v_8 : C9 → SV fd_28 127 n = 0 := fun h9 => (out_sv hpv.1 (by decide) hn14).trans (v_8 h9)
  have v_13 : C9 → SV fd_28 128 n = 0 := fun h9 => (out_sv hpv.1 (by decide) hn14).trans (v_13 h9)
  have v_20 : C9 → SV fd_28 124 n = 0 := fun h9 => (out_sv hpv.1 (by decide) hn14).trans (v_20 h9)
  have v_21 : C9 → SV fd_28 131 n = y1 * y2 := fun h9 => (out_sv hpv.1 (by decide) hn14).trans (v_21 h9)
  have v_22 : C9 → SV fd_28 125 n = y1 * y2 := fun h9 => (out_sv hpv.1 (by decide) hn14).trans (v_22 h9)
  have v_23 : C9 → SV fd_28 129 n = 0 := fun h9 => (out_sv hpv.1 (by decide) hn14).trans (v_23 h9)
  have v_24 : C9 → SV fd_28 126 n = 0 := fun h9 => (out_sv hpv.1 (by decide) hn14).trans (v_24 h9)
  have v_25 : C9 → SV fd_28 r n = 0 := fun h9 => (out_sv hpv.1 (n_r0 130 (by decide) (by decide)) hn14).trans (v_25 h9)
  have hS := hS.put hpv.1 (Or.inl ⟨by decide, by decide⟩)
  clear hv hpv hq
  refine lv_aload_n hx hb d_Model_sum_309 rfl (lv_at hl 0 rfl) ?_
  refine lv_bipush (v := nI 125) hx hb d_Model_sum_310 (by decide) ?_
  refine lv_bipush (v := nI 125) hx hb d_Model_sum_312 (by decide) ?_
  refine lv_sipush (v := nI 131) hx hb d_Model_sum_314 (by decide) ?_
  refine q_cV (rest := []) E (c_Model_product l g n0 mo 125 125 131 th pw td wr w n hw fd_28 (by decide) (by decide) (by decide)) w_1113 w_15 w_1110 w_1112 (bw_s 32 rfl) hd_Model_product rfl ⟨by decide, by decide⟩ (OB.recv E.2.2.2.2.2 (by rfl) hm.1) hm hF hl.1 rfl (Nat.le_of_ble_eq_true rfl) d_Model_sum_317 ⟨by decide, by decide⟩ (qv (fun H29 locs hq hF => ?_))
  obtain ⟨hq, fd_29, hm, hpv, hv⟩ := hq
  have hfr := hfr.tr (kjR hq)
  have v_27 : D9 → SV fd_29 125 n = 1 := fun h9 => r_mul hv (v_22 (hd9 h9).1) (v_21 (hd9 h9).1) ((congrArg (fun q => q * q) (hd9 h9).2).trans (by decide)) ⟨by decide, hP1⟩ hpp
  have v_8 : C9 → SV fd_29 127 n = 0 := fun h9 => (out_sv hpv.1 (by decide) hn14).trans (v_8 h9)
  have v_13 : C9 → SV fd_29 128 n = 0 := fun h9 => (out_sv hpv.1 (by decide) hn14).trans (v_13 h9)
  have v_20 : C9 → SV fd_29 124 n = 0 := fun h9 => (out_sv hpv.1 (by decide) hn14).trans (v_20 h9)
  have v_21 : C9 → SV fd_29 131 n = y1 * y2 := fun h9 => (out_sv hpv.1 (by decide) hn14).trans (v_21 h9)
  have v_23 : C9 → SV fd_29 129 n = 0 := fun h9 => (out_sv hpv.1 (by decide) hn14).trans (v_23 h9)
  have v_24 : C9 → SV fd_29 126 n = 0 := fun h9 => (out_sv hpv.1 (by decide) hn14).trans (v_24 h9)
  have v_25 : C9 → SV fd_29 r n = 0 := fun h9 => (out_sv hpv.1 (n_r0 125 (by decide) (by decide)) hn14).trans (v_25 h9)
  have v_26 : C9 → SV fd_29 130 n = 0 := fun h9 => (out_sv hpv.1 (by decide) hn14).trans (v_26 h9)
  have hS := hS.put hpv.1 (Or.inl ⟨by decide, by decide⟩)
  clear hv hpv hq
  refine lv_aload_n hx hb d_Model_sum_320 rfl (lv_at hl 0 rfl) ?_
  refine lv_iload_n hx hb d_Model_sum_321 rfl (lv_at hl 1 rfl) ?_
  refine lv_iconst (v := nI 1) hx hb d_Model_sum_322 (by decide) ?_
  refine lv_iadd hx hb d_Model_sum_323 ?_
  refine lv_topi (fun t9 e9 => ?_)
  obtain rfl : t9 = nI (r + 1) := e9.trans (nI_add _ _)
  refine lv_bipush (v := nI 125) hx hb d_Model_sum_324 (by decide) ?_
  refine lv_sipush (v := nI 130) hx hb d_Model_sum_326 (by decide) ?_
  refine q_cV (rest := []) E (c_Model_add l g n0 mo (r + 1) 125 130 th pw td wr w n hw fd_29 l_r1 (by decide) (by decide)) w_975 w_15 w_972 w_974 (bw_s 17 rfl) hd_Model_add rfl ⟨by decide, by decide⟩ (OB.recv E.2.2.2.2.2 (by rfl) hm.1) hm hF hl.1 rfl (Nat.le_of_ble_eq_true rfl) d_Model_sum_329 ⟨by decide, by decide⟩ (qv (fun H30 locs hq hF => ?_))
  obtain ⟨hq, fd_30, hm, hpv, hv⟩ := hq
  have hfr := hfr.tr (kjR hq)
  have v_28 : D9 → SV fd_30 (r + 1) n = 1 := fun h9 => r_add hv (v_27 h9) (v_26 (hd9 h9).1) (Int.add_zero _) ⟨by decide, hP1⟩ hpp
  have v_8 : C9 → SV fd_30 127 n = 0 := fun h9 => (out_sv hpv.1 (Ne.symm (n_r1 127 (by decide) (by decide))) hn14).trans (v_8 h9)
  have v_13 : C9 → SV fd_30 128 n = 0 := fun h9 => (out_sv hpv.1 (Ne.symm (n_r1 128 (by decide) (by decide))) hn14).trans (v_13 h9)
  have v_20 : C9 → SV fd_30 124 n = 0 := fun h9 => (out_sv hpv.1 (Ne.symm (n_r1 124 (by decide) (by decide))) hn14).trans (v_20 h9)
  have v_21 : C9 → SV fd_30 131 n = y1 * y2 := fun h9 => (out_sv hpv.1 (Ne.symm (n_r1 131 (by decide) (by decide))) hn14).trans (v_21 h9)
  have v_23 : C9 → SV fd_30 129 n = 0 := fun h9 => (out_sv hpv.1 (Ne.symm (n_r1 129 (by decide) (by decide))) hn14).trans (v_23 h9)
  have v_24 : C9 → SV fd_30 126 n = 0 := fun h9 => (out_sv hpv.1 (Ne.symm (n_r1 126 (by decide) (by decide))) hn14).trans (v_24 h9)
  have v_25 : C9 → SV fd_30 r n = 0 := fun h9 => (out_sv hpv.1 n_r01 hn14).trans (v_25 h9)
  have v_26 : C9 → SV fd_30 130 n = 0 := fun h9 => (out_sv hpv.1 (Ne.symm (n_r1 130 (by decide) (by decide))) hn14).trans (v_26 h9)
  have v_27 : D9 → SV fd_30 125 n = 1 := fun h9 => (out_sv hpv.1 (Ne.symm (n_r1 125 (by decide) (by decide))) hn14).trans (v_27 h9)
  have hS := hS.put hpv.1 (Or.inr (Or.inr (Or.inl rfl)))
  clear hv hpv hq
  refine lv_aload_n hx hb d_Model_sum_332 rfl (lv_at hl 0 rfl) ?_
  refine lv_bipush (v := nI 124) hx hb d_Model_sum_333 (by decide) ?_
  refine lv_bipush (v := nI 124) hx hb d_Model_sum_335 (by decide) ?_
  refine lv_bipush (v := nI 127) hx hb d_Model_sum_337 (by decide) ?_
  refine q_cV (rest := []) E (c_Model_product l g n0 mo 124 124 127 th pw td wr w n hw fd_30 (by decide) (by decide) (by decide)) w_1113 w_15 w_1110 w_1112 (bw_s 32 rfl) hd_Model_product rfl ⟨by decide, by decide⟩ (OB.recv E.2.2.2.2.2 (by rfl) hm.1) hm hF hl.1 rfl (Nat.le_of_ble_eq_true rfl) d_Model_sum_339 ⟨by decide, by decide⟩ (qv (fun H31 locs hq hF => ?_))
  obtain ⟨hq, fd_31, hm, hpv, hv⟩ := hq
  have hfr := hfr.tr (kjR hq)
  have v_29 : C9 → SV fd_31 124 n = 0 := fun h9 => r_mulL hv (v_20 h9) r0 hpp
  have v_8 : C9 → SV fd_31 127 n = 0 := fun h9 => (out_sv hpv.1 (by decide) hn14).trans (v_8 h9)
  have v_13 : C9 → SV fd_31 128 n = 0 := fun h9 => (out_sv hpv.1 (by decide) hn14).trans (v_13 h9)
  have v_21 : C9 → SV fd_31 131 n = y1 * y2 := fun h9 => (out_sv hpv.1 (by decide) hn14).trans (v_21 h9)
  have v_23 : C9 → SV fd_31 129 n = 0 := fun h9 => (out_sv hpv.1 (by decide) hn14).trans (v_23 h9)
  have v_24 : C9 → SV fd_31 126 n = 0 := fun h9 => (out_sv hpv.1 (by decide) hn14).trans (v_24 h9)
  have v_25 : C9 → SV fd_31 r n = 0 := fun h9 => (out_sv hpv.1 (n_r0 124 (by decide) (by decide)) hn14).trans (v_25 h9)
  have v_26 : C9 → SV fd_31 130 n = 0 := fun h9 => (out_sv hpv.1 (by decide) hn14).trans (v_26 h9)
  have v_27 : D9 → SV fd_31 125 n = 1 := fun h9 => (out_sv hpv.1 (by decide) hn14).trans (v_27 h9)
  have v_28 : D9 → SV fd_31 (r + 1) n = 1 := fun h9 => (out_sv hpv.1 (n_r1 124 (by decide) (by decide)) hn14).trans (v_28 h9)
  have hS := hS.put hpv.1 (Or.inl ⟨by decide, by decide⟩)
  clear hv hpv hq
  refine lv_aload_n hx hb d_Model_sum_342 rfl (lv_at hl 0 rfl) ?_
  refine lv_sipush (v := nI 131) hx hb d_Model_sum_343 (by decide) ?_
  refine lv_sipush (v := nI 131) hx hb d_Model_sum_346 (by decide) ?_
  refine lv_sipush (v := nI 128) hx hb d_Model_sum_349 (by decide) ?_
  refine q_cV (rest := []) E (c_Model_product l g n0 mo 131 131 128 th pw td wr w n hw fd_31 (by decide) (by decide) (by decide)) w_1113 w_15 w_1110 w_1112 (bw_s 32 rfl) hd_Model_product rfl ⟨by decide, by decide⟩ (OB.recv E.2.2.2.2.2 (by rfl) hm.1) hm hF hl.1 rfl (Nat.le_of_ble_eq_true rfl) d_Model_sum_352 ⟨by decide, by decide⟩ (qv (fun H32 locs hq hF => ?_))
  obtain ⟨hq, fd_32, hm, hpv, hv⟩ := hq
  have hfr := hfr.tr (kjR hq)
  have v_30 : C9 → SV fd_32 131 n = 0 := fun h9 => r_mulR hv (v_13 h9) r0 hpp
  have v_8 : C9 → SV fd_32 127 n = 0 := fun h9 => (out_sv hpv.1 (by decide) hn14).trans (v_8 h9)
  have v_13 : C9 → SV fd_32 128 n = 0 := fun h9 => (out_sv hpv.1 (by decide) hn14).trans (v_13 h9)
  have v_23 : C9 → SV fd_32 129 n = 0 := fun h9 => (out_sv hpv.1 (by decide) hn14).trans (v_23 h9)
  have v_24 : C9 → SV fd_32 126 n = 0 := fun h9 => (out_sv hpv.1 (by decide) hn14).trans (v_24 h9)
  have v_25 : C9 → SV fd_32 r n = 0 := fun h9 => (out_sv hpv.1 (n_r0 131 (by decide) (by decide)) hn14).trans (v_25 h9)
  have v_26 : C9 → SV fd_32 130 n = 0 := fun h9 => (out_sv hpv.1 (by decide) hn14).trans (v_26 h9)
  have v_27 : D9 → SV fd_32 125 n = 1 := fun h9 => (out_sv hpv.1 (by decide) hn14).trans (v_27 h9)
  have v_28 : D9 → SV fd_32 (r + 1) n = 1 := fun h9 => (out_sv hpv.1 (n_r1 131 (by decide) (by decide)) hn14).trans (v_28 h9)
  have v_29 : C9 → SV fd_32 124 n = 0 := fun h9 => (out_sv hpv.1 (by decide) hn14).trans (v_29 h9)
  have hS := hS.put hpv.1 (Or.inl ⟨by decide, by decide⟩)
  clear hv hpv hq
  refine lv_aload_n hx hb d_Model_sum_355 rfl (lv_at hl 0 rfl) ?_
  refine lv_iload_n hx hb d_Model_sum_356 rfl (lv_at hl 1 rfl) ?_
  refine lv_iconst (v := nI 2) hx hb d_Model_sum_357 (by decide) ?_
  refine lv_iadd hx hb d_Model_sum_358 ?_
  refine lv_topi (fun t9 e9 => ?_)
  obtain rfl : t9 = nI (r + 2) := e9.trans (nI_add _ _)
  refine lv_sipush (v := nI 131) hx hb d_Model_sum_359 (by decide) ?_
  refine lv_bipush (v := nI 124) hx hb d_Model_sum_362 (by decide) ?_
  refine q_cV (rest := []) E (c_Model_add l g n0 mo (r + 2) 131 124 th pw td wr w n hw fd_32 l_r2 (by decide) (by decide)) w_975 w_15 w_972 w_974 (bw_s 17 rfl) hd_Model_add rfl ⟨by decide, by decide⟩ (OB.recv E.2.2.2.2.2 (by rfl) hm.1) hm hF hl.1 rfl (Nat.le_of_ble_eq_true rfl) d_Model_sum_364 ⟨by decide, by decide⟩ (qv (fun H33 locs hq hF => ?_))
  obtain ⟨hq, fd_33, hm, hpv, hv⟩ := hq
  have hfr := hfr.tr (kjR hq)
  have v_31 : C9 → SV fd_33 (r + 2) n = 0 := fun h9 => r_add hv (v_30 h9) (v_29 h9) (Int.zero_add _) r0 hpp
  have v_8 : C9 → SV fd_33 127 n = 0 := fun h9 => (out_sv hpv.1 (Ne.symm (n_r2 127 (by decide) (by decide))) hn14).trans (v_8 h9)
  have v_13 : C9 → SV fd_33 128 n = 0 := fun h9 => (out_sv hpv.1 (Ne.symm (n_r2 128 (by decide) (by decide))) hn14).trans (v_13 h9)
  have v_23 : C9 → SV fd_33 129 n = 0 := fun h9 => (out_sv hpv.1 (Ne.symm (n_r2 129 (by decide) (by decide))) hn14).trans (v_23 h9)
  have v_24 : C9 → SV fd_33 126 n = 0 := fun h9 => (out_sv hpv.1 (Ne.symm (n_r2 126 (by decide) (by decide))) hn14).trans (v_24 h9)
  have v_25 : C9 → SV fd_33 r n = 0 := fun h9 => (out_sv hpv.1 n_r02 hn14).trans (v_25 h9)
  have v_26 : C9 → SV fd_33 130 n = 0 := fun h9 => (out_sv hpv.1 (Ne.symm (n_r2 130 (by decide) (by decide))) hn14).trans (v_26 h9)
  have v_27 : D9 → SV fd_33 125 n = 1 := fun h9 => (out_sv hpv.1 (Ne.symm (n_r2 125 (by decide) (by decide))) hn14).trans (v_27 h9)
  have v_28 : D9 → SV fd_33 (r + 1) n = 1 := fun h9 => (out_sv hpv.1 n_r12 hn14).trans (v_28 h9)
  have v_29 : C9 → SV fd_33 124 n = 0 := fun h9 => (out_sv hpv.1 (Ne.symm (n_r2 124 (by decide) (by decide))) hn14).trans (v_29 h9)
  have v_30 : C9 → SV fd_33 131 n = 0 := fun h9 => (out_sv hpv.1 (Ne.symm (n_r2 131 (by decide) (by decide))) hn14).trans (v_30 h9)
  have hS := hS.put hpv.1 (Or.inr (Or.inr (Or.inr rfl)))
  clear hv hpv hq
  exact q_vret E hr hlk (⟨rfl, hfr, _, hm, hS, fun h9 => ⟨v_25 h9, v_31 h9⟩, v_28⟩) hF d_Model_sum_367
