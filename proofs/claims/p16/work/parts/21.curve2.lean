abbrev y_Curve_add : MethodName := ⟨"KateDesk$Curve", "add", "(LKateDesk$Point;LKateDesk$Point;LKateDesk$Point;Z)V"⟩
theorem hd_Curve_add : y_Curve_add.cls ≠ "java/lang/invoke/MethodHandle" ∧ y_Curve_add.cls ≠ "java/lang/invoke/VarHandle" ∧ (parseMethodDescriptor y_Curve_add.desc).map (fun d => d.parameters.length) = some 4 := by decide +kernel
theorem d_Curve_add_0 : decode prog_2_method_2_code 0 = .ok (.aload_n 3, 1) := by decide +kernel
theorem d_Curve_add_1 : decode prog_2_method_2_code 1 = .ok (.getfield 43, 3) := by decide +kernel
theorem d_Curve_add_4 : decode prog_2_method_2_code 4 = .ok (.astore 5, 2) := by decide +kernel
theorem d_Curve_add_6 : decode prog_2_method_2_code 6 = .ok (.iload 4, 2) := by decide +kernel
theorem d_Curve_add_8 : decode prog_2_method_2_code 8 = .ok (.ifCond .eq 24, 3) := by decide +kernel
theorem d_Curve_add_11 : decode prog_2_method_2_code 11 = .ok (.aload_n 0, 1) := by decide +kernel
theorem d_Curve_add_12 : decode prog_2_method_2_code 12 = .ok (.getfield 39, 3) := by decide +kernel
theorem d_Curve_add_15 : decode prog_2_method_2_code 15 = .ok (.aload_n 0, 1) := by decide +kernel
theorem d_Curve_add_16 : decode prog_2_method_2_code 16 = .ok (.getfield 36, 3) := by decide +kernel
theorem d_Curve_add_19 : decode prog_2_method_2_code 19 = .ok (.aload_n 3, 1) := by decide +kernel
theorem d_Curve_add_20 : decode prog_2_method_2_code 20 = .ok (.getfield 43, 3) := by decide +kernel
theorem d_Curve_add_23 : decode prog_2_method_2_code 23 = .ok (.invokevirtual 48, 3) := by decide +kernel
theorem d_Curve_add_26 : decode prog_2_method_2_code 26 = .ok (.aload_n 0, 1) := by decide +kernel
theorem d_Curve_add_27 : decode prog_2_method_2_code 27 = .ok (.getfield 36, 3) := by decide +kernel
theorem d_Curve_add_30 : decode prog_2_method_2_code 30 = .ok (.astore 5, 2) := by decide +kernel
theorem d_Curve_add_32 : decode prog_2_method_2_code 32 = .ok (.aload_n 0, 1) := by decide +kernel
theorem d_Curve_add_33 : decode prog_2_method_2_code 33 = .ok (.getfield 39, 3) := by decide +kernel
theorem d_Curve_add_36 : decode prog_2_method_2_code 36 = .ok (.aload_n 0, 1) := by decide +kernel
theorem d_Curve_add_37 : decode prog_2_method_2_code 37 = .ok (.getfield 9, 3) := by decide +kernel
theorem d_Curve_add_40 : decode prog_2_method_2_code 40 = .ok (.aload_n 2, 1) := by decide +kernel
theorem d_Curve_add_41 : decode prog_2_method_2_code 41 = .ok (.getfield 54, 3) := by decide +kernel
theorem d_Curve_add_44 : decode prog_2_method_2_code 44 = .ok (.aload_n 3, 1) := by decide +kernel
theorem d_Curve_add_45 : decode prog_2_method_2_code 45 = .ok (.getfield 54, 3) := by decide +kernel
theorem d_Curve_add_48 : decode prog_2_method_2_code 48 = .ok (.invokevirtual 57, 3) := by decide +kernel
theorem d_Curve_add_51 : decode prog_2_method_2_code 51 = .ok (.aload_n 0, 1) := by decide +kernel
theorem d_Curve_add_52 : decode prog_2_method_2_code 52 = .ok (.getfield 39, 3) := by decide +kernel
theorem d_Curve_add_55 : decode prog_2_method_2_code 55 = .ok (.aload_n 0, 1) := by decide +kernel
theorem d_Curve_add_56 : decode prog_2_method_2_code 56 = .ok (.getfield 15, 3) := by decide +kernel
theorem d_Curve_add_59 : decode prog_2_method_2_code 59 = .ok (.aload_n 2, 1) := by decide +kernel
theorem d_Curve_add_60 : decode prog_2_method_2_code 60 = .ok (.getfield 43, 3) := by decide +kernel
theorem d_Curve_add_63 : decode prog_2_method_2_code 63 = .ok (.aload 5, 2) := by decide +kernel
theorem d_Curve_add_65 : decode prog_2_method_2_code 65 = .ok (.invokevirtual 57, 3) := by decide +kernel
theorem d_Curve_add_68 : decode prog_2_method_2_code 68 = .ok (.aload_n 0, 1) := by decide +kernel
theorem d_Curve_add_69 : decode prog_2_method_2_code 69 = .ok (.getfield 39, 3) := by decide +kernel
theorem d_Curve_add_72 : decode prog_2_method_2_code 72 = .ok (.aload_n 0, 1) := by decide +kernel
theorem d_Curve_add_73 : decode prog_2_method_2_code 73 = .ok (.getfield 18, 3) := by decide +kernel
theorem d_Curve_add_76 : decode prog_2_method_2_code 76 = .ok (.aload_n 2, 1) := by decide +kernel
theorem d_Curve_add_77 : decode prog_2_method_2_code 77 = .ok (.getfield 61, 3) := by decide +kernel
theorem d_Curve_add_80 : decode prog_2_method_2_code 80 = .ok (.aload_n 3, 1) := by decide +kernel
theorem d_Curve_add_81 : decode prog_2_method_2_code 81 = .ok (.getfield 61, 3) := by decide +kernel
theorem d_Curve_add_84 : decode prog_2_method_2_code 84 = .ok (.invokevirtual 57, 3) := by decide +kernel
theorem d_Curve_add_87 : decode prog_2_method_2_code 87 = .ok (.aload_n 0, 1) := by decide +kernel
theorem d_Curve_add_88 : decode prog_2_method_2_code 88 = .ok (.aload_n 0, 1) := by decide +kernel
theorem d_Curve_add_89 : decode prog_2_method_2_code 89 = .ok (.getfield 21, 3) := by decide +kernel
theorem d_Curve_add_92 : decode prog_2_method_2_code 92 = .ok (.aload_n 2, 1) := by decide +kernel
theorem d_Curve_add_93 : decode prog_2_method_2_code 93 = .ok (.getfield 54, 3) := by decide +kernel
theorem d_Curve_add_96 : decode prog_2_method_2_code 96 = .ok (.aload_n 2, 1) := by decide +kernel
theorem d_Curve_add_97 : decode prog_2_method_2_code 97 = .ok (.getfield 43, 3) := by decide +kernel
theorem d_Curve_add_100 : decode prog_2_method_2_code 100 = .ok (.aload_n 3, 1) := by decide +kernel
theorem d_Curve_add_101 : decode prog_2_method_2_code 101 = .ok (.getfield 54, 3) := by decide +kernel
theorem d_Curve_add_104 : decode prog_2_method_2_code 104 = .ok (.aload 5, 2) := by decide +kernel
theorem d_Curve_add_106 : decode prog_2_method_2_code 106 = .ok (.aload_n 0, 1) := by decide +kernel
theorem d_Curve_add_107 : decode prog_2_method_2_code 107 = .ok (.getfield 9, 3) := by decide +kernel
theorem d_Curve_add_110 : decode prog_2_method_2_code 110 = .ok (.aload_n 0, 1) := by decide +kernel
theorem d_Curve_add_111 : decode prog_2_method_2_code 111 = .ok (.getfield 15, 3) := by decide +kernel
theorem d_Curve_add_114 : decode prog_2_method_2_code 114 = .ok (.invokevirtual 64, 3) := by decide +kernel
theorem d_Curve_add_117 : decode prog_2_method_2_code 117 = .ok (.aload_n 0, 1) := by decide +kernel
theorem d_Curve_add_118 : decode prog_2_method_2_code 118 = .ok (.aload_n 0, 1) := by decide +kernel
theorem d_Curve_add_119 : decode prog_2_method_2_code 119 = .ok (.getfield 24, 3) := by decide +kernel
theorem d_Curve_add_122 : decode prog_2_method_2_code 122 = .ok (.aload_n 2, 1) := by decide +kernel
theorem d_Curve_add_123 : decode prog_2_method_2_code 123 = .ok (.getfield 43, 3) := by decide +kernel
theorem d_Curve_add_126 : decode prog_2_method_2_code 126 = .ok (.aload_n 2, 1) := by decide +kernel
theorem d_Curve_add_127 : decode prog_2_method_2_code 127 = .ok (.getfield 61, 3) := by decide +kernel
theorem d_Curve_add_130 : decode prog_2_method_2_code 130 = .ok (.aload 5, 2) := by decide +kernel
theorem d_Curve_add_132 : decode prog_2_method_2_code 132 = .ok (.aload_n 3, 1) := by decide +kernel
theorem d_Curve_add_133 : decode prog_2_method_2_code 133 = .ok (.getfield 61, 3) := by decide +kernel
theorem d_Curve_add_136 : decode prog_2_method_2_code 136 = .ok (.aload_n 0, 1) := by decide +kernel
theorem d_Curve_add_137 : decode prog_2_method_2_code 137 = .ok (.getfield 15, 3) := by decide +kernel
theorem d_Curve_add_140 : decode prog_2_method_2_code 140 = .ok (.aload_n 0, 1) := by decide +kernel
theorem d_Curve_add_141 : decode prog_2_method_2_code 141 = .ok (.getfield 18, 3) := by decide +kernel
theorem d_Curve_add_144 : decode prog_2_method_2_code 144 = .ok (.invokevirtual 64, 3) := by decide +kernel
theorem d_Curve_add_147 : decode prog_2_method_2_code 147 = .ok (.aload_n 0, 1) := by decide +kernel
theorem d_Curve_add_148 : decode prog_2_method_2_code 148 = .ok (.aload_n 0, 1) := by decide +kernel
theorem d_Curve_add_149 : decode prog_2_method_2_code 149 = .ok (.getfield 27, 3) := by decide +kernel
theorem d_Curve_add_152 : decode prog_2_method_2_code 152 = .ok (.aload_n 2, 1) := by decide +kernel
theorem d_Curve_add_153 : decode prog_2_method_2_code 153 = .ok (.getfield 54, 3) := by decide +kernel
theorem d_Curve_add_156 : decode prog_2_method_2_code 156 = .ok (.aload_n 2, 1) := by decide +kernel
theorem d_Curve_add_157 : decode prog_2_method_2_code 157 = .ok (.getfield 61, 3) := by decide +kernel
theorem d_Curve_add_160 : decode prog_2_method_2_code 160 = .ok (.aload_n 3, 1) := by decide +kernel
theorem d_Curve_add_161 : decode prog_2_method_2_code 161 = .ok (.getfield 54, 3) := by decide +kernel
theorem d_Curve_add_164 : decode prog_2_method_2_code 164 = .ok (.aload_n 3, 1) := by decide +kernel
theorem d_Curve_add_165 : decode prog_2_method_2_code 165 = .ok (.getfield 61, 3) := by decide +kernel
theorem d_Curve_add_168 : decode prog_2_method_2_code 168 = .ok (.aload_n 0, 1) := by decide +kernel
theorem d_Curve_add_169 : decode prog_2_method_2_code 169 = .ok (.getfield 9, 3) := by decide +kernel
theorem d_Curve_add_172 : decode prog_2_method_2_code 172 = .ok (.aload_n 0, 1) := by decide +kernel
theorem d_Curve_add_173 : decode prog_2_method_2_code 173 = .ok (.getfield 18, 3) := by decide +kernel
theorem d_Curve_add_176 : decode prog_2_method_2_code 176 = .ok (.invokevirtual 64, 3) := by decide +kernel
theorem d_Curve_add_179 : decode prog_2_method_2_code 179 = .ok (.aload_n 0, 1) := by decide +kernel
theorem d_Curve_add_180 : decode prog_2_method_2_code 180 = .ok (.getfield 39, 3) := by decide +kernel
theorem d_Curve_add_183 : decode prog_2_method_2_code 183 = .ok (.aload_n 0, 1) := by decide +kernel
theorem d_Curve_add_184 : decode prog_2_method_2_code 184 = .ok (.getfield 30, 3) := by decide +kernel
theorem d_Curve_add_187 : decode prog_2_method_2_code 187 = .ok (.aload_n 0, 1) := by decide +kernel
theorem d_Curve_add_188 : decode prog_2_method_2_code 188 = .ok (.getfield 9, 3) := by decide +kernel
theorem d_Curve_add_191 : decode prog_2_method_2_code 191 = .ok (.aload_n 0, 1) := by decide +kernel
theorem d_Curve_add_192 : decode prog_2_method_2_code 192 = .ok (.getfield 9, 3) := by decide +kernel
theorem d_Curve_add_195 : decode prog_2_method_2_code 195 = .ok (.invokevirtual 68, 3) := by decide +kernel
theorem d_Curve_add_198 : decode prog_2_method_2_code 198 = .ok (.aload_n 0, 1) := by decide +kernel
theorem d_Curve_add_199 : decode prog_2_method_2_code 199 = .ok (.getfield 39, 3) := by decide +kernel
theorem d_Curve_add_202 : decode prog_2_method_2_code 202 = .ok (.aload_n 0, 1) := by decide +kernel
theorem d_Curve_add_203 : decode prog_2_method_2_code 203 = .ok (.getfield 9, 3) := by decide +kernel
theorem d_Curve_add_206 : decode prog_2_method_2_code 206 = .ok (.aload_n 0, 1) := by decide +kernel
theorem d_Curve_add_207 : decode prog_2_method_2_code 207 = .ok (.getfield 30, 3) := by decide +kernel
theorem d_Curve_add_210 : decode prog_2_method_2_code 210 = .ok (.aload_n 0, 1) := by decide +kernel
theorem d_Curve_add_211 : decode prog_2_method_2_code 211 = .ok (.getfield 9, 3) := by decide +kernel
theorem d_Curve_add_214 : decode prog_2_method_2_code 214 = .ok (.invokevirtual 68, 3) := by decide +kernel
theorem d_Curve_add_217 : decode prog_2_method_2_code 217 = .ok (.aload_n 0, 1) := by decide +kernel
theorem d_Curve_add_218 : decode prog_2_method_2_code 218 = .ok (.aload_n 0, 1) := by decide +kernel
theorem d_Curve_add_219 : decode prog_2_method_2_code 219 = .ok (.getfield 18, 3) := by decide +kernel
theorem d_Curve_add_222 : decode prog_2_method_2_code 222 = .ok (.aload_n 0, 1) := by decide +kernel
theorem d_Curve_add_223 : decode prog_2_method_2_code 223 = .ok (.getfield 18, 3) := by decide +kernel
theorem d_Curve_add_226 : decode prog_2_method_2_code 226 = .ok (.invokevirtual 71, 3) := by decide +kernel
theorem d_Curve_add_229 : decode prog_2_method_2_code 229 = .ok (.aload_n 0, 1) := by decide +kernel
theorem d_Curve_add_230 : decode prog_2_method_2_code 230 = .ok (.aload_n 0, 1) := by decide +kernel
theorem d_Curve_add_231 : decode prog_2_method_2_code 231 = .ok (.getfield 27, 3) := by decide +kernel
theorem d_Curve_add_234 : decode prog_2_method_2_code 234 = .ok (.aload_n 0, 1) := by decide +kernel
theorem d_Curve_add_235 : decode prog_2_method_2_code 235 = .ok (.getfield 27, 3) := by decide +kernel
theorem d_Curve_add_238 : decode prog_2_method_2_code 238 = .ok (.invokevirtual 71, 3) := by decide +kernel
theorem d_Curve_add_241 : decode prog_2_method_2_code 241 = .ok (.aload_n 0, 1) := by decide +kernel
theorem d_Curve_add_242 : decode prog_2_method_2_code 242 = .ok (.getfield 39, 3) := by decide +kernel
theorem d_Curve_add_245 : decode prog_2_method_2_code 245 = .ok (.aload_n 0, 1) := by decide +kernel
theorem d_Curve_add_246 : decode prog_2_method_2_code 246 = .ok (.getfield 30, 3) := by decide +kernel
theorem d_Curve_add_249 : decode prog_2_method_2_code 249 = .ok (.aload_n 0, 1) := by decide +kernel
theorem d_Curve_add_250 : decode prog_2_method_2_code 250 = .ok (.getfield 15, 3) := by decide +kernel
theorem d_Curve_add_253 : decode prog_2_method_2_code 253 = .ok (.aload_n 0, 1) := by decide +kernel
theorem d_Curve_add_254 : decode prog_2_method_2_code 254 = .ok (.getfield 18, 3) := by decide +kernel
theorem d_Curve_add_257 : decode prog_2_method_2_code 257 = .ok (.invokevirtual 74, 3) := by decide +kernel
theorem d_Curve_add_260 : decode prog_2_method_2_code 260 = .ok (.aload_n 0, 1) := by decide +kernel
theorem d_Curve_add_261 : decode prog_2_method_2_code 261 = .ok (.getfield 39, 3) := by decide +kernel
theorem d_Curve_add_264 : decode prog_2_method_2_code 264 = .ok (.aload_n 0, 1) := by decide +kernel
theorem d_Curve_add_265 : decode prog_2_method_2_code 265 = .ok (.getfield 33, 3) := by decide +kernel
theorem d_Curve_add_268 : decode prog_2_method_2_code 268 = .ok (.aload_n 0, 1) := by decide +kernel
theorem d_Curve_add_269 : decode prog_2_method_2_code 269 = .ok (.getfield 15, 3) := by decide +kernel
theorem d_Curve_add_272 : decode prog_2_method_2_code 272 = .ok (.aload_n 0, 1) := by decide +kernel
theorem d_Curve_add_273 : decode prog_2_method_2_code 273 = .ok (.getfield 18, 3) := by decide +kernel
theorem d_Curve_add_276 : decode prog_2_method_2_code 276 = .ok (.invokevirtual 68, 3) := by decide +kernel
theorem d_Curve_add_279 : decode prog_2_method_2_code 279 = .ok (.aload_n 0, 1) := by decide +kernel
theorem d_Curve_add_280 : decode prog_2_method_2_code 280 = .ok (.getfield 39, 3) := by decide +kernel
theorem d_Curve_add_283 : decode prog_2_method_2_code 283 = .ok (.aload_n 0, 1) := by decide +kernel
theorem d_Curve_add_284 : decode prog_2_method_2_code 284 = .ok (.getfield 15, 3) := by decide +kernel
theorem d_Curve_add_287 : decode prog_2_method_2_code 287 = .ok (.aload_n 0, 1) := by decide +kernel
theorem d_Curve_add_288 : decode prog_2_method_2_code 288 = .ok (.getfield 24, 3) := by decide +kernel
theorem d_Curve_add_291 : decode prog_2_method_2_code 291 = .ok (.aload_n 0, 1) := by decide +kernel
theorem d_Curve_add_292 : decode prog_2_method_2_code 292 = .ok (.getfield 27, 3) := by decide +kernel
theorem d_Curve_add_295 : decode prog_2_method_2_code 295 = .ok (.invokevirtual 57, 3) := by decide +kernel
theorem d_Curve_add_298 : decode prog_2_method_2_code 298 = .ok (.aload_n 0, 1) := by decide +kernel
theorem d_Curve_add_299 : decode prog_2_method_2_code 299 = .ok (.getfield 39, 3) := by decide +kernel
theorem d_Curve_add_302 : decode prog_2_method_2_code 302 = .ok (.aload_n 0, 1) := by decide +kernel
theorem d_Curve_add_303 : decode prog_2_method_2_code 303 = .ok (.getfield 18, 3) := by decide +kernel
theorem d_Curve_add_306 : decode prog_2_method_2_code 306 = .ok (.aload_n 0, 1) := by decide +kernel
theorem d_Curve_add_307 : decode prog_2_method_2_code 307 = .ok (.getfield 21, 3) := by decide +kernel
theorem d_Curve_add_310 : decode prog_2_method_2_code 310 = .ok (.aload_n 0, 1) := by decide +kernel
theorem d_Curve_add_311 : decode prog_2_method_2_code 311 = .ok (.getfield 30, 3) := by decide +kernel
theorem d_Curve_add_314 : decode prog_2_method_2_code 314 = .ok (.invokevirtual 57, 3) := by decide +kernel
theorem d_Curve_add_317 : decode prog_2_method_2_code 317 = .ok (.aload_n 0, 1) := by decide +kernel
theorem d_Curve_add_318 : decode prog_2_method_2_code 318 = .ok (.getfield 39, 3) := by decide +kernel
theorem d_Curve_add_321 : decode prog_2_method_2_code 321 = .ok (.aload_n 1, 1) := by decide +kernel
theorem d_Curve_add_322 : decode prog_2_method_2_code 322 = .ok (.getfield 54, 3) := by decide +kernel
theorem d_Curve_add_325 : decode prog_2_method_2_code 325 = .ok (.aload_n 0, 1) := by decide +kernel
theorem d_Curve_add_326 : decode prog_2_method_2_code 326 = .ok (.getfield 18, 3) := by decide +kernel
theorem d_Curve_add_329 : decode prog_2_method_2_code 329 = .ok (.aload_n 0, 1) := by decide +kernel
theorem d_Curve_add_330 : decode prog_2_method_2_code 330 = .ok (.getfield 15, 3) := by decide +kernel
theorem d_Curve_add_333 : decode prog_2_method_2_code 333 = .ok (.invokevirtual 74, 3) := by decide +kernel
theorem d_Curve_add_336 : decode prog_2_method_2_code 336 = .ok (.aload_n 0, 1) := by decide +kernel
theorem d_Curve_add_337 : decode prog_2_method_2_code 337 = .ok (.getfield 39, 3) := by decide +kernel
theorem d_Curve_add_340 : decode prog_2_method_2_code 340 = .ok (.aload_n 0, 1) := by decide +kernel
theorem d_Curve_add_341 : decode prog_2_method_2_code 341 = .ok (.getfield 15, 3) := by decide +kernel
theorem d_Curve_add_344 : decode prog_2_method_2_code 344 = .ok (.aload_n 0, 1) := by decide +kernel
theorem d_Curve_add_345 : decode prog_2_method_2_code 345 = .ok (.getfield 30, 3) := by decide +kernel
theorem d_Curve_add_348 : decode prog_2_method_2_code 348 = .ok (.aload_n 0, 1) := by decide +kernel
theorem d_Curve_add_349 : decode prog_2_method_2_code 349 = .ok (.getfield 33, 3) := by decide +kernel
theorem d_Curve_add_352 : decode prog_2_method_2_code 352 = .ok (.invokevirtual 57, 3) := by decide +kernel
theorem d_Curve_add_355 : decode prog_2_method_2_code 355 = .ok (.aload_n 0, 1) := by decide +kernel
theorem d_Curve_add_356 : decode prog_2_method_2_code 356 = .ok (.getfield 39, 3) := by decide +kernel
theorem d_Curve_add_359 : decode prog_2_method_2_code 359 = .ok (.aload_n 0, 1) := by decide +kernel
theorem d_Curve_add_360 : decode prog_2_method_2_code 360 = .ok (.getfield 18, 3) := by decide +kernel
theorem d_Curve_add_363 : decode prog_2_method_2_code 363 = .ok (.aload_n 0, 1) := by decide +kernel
theorem d_Curve_add_364 : decode prog_2_method_2_code 364 = .ok (.getfield 9, 3) := by decide +kernel
theorem d_Curve_add_367 : decode prog_2_method_2_code 367 = .ok (.aload_n 0, 1) := by decide +kernel
theorem d_Curve_add_368 : decode prog_2_method_2_code 368 = .ok (.getfield 27, 3) := by decide +kernel
theorem d_Curve_add_371 : decode prog_2_method_2_code 371 = .ok (.invokevirtual 57, 3) := by decide +kernel
theorem d_Curve_add_374 : decode prog_2_method_2_code 374 = .ok (.aload_n 0, 1) := by decide +kernel
theorem d_Curve_add_375 : decode prog_2_method_2_code 375 = .ok (.getfield 39, 3) := by decide +kernel
theorem d_Curve_add_378 : decode prog_2_method_2_code 378 = .ok (.aload_n 1, 1) := by decide +kernel
theorem d_Curve_add_379 : decode prog_2_method_2_code 379 = .ok (.getfield 43, 3) := by decide +kernel
theorem d_Curve_add_382 : decode prog_2_method_2_code 382 = .ok (.aload_n 0, 1) := by decide +kernel
theorem d_Curve_add_383 : decode prog_2_method_2_code 383 = .ok (.getfield 15, 3) := by decide +kernel
theorem d_Curve_add_386 : decode prog_2_method_2_code 386 = .ok (.aload_n 0, 1) := by decide +kernel
theorem d_Curve_add_387 : decode prog_2_method_2_code 387 = .ok (.getfield 18, 3) := by decide +kernel
theorem d_Curve_add_390 : decode prog_2_method_2_code 390 = .ok (.invokevirtual 68, 3) := by decide +kernel
theorem d_Curve_add_393 : decode prog_2_method_2_code 393 = .ok (.aload_n 0, 1) := by decide +kernel
theorem d_Curve_add_394 : decode prog_2_method_2_code 394 = .ok (.getfield 39, 3) := by decide +kernel
theorem d_Curve_add_397 : decode prog_2_method_2_code 397 = .ok (.aload_n 0, 1) := by decide +kernel
theorem d_Curve_add_398 : decode prog_2_method_2_code 398 = .ok (.getfield 15, 3) := by decide +kernel
theorem d_Curve_add_401 : decode prog_2_method_2_code 401 = .ok (.aload_n 0, 1) := by decide +kernel
theorem d_Curve_add_402 : decode prog_2_method_2_code 402 = .ok (.getfield 33, 3) := by decide +kernel
theorem d_Curve_add_405 : decode prog_2_method_2_code 405 = .ok (.aload_n 0, 1) := by decide +kernel
theorem d_Curve_add_406 : decode prog_2_method_2_code 406 = .ok (.getfield 24, 3) := by decide +kernel
theorem d_Curve_add_409 : decode prog_2_method_2_code 409 = .ok (.invokevirtual 57, 3) := by decide +kernel
theorem d_Curve_add_412 : decode prog_2_method_2_code 412 = .ok (.aload_n 0, 1) := by decide +kernel
theorem d_Curve_add_413 : decode prog_2_method_2_code 413 = .ok (.getfield 39, 3) := by decide +kernel
theorem d_Curve_add_416 : decode prog_2_method_2_code 416 = .ok (.aload_n 0, 1) := by decide +kernel
theorem d_Curve_add_417 : decode prog_2_method_2_code 417 = .ok (.getfield 18, 3) := by decide +kernel
theorem d_Curve_add_420 : decode prog_2_method_2_code 420 = .ok (.aload_n 0, 1) := by decide +kernel
theorem d_Curve_add_421 : decode prog_2_method_2_code 421 = .ok (.getfield 9, 3) := by decide +kernel
theorem d_Curve_add_424 : decode prog_2_method_2_code 424 = .ok (.aload_n 0, 1) := by decide +kernel
theorem d_Curve_add_425 : decode prog_2_method_2_code 425 = .ok (.getfield 21, 3) := by decide +kernel
theorem d_Curve_add_428 : decode prog_2_method_2_code 428 = .ok (.invokevirtual 57, 3) := by decide +kernel
theorem d_Curve_add_431 : decode prog_2_method_2_code 431 = .ok (.aload_n 0, 1) := by decide +kernel
theorem d_Curve_add_432 : decode prog_2_method_2_code 432 = .ok (.getfield 39, 3) := by decide +kernel
theorem d_Curve_add_435 : decode prog_2_method_2_code 435 = .ok (.aload_n 1, 1) := by decide +kernel
theorem d_Curve_add_436 : decode prog_2_method_2_code 436 = .ok (.getfield 61, 3) := by decide +kernel
theorem d_Curve_add_439 : decode prog_2_method_2_code 439 = .ok (.aload_n 0, 1) := by decide +kernel
theorem d_Curve_add_440 : decode prog_2_method_2_code 440 = .ok (.getfield 15, 3) := by decide +kernel
theorem d_Curve_add_443 : decode prog_2_method_2_code 443 = .ok (.aload_n 0, 1) := by decide +kernel
theorem d_Curve_add_444 : decode prog_2_method_2_code 444 = .ok (.getfield 18, 3) := by decide +kernel
theorem d_Curve_add_447 : decode prog_2_method_2_code 447 = .ok (.invokevirtual 68, 3) := by decide +kernel
theorem d_Curve_add_450 : decode prog_2_method_2_code 450 = .ok (.return_, 1) := by decide +kernel
set_option maxHeartbeats 4000000 in
set_option maxRecDepth 100000 in
/-- the sum of two points -/
theorem c_Curve_add (l : Launch) (g : WG) (n0 : Nat → Prop) (o : Nat) (fo : Nat) (F : Nat → Nat) (mi : Int64) (X : Nat → Nat) (t t1 t2 t3 : Nat) (a a1 a2 a3 : Nat) (b b1 b2 b3 : Nat) (mn : Int32) : Ctr l y_Curve_add (.code y_Curve_add prog_2_method_2_code 6 none) 3 162 0 0 n0 g [.ref o, .ref t, .ref a, .ref b, .int mn] (fun H => CV g n0 H o fo F mi X ∧ PT g n0 H t t1 t2 t3 ∧ PT g n0 H a a1 a2 a3 ∧ PT g n0 H b b1 b2 b3) (QV (fun H H' => KJ g (fun q => n0 q) H H')) := by
  refine ctr_mk l (lv0 := [(0, .ref o), (1, .ref t), (2, .ref a), (3, .ref b), (4, .int mn)]) (by decide) (Nat.le_of_ble_eq_true rfl) rfl ?_
  intro p e s m below meth c ls E hr hlk hnm hl hP
  have hx := E.1
  have hb := E.2.1
  have hK := E.2.2.2.2.2
  have hF : ∀ q ∈ ([] : List Loc), n0 q.base := fun q hq => absurd hq List.not_mem_nil
  obtain ⟨hcv, h_t, h_a, h_b⟩ := hP
  have hk : KJ g (fun q => n0 q) s.heap s.heap := KJ.rf
  refine lv_aload_n hx hb d_Curve_add_0 rfl (lv_at hl 3 rfl) ?_
  refine q_get (C := "KateDesk$Point") (T := T_Point) (N := 3) (ci := 2) E ((hk.pt hK h_b).1) in_Point rfl 1 (by decide) w_50 rfl rfl d_Curve_add_1 ?_
  refine lv_astore (lv' := [(5, .ref b2), (0, .ref o), (1, .ref t), (2, .ref a), (3, .ref b), (4, .int mn)]) hx hb d_Curve_add_4 hl (by decide) rfl (fun ls hl => ?_)
  refine lv_iload hx hb d_Curve_add_6 (lv_at hl 5 rfl) ?_
  have tail : ∀ (H : Heap) (locs : List Loc) (ls : Array Slot) (by0 : Nat), KJ g (fun q => n0 q) s.heap H → J14 g n0 s.heap by0 → (∀ q ∈ locs, n0 q.base) → lv_has ls 6 [(5, .ref by0), (0, .ref o), (1, .ref t), (2, .ref a), (3, .ref b), (4, .int mn)] → W p l e { frames := 3, cells := 0, slots := 0, locals := 162 } s m [.ref o, .ref t, .ref a, .ref b, .int mn].toArray below meth c H locs 0 0 (MQ below (QcP (QV (fun H H' => KJ g (fun q => n0 q) H H'))) [.ref o, .ref t, .ref a, .ref b, .int mn].toArray s 0 0 (fun q => n0 q)) (F0 m 32 ls []) := by
    intro  H   locs   ls   by0 hk h_by hF hl
    have h_by0 := h_by
    refine lv_aload_n hx hb d_Curve_add_32 rfl (lv_at hl 1 rfl) ?_
    refine q_get (C := "KateDesk$Curve") (T := T_Curve) (N := 10) (ci := 0) E ((hk.cv hK hcv).1) in_Curve rfl 0 (by decide) w_205 rfl rfl d_Curve_add_33 ?_
    refine lv_aload_n hx hb d_Curve_add_36 rfl (lv_at hl 1 rfl) ?_
    refine q_get (C := "KateDesk$Curve") (T := T_Curve) (N := 10) (ci := 0) E ((hk.cv hK hcv).1) in_Curve rfl 1 (by decide) w_206 rfl rfl d_Curve_add_37 ?_
    refine lv_aload_n hx hb d_Curve_add_40 rfl (lv_at hl 3 rfl) ?_
    refine q_get (C := "KateDesk$Point") (T := T_Point) (N := 3) (ci := 2) E ((hk.pt hK h_a).1) in_Point rfl 0 (by decide) w_46 rfl rfl d_Curve_add_41 ?_
    refine lv_aload_n hx hb d_Curve_add_44 rfl (lv_at hl 4 rfl) ?_
    refine q_get (C := "KateDesk$Point") (T := T_Point) (N := 3) (ci := 2) E ((hk.pt hK h_b).1) in_Point rfl 0 (by decide) w_46 rfl rfl d_Curve_add_45 ?_
    refine q_cV (rest := []) E (c_Field_multiply l g n0 fo (X 0) a1 b1 F mi) w_165 w_4 w_652 w_163 w_164 hd_Field_multiply rfl ⟨by decide, by decide⟩ (OB.recv E.2.2.2.2.2 (by rfl) (((hk.cv hK hcv).2.1).1)) (⟨(hk.cv hK hcv).2.1, (hk.cv hK hcv).2.2 0 (by decide), (hk.pt hK h_a).2.1, (hk.pt hK h_b).2.1⟩) hF hl.1 rfl (Nat.le_of_ble_eq_true rfl) d_Curve_add_48 ⟨by decide, by decide⟩ (qv (fun H1 locs hq hF => ?_))
    have hk := hk.tr (hq.w1 ((hk.cv hK hcv).2.2 0 (by decide)).1)
    refine lv_aload_n hx hb d_Curve_add_51 rfl (lv_at hl 1 rfl) ?_
    refine q_get (C := "KateDesk$Curve") (T := T_Curve) (N := 10) (ci := 0) E ((hk.cv hK hcv).1) in_Curve rfl 0 (by decide) w_205 rfl rfl d_Curve_add_52 ?_
    refine lv_aload_n hx hb d_Curve_add_55 rfl (lv_at hl 1 rfl) ?_
    refine q_get (C := "KateDesk$Curve") (T := T_Curve) (N := 10) (ci := 0) E ((hk.cv hK hcv).1) in_Curve rfl 2 (by decide) w_207 rfl rfl d_Curve_add_56 ?_
    refine lv_aload_n hx hb d_Curve_add_59 rfl (lv_at hl 3 rfl) ?_
    refine q_get (C := "KateDesk$Point") (T := T_Point) (N := 3) (ci := 2) E ((hk.pt hK h_a).1) in_Point rfl 1 (by decide) w_50 rfl rfl d_Curve_add_60 ?_
    refine lv_aload hx hb d_Curve_add_63 (lv_at hl 0 rfl) ?_
    refine q_cV (rest := []) E (c_Field_multiply l g n0 fo (X 1) a2 by0 F mi) w_165 w_4 w_652 w_163 w_164 hd_Field_multiply rfl ⟨by decide, by decide⟩ (OB.recv E.2.2.2.2.2 (by rfl) (((hk.cv hK hcv).2.1).1)) (⟨(hk.cv hK hcv).2.1, (hk.cv hK hcv).2.2 1 (by decide), (hk.pt hK h_a).2.2.1, hk.j h_by⟩) hF hl.1 rfl (Nat.le_of_ble_eq_true rfl) d_Curve_add_65 ⟨by decide, by decide⟩ (qv (fun H2 locs hq hF => ?_))
    have hk := hk.tr (hq.w1 ((hk.cv hK hcv).2.2 1 (by decide)).1)
    refine lv_aload_n hx hb d_Curve_add_68 rfl (lv_at hl 1 rfl) ?_
    refine q_get (C := "KateDesk$Curve") (T := T_Curve) (N := 10) (ci := 0) E ((hk.cv hK hcv).1) in_Curve rfl 0 (by decide) w_205 rfl rfl d_Curve_add_69 ?_
    refine lv_aload_n hx hb d_Curve_add_72 rfl (lv_at hl 1 rfl) ?_
    refine q_get (C := "KateDesk$Curve") (T := T_Curve) (N := 10) (ci := 0) E ((hk.cv hK hcv).1) in_Curve rfl 3 (by decide) w_208 rfl rfl d_Curve_add_73 ?_
    refine lv_aload_n hx hb d_Curve_add_76 rfl (lv_at hl 3 rfl) ?_
    refine q_get (C := "KateDesk$Point") (T := T_Point) (N := 3) (ci := 2) E ((hk.pt hK h_a).1) in_Point rfl 2 (by decide) w_54 rfl rfl d_Curve_add_77 ?_
    refine lv_aload_n hx hb d_Curve_add_80 rfl (lv_at hl 4 rfl) ?_
    refine q_get (C := "KateDesk$Point") (T := T_Point) (N := 3) (ci := 2) E ((hk.pt hK h_b).1) in_Point rfl 2 (by decide) w_54 rfl rfl d_Curve_add_81 ?_
    refine q_cV (rest := []) E (c_Field_multiply l g n0 fo (X 2) a3 b3 F mi) w_165 w_4 w_652 w_163 w_164 hd_Field_multiply rfl ⟨by decide, by decide⟩ (OB.recv E.2.2.2.2.2 (by rfl) (((hk.cv hK hcv).2.1).1)) (⟨(hk.cv hK hcv).2.1, (hk.cv hK hcv).2.2 2 (by decide), (hk.pt hK h_a).2.2.2, (hk.pt hK h_b).2.2.2⟩) hF hl.1 rfl (Nat.le_of_ble_eq_true rfl) d_Curve_add_84 ⟨by decide, by decide⟩ (qv (fun H3 locs hq hF => ?_))
    have hk := hk.tr (hq.w1 ((hk.cv hK hcv).2.2 2 (by decide)).1)
    refine lv_aload_n hx hb d_Curve_add_87 rfl (lv_at hl 1 rfl) ?_
    refine lv_aload_n hx hb d_Curve_add_88 rfl (lv_at hl 1 rfl) ?_
    refine q_get (C := "KateDesk$Curve") (T := T_Curve) (N := 10) (ci := 0) E ((hk.cv hK hcv).1) in_Curve rfl 4 (by decide) w_209 rfl rfl d_Curve_add_89 ?_
    refine lv_aload_n hx hb d_Curve_add_92 rfl (lv_at hl 3 rfl) ?_
    refine q_get (C := "KateDesk$Point") (T := T_Point) (N := 3) (ci := 2) E ((hk.pt hK h_a).1) in_Point rfl 0 (by decide) w_46 rfl rfl d_Curve_add_93 ?_
    refine lv_aload_n hx hb d_Curve_add_96 rfl (lv_at hl 3 rfl) ?_
    refine q_get (C := "KateDesk$Point") (T := T_Point) (N := 3) (ci := 2) E ((hk.pt hK h_a).1) in_Point rfl 1 (by decide) w_50 rfl rfl d_Curve_add_97 ?_
    refine lv_aload_n hx hb d_Curve_add_100 rfl (lv_at hl 4 rfl) ?_
    refine q_get (C := "KateDesk$Point") (T := T_Point) (N := 3) (ci := 2) E ((hk.pt hK h_b).1) in_Point rfl 0 (by decide) w_46 rfl rfl d_Curve_add_101 ?_
    refine lv_aload hx hb d_Curve_add_104 (lv_at hl 0 rfl) ?_
    refine lv_aload_n hx hb d_Curve_add_106 rfl (lv_at hl 1 rfl) ?_
    refine q_get (C := "KateDesk$Curve") (T := T_Curve) (N := 10) (ci := 0) E ((hk.cv hK hcv).1) in_Curve rfl 1 (by decide) w_206 rfl rfl d_Curve_add_107 ?_
    refine lv_aload_n hx hb d_Curve_add_110 rfl (lv_at hl 1 rfl) ?_
    refine q_get (C := "KateDesk$Curve") (T := T_Curve) (N := 10) (ci := 0) E ((hk.cv hK hcv).1) in_Curve rfl 2 (by decide) w_207 rfl rfl d_Curve_add_111 ?_
    refine q_cV (rest := []) E (c_Curve_mixed l g n0 o fo F mi X (X 3) a1 a2 b1 by0 (X 0) (X 1)) w_716 w_11 w_713 w_715 (bw_s 9 rfl) hd_Curve_mixed rfl ⟨by decide, by decide⟩ (OB.recv E.2.2.2.2.2 (by rfl) ((hk.cv hK hcv).1)) (⟨hk.cv hK hcv, (hk.cv hK hcv).2.2 3 (by decide), (hk.pt hK h_a).2.1, (hk.pt hK h_a).2.2.1, (hk.pt hK h_b).2.1, hk.j h_by, (hk.cv hK hcv).2.2 0 (by decide), (hk.cv hK hcv).2.2 1 (by decide)⟩) hF hl.1 rfl (Nat.le_of_ble_eq_true rfl) d_Curve_add_114 ⟨by decide, by decide⟩ (qv (fun H4 locs hq hF => ?_))
    have hk := hk.tr hq
    refine lv_aload_n hx hb d_Curve_add_117 rfl (lv_at hl 1 rfl) ?_
    refine lv_aload_n hx hb d_Curve_add_118 rfl (lv_at hl 1 rfl) ?_
    refine q_get (C := "KateDesk$Curve") (T := T_Curve) (N := 10) (ci := 0) E ((hk.cv hK hcv).1) in_Curve rfl 5 (by decide) w_210 rfl rfl d_Curve_add_119 ?_
    refine lv_aload_n hx hb d_Curve_add_122 rfl (lv_at hl 3 rfl) ?_
    refine q_get (C := "KateDesk$Point") (T := T_Point) (N := 3) (ci := 2) E ((hk.pt hK h_a).1) in_Point rfl 1 (by decide) w_50 rfl rfl d_Curve_add_123 ?_
    refine lv_aload_n hx hb d_Curve_add_126 rfl (lv_at hl 3 rfl) ?_
    refine q_get (C := "KateDesk$Point") (T := T_Point) (N := 3) (ci := 2) E ((hk.pt hK h_a).1) in_Point rfl 2 (by decide) w_54 rfl rfl d_Curve_add_127 ?_
    refine lv_aload hx hb d_Curve_add_130 (lv_at hl 0 rfl) ?_
    refine lv_aload_n hx hb d_Curve_add_132 rfl (lv_at hl 4 rfl) ?_
    refine q_get (C := "KateDesk$Point") (T := T_Point) (N := 3) (ci := 2) E ((hk.pt hK h_b).1) in_Point rfl 2 (by decide) w_54 rfl rfl d_Curve_add_133 ?_
    refine lv_aload_n hx hb d_Curve_add_136 rfl (lv_at hl 1 rfl) ?_
    refine q_get (C := "KateDesk$Curve") (T := T_Curve) (N := 10) (ci := 0) E ((hk.cv hK hcv).1) in_Curve rfl 2 (by decide) w_207 rfl rfl d_Curve_add_137 ?_
    refine lv_aload_n hx hb d_Curve_add_140 rfl (lv_at hl 1 rfl) ?_
    refine q_get (C := "KateDesk$Curve") (T := T_Curve) (N := 10) (ci := 0) E ((hk.cv hK hcv).1) in_Curve rfl 3 (by decide) w_208 rfl rfl d_Curve_add_141 ?_
    refine q_cV (rest := []) E (c_Curve_mixed l g n0 o fo F mi X (X 4) a2 a3 by0 b3 (X 1) (X 2)) w_716 w_11 w_713 w_715 (bw_s 9 rfl) hd_Curve_mixed rfl ⟨by decide, by decide⟩ (OB.recv E.2.2.2.2.2 (by rfl) ((hk.cv hK hcv).1)) (⟨hk.cv hK hcv, (hk.cv hK hcv).2.2 4 (by decide), (hk.pt hK h_a).2.2.1, (hk.pt hK h_a).2.2.2, hk.j h_by, (hk.pt hK h_b).2.2.2, (hk.cv hK hcv).2.2 1 (by decide), (hk.cv hK hcv).2.2 2 (by decide)⟩) hF hl.1 rfl (Nat.le_of_ble_eq_true rfl) d_Curve_add_144 ⟨by decide, by decide⟩ (qv (fun H5 locs hq hF => ?_))
    have hk := hk.tr hq
    refine lv_aload_n hx hb d_Curve_add_147 rfl (lv_at hl 1 rfl) ?_
    refine lv_aload_n hx hb d_Curve_add_148 rfl (lv_at hl 1 rfl) ?_
    refine q_get (C := "KateDesk$Curve") (T := T_Curve) (N := 10) (ci := 0) E ((hk.cv hK hcv).1) in_Curve rfl 6 (by decide) w_211 rfl rfl d_Curve_add_149 ?_
    refine lv_aload_n hx hb d_Curve_add_152 rfl (lv_at hl 3 rfl) ?_
    refine q_get (C := "KateDesk$Point") (T := T_Point) (N := 3) (ci := 2) E ((hk.pt hK h_a).1) in_Point rfl 0 (by decide) w_46 rfl rfl d_Curve_add_153 ?_
    refine lv_aload_n hx hb d_Curve_add_156 rfl (lv_at hl 3 rfl) ?_
    refine q_get (C := "KateDesk$Point") (T := T_Point) (N := 3) (ci := 2) E ((hk.pt hK h_a).1) in_Point rfl 2 (by decide) w_54 rfl rfl d_Curve_add_157 ?_
    refine lv_aload_n hx hb d_Curve_add_160 rfl (lv_at hl 4 rfl) ?_
    refine q_get (C := "KateDesk$Point") (T := T_Point) (N := 3) (ci := 2) E ((hk.pt hK h_b).1) in_Point rfl 0 (by decide) w_46 rfl rfl d_Curve_add_161 ?_
    refine lv_aload_n hx hb d_Curve_add_164 rfl (lv_at hl 4 rfl) ?_
    refine q_get (C := "KateDesk$Point") (T := T_Point) (N := 3) (ci := 2) E ((hk.pt hK h_b).1) in_Point rfl 2 (by decide) w_54 rfl rfl d_Curve_add_165 ?_
    refine lv_aload_n hx hb d_Curve_add_168 rfl (lv_at hl 1 rfl) ?_
    refine q_get (C := "KateDesk$Curve") (T := T_Curve) (N := 10) (ci := 0) E ((hk.cv hK hcv).1) in_Curve rfl 1 (by decide) w_206 rfl rfl d_Curve_add_169 ?_
    refine lv_aload_n hx hb d_Curve_add_172 rfl (lv_at hl 1 rfl) ?_
    refine q_get (C := "KateDesk$Curve") (T := T_Curve) (N := 10) (ci := 0) E ((hk.cv hK hcv).1) in_Curve rfl 3 (by decide) w_208 rfl rfl d_Curve_add_173 ?_
    refine q_cV (rest := []) E (c_Curve_mixed l g n0 o fo F mi X (X 5) a1 a3 b1 b3 (X 0) (X 2)) w_716 w_11 w_713 w_715 (bw_s 9 rfl) hd_Curve_mixed rfl ⟨by decide, by decide⟩ (OB.recv E.2.2.2.2.2 (by rfl) ((hk.cv hK hcv).1)) (⟨hk.cv hK hcv, (hk.cv hK hcv).2.2 5 (by decide), (hk.pt hK h_a).2.1, (hk.pt hK h_a).2.2.2, (hk.pt hK h_b).2.1, (hk.pt hK h_b).2.2.2, (hk.cv hK hcv).2.2 0 (by decide), (hk.cv hK hcv).2.2 2 (by decide)⟩) hF hl.1 rfl (Nat.le_of_ble_eq_true rfl) d_Curve_add_176 ⟨by decide, by decide⟩ (qv (fun H6 locs hq hF => ?_))
    have hk := hk.tr hq
    refine lv_aload_n hx hb d_Curve_add_179 rfl (lv_at hl 1 rfl) ?_
    refine q_get (C := "KateDesk$Curve") (T := T_Curve) (N := 10) (ci := 0) E ((hk.cv hK hcv).1) in_Curve rfl 0 (by decide) w_205 rfl rfl d_Curve_add_180 ?_
    refine lv_aload_n hx hb d_Curve_add_183 rfl (lv_at hl 1 rfl) ?_
    refine q_get (C := "KateDesk$Curve") (T := T_Curve) (N := 10) (ci := 0) E ((hk.cv hK hcv).1) in_Curve rfl 7 (by decide) w_212 rfl rfl d_Curve_add_184 ?_
    refine lv_aload_n hx hb d_Curve_add_187 rfl (lv_at hl 1 rfl) ?_
    refine q_get (C := "KateDesk$Curve") (T := T_Curve) (N := 10) (ci := 0) E ((hk.cv hK hcv).1) in_Curve rfl 1 (by decide) w_206 rfl rfl d_Curve_add_188 ?_
    refine lv_aload_n hx hb d_Curve_add_191 rfl (lv_at hl 1 rfl) ?_
    refine q_get (C := "KateDesk$Curve") (T := T_Curve) (N := 10) (ci := 0) E ((hk.cv hK hcv).1) in_Curve rfl 1 (by decide) w_206 rfl rfl d_Curve_add_192 ?_
    refine q_cV (rest := []) E (c_Field_add l g n0 fo (X 6) (X 0) (X 0) F mi) w_157 w_4 w_653 w_155 w_156 hd_Field_add rfl ⟨by decide, by decide⟩ (OB.recv E.2.2.2.2.2 (by rfl) (((hk.cv hK hcv).2.1).1)) (⟨(hk.cv hK hcv).2.1, (hk.cv hK hcv).2.2 6 (by decide), (hk.cv hK hcv).2.2 0 (by decide), (hk.cv hK hcv).2.2 0 (by decide)⟩) hF hl.1 rfl (Nat.le_of_ble_eq_true rfl) d_Curve_add_195 ⟨by decide, by decide⟩ (qv (fun H7 locs hq hF => ?_))
    have hk := hk.tr (hq.w1 ((hk.cv hK hcv).2.2 6 (by decide)).1)
    refine lv_aload_n hx hb d_Curve_add_198 rfl (lv_at hl 1 rfl) ?_
    refine q_get (C := "KateDesk$Curve") (T := T_Curve) (N := 10) (ci := 0) E ((hk.cv hK hcv).1) in_Curve rfl 0 (by decide) w_205 rfl rfl d_Curve_add_199 ?_
    refine lv_aload_n hx hb d_Curve_add_202 rfl (lv_at hl 1 rfl) ?_
    refine q_get (C := "KateDesk$Curve") (T := T_Curve) (N := 10) (ci := 0) E ((hk.cv hK hcv).1) in_Curve rfl 1 (by decide) w_206 rfl rfl d_Curve_add_203 ?_
    refine lv_aload_n hx hb d_Curve_add_206 rfl (lv_at hl 1 rfl) ?_
    refine q_get (C := "KateDesk$Curve") (T := T_Curve) (N := 10) (ci := 0) E ((hk.cv hK hcv).1) in_Curve rfl 7 (by decide) w_212 rfl rfl d_Curve_add_207 ?_
    refine lv_aload_n hx hb d_Curve_add_210 rfl (lv_at hl 1 rfl) ?_
    refine q_get (C := "KateDesk$Curve") (T := T_Curve) (N := 10) (ci := 0) E ((hk.cv hK hcv).1) in_Curve rfl 1 (by decide) w_206 rfl rfl d_Curve_add_211 ?_
    refine q_cV (rest := []) E (c_Field_add l g n0 fo (X 0) (X 6) (X 0) F mi) w_157 w_4 w_653 w_155 w_156 hd_Field_add rfl ⟨by decide, by decide⟩ (OB.recv E.2.2.2.2.2 (by rfl) (((hk.cv hK hcv).2.1).1)) (⟨(hk.cv hK hcv).2.1, (hk.cv hK hcv).2.2 0 (by decide), (hk.cv hK hcv).2.2 6 (by decide), (hk.cv hK hcv).2.2 0 (by decide)⟩) hF hl.1 rfl (Nat.le_of_ble_eq_true rfl) d_Curve_add_214 ⟨by decide, by decide⟩ (qv (fun H8 locs hq hF => ?_))
    have hk := hk.tr (hq.w1 ((hk.cv hK hcv).2.2 0 (by decide)).1)
    refine lv_aload_n hx hb d_Curve_add_217 rfl (lv_at hl 1 rfl) ?_
    refine lv_aload_n hx hb d_Curve_add_218 rfl (lv_at hl 1 rfl) ?_
    refine q_get (C := "KateDesk$Curve") (T := T_Curve) (N := 10) (ci := 0) E ((hk.cv hK hcv).1) in_Curve rfl 3 (by decide) w_208 rfl rfl d_Curve_add_219 ?_
    refine lv_aload_n hx hb d_Curve_add_222 rfl (lv_at hl 1 rfl) ?_
    refine q_get (C := "KateDesk$Curve") (T := T_Curve) (N := 10) (ci := 0) E ((hk.cv hK hcv).1) in_Curve rfl 3 (by decide) w_208 rfl rfl d_Curve_add_223 ?_
    refine q_cV (rest := []) E (c_Curve_twelvefold l g n0 o fo F mi X (X 2) (X 2)) w_706 w_11 w_703 w_705 (bw_s 8 rfl) hd_Curve_twelvefold rfl ⟨by decide, by decide⟩ (OB.recv E.2.2.2.2.2 (by rfl) ((hk.cv hK hcv).1)) (⟨hk.cv hK hcv, (hk.cv hK hcv).2.2 2 (by decide), (hk.cv hK hcv).2.2 2 (by decide)⟩) hF hl.1 rfl (Nat.le_of_ble_eq_true rfl) d_Curve_add_226 ⟨by decide, by decide⟩ (qv (fun H9 locs hq hF => ?_))
    have hk := hk.tr hq
    refine lv_aload_n hx hb d_Curve_add_229 rfl (lv_at hl 1 rfl) ?_
    refine lv_aload_n hx hb d_Curve_add_230 rfl (lv_at hl 1 rfl) ?_
    refine q_get (C := "KateDesk$Curve") (T := T_Curve) (N := 10) (ci := 0) E ((hk.cv hK hcv).1) in_Curve rfl 6 (by decide) w_211 rfl rfl d_Curve_add_231 ?_
    refine lv_aload_n hx hb d_Curve_add_234 rfl (lv_at hl 1 rfl) ?_
    refine q_get (C := "KateDesk$Curve") (T := T_Curve) (N := 10) (ci := 0) E ((hk.cv hK hcv).1) in_Curve rfl 6 (by decide) w_211 rfl rfl d_Curve_add_235 ?_
    refine q_cV (rest := []) E (c_Curve_twelvefold l g n0 o fo F mi X (X 5) (X 5)) w_706 w_11 w_703 w_705 (bw_s 8 rfl) hd_Curve_twelvefold rfl ⟨by decide, by decide⟩ (OB.recv E.2.2.2.2.2 (by rfl) ((hk.cv hK hcv).1)) (⟨hk.cv hK hcv, (hk.cv hK hcv).2.2 5 (by decide), (hk.cv hK hcv).2.2 5 (by decide)⟩) hF hl.1 rfl (Nat.le_of_ble_eq_true rfl) d_Curve_add_238 ⟨by decide, by decide⟩ (qv (fun H10 locs hq hF => ?_))
    have hk := hk.tr hq
    refine lv_aload_n hx hb d_Curve_add_241 rfl (lv_at hl 1 rfl) ?_
    refine q_get (C := "KateDesk$Curve") (T := T_Curve) (N := 10) (ci := 0) E ((hk.cv hK hcv).1) in_Curve rfl 0 (by decide) w_205 rfl rfl d_Curve_add_242 ?_
    refine lv_aload_n hx hb d_Curve_add_245 rfl (lv_at hl 1 rfl) ?_
    refine q_get (C := "KateDesk$Curve") (T := T_Curve) (N := 10) (ci := 0) E ((hk.cv hK hcv).1) in_Curve rfl 7 (by decide) w_212 rfl rfl d_Curve_add_246 ?_
    refine lv_aload_n hx hb d_Curve_add_249 rfl (lv_at hl 1 rfl) ?_
    refine q_get (C := "KateDesk$Curve") (T := T_Curve) (N := 10) (ci := 0) E ((hk.cv hK hcv).1) in_Curve rfl 2 (by decide) w_207 rfl rfl d_Curve_add_250 ?_
    refine lv_aload_n hx hb d_Curve_add_253 rfl (lv_at hl 1 rfl) ?_
    refine q_get (C := "KateDesk$Curve") (T := T_Curve) (N := 10) (ci := 0) E ((hk.cv hK hcv).1) in_Curve rfl 3 (by decide) w_208 rfl rfl d_Curve_add_254 ?_
    refine q_cV (rest := []) E (c_Field_subtract l g n0 fo (X 6) (X 1) (X 2) F mi) w_169 w_4 w_707 w_167 w_168 hd_Field_subtract rfl ⟨by decide, by decide⟩ (OB.recv E.2.2.2.2.2 (by rfl) (((hk.cv hK hcv).2.1).1)) (⟨(hk.cv hK hcv).2.1, (hk.cv hK hcv).2.2 6 (by decide), (hk.cv hK hcv).2.2 1 (by decide), (hk.cv hK hcv).2.2 2 (by decide)⟩) hF hl.1 rfl (Nat.le_of_ble_eq_true rfl) d_Curve_add_257 ⟨by decide, by decide⟩ (qv (fun H11 locs hq hF => ?_))
    have hk := hk.tr (hq.w1 ((hk.cv hK hcv).2.2 6 (by decide)).1)
    refine lv_aload_n hx hb d_Curve_add_260 rfl (lv_at hl 1 rfl) ?_
    refine q_get (C := "KateDesk$Curve") (T := T_Curve) (N := 10) (ci := 0) E ((hk.cv hK hcv).1) in_Curve rfl 0 (by decide) w_205 rfl rfl d_Curve_add_261 ?_
    refine lv_aload_n hx hb d_Curve_add_264 rfl (lv_at hl 1 rfl) ?_
    refine q_get (C := "KateDesk$Curve") (T := T_Curve) (N := 10) (ci := 0) E ((hk.cv hK hcv).1) in_Curve rfl 8 (by decide) w_213 rfl rfl d_Curve_add_265 ?_
    refine lv_aload_n hx hb d_Curve_add_268 rfl (lv_at hl 1 rfl) ?_
    refine q_get (C := "KateDesk$Curve") (T := T_Curve) (N := 10) (ci := 0) E ((hk.cv hK hcv).1) in_Curve rfl 2 (by decide) w_207 rfl rfl d_Curve_add_269 ?_
    refine lv_aload_n hx hb d_Curve_add_272 rfl (lv_at hl 1 rfl) ?_
    refine q_get (C := "KateDesk$Curve") (T := T_Curve) (N := 10) (ci := 0) E ((hk.cv hK hcv).1) in_Curve rfl 3 (by decide) w_208 rfl rfl d_Curve_add_273 ?_
    refine q_cV (rest := []) E (c_Field_add l g n0 fo (X 7) (X 1) (X 2) F mi) w_157 w_4 w_653 w_155 w_156 hd_Field_add rfl ⟨by decide, by decide⟩ (OB.recv E.2.2.2.2.2 (by rfl) (((hk.cv hK hcv).2.1).1)) (⟨(hk.cv hK hcv).2.1, (hk.cv hK hcv).2.2 7 (by decide), (hk.cv hK hcv).2.2 1 (by decide), (hk.cv hK hcv).2.2 2 (by decide)⟩) hF hl.1 rfl (Nat.le_of_ble_eq_true rfl) d_Curve_add_276 ⟨by decide, by decide⟩ (qv (fun H12 locs hq hF => ?_))
    have hk := hk.tr (hq.w1 ((hk.cv hK hcv).2.2 7 (by decide)).1)
    refine lv_aload_n hx hb d_Curve_add_279 rfl (lv_at hl 1 rfl) ?_
    refine q_get (C := "KateDesk$Curve") (T := T_Curve) (N := 10) (ci := 0) E ((hk.cv hK hcv).1) in_Curve rfl 0 (by decide) w_205 rfl rfl d_Curve_add_280 ?_
    refine lv_aload_n hx hb d_Curve_add_283 rfl (lv_at hl 1 rfl) ?_
    refine q_get (C := "KateDesk$Curve") (T := T_Curve) (N := 10) (ci := 0) E ((hk.cv hK hcv).1) in_Curve rfl 2 (by decide) w_207 rfl rfl d_Curve_add_284 ?_
    refine lv_aload_n hx hb d_Curve_add_287 rfl (lv_at hl 1 rfl) ?_
    refine q_get (C := "KateDesk$Curve") (T := T_Curve) (N := 10) (ci := 0) E ((hk.cv hK hcv).1) in_Curve rfl 5 (by decide) w_210 rfl rfl d_Curve_add_288 ?_
    refine lv_aload_n hx hb d_Curve_add_291 rfl (lv_at hl 1 rfl) ?_
    refine q_get (C := "KateDesk$Curve") (T := T_Curve) (N := 10) (ci := 0) E ((hk.cv hK hcv).1) in_Curve rfl 6 (by decide) w_211 rfl rfl d_Curve_add_292 ?_
    refine q_cV (rest := []) E (c_Field_multiply l g n0 fo (X 1) (X 4) (X 5) F mi) w_165 w_4 w_652 w_163 w_164 hd_Field_multiply rfl ⟨by decide, by decide⟩ (OB.recv E.2.2.2.2.2 (by rfl) (((hk.cv hK hcv).2.1).1)) (⟨(hk.cv hK hcv).2.1, (hk.cv hK hcv).2.2 1 (by decide), (hk.cv hK hcv).2.2 4 (by decide), (hk.cv hK hcv).2.2 5 (by decide)⟩) hF hl.1 rfl (Nat.le_of_ble_eq_true rfl) d_Curve_add_295 ⟨by decide, by decide⟩ (qv (fun H13 locs hq hF => ?_))
    have hk := hk.tr (hq.w1 ((hk.cv hK hcv).2.2 1 (by decide)).1)
    refine lv_aload_n hx hb d_Curve_add_298 rfl (lv_at hl 1 rfl) ?_
    refine q_get (C := "KateDesk$Curve") (T := T_Curve) (N := 10) (ci := 0) E ((hk.cv hK hcv).1) in_Curve rfl 0 (by decide) w_205 rfl rfl d_Curve_add_299 ?_
    refine lv_aload_n hx hb d_Curve_add_302 rfl (lv_at hl 1 rfl) ?_
    refine q_get (C := "KateDesk$Curve") (T := T_Curve) (N := 10) (ci := 0) E ((hk.cv hK hcv).1) in_Curve rfl 3 (by decide) w_208 rfl rfl d_Curve_add_303 ?_
    refine lv_aload_n hx hb d_Curve_add_306 rfl (lv_at hl 1 rfl) ?_
    refine q_get (C := "KateDesk$Curve") (T := T_Curve) (N := 10) (ci := 0) E ((hk.cv hK hcv).1) in_Curve rfl 4 (by decide) w_209 rfl rfl d_Curve_add_307 ?_
    refine lv_aload_n hx hb d_Curve_add_310 rfl (lv_at hl 1 rfl) ?_
    refine q_get (C := "KateDesk$Curve") (T := T_Curve) (N := 10) (ci := 0) E ((hk.cv hK hcv).1) in_Curve rfl 7 (by decide) w_212 rfl rfl d_Curve_add_311 ?_
    refine q_cV (rest := []) E (c_Field_multiply l g n0 fo (X 2) (X 3) (X 6) F mi) w_165 w_4 w_652 w_163 w_164 hd_Field_multiply rfl ⟨by decide, by decide⟩ (OB.recv E.2.2.2.2.2 (by rfl) (((hk.cv hK hcv).2.1).1)) (⟨(hk.cv hK hcv).2.1, (hk.cv hK hcv).2.2 2 (by decide), (hk.cv hK hcv).2.2 3 (by decide), (hk.cv hK hcv).2.2 6 (by decide)⟩) hF hl.1 rfl (Nat.le_of_ble_eq_true rfl) d_Curve_add_314 ⟨by decide, by decide⟩ (qv (fun H14 locs hq hF => ?_))
    have hk := hk.tr (hq.w1 ((hk.cv hK hcv).2.2 2 (by decide)).1)
    refine lv_aload_n hx hb d_Curve_add_317 rfl (lv_at hl 1 rfl) ?_
    refine q_get (C := "KateDesk$Curve") (T := T_Curve) (N := 10) (ci := 0) E ((hk.cv hK hcv).1) in_Curve rfl 0 (by decide) w_205 rfl rfl d_Curve_add_318 ?_
    refine lv_aload_n hx hb d_Curve_add_321 rfl (lv_at hl 2 rfl) ?_
    refine q_get (C := "KateDesk$Point") (T := T_Point) (N := 3) (ci := 2) E ((hk.pt hK h_t).1) in_Point rfl 0 (by decide) w_46 rfl rfl d_Curve_add_322 ?_
    refine lv_aload_n hx hb d_Curve_add_325 rfl (lv_at hl 1 rfl) ?_
    refine q_get (C := "KateDesk$Curve") (T := T_Curve) (N := 10) (ci := 0) E ((hk.cv hK hcv).1) in_Curve rfl 3 (by decide) w_208 rfl rfl d_Curve_add_326 ?_
    refine lv_aload_n hx hb d_Curve_add_329 rfl (lv_at hl 1 rfl) ?_
    refine q_get (C := "KateDesk$Curve") (T := T_Curve) (N := 10) (ci := 0) E ((hk.cv hK hcv).1) in_Curve rfl 2 (by decide) w_207 rfl rfl d_Curve_add_330 ?_
    refine q_cV (rest := []) E (c_Field_subtract l g n0 fo t1 (X 2) (X 1) F mi) w_169 w_4 w_707 w_167 w_168 hd_Field_subtract rfl ⟨by decide, by decide⟩ (OB.recv E.2.2.2.2.2 (by rfl) (((hk.cv hK hcv).2.1).1)) (⟨(hk.cv hK hcv).2.1, (hk.pt hK h_t).2.1, (hk.cv hK hcv).2.2 2 (by decide), (hk.cv hK hcv).2.2 1 (by decide)⟩) hF hl.1 rfl (Nat.le_of_ble_eq_true rfl) d_Curve_add_333 ⟨by decide, by decide⟩ (qv (fun H15 locs hq hF => ?_))
    have hk := hk.tr (hq.w1 ((hk.pt hK h_t).2.1).1)
    refine lv_aload_n hx hb d_Curve_add_336 rfl (lv_at hl 1 rfl) ?_
    refine q_get (C := "KateDesk$Curve") (T := T_Curve) (N := 10) (ci := 0) E ((hk.cv hK hcv).1) in_Curve rfl 0 (by decide) w_205 rfl rfl d_Curve_add_337 ?_
    refine lv_aload_n hx hb d_Curve_add_340 rfl (lv_at hl 1 rfl) ?_
    refine q_get (C := "KateDesk$Curve") (T := T_Curve) (N := 10) (ci := 0) E ((hk.cv hK hcv).1) in_Curve rfl 2 (by decide) w_207 rfl rfl d_Curve_add_341 ?_
    refine lv_aload_n hx hb d_Curve_add_344 rfl (lv_at hl 1 rfl) ?_
    refine q_get (C := "KateDesk$Curve") (T := T_Curve) (N := 10) (ci := 0) E ((hk.cv hK hcv).1) in_Curve rfl 7 (by decide) w_212 rfl rfl d_Curve_add_345 ?_
    refine lv_aload_n hx hb d_Curve_add_348 rfl (lv_at hl 1 rfl) ?_
    refine q_get (C := "KateDesk$Curve") (T := T_Curve) (N := 10) (ci := 0) E ((hk.cv hK hcv).1) in_Curve rfl 8 (by decide) w_213 rfl rfl d_Curve_add_349 ?_
    refine q_cV (rest := []) E (c_Field_multiply l g n0 fo (X 1) (X 6) (X 7) F mi) w_165 w_4 w_652 w_163 w_164 hd_Field_multiply rfl ⟨by decide, by decide⟩ (OB.recv E.2.2.2.2.2 (by rfl) (((hk.cv hK hcv).2.1).1)) (⟨(hk.cv hK hcv).2.1, (hk.cv hK hcv).2.2 1 (by decide), (hk.cv hK hcv).2.2 6 (by decide), (hk.cv hK hcv).2.2 7 (by decide)⟩) hF hl.1 rfl (Nat.le_of_ble_eq_true rfl) d_Curve_add_352 ⟨by decide, by decide⟩ (qv (fun H16 locs hq hF => ?_))
    have hk := hk.tr (hq.w1 ((hk.cv hK hcv).2.2 1 (by decide)).1)
    refine lv_aload_n hx hb d_Curve_add_355 rfl (lv_at hl 1 rfl) ?_
    refine q_get (C := "KateDesk$Curve") (T := T_Curve) (N := 10) (ci := 0) E ((hk.cv hK hcv).1) in_Curve rfl 0 (by decide) w_205 rfl rfl d_Curve_add_356 ?_
    refine lv_aload_n hx hb d_Curve_add_359 rfl (lv_at hl 1 rfl) ?_
    refine q_get (C := "KateDesk$Curve") (T := T_Curve) (N := 10) (ci := 0) E ((hk.cv hK hcv).1) in_Curve rfl 3 (by decide) w_208 rfl rfl d_Curve_add_360 ?_
    refine lv_aload_n hx hb d_Curve_add_363 rfl (lv_at hl 1 rfl) ?_
    refine q_get (C := "KateDesk$Curve") (T := T_Curve) (N := 10) (ci := 0) E ((hk.cv hK hcv).1) in_Curve rfl 1 (by decide) w_206 rfl rfl d_Curve_add_364 ?_
    refine lv_aload_n hx hb d_Curve_add_367 rfl (lv_at hl 1 rfl) ?_
    refine q_get (C := "KateDesk$Curve") (T := T_Curve) (N := 10) (ci := 0) E ((hk.cv hK hcv).1) in_Curve rfl 6 (by decide) w_211 rfl rfl d_Curve_add_368 ?_
    refine q_cV (rest := []) E (c_Field_multiply l g n0 fo (X 2) (X 0) (X 5) F mi) w_165 w_4 w_652 w_163 w_164 hd_Field_multiply rfl ⟨by decide, by decide⟩ (OB.recv E.2.2.2.2.2 (by rfl) (((hk.cv hK hcv).2.1).1)) (⟨(hk.cv hK hcv).2.1, (hk.cv hK hcv).2.2 2 (by decide), (hk.cv hK hcv).2.2 0 (by decide), (hk.cv hK hcv).2.2 5 (by decide)⟩) hF hl.1 rfl (Nat.le_of_ble_eq_true rfl) d_Curve_add_371 ⟨by decide, by decide⟩ (qv (fun H17 locs hq hF => ?_))
    have hk := hk.tr (hq.w1 ((hk.cv hK hcv).2.2 2 (by decide)).1)
    refine lv_aload_n hx hb d_Curve_add_374 rfl (lv_at hl 1 rfl) ?_
    refine q_get (C := "KateDesk$Curve") (T := T_Curve) (N := 10) (ci := 0) E ((hk.cv hK hcv).1) in_Curve rfl 0 (by decide) w_205 rfl rfl d_Curve_add_375 ?_
    refine lv_aload_n hx hb d_Curve_add_378 rfl (lv_at hl 2 rfl) ?_
    refine q_get (C := "KateDesk$Point") (T := T_Point) (N := 3) (ci := 2) E ((hk.pt hK h_t).1) in_Point rfl 1 (by decide) w_50 rfl rfl d_Curve_add_379 ?_
    refine lv_aload_n hx hb d_Curve_add_382 rfl (lv_at hl 1 rfl) ?_
    refine q_get (C := "KateDesk$Curve") (T := T_Curve) (N := 10) (ci := 0) E ((hk.cv hK hcv).1) in_Curve rfl 2 (by decide) w_207 rfl rfl d_Curve_add_383 ?_
    refine lv_aload_n hx hb d_Curve_add_386 rfl (lv_at hl 1 rfl) ?_
    refine q_get (C := "KateDesk$Curve") (T := T_Curve) (N := 10) (ci := 0) E ((hk.cv hK hcv).1) in_Curve rfl 3 (by decide) w_208 rfl rfl d_Curve_add_387 ?_
    refine q_cV (rest := []) E (c_Field_add l g n0 fo t2 (X 1) (X 2) F mi) w_157 w_4 w_653 w_155 w_156 hd_Field_add rfl ⟨by decide, by decide⟩ (OB.recv E.2.2.2.2.2 (by rfl) (((hk.cv hK hcv).2.1).1)) (⟨(hk.cv hK hcv).2.1, (hk.pt hK h_t).2.2.1, (hk.cv hK hcv).2.2 1 (by decide), (hk.cv hK hcv).2.2 2 (by decide)⟩) hF hl.1 rfl (Nat.le_of_ble_eq_true rfl) d_Curve_add_390 ⟨by decide, by decide⟩ (qv (fun H18 locs hq hF => ?_))
    have hk := hk.tr (hq.w1 ((hk.pt hK h_t).2.2.1).1)
    refine lv_aload_n hx hb d_Curve_add_393 rfl (lv_at hl 1 rfl) ?_
    refine q_get (C := "KateDesk$Curve") (T := T_Curve) (N := 10) (ci := 0) E ((hk.cv hK hcv).1) in_Curve rfl 0 (by decide) w_205 rfl rfl d_Curve_add_394 ?_
    refine lv_aload_n hx hb d_Curve_add_397 rfl (lv_at hl 1 rfl) ?_
    refine q_get (C := "KateDesk$Curve") (T := T_Curve) (N := 10) (ci := 0) E ((hk.cv hK hcv).1) in_Curve rfl 2 (by decide) w_207 rfl rfl d_Curve_add_398 ?_
    refine lv_aload_n hx hb d_Curve_add_401 rfl (lv_at hl 1 rfl) ?_
    refine q_get (C := "KateDesk$Curve") (T := T_Curve) (N := 10) (ci := 0) E ((hk.cv hK hcv).1) in_Curve rfl 8 (by decide) w_213 rfl rfl d_Curve_add_402 ?_
    refine lv_aload_n hx hb d_Curve_add_405 rfl (lv_at hl 1 rfl) ?_
    refine q_get (C := "KateDesk$Curve") (T := T_Curve) (N := 10) (ci := 0) E ((hk.cv hK hcv).1) in_Curve rfl 5 (by decide) w_210 rfl rfl d_Curve_add_406 ?_
    refine q_cV (rest := []) E (c_Field_multiply l g n0 fo (X 1) (X 7) (X 4) F mi) w_165 w_4 w_652 w_163 w_164 hd_Field_multiply rfl ⟨by decide, by decide⟩ (OB.recv E.2.2.2.2.2 (by rfl) (((hk.cv hK hcv).2.1).1)) (⟨(hk.cv hK hcv).2.1, (hk.cv hK hcv).2.2 1 (by decide), (hk.cv hK hcv).2.2 7 (by decide), (hk.cv hK hcv).2.2 4 (by decide)⟩) hF hl.1 rfl (Nat.le_of_ble_eq_true rfl) d_Curve_add_409 ⟨by decide, by decide⟩ (qv (fun H19 locs hq hF => ?_))
    have hk := hk.tr (hq.w1 ((hk.cv hK hcv).2.2 1 (by decide)).1)
    refine lv_aload_n hx hb d_Curve_add_412 rfl (lv_at hl 1 rfl) ?_
    refine q_get (C := "KateDesk$Curve") (T := T_Curve) (N := 10) (ci := 0) E ((hk.cv hK hcv).1) in_Curve rfl 0 (by decide) w_205 rfl rfl d_Curve_add_413 ?_
    refine lv_aload_n hx hb d_Curve_add_416 rfl (lv_at hl 1 rfl) ?_
    refine q_get (C := "KateDesk$Curve") (T := T_Curve) (N := 10) (ci := 0) E ((hk.cv hK hcv).1) in_Curve rfl 3 (by decide) w_208 rfl rfl d_Curve_add_417 ?_
    refine lv_aload_n hx hb d_Curve_add_420 rfl (lv_at hl 1 rfl) ?_
    refine q_get (C := "KateDesk$Curve") (T := T_Curve) (N := 10) (ci := 0) E ((hk.cv hK hcv).1) in_Curve rfl 1 (by decide) w_206 rfl rfl d_Curve_add_421 ?_
    refine lv_aload_n hx hb d_Curve_add_424 rfl (lv_at hl 1 rfl) ?_
    refine q_get (C := "KateDesk$Curve") (T := T_Curve) (N := 10) (ci := 0) E ((hk.cv hK hcv).1) in_Curve rfl 4 (by decide) w_209 rfl rfl d_Curve_add_425 ?_
    refine q_cV (rest := []) E (c_Field_multiply l g n0 fo (X 2) (X 0) (X 3) F mi) w_165 w_4 w_652 w_163 w_164 hd_Field_multiply rfl ⟨by decide, by decide⟩ (OB.recv E.2.2.2.2.2 (by rfl) (((hk.cv hK hcv).2.1).1)) (⟨(hk.cv hK hcv).2.1, (hk.cv hK hcv).2.2 2 (by decide), (hk.cv hK hcv).2.2 0 (by decide), (hk.cv hK hcv).2.2 3 (by decide)⟩) hF hl.1 rfl (Nat.le_of_ble_eq_true rfl) d_Curve_add_428 ⟨by decide, by decide⟩ (qv (fun H20 locs hq hF => ?_))
    have hk := hk.tr (hq.w1 ((hk.cv hK hcv).2.2 2 (by decide)).1)
    refine lv_aload_n hx hb d_Curve_add_431 rfl (lv_at hl 1 rfl) ?_
    refine q_get (C := "KateDesk$Curve") (T := T_Curve) (N := 10) (ci := 0) E ((hk.cv hK hcv).1) in_Curve rfl 0 (by decide) w_205 rfl rfl d_Curve_add_432 ?_
    refine lv_aload_n hx hb d_Curve_add_435 rfl (lv_at hl 2 rfl) ?_
    refine q_get (C := "KateDesk$Point") (T := T_Point) (N := 3) (ci := 2) E ((hk.pt hK h_t).1) in_Point rfl 2 (by decide) w_54 rfl rfl d_Curve_add_436 ?_
    refine lv_aload_n hx hb d_Curve_add_439 rfl (lv_at hl 1 rfl) ?_
    refine q_get (C := "KateDesk$Curve") (T := T_Curve) (N := 10) (ci := 0) E ((hk.cv hK hcv).1) in_Curve rfl 2 (by decide) w_207 rfl rfl d_Curve_add_440 ?_
    refine lv_aload_n hx hb d_Curve_add_443 rfl (lv_at hl 1 rfl) ?_
    refine q_get (C := "KateDesk$Curve") (T := T_Curve) (N := 10) (ci := 0) E ((hk.cv hK hcv).1) in_Curve rfl 3 (by decide) w_208 rfl rfl d_Curve_add_444 ?_
    refine q_cV (rest := []) E (c_Field_add l g n0 fo t3 (X 1) (X 2) F mi) w_157 w_4 w_653 w_155 w_156 hd_Field_add rfl ⟨by decide, by decide⟩ (OB.recv E.2.2.2.2.2 (by rfl) (((hk.cv hK hcv).2.1).1)) (⟨(hk.cv hK hcv).2.1, (hk.pt hK h_t).2.2.2, (hk.cv hK hcv).2.2 1 (by decide), (hk.cv hK hcv).2.2 2 (by decide)⟩) hF hl.1 rfl (Nat.le_of_ble_eq_true rfl) d_Curve_add_447 ⟨by decide, by decide⟩ (qv (fun H21 locs hq hF => ?_))
    have hk := hk.tr (hq.w1 ((hk.pt hK h_t).2.2.2).1)
    exact q_vret E hr hlk (⟨rfl, hk⟩) hF d_Curve_add_450
  refine lv_if_eq (tgt := 32) hx hb d_Curve_add_8 (by decide) (fun h => ?_) (fun h => ?_)
  rotate_left
  · skip
    refine lv_aload_n hx hb d_Curve_add_11 rfl (lv_at hl 1 rfl) ?_
    refine q_get (C := "KateDesk$Curve") (T := T_Curve) (N := 10) (ci := 0) E ((hk.cv hK hcv).1) in_Curve rfl 0 (by decide) w_205 rfl rfl d_Curve_add_12 ?_
    refine lv_aload_n hx hb d_Curve_add_15 rfl (lv_at hl 1 rfl) ?_
    refine q_get (C := "KateDesk$Curve") (T := T_Curve) (N := 10) (ci := 0) E ((hk.cv hK hcv).1) in_Curve rfl 9 (by decide) w_214 rfl rfl d_Curve_add_16 ?_
    refine lv_aload_n hx hb d_Curve_add_19 rfl (lv_at hl 4 rfl) ?_
    refine q_get (C := "KateDesk$Point") (T := T_Point) (N := 3) (ci := 2) E ((hk.pt hK h_b).1) in_Point rfl 1 (by decide) w_50 rfl rfl d_Curve_add_20 ?_
    refine q_cV (rest := []) E (c_Field_negate l g n0 fo (X 8) b2 F mi) w_609 w_4 w_712 w_607 w_608 hd_Field_negate rfl ⟨by decide, by decide⟩ (OB.recv E.2.2.2.2.2 (by rfl) (((hk.cv hK hcv).2.1).1)) (⟨(hk.cv hK hcv).2.1, (hk.cv hK hcv).2.2 8 (by decide), (hk.pt hK h_b).2.2.1⟩) hF hl.1 rfl (Nat.le_of_ble_eq_true rfl) d_Curve_add_23 ⟨by decide, by decide⟩ (qv (fun H1 locs hq hF => ?_))
    have hk := hk.tr (hq.w2 ((hk.cv hK hcv).2.2 8 (by decide)).1 ((hk.cv hK hcv).2.1.2 5 (by decide)).1)
    refine lv_aload_n hx hb d_Curve_add_26 rfl (lv_at hl 1 rfl) ?_
    refine q_get (C := "KateDesk$Curve") (T := T_Curve) (N := 10) (ci := 0) E ((hk.cv hK hcv).1) in_Curve rfl 9 (by decide) w_214 rfl rfl d_Curve_add_27 ?_
    refine lv_astore (lv' := [(5, .ref (X 8)), (0, .ref o), (1, .ref t), (2, .ref a), (3, .ref b), (4, .int mn)]) hx hb d_Curve_add_30 hl (by decide) rfl (fun ls hl => ?_)
    have hl : lv_has ls 6 [(5, .ref (X 8)), (0, .ref o), (1, .ref t), (2, .ref a), (3, .ref b), (4, .int mn)] := lv_sub hl [0, 1, 2, 3, 4, 5] rfl
    exact tail H1 locs ls _ hk (hcv.2.2 8 (by decide)) hF hl
  have hl : lv_has ls 6 [(5, .ref b2), (0, .ref o), (1, .ref t), (2, .ref a), (3, .ref b), (4, .int mn)] := lv_sub hl [0, 1, 2, 3, 4, 5] rfl
  exact tail s.heap [] ls _ hk h_b.2.2.1 hF hl
