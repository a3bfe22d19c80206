theorem VL_zero {f : Nat → Int64} {n : Nat} (h : ∀ k, k < n → f k = 0) : VL f n = 0 := by
  induction n with
  | zero => rfl
  | succ n ih =>
    unfold VL
    rw [ih (fun k hk => h k (by omega)), h n (by omega), show (0 : Int64).toInt = 0 by decide, Int.zero_mul, Int.add_zero]
abbrev y_Model_product : MethodName := ⟨"KateDeskModel", "product", "(III)V"⟩
theorem hd_Model_product : y_Model_product.cls ≠ "java/lang/invoke/MethodHandle" ∧ y_Model_product.cls ≠ "java/lang/invoke/VarHandle" ∧ (parseMethodDescriptor y_Model_product.desc).map (fun d => d.parameters.length) = some 3 := by decide +kernel
theorem d_Model_product_0 : decode prog_11_method_17_code 0 = .ok (.iconst 0, 1) := by decide +kernel
theorem d_Model_product_1 : decode prog_11_method_17_code 1 = .ok (.istore 4, 2) := by decide +kernel
theorem d_Model_product_3 : decode prog_11_method_17_code 3 = .ok (.iload 4, 2) := by decide +kernel
theorem d_Model_product_5 : decode prog_11_method_17_code 5 = .ok (.bipush 32, 2) := by decide +kernel
theorem d_Model_product_7 : decode prog_11_method_17_code 7 = .ok (.if_icmp .ge 17, 3) := by decide +kernel
theorem d_Model_product_10 : decode prog_11_method_17_code 10 = .ok (.aload_n 0, 1) := by decide +kernel
theorem d_Model_product_11 : decode prog_11_method_17_code 11 = .ok (.getfield 124, 3) := by decide +kernel
theorem d_Model_product_14 : decode prog_11_method_17_code 14 = .ok (.iload 4, 2) := by decide +kernel
theorem d_Model_product_16 : decode prog_11_method_17_code 16 = .ok (.lconst 0, 1) := by decide +kernel
theorem d_Model_product_17 : decode prog_11_method_17_code 17 = .ok (.lastore, 1) := by decide +kernel
theorem d_Model_product_18 : decode prog_11_method_17_code 18 = .ok (.iinc 4 1, 3) := by decide +kernel
theorem d_Model_product_21 : decode prog_11_method_17_code 21 = .ok (.goto (-18), 3) := by decide +kernel
theorem d_Model_product_24 : decode prog_11_method_17_code 24 = .ok (.iconst 0, 1) := by decide +kernel
theorem d_Model_product_25 : decode prog_11_method_17_code 25 = .ok (.istore 4, 2) := by decide +kernel
theorem d_Model_product_27 : decode prog_11_method_17_code 27 = .ok (.iload 4, 2) := by decide +kernel
theorem d_Model_product_29 : decode prog_11_method_17_code 29 = .ok (.aload_n 0, 1) := by decide +kernel
theorem d_Model_product_30 : decode prog_11_method_17_code 30 = .ok (.getfield 144, 3) := by decide +kernel
theorem d_Model_product_33 : decode prog_11_method_17_code 33 = .ok (.if_icmp .ge 55, 3) := by decide +kernel
theorem d_Model_product_36 : decode prog_11_method_17_code 36 = .ok (.iconst 0, 1) := by decide +kernel
theorem d_Model_product_37 : decode prog_11_method_17_code 37 = .ok (.istore 5, 2) := by decide +kernel
theorem d_Model_product_39 : decode prog_11_method_17_code 39 = .ok (.iload 5, 2) := by decide +kernel
theorem d_Model_product_41 : decode prog_11_method_17_code 41 = .ok (.aload_n 0, 1) := by decide +kernel
theorem d_Model_product_42 : decode prog_11_method_17_code 42 = .ok (.getfield 144, 3) := by decide +kernel
theorem d_Model_product_45 : decode prog_11_method_17_code 45 = .ok (.if_icmp .ge 37, 3) := by decide +kernel
theorem d_Model_product_48 : decode prog_11_method_17_code 48 = .ok (.aload_n 0, 1) := by decide +kernel
theorem d_Model_product_49 : decode prog_11_method_17_code 49 = .ok (.getfield 124, 3) := by decide +kernel
theorem d_Model_product_52 : decode prog_11_method_17_code 52 = .ok (.iload 4, 2) := by decide +kernel
theorem d_Model_product_54 : decode prog_11_method_17_code 54 = .ok (.iload 5, 2) := by decide +kernel
theorem d_Model_product_56 : decode prog_11_method_17_code 56 = .ok (.iadd, 1) := by decide +kernel
theorem d_Model_product_57 : decode prog_11_method_17_code 57 = .ok (.dup2, 1) := by decide +kernel
theorem d_Model_product_58 : decode prog_11_method_17_code 58 = .ok (.laload, 1) := by decide +kernel
theorem d_Model_product_59 : decode prog_11_method_17_code 59 = .ok (.aload_n 0, 1) := by decide +kernel
theorem d_Model_product_60 : decode prog_11_method_17_code 60 = .ok (.iload_n 2, 1) := by decide +kernel
theorem d_Model_product_61 : decode prog_11_method_17_code 61 = .ok (.iload 4, 2) := by decide +kernel
theorem d_Model_product_63 : decode prog_11_method_17_code 63 = .ok (.invokevirtual 164, 3) := by decide +kernel
theorem d_Model_product_66 : decode prog_11_method_17_code 66 = .ok (.aload_n 0, 1) := by decide +kernel
theorem d_Model_product_67 : decode prog_11_method_17_code 67 = .ok (.iload_n 3, 1) := by decide +kernel
theorem d_Model_product_68 : decode prog_11_method_17_code 68 = .ok (.iload 5, 2) := by decide +kernel
theorem d_Model_product_70 : decode prog_11_method_17_code 70 = .ok (.invokevirtual 164, 3) := by decide +kernel
theorem d_Model_product_73 : decode prog_11_method_17_code 73 = .ok (.lmul, 1) := by decide +kernel
theorem d_Model_product_74 : decode prog_11_method_17_code 74 = .ok (.ladd, 1) := by decide +kernel
theorem d_Model_product_75 : decode prog_11_method_17_code 75 = .ok (.lastore, 1) := by decide +kernel
theorem d_Model_product_76 : decode prog_11_method_17_code 76 = .ok (.iinc 5 1, 3) := by decide +kernel
theorem d_Model_product_79 : decode prog_11_method_17_code 79 = .ok (.goto (-40), 3) := by decide +kernel
theorem d_Model_product_82 : decode prog_11_method_17_code 82 = .ok (.iinc 4 1, 3) := by decide +kernel
theorem d_Model_product_85 : decode prog_11_method_17_code 85 = .ok (.goto (-58), 3) := by decide +kernel
theorem d_Model_product_88 : decode prog_11_method_17_code 88 = .ok (.aload_n 0, 1) := by decide +kernel
theorem d_Model_product_89 : decode prog_11_method_17_code 89 = .ok (.iconst 2, 1) := by decide +kernel
theorem d_Model_product_90 : decode prog_11_method_17_code 90 = .ok (.aload_n 0, 1) := by decide +kernel
theorem d_Model_product_91 : decode prog_11_method_17_code 91 = .ok (.getfield 144, 3) := by decide +kernel
theorem d_Model_product_94 : decode prog_11_method_17_code 94 = .ok (.imul, 1) := by decide +kernel
theorem d_Model_product_95 : decode prog_11_method_17_code 95 = .ok (.invokevirtual 174, 3) := by decide +kernel
theorem d_Model_product_98 : decode prog_11_method_17_code 98 = .ok (.iconst 0, 1) := by decide +kernel
theorem d_Model_product_99 : decode prog_11_method_17_code 99 = .ok (.istore 4, 2) := by decide +kernel
theorem d_Model_product_101 : decode prog_11_method_17_code 101 = .ok (.iload 4, 2) := by decide +kernel
theorem d_Model_product_103 : decode prog_11_method_17_code 103 = .ok (.iconst 4, 1) := by decide +kernel
theorem d_Model_product_104 : decode prog_11_method_17_code 104 = .ok (.if_icmp .ge 122, 3) := by decide +kernel
theorem d_Model_product_107 : decode prog_11_method_17_code 107 = .ok (.aload_n 0, 1) := by decide +kernel
theorem d_Model_product_108 : decode prog_11_method_17_code 108 = .ok (.getfield 144, 3) := by decide +kernel
theorem d_Model_product_111 : decode prog_11_method_17_code 111 = .ok (.istore 5, 2) := by decide +kernel
theorem d_Model_product_113 : decode prog_11_method_17_code 113 = .ok (.iload 5, 2) := by decide +kernel
theorem d_Model_product_115 : decode prog_11_method_17_code 115 = .ok (.iconst 2, 1) := by decide +kernel
theorem d_Model_product_116 : decode prog_11_method_17_code 116 = .ok (.aload_n 0, 1) := by decide +kernel
theorem d_Model_product_117 : decode prog_11_method_17_code 117 = .ok (.getfield 144, 3) := by decide +kernel
theorem d_Model_product_120 : decode prog_11_method_17_code 120 = .ok (.imul, 1) := by decide +kernel
theorem d_Model_product_121 : decode prog_11_method_17_code 121 = .ok (.if_icmp .gt 91, 3) := by decide +kernel
theorem d_Model_product_124 : decode prog_11_method_17_code 124 = .ok (.aload_n 0, 1) := by decide +kernel
theorem d_Model_product_125 : decode prog_11_method_17_code 125 = .ok (.getfield 124, 3) := by decide +kernel
theorem d_Model_product_128 : decode prog_11_method_17_code 128 = .ok (.iload 5, 2) := by decide +kernel
theorem d_Model_product_130 : decode prog_11_method_17_code 130 = .ok (.laload, 1) := by decide +kernel
theorem d_Model_product_131 : decode prog_11_method_17_code 131 = .ok (.lstore 6, 2) := by decide +kernel
theorem d_Model_product_133 : decode prog_11_method_17_code 133 = .ok (.aload_n 0, 1) := by decide +kernel
theorem d_Model_product_134 : decode prog_11_method_17_code 134 = .ok (.getfield 124, 3) := by decide +kernel
theorem d_Model_product_137 : decode prog_11_method_17_code 137 = .ok (.iload 5, 2) := by decide +kernel
theorem d_Model_product_139 : decode prog_11_method_17_code 139 = .ok (.lconst 0, 1) := by decide +kernel
theorem d_Model_product_140 : decode prog_11_method_17_code 140 = .ok (.lastore, 1) := by decide +kernel
theorem d_Model_product_141 : decode prog_11_method_17_code 141 = .ok (.iconst 0, 1) := by decide +kernel
theorem d_Model_product_142 : decode prog_11_method_17_code 142 = .ok (.istore 8, 2) := by decide +kernel
theorem d_Model_product_144 : decode prog_11_method_17_code 144 = .ok (.iload 8, 2) := by decide +kernel
theorem d_Model_product_146 : decode prog_11_method_17_code 146 = .ok (.aload_n 0, 1) := by decide +kernel
theorem d_Model_product_147 : decode prog_11_method_17_code 147 = .ok (.getfield 144, 3) := by decide +kernel
theorem d_Model_product_150 : decode prog_11_method_17_code 150 = .ok (.if_icmp .ge 56, 3) := by decide +kernel
theorem d_Model_product_153 : decode prog_11_method_17_code 153 = .ok (.lload 6, 2) := by decide +kernel
theorem d_Model_product_155 : decode prog_11_method_17_code 155 = .ok (.lconst 0, 1) := by decide +kernel
theorem d_Model_product_156 : decode prog_11_method_17_code 156 = .ok (.lcmp, 1) := by decide +kernel
theorem d_Model_product_157 : decode prog_11_method_17_code 157 = .ok (.ifCond .le 49, 3) := by decide +kernel
theorem d_Model_product_160 : decode prog_11_method_17_code 160 = .ok (.aload_n 0, 1) := by decide +kernel
theorem d_Model_product_161 : decode prog_11_method_17_code 161 = .ok (.getfield 124, 3) := by decide +kernel
theorem d_Model_product_164 : decode prog_11_method_17_code 164 = .ok (.iload 8, 2) := by decide +kernel
theorem d_Model_product_166 : decode prog_11_method_17_code 166 = .ok (.dup2, 1) := by decide +kernel
theorem d_Model_product_167 : decode prog_11_method_17_code 167 = .ok (.laload, 1) := by decide +kernel
theorem d_Model_product_168 : decode prog_11_method_17_code 168 = .ok (.lload 6, 2) := by decide +kernel
theorem d_Model_product_170 : decode prog_11_method_17_code 170 = .ok (.aload_n 0, 1) := by decide +kernel
theorem d_Model_product_171 : decode prog_11_method_17_code 171 = .ok (.getfield 121, 3) := by decide +kernel
theorem d_Model_product_174 : decode prog_11_method_17_code 174 = .ok (.sipush 210, 3) := by decide +kernel
theorem d_Model_product_177 : decode prog_11_method_17_code 177 = .ok (.aload_n 0, 1) := by decide +kernel
theorem d_Model_product_178 : decode prog_11_method_17_code 178 = .ok (.getfield 161, 3) := by decide +kernel
theorem d_Model_product_181 : decode prog_11_method_17_code 181 = .ok (.imul, 1) := by decide +kernel
theorem d_Model_product_182 : decode prog_11_method_17_code 182 = .ok (.bipush 14, 2) := by decide +kernel
theorem d_Model_product_184 : decode prog_11_method_17_code 184 = .ok (.iload 5, 2) := by decide +kernel
theorem d_Model_product_186 : decode prog_11_method_17_code 186 = .ok (.aload_n 0, 1) := by decide +kernel
theorem d_Model_product_187 : decode prog_11_method_17_code 187 = .ok (.getfield 144, 3) := by decide +kernel
theorem d_Model_product_190 : decode prog_11_method_17_code 190 = .ok (.isub, 1) := by decide +kernel
theorem d_Model_product_191 : decode prog_11_method_17_code 191 = .ok (.imul, 1) := by decide +kernel
theorem d_Model_product_192 : decode prog_11_method_17_code 192 = .ok (.iadd, 1) := by decide +kernel
theorem d_Model_product_193 : decode prog_11_method_17_code 193 = .ok (.iload 8, 2) := by decide +kernel
theorem d_Model_product_195 : decode prog_11_method_17_code 195 = .ok (.iadd, 1) := by decide +kernel
theorem d_Model_product_196 : decode prog_11_method_17_code 196 = .ok (.laload, 1) := by decide +kernel
theorem d_Model_product_197 : decode prog_11_method_17_code 197 = .ok (.lmul, 1) := by decide +kernel
theorem d_Model_product_198 : decode prog_11_method_17_code 198 = .ok (.ladd, 1) := by decide +kernel
theorem d_Model_product_199 : decode prog_11_method_17_code 199 = .ok (.lastore, 1) := by decide +kernel
theorem d_Model_product_200 : decode prog_11_method_17_code 200 = .ok (.iinc 8 1, 3) := by decide +kernel
theorem d_Model_product_203 : decode prog_11_method_17_code 203 = .ok (.goto (-59), 3) := by decide +kernel
theorem d_Model_product_206 : decode prog_11_method_17_code 206 = .ok (.iinc 5 1, 3) := by decide +kernel
theorem d_Model_product_209 : decode prog_11_method_17_code 209 = .ok (.goto (-96), 3) := by decide +kernel
theorem d_Model_product_212 : decode prog_11_method_17_code 212 = .ok (.aload_n 0, 1) := by decide +kernel
theorem d_Model_product_213 : decode prog_11_method_17_code 213 = .ok (.aload_n 0, 1) := by decide +kernel
theorem d_Model_product_214 : decode prog_11_method_17_code 214 = .ok (.getfield 144, 3) := by decide +kernel
theorem d_Model_product_217 : decode prog_11_method_17_code 217 = .ok (.invokevirtual 174, 3) := by decide +kernel
theorem d_Model_product_220 : decode prog_11_method_17_code 220 = .ok (.iinc 4 1, 3) := by decide +kernel
theorem d_Model_product_223 : decode prog_11_method_17_code 223 = .ok (.goto (-122), 3) := by decide +kernel
theorem d_Model_product_226 : decode prog_11_method_17_code 226 = .ok (.aload_n 0, 1) := by decide +kernel
theorem d_Model_product_227 : decode prog_11_method_17_code 227 = .ok (.getfield 124, 3) := by decide +kernel
theorem d_Model_product_230 : decode prog_11_method_17_code 230 = .ok (.aload_n 0, 1) := by decide +kernel
theorem d_Model_product_231 : decode prog_11_method_17_code 231 = .ok (.getfield 144, 3) := by decide +kernel
theorem d_Model_product_234 : decode prog_11_method_17_code 234 = .ok (.laload, 1) := by decide +kernel
theorem d_Model_product_235 : decode prog_11_method_17_code 235 = .ok (.lconst 0, 1) := by decide +kernel
theorem d_Model_product_236 : decode prog_11_method_17_code 236 = .ok (.lcmp, 1) := by decide +kernel
theorem d_Model_product_237 : decode prog_11_method_17_code 237 = .ok (.ifCond .le 82, 3) := by decide +kernel
theorem d_Model_product_240 : decode prog_11_method_17_code 240 = .ok (.aload_n 0, 1) := by decide +kernel
theorem d_Model_product_241 : decode prog_11_method_17_code 241 = .ok (.getfield 124, 3) := by decide +kernel
theorem d_Model_product_244 : decode prog_11_method_17_code 244 = .ok (.aload_n 0, 1) := by decide +kernel
theorem d_Model_product_245 : decode prog_11_method_17_code 245 = .ok (.getfield 144, 3) := by decide +kernel
theorem d_Model_product_248 : decode prog_11_method_17_code 248 = .ok (.laload, 1) := by decide +kernel
theorem d_Model_product_249 : decode prog_11_method_17_code 249 = .ok (.lstore 4, 2) := by decide +kernel
theorem d_Model_product_251 : decode prog_11_method_17_code 251 = .ok (.aload_n 0, 1) := by decide +kernel
theorem d_Model_product_252 : decode prog_11_method_17_code 252 = .ok (.getfield 124, 3) := by decide +kernel
theorem d_Model_product_255 : decode prog_11_method_17_code 255 = .ok (.aload_n 0, 1) := by decide +kernel
theorem d_Model_product_256 : decode prog_11_method_17_code 256 = .ok (.getfield 144, 3) := by decide +kernel
theorem d_Model_product_259 : decode prog_11_method_17_code 259 = .ok (.lconst 0, 1) := by decide +kernel
theorem d_Model_product_260 : decode prog_11_method_17_code 260 = .ok (.lastore, 1) := by decide +kernel
theorem d_Model_product_261 : decode prog_11_method_17_code 261 = .ok (.iconst 0, 1) := by decide +kernel
theorem d_Model_product_262 : decode prog_11_method_17_code 262 = .ok (.istore 6, 2) := by decide +kernel
theorem d_Model_product_264 : decode prog_11_method_17_code 264 = .ok (.iload 6, 2) := by decide +kernel
theorem d_Model_product_266 : decode prog_11_method_17_code 266 = .ok (.aload_n 0, 1) := by decide +kernel
theorem d_Model_product_267 : decode prog_11_method_17_code 267 = .ok (.getfield 144, 3) := by decide +kernel
theorem d_Model_product_270 : decode prog_11_method_17_code 270 = .ok (.if_icmp .ge 38, 3) := by decide +kernel
theorem d_Model_product_273 : decode prog_11_method_17_code 273 = .ok (.aload_n 0, 1) := by decide +kernel
theorem d_Model_product_274 : decode prog_11_method_17_code 274 = .ok (.getfield 124, 3) := by decide +kernel
theorem d_Model_product_277 : decode prog_11_method_17_code 277 = .ok (.iload 6, 2) := by decide +kernel
theorem d_Model_product_279 : decode prog_11_method_17_code 279 = .ok (.dup2, 1) := by decide +kernel
theorem d_Model_product_280 : decode prog_11_method_17_code 280 = .ok (.laload, 1) := by decide +kernel
theorem d_Model_product_281 : decode prog_11_method_17_code 281 = .ok (.lload 4, 2) := by decide +kernel
theorem d_Model_product_283 : decode prog_11_method_17_code 283 = .ok (.aload_n 0, 1) := by decide +kernel
theorem d_Model_product_284 : decode prog_11_method_17_code 284 = .ok (.getfield 121, 3) := by decide +kernel
theorem d_Model_product_287 : decode prog_11_method_17_code 287 = .ok (.sipush 210, 3) := by decide +kernel
theorem d_Model_product_290 : decode prog_11_method_17_code 290 = .ok (.aload_n 0, 1) := by decide +kernel
theorem d_Model_product_291 : decode prog_11_method_17_code 291 = .ok (.getfield 161, 3) := by decide +kernel
theorem d_Model_product_294 : decode prog_11_method_17_code 294 = .ok (.imul, 1) := by decide +kernel
theorem d_Model_product_295 : decode prog_11_method_17_code 295 = .ok (.iload 6, 2) := by decide +kernel
theorem d_Model_product_297 : decode prog_11_method_17_code 297 = .ok (.iadd, 1) := by decide +kernel
theorem d_Model_product_298 : decode prog_11_method_17_code 298 = .ok (.laload, 1) := by decide +kernel
theorem d_Model_product_299 : decode prog_11_method_17_code 299 = .ok (.lmul, 1) := by decide +kernel
theorem d_Model_product_300 : decode prog_11_method_17_code 300 = .ok (.ladd, 1) := by decide +kernel
theorem d_Model_product_301 : decode prog_11_method_17_code 301 = .ok (.lastore, 1) := by decide +kernel
theorem d_Model_product_302 : decode prog_11_method_17_code 302 = .ok (.iinc 6 1, 3) := by decide +kernel
theorem d_Model_product_305 : decode prog_11_method_17_code 305 = .ok (.goto (-41), 3) := by decide +kernel
theorem d_Model_product_308 : decode prog_11_method_17_code 308 = .ok (.aload_n 0, 1) := by decide +kernel
theorem d_Model_product_309 : decode prog_11_method_17_code 309 = .ok (.aload_n 0, 1) := by decide +kernel
theorem d_Model_product_310 : decode prog_11_method_17_code 310 = .ok (.getfield 144, 3) := by decide +kernel
theorem d_Model_product_313 : decode prog_11_method_17_code 313 = .ok (.invokevirtual 174, 3) := by decide +kernel
theorem d_Model_product_316 : decode prog_11_method_17_code 316 = .ok (.goto (-90), 3) := by decide +kernel
theorem d_Model_product_319 : decode prog_11_method_17_code 319 = .ok (.aload_n 0, 1) := by decide +kernel
theorem d_Model_product_320 : decode prog_11_method_17_code 320 = .ok (.iload_n 1, 1) := by decide +kernel
theorem d_Model_product_321 : decode prog_11_method_17_code 321 = .ok (.invokevirtual 177, 3) := by decide +kernel
theorem d_Model_product_324 : decode prog_11_method_17_code 324 = .ok (.return_, 1) := by decide +kernel