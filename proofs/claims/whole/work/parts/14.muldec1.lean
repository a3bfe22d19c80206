abbrev y_Field_multiply : MethodName := ⟨"KateDesk$Field", "multiply", "([J[J[J)V"⟩
theorem hd_Field_multiply : y_Field_multiply.cls ≠ "java/lang/invoke/MethodHandle" ∧ y_Field_multiply.cls ≠ "java/lang/invoke/VarHandle" ∧ (parseMethodDescriptor y_Field_multiply.desc).map (fun d => d.parameters.length) = some 3 := by decide +kernel
theorem d_Field_multiply_0 : decode prog_3_method_8_code 0 = .ok (.aload_n 2, 1) := by decide +kernel
theorem d_Field_multiply_1 : decode prog_3_method_8_code 1 = .ok (.iconst 0, 1) := by decide +kernel
theorem d_Field_multiply_2 : decode prog_3_method_8_code 2 = .ok (.laload, 1) := by decide +kernel
theorem d_Field_multiply_3 : decode prog_3_method_8_code 3 = .ok (.lstore 4, 2) := by decide +kernel
theorem d_Field_multiply_5 : decode prog_3_method_8_code 5 = .ok (.aload_n 2, 1) := by decide +kernel
theorem d_Field_multiply_6 : decode prog_3_method_8_code 6 = .ok (.iconst 1, 1) := by decide +kernel
theorem d_Field_multiply_7 : decode prog_3_method_8_code 7 = .ok (.laload, 1) := by decide +kernel
theorem d_Field_multiply_8 : decode prog_3_method_8_code 8 = .ok (.lstore 6, 2) := by decide +kernel
theorem d_Field_multiply_10 : decode prog_3_method_8_code 10 = .ok (.aload_n 2, 1) := by decide +kernel
theorem d_Field_multiply_11 : decode prog_3_method_8_code 11 = .ok (.iconst 2, 1) := by decide +kernel
theorem d_Field_multiply_12 : decode prog_3_method_8_code 12 = .ok (.laload, 1) := by decide +kernel
theorem d_Field_multiply_13 : decode prog_3_method_8_code 13 = .ok (.lstore 8, 2) := by decide +kernel
theorem d_Field_multiply_15 : decode prog_3_method_8_code 15 = .ok (.aload_n 2, 1) := by decide +kernel
theorem d_Field_multiply_16 : decode prog_3_method_8_code 16 = .ok (.iconst 3, 1) := by decide +kernel
theorem d_Field_multiply_17 : decode prog_3_method_8_code 17 = .ok (.laload, 1) := by decide +kernel
theorem d_Field_multiply_18 : decode prog_3_method_8_code 18 = .ok (.lstore 10, 2) := by decide +kernel
theorem d_Field_multiply_20 : decode prog_3_method_8_code 20 = .ok (.aload_n 2, 1) := by decide +kernel
theorem d_Field_multiply_21 : decode prog_3_method_8_code 21 = .ok (.iconst 4, 1) := by decide +kernel
theorem d_Field_multiply_22 : decode prog_3_method_8_code 22 = .ok (.laload, 1) := by decide +kernel
theorem d_Field_multiply_23 : decode prog_3_method_8_code 23 = .ok (.lstore 12, 2) := by decide +kernel
theorem d_Field_multiply_25 : decode prog_3_method_8_code 25 = .ok (.aload_n 2, 1) := by decide +kernel
theorem d_Field_multiply_26 : decode prog_3_method_8_code 26 = .ok (.iconst 5, 1) := by decide +kernel
theorem d_Field_multiply_27 : decode prog_3_method_8_code 27 = .ok (.laload, 1) := by decide +kernel
theorem d_Field_multiply_28 : decode prog_3_method_8_code 28 = .ok (.lstore 14, 2) := by decide +kernel
theorem d_Field_multiply_30 : decode prog_3_method_8_code 30 = .ok (.aload_n 2, 1) := by decide +kernel
theorem d_Field_multiply_31 : decode prog_3_method_8_code 31 = .ok (.bipush 6, 2) := by decide +kernel
theorem d_Field_multiply_33 : decode prog_3_method_8_code 33 = .ok (.laload, 1) := by decide +kernel
theorem d_Field_multiply_34 : decode prog_3_method_8_code 34 = .ok (.lstore 16, 2) := by decide +kernel
theorem d_Field_multiply_36 : decode prog_3_method_8_code 36 = .ok (.aload_n 2, 1) := by decide +kernel
theorem d_Field_multiply_37 : decode prog_3_method_8_code 37 = .ok (.bipush 7, 2) := by decide +kernel
theorem d_Field_multiply_39 : decode prog_3_method_8_code 39 = .ok (.laload, 1) := by decide +kernel
theorem d_Field_multiply_40 : decode prog_3_method_8_code 40 = .ok (.lstore 18, 2) := by decide +kernel
theorem d_Field_multiply_42 : decode prog_3_method_8_code 42 = .ok (.aload_n 2, 1) := by decide +kernel
theorem d_Field_multiply_43 : decode prog_3_method_8_code 43 = .ok (.bipush 8, 2) := by decide +kernel
theorem d_Field_multiply_45 : decode prog_3_method_8_code 45 = .ok (.laload, 1) := by decide +kernel
theorem d_Field_multiply_46 : decode prog_3_method_8_code 46 = .ok (.lstore 20, 2) := by decide +kernel
theorem d_Field_multiply_48 : decode prog_3_method_8_code 48 = .ok (.aload_n 2, 1) := by decide +kernel
theorem d_Field_multiply_49 : decode prog_3_method_8_code 49 = .ok (.bipush 9, 2) := by decide +kernel
theorem d_Field_multiply_51 : decode prog_3_method_8_code 51 = .ok (.laload, 1) := by decide +kernel
theorem d_Field_multiply_52 : decode prog_3_method_8_code 52 = .ok (.lstore 22, 2) := by decide +kernel
theorem d_Field_multiply_54 : decode prog_3_method_8_code 54 = .ok (.aload_n 2, 1) := by decide +kernel
theorem d_Field_multiply_55 : decode prog_3_method_8_code 55 = .ok (.bipush 10, 2) := by decide +kernel
theorem d_Field_multiply_57 : decode prog_3_method_8_code 57 = .ok (.laload, 1) := by decide +kernel
theorem d_Field_multiply_58 : decode prog_3_method_8_code 58 = .ok (.lstore 24, 2) := by decide +kernel
theorem d_Field_multiply_60 : decode prog_3_method_8_code 60 = .ok (.aload_n 2, 1) := by decide +kernel
theorem d_Field_multiply_61 : decode prog_3_method_8_code 61 = .ok (.bipush 11, 2) := by decide +kernel
theorem d_Field_multiply_63 : decode prog_3_method_8_code 63 = .ok (.laload, 1) := by decide +kernel
theorem d_Field_multiply_64 : decode prog_3_method_8_code 64 = .ok (.lstore 26, 2) := by decide +kernel
theorem d_Field_multiply_66 : decode prog_3_method_8_code 66 = .ok (.aload_n 2, 1) := by decide +kernel
theorem d_Field_multiply_67 : decode prog_3_method_8_code 67 = .ok (.bipush 12, 2) := by decide +kernel
theorem d_Field_multiply_69 : decode prog_3_method_8_code 69 = .ok (.laload, 1) := by decide +kernel
theorem d_Field_multiply_70 : decode prog_3_method_8_code 70 = .ok (.lstore 28, 2) := by decide +kernel
theorem d_Field_multiply_72 : decode prog_3_method_8_code 72 = .ok (.aload_n 2, 1) := by decide +kernel
theorem d_Field_multiply_73 : decode prog_3_method_8_code 73 = .ok (.bipush 13, 2) := by decide +kernel
theorem d_Field_multiply_75 : decode prog_3_method_8_code 75 = .ok (.laload, 1) := by decide +kernel
theorem d_Field_multiply_76 : decode prog_3_method_8_code 76 = .ok (.lstore 30, 2) := by decide +kernel
theorem d_Field_multiply_78 : decode prog_3_method_8_code 78 = .ok (.aload_n 0, 1) := by decide +kernel
theorem d_Field_multiply_79 : decode prog_3_method_8_code 79 = .ok (.getfield 31, 3) := by decide +kernel
theorem d_Field_multiply_82 : decode prog_3_method_8_code 82 = .ok (.astore 32, 2) := by decide +kernel
theorem d_Field_multiply_84 : decode prog_3_method_8_code 84 = .ok (.aload 32, 2) := by decide +kernel
theorem d_Field_multiply_86 : decode prog_3_method_8_code 86 = .ok (.iconst 0, 1) := by decide +kernel
theorem d_Field_multiply_87 : decode prog_3_method_8_code 87 = .ok (.laload, 1) := by decide +kernel
theorem d_Field_multiply_88 : decode prog_3_method_8_code 88 = .ok (.lstore 33, 2) := by decide +kernel
theorem d_Field_multiply_90 : decode prog_3_method_8_code 90 = .ok (.aload 32, 2) := by decide +kernel
theorem d_Field_multiply_92 : decode prog_3_method_8_code 92 = .ok (.iconst 1, 1) := by decide +kernel
theorem d_Field_multiply_93 : decode prog_3_method_8_code 93 = .ok (.laload, 1) := by decide +kernel
theorem d_Field_multiply_94 : decode prog_3_method_8_code 94 = .ok (.lstore 35, 2) := by decide +kernel
theorem d_Field_multiply_96 : decode prog_3_method_8_code 96 = .ok (.aload 32, 2) := by decide +kernel
theorem d_Field_multiply_98 : decode prog_3_method_8_code 98 = .ok (.iconst 2, 1) := by decide +kernel
theorem d_Field_multiply_99 : decode prog_3_method_8_code 99 = .ok (.laload, 1) := by decide +kernel
theorem d_Field_multiply_100 : decode prog_3_method_8_code 100 = .ok (.lstore 37, 2) := by decide +kernel
theorem d_Field_multiply_102 : decode prog_3_method_8_code 102 = .ok (.aload 32, 2) := by decide +kernel
theorem d_Field_multiply_104 : decode prog_3_method_8_code 104 = .ok (.iconst 3, 1) := by decide +kernel
theorem d_Field_multiply_105 : decode prog_3_method_8_code 105 = .ok (.laload, 1) := by decide +kernel
theorem d_Field_multiply_106 : decode prog_3_method_8_code 106 = .ok (.lstore 39, 2) := by decide +kernel
theorem d_Field_multiply_108 : decode prog_3_method_8_code 108 = .ok (.aload 32, 2) := by decide +kernel
theorem d_Field_multiply_110 : decode prog_3_method_8_code 110 = .ok (.iconst 4, 1) := by decide +kernel
theorem d_Field_multiply_111 : decode prog_3_method_8_code 111 = .ok (.laload, 1) := by decide +kernel
theorem d_Field_multiply_112 : decode prog_3_method_8_code 112 = .ok (.lstore 41, 2) := by decide +kernel
theorem d_Field_multiply_114 : decode prog_3_method_8_code 114 = .ok (.aload 32, 2) := by decide +kernel
theorem d_Field_multiply_116 : decode prog_3_method_8_code 116 = .ok (.iconst 5, 1) := by decide +kernel
theorem d_Field_multiply_117 : decode prog_3_method_8_code 117 = .ok (.laload, 1) := by decide +kernel
theorem d_Field_multiply_118 : decode prog_3_method_8_code 118 = .ok (.lstore 43, 2) := by decide +kernel
theorem d_Field_multiply_120 : decode prog_3_method_8_code 120 = .ok (.aload 32, 2) := by decide +kernel
theorem d_Field_multiply_122 : decode prog_3_method_8_code 122 = .ok (.bipush 6, 2) := by decide +kernel
theorem d_Field_multiply_124 : decode prog_3_method_8_code 124 = .ok (.laload, 1) := by decide +kernel
theorem d_Field_multiply_125 : decode prog_3_method_8_code 125 = .ok (.lstore 45, 2) := by decide +kernel
theorem d_Field_multiply_127 : decode prog_3_method_8_code 127 = .ok (.aload 32, 2) := by decide +kernel
theorem d_Field_multiply_129 : decode prog_3_method_8_code 129 = .ok (.bipush 7, 2) := by decide +kernel
theorem d_Field_multiply_131 : decode prog_3_method_8_code 131 = .ok (.laload, 1) := by decide +kernel
theorem d_Field_multiply_132 : decode prog_3_method_8_code 132 = .ok (.lstore 47, 2) := by decide +kernel
theorem d_Field_multiply_134 : decode prog_3_method_8_code 134 = .ok (.aload 32, 2) := by decide +kernel
theorem d_Field_multiply_136 : decode prog_3_method_8_code 136 = .ok (.bipush 8, 2) := by decide +kernel
theorem d_Field_multiply_138 : decode prog_3_method_8_code 138 = .ok (.laload, 1) := by decide +kernel
theorem d_Field_multiply_139 : decode prog_3_method_8_code 139 = .ok (.lstore 49, 2) := by decide +kernel
theorem d_Field_multiply_141 : decode prog_3_method_8_code 141 = .ok (.aload 32, 2) := by decide +kernel
theorem d_Field_multiply_143 : decode prog_3_method_8_code 143 = .ok (.bipush 9, 2) := by decide +kernel
theorem d_Field_multiply_145 : decode prog_3_method_8_code 145 = .ok (.laload, 1) := by decide +kernel
theorem d_Field_multiply_146 : decode prog_3_method_8_code 146 = .ok (.lstore 51, 2) := by decide +kernel
theorem d_Field_multiply_148 : decode prog_3_method_8_code 148 = .ok (.aload 32, 2) := by decide +kernel
theorem d_Field_multiply_150 : decode prog_3_method_8_code 150 = .ok (.bipush 10, 2) := by decide +kernel
theorem d_Field_multiply_152 : decode prog_3_method_8_code 152 = .ok (.laload, 1) := by decide +kernel
theorem d_Field_multiply_153 : decode prog_3_method_8_code 153 = .ok (.lstore 53, 2) := by decide +kernel
theorem d_Field_multiply_155 : decode prog_3_method_8_code 155 = .ok (.aload 32, 2) := by decide +kernel
theorem d_Field_multiply_157 : decode prog_3_method_8_code 157 = .ok (.bipush 11, 2) := by decide +kernel
theorem d_Field_multiply_159 : decode prog_3_method_8_code 159 = .ok (.laload, 1) := by decide +kernel
theorem d_Field_multiply_160 : decode prog_3_method_8_code 160 = .ok (.lstore 55, 2) := by decide +kernel
theorem d_Field_multiply_162 : decode prog_3_method_8_code 162 = .ok (.aload 32, 2) := by decide +kernel
theorem d_Field_multiply_164 : decode prog_3_method_8_code 164 = .ok (.bipush 12, 2) := by decide +kernel
theorem d_Field_multiply_166 : decode prog_3_method_8_code 166 = .ok (.laload, 1) := by decide +kernel
theorem d_Field_multiply_167 : decode prog_3_method_8_code 167 = .ok (.lstore 57, 2) := by decide +kernel
theorem d_Field_multiply_169 : decode prog_3_method_8_code 169 = .ok (.aload 32, 2) := by decide +kernel
theorem d_Field_multiply_171 : decode prog_3_method_8_code 171 = .ok (.bipush 13, 2) := by decide +kernel
theorem d_Field_multiply_173 : decode prog_3_method_8_code 173 = .ok (.laload, 1) := by decide +kernel
theorem d_Field_multiply_174 : decode prog_3_method_8_code 174 = .ok (.lstore 59, 2) := by decide +kernel
theorem d_Field_multiply_176 : decode prog_3_method_8_code 176 = .ok (.lconst 0, 1) := by decide +kernel
theorem d_Field_multiply_177 : decode prog_3_method_8_code 177 = .ok (.lstore 61, 2) := by decide +kernel
theorem d_Field_multiply_179 : decode prog_3_method_8_code 179 = .ok (.lconst 0, 1) := by decide +kernel
theorem d_Field_multiply_180 : decode prog_3_method_8_code 180 = .ok (.lstore 63, 2) := by decide +kernel
theorem d_Field_multiply_182 : decode prog_3_method_8_code 182 = .ok (.lconst 0, 1) := by decide +kernel
theorem d_Field_multiply_183 : decode prog_3_method_8_code 183 = .ok (.lstore 65, 2) := by decide +kernel
theorem d_Field_multiply_185 : decode prog_3_method_8_code 185 = .ok (.lconst 0, 1) := by decide +kernel
theorem d_Field_multiply_186 : decode prog_3_method_8_code 186 = .ok (.lstore 67, 2) := by decide +kernel
theorem d_Field_multiply_188 : decode prog_3_method_8_code 188 = .ok (.lconst 0, 1) := by decide +kernel
theorem d_Field_multiply_189 : decode prog_3_method_8_code 189 = .ok (.lstore 69, 2) := by decide +kernel
theorem d_Field_multiply_191 : decode prog_3_method_8_code 191 = .ok (.lconst 0, 1) := by decide +kernel
theorem d_Field_multiply_192 : decode prog_3_method_8_code 192 = .ok (.lstore 71, 2) := by decide +kernel
theorem d_Field_multiply_194 : decode prog_3_method_8_code 194 = .ok (.lconst 0, 1) := by decide +kernel
theorem d_Field_multiply_195 : decode prog_3_method_8_code 195 = .ok (.lstore 73, 2) := by decide +kernel
theorem d_Field_multiply_197 : decode prog_3_method_8_code 197 = .ok (.lconst 0, 1) := by decide +kernel
theorem d_Field_multiply_198 : decode prog_3_method_8_code 198 = .ok (.lstore 75, 2) := by decide +kernel
theorem d_Field_multiply_200 : decode prog_3_method_8_code 200 = .ok (.lconst 0, 1) := by decide +kernel
theorem d_Field_multiply_201 : decode prog_3_method_8_code 201 = .ok (.lstore 77, 2) := by decide +kernel
theorem d_Field_multiply_203 : decode prog_3_method_8_code 203 = .ok (.lconst 0, 1) := by decide +kernel
theorem d_Field_multiply_204 : decode prog_3_method_8_code 204 = .ok (.lstore 79, 2) := by decide +kernel
theorem d_Field_multiply_206 : decode prog_3_method_8_code 206 = .ok (.lconst 0, 1) := by decide +kernel
theorem d_Field_multiply_207 : decode prog_3_method_8_code 207 = .ok (.lstore 81, 2) := by decide +kernel
theorem d_Field_multiply_209 : decode prog_3_method_8_code 209 = .ok (.lconst 0, 1) := by decide +kernel
theorem d_Field_multiply_210 : decode prog_3_method_8_code 210 = .ok (.lstore 83, 2) := by decide +kernel
theorem d_Field_multiply_212 : decode prog_3_method_8_code 212 = .ok (.lconst 0, 1) := by decide +kernel
theorem d_Field_multiply_213 : decode prog_3_method_8_code 213 = .ok (.lstore 85, 2) := by decide +kernel
theorem d_Field_multiply_215 : decode prog_3_method_8_code 215 = .ok (.iconst 0, 1) := by decide +kernel
theorem d_Field_multiply_216 : decode prog_3_method_8_code 216 = .ok (.istore 87, 2) := by decide +kernel
theorem d_Field_multiply_218 : decode prog_3_method_8_code 218 = .ok (.iload 87, 2) := by decide +kernel
theorem d_Field_multiply_220 : decode prog_3_method_8_code 220 = .ok (.bipush 14, 2) := by decide +kernel
theorem d_Field_multiply_222 : decode prog_3_method_8_code 222 = .ok (.if_icmp .ge 255, 3) := by decide +kernel
theorem d_Field_multiply_225 : decode prog_3_method_8_code 225 = .ok (.aload_n 3, 1) := by decide +kernel
theorem d_Field_multiply_226 : decode prog_3_method_8_code 226 = .ok (.iload 87, 2) := by decide +kernel
theorem d_Field_multiply_228 : decode prog_3_method_8_code 228 = .ok (.laload, 1) := by decide +kernel
theorem d_Field_multiply_229 : decode prog_3_method_8_code 229 = .ok (.lstore 88, 2) := by decide +kernel
theorem d_Field_multiply_231 : decode prog_3_method_8_code 231 = .ok (.lload 61, 2) := by decide +kernel
theorem d_Field_multiply_233 : decode prog_3_method_8_code 233 = .ok (.lload 88, 2) := by decide +kernel
theorem d_Field_multiply_235 : decode prog_3_method_8_code 235 = .ok (.lload 4, 2) := by decide +kernel
theorem d_Field_multiply_237 : decode prog_3_method_8_code 237 = .ok (.lmul, 1) := by decide +kernel
theorem d_Field_multiply_238 : decode prog_3_method_8_code 238 = .ok (.ladd, 1) := by decide +kernel
theorem d_Field_multiply_239 : decode prog_3_method_8_code 239 = .ok (.lstore 61, 2) := by decide +kernel
theorem d_Field_multiply_241 : decode prog_3_method_8_code 241 = .ok (.lload 61, 2) := by decide +kernel
theorem d_Field_multiply_243 : decode prog_3_method_8_code 243 = .ok (.aload_n 0, 1) := by decide +kernel
theorem d_Field_multiply_244 : decode prog_3_method_8_code 244 = .ok (.getfield 38, 3) := by decide +kernel
theorem d_Field_multiply_247 : decode prog_3_method_8_code 247 = .ok (.lmul, 1) := by decide +kernel
theorem d_Field_multiply_248 : decode prog_3_method_8_code 248 = .ok (.ldc2_w 59, 3) := by decide +kernel
theorem d_Field_multiply_251 : decode prog_3_method_8_code 251 = .ok (.land, 1) := by decide +kernel
theorem d_Field_multiply_252 : decode prog_3_method_8_code 252 = .ok (.lstore 90, 2) := by decide +kernel
theorem d_Field_multiply_254 : decode prog_3_method_8_code 254 = .ok (.lload 61, 2) := by decide +kernel
theorem d_Field_multiply_256 : decode prog_3_method_8_code 256 = .ok (.lload 90, 2) := by decide +kernel
theorem d_Field_multiply_258 : decode prog_3_method_8_code 258 = .ok (.lload 33, 2) := by decide +kernel
theorem d_Field_multiply_260 : decode prog_3_method_8_code 260 = .ok (.lmul, 1) := by decide +kernel
theorem d_Field_multiply_261 : decode prog_3_method_8_code 261 = .ok (.ladd, 1) := by decide +kernel
theorem d_Field_multiply_262 : decode prog_3_method_8_code 262 = .ok (.bipush 28, 2) := by decide +kernel
theorem d_Field_multiply_264 : decode prog_3_method_8_code 264 = .ok (.lshr, 1) := by decide +kernel
theorem d_Field_multiply_265 : decode prog_3_method_8_code 265 = .ok (.lload 63, 2) := by decide +kernel
theorem d_Field_multiply_267 : decode prog_3_method_8_code 267 = .ok (.ladd, 1) := by decide +kernel
theorem d_Field_multiply_268 : decode prog_3_method_8_code 268 = .ok (.lload 88, 2) := by decide +kernel
theorem d_Field_multiply_270 : decode prog_3_method_8_code 270 = .ok (.lload 6, 2) := by decide +kernel
theorem d_Field_multiply_272 : decode prog_3_method_8_code 272 = .ok (.lmul, 1) := by decide +kernel
theorem d_Field_multiply_273 : decode prog_3_method_8_code 273 = .ok (.ladd, 1) := by decide +kernel
theorem d_Field_multiply_274 : decode prog_3_method_8_code 274 = .ok (.lload 90, 2) := by decide +kernel
theorem d_Field_multiply_276 : decode prog_3_method_8_code 276 = .ok (.lload 35, 2) := by decide +kernel
theorem d_Field_multiply_278 : decode prog_3_method_8_code 278 = .ok (.lmul, 1) := by decide +kernel
theorem d_Field_multiply_279 : decode prog_3_method_8_code 279 = .ok (.ladd, 1) := by decide +kernel
theorem d_Field_multiply_280 : decode prog_3_method_8_code 280 = .ok (.lstore 61, 2) := by decide +kernel
theorem d_Field_multiply_282 : decode prog_3_method_8_code 282 = .ok (.lload 65, 2) := by decide +kernel
theorem d_Field_multiply_284 : decode prog_3_method_8_code 284 = .ok (.lload 88, 2) := by decide +kernel
theorem d_Field_multiply_286 : decode prog_3_method_8_code 286 = .ok (.lload 8, 2) := by decide +kernel
theorem d_Field_multiply_288 : decode prog_3_method_8_code 288 = .ok (.lmul, 1) := by decide +kernel
theorem d_Field_multiply_289 : decode prog_3_method_8_code 289 = .ok (.ladd, 1) := by decide +kernel
theorem d_Field_multiply_290 : decode prog_3_method_8_code 290 = .ok (.lload 90, 2) := by decide +kernel
theorem d_Field_multiply_292 : decode prog_3_method_8_code 292 = .ok (.lload 37, 2) := by decide +kernel
theorem d_Field_multiply_294 : decode prog_3_method_8_code 294 = .ok (.lmul, 1) := by decide +kernel
theorem d_Field_multiply_295 : decode prog_3_method_8_code 295 = .ok (.ladd, 1) := by decide +kernel
theorem d_Field_multiply_296 : decode prog_3_method_8_code 296 = .ok (.lstore 63, 2) := by decide +kernel
theorem d_Field_multiply_298 : decode prog_3_method_8_code 298 = .ok (.lload 67, 2) := by decide +kernel
theorem d_Field_multiply_300 : decode prog_3_method_8_code 300 = .ok (.lload 88, 2) := by decide +kernel
theorem d_Field_multiply_302 : decode prog_3_method_8_code 302 = .ok (.lload 10, 2) := by decide +kernel
theorem d_Field_multiply_304 : decode prog_3_method_8_code 304 = .ok (.lmul, 1) := by decide +kernel
theorem d_Field_multiply_305 : decode prog_3_method_8_code 305 = .ok (.ladd, 1) := by decide +kernel
theorem d_Field_multiply_306 : decode prog_3_method_8_code 306 = .ok (.lload 90, 2) := by decide +kernel
theorem d_Field_multiply_308 : decode prog_3_method_8_code 308 = .ok (.lload 39, 2) := by decide +kernel
theorem d_Field_multiply_310 : decode prog_3_method_8_code 310 = .ok (.lmul, 1) := by decide +kernel
theorem d_Field_multiply_311 : decode prog_3_method_8_code 311 = .ok (.ladd, 1) := by decide +kernel
theorem d_Field_multiply_312 : decode prog_3_method_8_code 312 = .ok (.lstore 65, 2) := by decide +kernel
theorem d_Field_multiply_314 : decode prog_3_method_8_code 314 = .ok (.lload 69, 2) := by decide +kernel
theorem d_Field_multiply_316 : decode prog_3_method_8_code 316 = .ok (.lload 88, 2) := by decide +kernel
theorem d_Field_multiply_318 : decode prog_3_method_8_code 318 = .ok (.lload 12, 2) := by decide +kernel
theorem d_Field_multiply_320 : decode prog_3_method_8_code 320 = .ok (.lmul, 1) := by decide +kernel
theorem d_Field_multiply_321 : decode prog_3_method_8_code 321 = .ok (.ladd, 1) := by decide +kernel
theorem d_Field_multiply_322 : decode prog_3_method_8_code 322 = .ok (.lload 90, 2) := by decide +kernel
theorem d_Field_multiply_324 : decode prog_3_method_8_code 324 = .ok (.lload 41, 2) := by decide +kernel
theorem d_Field_multiply_326 : decode prog_3_method_8_code 326 = .ok (.lmul, 1) := by decide +kernel
theorem d_Field_multiply_327 : decode prog_3_method_8_code 327 = .ok (.ladd, 1) := by decide +kernel
theorem d_Field_multiply_328 : decode prog_3_method_8_code 328 = .ok (.lstore 67, 2) := by decide +kernel
theorem d_Field_multiply_330 : decode prog_3_method_8_code 330 = .ok (.lload 71, 2) := by decide +kernel
theorem d_Field_multiply_332 : decode prog_3_method_8_code 332 = .ok (.lload 88, 2) := by decide +kernel
theorem d_Field_multiply_334 : decode prog_3_method_8_code 334 = .ok (.lload 14, 2) := by decide +kernel
theorem d_Field_multiply_336 : decode prog_3_method_8_code 336 = .ok (.lmul, 1) := by decide +kernel
theorem d_Field_multiply_337 : decode prog_3_method_8_code 337 = .ok (.ladd, 1) := by decide +kernel
theorem d_Field_multiply_338 : decode prog_3_method_8_code 338 = .ok (.lload 90, 2) := by decide +kernel
theorem d_Field_multiply_340 : decode prog_3_method_8_code 340 = .ok (.lload 43, 2) := by decide +kernel
theorem d_Field_multiply_342 : decode prog_3_method_8_code 342 = .ok (.lmul, 1) := by decide +kernel
theorem d_Field_multiply_343 : decode prog_3_method_8_code 343 = .ok (.ladd, 1) := by decide +kernel
theorem d_Field_multiply_344 : decode prog_3_method_8_code 344 = .ok (.lstore 69, 2) := by decide +kernel
theorem d_Field_multiply_346 : decode prog_3_method_8_code 346 = .ok (.lload 73, 2) := by decide +kernel
theorem d_Field_multiply_348 : decode prog_3_method_8_code 348 = .ok (.lload 88, 2) := by decide +kernel
theorem d_Field_multiply_350 : decode prog_3_method_8_code 350 = .ok (.lload 16, 2) := by decide +kernel
theorem d_Field_multiply_352 : decode prog_3_method_8_code 352 = .ok (.lmul, 1) := by decide +kernel
theorem d_Field_multiply_353 : decode prog_3_method_8_code 353 = .ok (.ladd, 1) := by decide +kernel
theorem d_Field_multiply_354 : decode prog_3_method_8_code 354 = .ok (.lload 90, 2) := by decide +kernel
theorem d_Field_multiply_356 : decode prog_3_method_8_code 356 = .ok (.lload 45, 2) := by decide +kernel
theorem d_Field_multiply_358 : decode prog_3_method_8_code 358 = .ok (.lmul, 1) := by decide +kernel
theorem d_Field_multiply_359 : decode prog_3_method_8_code 359 = .ok (.ladd, 1) := by decide +kernel
theorem d_Field_multiply_360 : decode prog_3_method_8_code 360 = .ok (.lstore 71, 2) := by decide +kernel
theorem d_Field_multiply_362 : decode prog_3_method_8_code 362 = .ok (.lload 75, 2) := by decide +kernel
theorem d_Field_multiply_364 : decode prog_3_method_8_code 364 = .ok (.lload 88, 2) := by decide +kernel
theorem d_Field_multiply_366 : decode prog_3_method_8_code 366 = .ok (.lload 18, 2) := by decide +kernel
theorem d_Field_multiply_368 : decode prog_3_method_8_code 368 = .ok (.lmul, 1) := by decide +kernel
theorem d_Field_multiply_369 : decode prog_3_method_8_code 369 = .ok (.ladd, 1) := by decide +kernel
theorem d_Field_multiply_370 : decode prog_3_method_8_code 370 = .ok (.lload 90, 2) := by decide +kernel
theorem d_Field_multiply_372 : decode prog_3_method_8_code 372 = .ok (.lload 47, 2) := by decide +kernel
theorem d_Field_multiply_374 : decode prog_3_method_8_code 374 = .ok (.lmul, 1) := by decide +kernel
theorem d_Field_multiply_375 : decode prog_3_method_8_code 375 = .ok (.ladd, 1) := by decide +kernel
