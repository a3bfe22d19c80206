abbrev y_Curve_twice : MethodName := ⟨"KateDesk$Curve", "twice", "(LKateDesk$Point;LKateDesk$Point;)V"⟩
theorem hd_Curve_twice : y_Curve_twice.cls ≠ "java/lang/invoke/MethodHandle" ∧ y_Curve_twice.cls ≠ "java/lang/invoke/VarHandle" ∧ (parseMethodDescriptor y_Curve_twice.desc).map (fun d => d.parameters.length) = some 2 := by decide +kernel
theorem d_Curve_twice_0 : decode prog_2_method_5_code 0 = .ok (.aload_n 0, 1) := by decide +kernel
theorem d_Curve_twice_1 : decode prog_2_method_5_code 1 = .ok (.getfield 39, 3) := by decide +kernel
theorem d_Curve_twice_4 : decode prog_2_method_5_code 4 = .ok (.aload_n 0, 1) := by decide +kernel
theorem d_Curve_twice_5 : decode prog_2_method_5_code 5 = .ok (.getfield 15, 3) := by decide +kernel
theorem d_Curve_twice_8 : decode prog_2_method_5_code 8 = .ok (.aload_n 2, 1) := by decide +kernel
theorem d_Curve_twice_9 : decode prog_2_method_5_code 9 = .ok (.getfield 43, 3) := by decide +kernel
theorem d_Curve_twice_12 : decode prog_2_method_5_code 12 = .ok (.aload_n 2, 1) := by decide +kernel
theorem d_Curve_twice_13 : decode prog_2_method_5_code 13 = .ok (.getfield 43, 3) := by decide +kernel
theorem d_Curve_twice_16 : decode prog_2_method_5_code 16 = .ok (.invokevirtual 57, 3) := by decide +kernel
theorem d_Curve_twice_19 : decode prog_2_method_5_code 19 = .ok (.aload_n 0, 1) := by decide +kernel
theorem d_Curve_twice_20 : decode prog_2_method_5_code 20 = .ok (.getfield 39, 3) := by decide +kernel
theorem d_Curve_twice_23 : decode prog_2_method_5_code 23 = .ok (.aload_n 0, 1) := by decide +kernel
theorem d_Curve_twice_24 : decode prog_2_method_5_code 24 = .ok (.getfield 18, 3) := by decide +kernel
theorem d_Curve_twice_27 : decode prog_2_method_5_code 27 = .ok (.aload_n 2, 1) := by decide +kernel
theorem d_Curve_twice_28 : decode prog_2_method_5_code 28 = .ok (.getfield 61, 3) := by decide +kernel
theorem d_Curve_twice_31 : decode prog_2_method_5_code 31 = .ok (.aload_n 2, 1) := by decide +kernel
theorem d_Curve_twice_32 : decode prog_2_method_5_code 32 = .ok (.getfield 61, 3) := by decide +kernel
theorem d_Curve_twice_35 : decode prog_2_method_5_code 35 = .ok (.invokevirtual 57, 3) := by decide +kernel
theorem d_Curve_twice_38 : decode prog_2_method_5_code 38 = .ok (.aload_n 0, 1) := by decide +kernel
theorem d_Curve_twice_39 : decode prog_2_method_5_code 39 = .ok (.getfield 39, 3) := by decide +kernel
theorem d_Curve_twice_42 : decode prog_2_method_5_code 42 = .ok (.aload_n 0, 1) := by decide +kernel
theorem d_Curve_twice_43 : decode prog_2_method_5_code 43 = .ok (.getfield 21, 3) := by decide +kernel
theorem d_Curve_twice_46 : decode prog_2_method_5_code 46 = .ok (.aload_n 2, 1) := by decide +kernel
theorem d_Curve_twice_47 : decode prog_2_method_5_code 47 = .ok (.getfield 54, 3) := by decide +kernel
theorem d_Curve_twice_50 : decode prog_2_method_5_code 50 = .ok (.aload_n 2, 1) := by decide +kernel
theorem d_Curve_twice_51 : decode prog_2_method_5_code 51 = .ok (.getfield 43, 3) := by decide +kernel
theorem d_Curve_twice_54 : decode prog_2_method_5_code 54 = .ok (.invokevirtual 57, 3) := by decide +kernel
theorem d_Curve_twice_57 : decode prog_2_method_5_code 57 = .ok (.aload_n 0, 1) := by decide +kernel
theorem d_Curve_twice_58 : decode prog_2_method_5_code 58 = .ok (.getfield 39, 3) := by decide +kernel
theorem d_Curve_twice_61 : decode prog_2_method_5_code 61 = .ok (.aload_n 0, 1) := by decide +kernel
theorem d_Curve_twice_62 : decode prog_2_method_5_code 62 = .ok (.getfield 24, 3) := by decide +kernel
theorem d_Curve_twice_65 : decode prog_2_method_5_code 65 = .ok (.aload_n 2, 1) := by decide +kernel
theorem d_Curve_twice_66 : decode prog_2_method_5_code 66 = .ok (.getfield 43, 3) := by decide +kernel
theorem d_Curve_twice_69 : decode prog_2_method_5_code 69 = .ok (.aload_n 2, 1) := by decide +kernel
theorem d_Curve_twice_70 : decode prog_2_method_5_code 70 = .ok (.getfield 61, 3) := by decide +kernel
theorem d_Curve_twice_73 : decode prog_2_method_5_code 73 = .ok (.invokevirtual 57, 3) := by decide +kernel
theorem d_Curve_twice_76 : decode prog_2_method_5_code 76 = .ok (.aload_n 0, 1) := by decide +kernel
theorem d_Curve_twice_77 : decode prog_2_method_5_code 77 = .ok (.aload_n 0, 1) := by decide +kernel
theorem d_Curve_twice_78 : decode prog_2_method_5_code 78 = .ok (.getfield 18, 3) := by decide +kernel
theorem d_Curve_twice_81 : decode prog_2_method_5_code 81 = .ok (.aload_n 0, 1) := by decide +kernel
theorem d_Curve_twice_82 : decode prog_2_method_5_code 82 = .ok (.getfield 18, 3) := by decide +kernel
theorem d_Curve_twice_85 : decode prog_2_method_5_code 85 = .ok (.invokevirtual 71, 3) := by decide +kernel
theorem d_Curve_twice_88 : decode prog_2_method_5_code 88 = .ok (.aload_n 0, 1) := by decide +kernel
theorem d_Curve_twice_89 : decode prog_2_method_5_code 89 = .ok (.getfield 39, 3) := by decide +kernel
theorem d_Curve_twice_92 : decode prog_2_method_5_code 92 = .ok (.aload_n 0, 1) := by decide +kernel
theorem d_Curve_twice_93 : decode prog_2_method_5_code 93 = .ok (.getfield 33, 3) := by decide +kernel
theorem d_Curve_twice_96 : decode prog_2_method_5_code 96 = .ok (.aload_n 0, 1) := by decide +kernel
theorem d_Curve_twice_97 : decode prog_2_method_5_code 97 = .ok (.getfield 15, 3) := by decide +kernel
theorem d_Curve_twice_100 : decode prog_2_method_5_code 100 = .ok (.aload_n 0, 1) := by decide +kernel
theorem d_Curve_twice_101 : decode prog_2_method_5_code 101 = .ok (.getfield 18, 3) := by decide +kernel
theorem d_Curve_twice_104 : decode prog_2_method_5_code 104 = .ok (.invokevirtual 68, 3) := by decide +kernel
theorem d_Curve_twice_107 : decode prog_2_method_5_code 107 = .ok (.aload_n 0, 1) := by decide +kernel
theorem d_Curve_twice_108 : decode prog_2_method_5_code 108 = .ok (.getfield 39, 3) := by decide +kernel
theorem d_Curve_twice_111 : decode prog_2_method_5_code 111 = .ok (.aload_n 0, 1) := by decide +kernel
theorem d_Curve_twice_112 : decode prog_2_method_5_code 112 = .ok (.getfield 30, 3) := by decide +kernel
theorem d_Curve_twice_115 : decode prog_2_method_5_code 115 = .ok (.aload_n 0, 1) := by decide +kernel
theorem d_Curve_twice_116 : decode prog_2_method_5_code 116 = .ok (.getfield 18, 3) := by decide +kernel
theorem d_Curve_twice_119 : decode prog_2_method_5_code 119 = .ok (.aload_n 0, 1) := by decide +kernel
theorem d_Curve_twice_120 : decode prog_2_method_5_code 120 = .ok (.getfield 18, 3) := by decide +kernel
theorem d_Curve_twice_123 : decode prog_2_method_5_code 123 = .ok (.invokevirtual 68, 3) := by decide +kernel
theorem d_Curve_twice_126 : decode prog_2_method_5_code 126 = .ok (.aload_n 0, 1) := by decide +kernel
theorem d_Curve_twice_127 : decode prog_2_method_5_code 127 = .ok (.getfield 39, 3) := by decide +kernel
theorem d_Curve_twice_130 : decode prog_2_method_5_code 130 = .ok (.aload_n 0, 1) := by decide +kernel
theorem d_Curve_twice_131 : decode prog_2_method_5_code 131 = .ok (.getfield 30, 3) := by decide +kernel
theorem d_Curve_twice_134 : decode prog_2_method_5_code 134 = .ok (.aload_n 0, 1) := by decide +kernel
theorem d_Curve_twice_135 : decode prog_2_method_5_code 135 = .ok (.getfield 30, 3) := by decide +kernel
theorem d_Curve_twice_138 : decode prog_2_method_5_code 138 = .ok (.aload_n 0, 1) := by decide +kernel
theorem d_Curve_twice_139 : decode prog_2_method_5_code 139 = .ok (.getfield 18, 3) := by decide +kernel
theorem d_Curve_twice_142 : decode prog_2_method_5_code 142 = .ok (.invokevirtual 68, 3) := by decide +kernel
theorem d_Curve_twice_145 : decode prog_2_method_5_code 145 = .ok (.aload_n 0, 1) := by decide +kernel
theorem d_Curve_twice_146 : decode prog_2_method_5_code 146 = .ok (.getfield 39, 3) := by decide +kernel
theorem d_Curve_twice_149 : decode prog_2_method_5_code 149 = .ok (.aload_n 0, 1) := by decide +kernel
theorem d_Curve_twice_150 : decode prog_2_method_5_code 150 = .ok (.getfield 30, 3) := by decide +kernel
theorem d_Curve_twice_153 : decode prog_2_method_5_code 153 = .ok (.aload_n 0, 1) := by decide +kernel
theorem d_Curve_twice_154 : decode prog_2_method_5_code 154 = .ok (.getfield 15, 3) := by decide +kernel
theorem d_Curve_twice_157 : decode prog_2_method_5_code 157 = .ok (.aload_n 0, 1) := by decide +kernel
theorem d_Curve_twice_158 : decode prog_2_method_5_code 158 = .ok (.getfield 30, 3) := by decide +kernel
theorem d_Curve_twice_161 : decode prog_2_method_5_code 161 = .ok (.invokevirtual 74, 3) := by decide +kernel
theorem d_Curve_twice_164 : decode prog_2_method_5_code 164 = .ok (.aload_n 0, 1) := by decide +kernel
theorem d_Curve_twice_165 : decode prog_2_method_5_code 165 = .ok (.getfield 39, 3) := by decide +kernel
theorem d_Curve_twice_168 : decode prog_2_method_5_code 168 = .ok (.aload_n 0, 1) := by decide +kernel
theorem d_Curve_twice_169 : decode prog_2_method_5_code 169 = .ok (.getfield 15, 3) := by decide +kernel
theorem d_Curve_twice_172 : decode prog_2_method_5_code 172 = .ok (.aload_n 0, 1) := by decide +kernel
theorem d_Curve_twice_173 : decode prog_2_method_5_code 173 = .ok (.getfield 15, 3) := by decide +kernel
theorem d_Curve_twice_176 : decode prog_2_method_5_code 176 = .ok (.aload_n 0, 1) := by decide +kernel
theorem d_Curve_twice_177 : decode prog_2_method_5_code 177 = .ok (.getfield 15, 3) := by decide +kernel
theorem d_Curve_twice_180 : decode prog_2_method_5_code 180 = .ok (.invokevirtual 68, 3) := by decide +kernel
theorem d_Curve_twice_183 : decode prog_2_method_5_code 183 = .ok (.aload_n 0, 1) := by decide +kernel
theorem d_Curve_twice_184 : decode prog_2_method_5_code 184 = .ok (.getfield 39, 3) := by decide +kernel
theorem d_Curve_twice_187 : decode prog_2_method_5_code 187 = .ok (.aload_n 0, 1) := by decide +kernel
theorem d_Curve_twice_188 : decode prog_2_method_5_code 188 = .ok (.getfield 15, 3) := by decide +kernel
theorem d_Curve_twice_191 : decode prog_2_method_5_code 191 = .ok (.aload_n 0, 1) := by decide +kernel
theorem d_Curve_twice_192 : decode prog_2_method_5_code 192 = .ok (.getfield 15, 3) := by decide +kernel
theorem d_Curve_twice_195 : decode prog_2_method_5_code 195 = .ok (.aload_n 0, 1) := by decide +kernel
theorem d_Curve_twice_196 : decode prog_2_method_5_code 196 = .ok (.getfield 15, 3) := by decide +kernel
theorem d_Curve_twice_199 : decode prog_2_method_5_code 199 = .ok (.invokevirtual 68, 3) := by decide +kernel
theorem d_Curve_twice_202 : decode prog_2_method_5_code 202 = .ok (.aload_n 0, 1) := by decide +kernel
theorem d_Curve_twice_203 : decode prog_2_method_5_code 203 = .ok (.getfield 39, 3) := by decide +kernel
theorem d_Curve_twice_206 : decode prog_2_method_5_code 206 = .ok (.aload_n 0, 1) := by decide +kernel
theorem d_Curve_twice_207 : decode prog_2_method_5_code 207 = .ok (.getfield 15, 3) := by decide +kernel
theorem d_Curve_twice_210 : decode prog_2_method_5_code 210 = .ok (.aload_n 0, 1) := by decide +kernel
theorem d_Curve_twice_211 : decode prog_2_method_5_code 211 = .ok (.getfield 15, 3) := by decide +kernel
theorem d_Curve_twice_214 : decode prog_2_method_5_code 214 = .ok (.aload_n 0, 1) := by decide +kernel
theorem d_Curve_twice_215 : decode prog_2_method_5_code 215 = .ok (.getfield 15, 3) := by decide +kernel
theorem d_Curve_twice_218 : decode prog_2_method_5_code 218 = .ok (.invokevirtual 68, 3) := by decide +kernel
theorem d_Curve_twice_221 : decode prog_2_method_5_code 221 = .ok (.aload_n 0, 1) := by decide +kernel
theorem d_Curve_twice_222 : decode prog_2_method_5_code 222 = .ok (.getfield 39, 3) := by decide +kernel
theorem d_Curve_twice_225 : decode prog_2_method_5_code 225 = .ok (.aload_n 1, 1) := by decide +kernel
theorem d_Curve_twice_226 : decode prog_2_method_5_code 226 = .ok (.getfield 61, 3) := by decide +kernel
theorem d_Curve_twice_229 : decode prog_2_method_5_code 229 = .ok (.aload_n 0, 1) := by decide +kernel
theorem d_Curve_twice_230 : decode prog_2_method_5_code 230 = .ok (.getfield 15, 3) := by decide +kernel
theorem d_Curve_twice_233 : decode prog_2_method_5_code 233 = .ok (.aload_n 0, 1) := by decide +kernel
theorem d_Curve_twice_234 : decode prog_2_method_5_code 234 = .ok (.getfield 24, 3) := by decide +kernel
theorem d_Curve_twice_237 : decode prog_2_method_5_code 237 = .ok (.invokevirtual 57, 3) := by decide +kernel
theorem d_Curve_twice_240 : decode prog_2_method_5_code 240 = .ok (.aload_n 0, 1) := by decide +kernel
theorem d_Curve_twice_241 : decode prog_2_method_5_code 241 = .ok (.getfield 39, 3) := by decide +kernel
theorem d_Curve_twice_244 : decode prog_2_method_5_code 244 = .ok (.aload_n 0, 1) := by decide +kernel
theorem d_Curve_twice_245 : decode prog_2_method_5_code 245 = .ok (.getfield 15, 3) := by decide +kernel
theorem d_Curve_twice_248 : decode prog_2_method_5_code 248 = .ok (.aload_n 0, 1) := by decide +kernel
theorem d_Curve_twice_249 : decode prog_2_method_5_code 249 = .ok (.getfield 15, 3) := by decide +kernel
theorem d_Curve_twice_252 : decode prog_2_method_5_code 252 = .ok (.aload_n 0, 1) := by decide +kernel
theorem d_Curve_twice_253 : decode prog_2_method_5_code 253 = .ok (.getfield 18, 3) := by decide +kernel
theorem d_Curve_twice_256 : decode prog_2_method_5_code 256 = .ok (.invokevirtual 57, 3) := by decide +kernel
theorem d_Curve_twice_259 : decode prog_2_method_5_code 259 = .ok (.aload_n 0, 1) := by decide +kernel
theorem d_Curve_twice_260 : decode prog_2_method_5_code 260 = .ok (.getfield 39, 3) := by decide +kernel
theorem d_Curve_twice_263 : decode prog_2_method_5_code 263 = .ok (.aload_n 0, 1) := by decide +kernel
theorem d_Curve_twice_264 : decode prog_2_method_5_code 264 = .ok (.getfield 33, 3) := by decide +kernel
theorem d_Curve_twice_267 : decode prog_2_method_5_code 267 = .ok (.aload_n 0, 1) := by decide +kernel
theorem d_Curve_twice_268 : decode prog_2_method_5_code 268 = .ok (.getfield 30, 3) := by decide +kernel
theorem d_Curve_twice_271 : decode prog_2_method_5_code 271 = .ok (.aload_n 0, 1) := by decide +kernel
theorem d_Curve_twice_272 : decode prog_2_method_5_code 272 = .ok (.getfield 33, 3) := by decide +kernel
theorem d_Curve_twice_275 : decode prog_2_method_5_code 275 = .ok (.invokevirtual 57, 3) := by decide +kernel
theorem d_Curve_twice_278 : decode prog_2_method_5_code 278 = .ok (.aload_n 0, 1) := by decide +kernel
theorem d_Curve_twice_279 : decode prog_2_method_5_code 279 = .ok (.getfield 39, 3) := by decide +kernel
theorem d_Curve_twice_282 : decode prog_2_method_5_code 282 = .ok (.aload_n 1, 1) := by decide +kernel
theorem d_Curve_twice_283 : decode prog_2_method_5_code 283 = .ok (.getfield 43, 3) := by decide +kernel
theorem d_Curve_twice_286 : decode prog_2_method_5_code 286 = .ok (.aload_n 0, 1) := by decide +kernel
theorem d_Curve_twice_287 : decode prog_2_method_5_code 287 = .ok (.getfield 15, 3) := by decide +kernel
theorem d_Curve_twice_290 : decode prog_2_method_5_code 290 = .ok (.aload_n 0, 1) := by decide +kernel
theorem d_Curve_twice_291 : decode prog_2_method_5_code 291 = .ok (.getfield 33, 3) := by decide +kernel
theorem d_Curve_twice_294 : decode prog_2_method_5_code 294 = .ok (.invokevirtual 68, 3) := by decide +kernel
theorem d_Curve_twice_297 : decode prog_2_method_5_code 297 = .ok (.aload_n 0, 1) := by decide +kernel
theorem d_Curve_twice_298 : decode prog_2_method_5_code 298 = .ok (.getfield 39, 3) := by decide +kernel
theorem d_Curve_twice_301 : decode prog_2_method_5_code 301 = .ok (.aload_n 0, 1) := by decide +kernel
theorem d_Curve_twice_302 : decode prog_2_method_5_code 302 = .ok (.getfield 30, 3) := by decide +kernel
theorem d_Curve_twice_305 : decode prog_2_method_5_code 305 = .ok (.aload_n 0, 1) := by decide +kernel
theorem d_Curve_twice_306 : decode prog_2_method_5_code 306 = .ok (.getfield 30, 3) := by decide +kernel
theorem d_Curve_twice_309 : decode prog_2_method_5_code 309 = .ok (.aload_n 0, 1) := by decide +kernel
theorem d_Curve_twice_310 : decode prog_2_method_5_code 310 = .ok (.getfield 21, 3) := by decide +kernel
theorem d_Curve_twice_313 : decode prog_2_method_5_code 313 = .ok (.invokevirtual 57, 3) := by decide +kernel
theorem d_Curve_twice_316 : decode prog_2_method_5_code 316 = .ok (.aload_n 0, 1) := by decide +kernel
theorem d_Curve_twice_317 : decode prog_2_method_5_code 317 = .ok (.getfield 39, 3) := by decide +kernel
theorem d_Curve_twice_320 : decode prog_2_method_5_code 320 = .ok (.aload_n 1, 1) := by decide +kernel
theorem d_Curve_twice_321 : decode prog_2_method_5_code 321 = .ok (.getfield 54, 3) := by decide +kernel
theorem d_Curve_twice_324 : decode prog_2_method_5_code 324 = .ok (.aload_n 0, 1) := by decide +kernel
theorem d_Curve_twice_325 : decode prog_2_method_5_code 325 = .ok (.getfield 30, 3) := by decide +kernel
theorem d_Curve_twice_328 : decode prog_2_method_5_code 328 = .ok (.aload_n 0, 1) := by decide +kernel
theorem d_Curve_twice_329 : decode prog_2_method_5_code 329 = .ok (.getfield 30, 3) := by decide +kernel
theorem d_Curve_twice_332 : decode prog_2_method_5_code 332 = .ok (.invokevirtual 68, 3) := by decide +kernel
theorem d_Curve_twice_335 : decode prog_2_method_5_code 335 = .ok (.return_, 1) := by decide +kernel
set_option maxHeartbeats 4000000 in
set_option maxRecDepth 100000 in
/-- a point twice -/
theorem c_Curve_twice (l : Launch) (g : WG) (n0 : Nat → Prop) (o : Nat) (fo : Nat) (F : Nat → Nat) (mi : Int64) (X : Nat → Nat) (t t1 t2 t3 : Nat) (a a1 a2 a3 : Nat) : Ctr l y_Curve_twice (.code y_Curve_twice prog_2_method_5_code 3 none) 3 135 0 0 n0 g [.ref o, .ref t, .ref a] (fun H => CV g n0 H o fo F mi X ∧ PT g n0 H t t1 t2 t3 ∧ PT g n0 H a a1 a2 a3) (QV (fun H H' => KJ g (fun q => n0 q) H H')) := by
  refine ctr_mk l (lv0 := [(0, .ref o), (1, .ref t), (2, .ref a)]) (by decide) (Nat.le_of_ble_eq_true rfl) rfl ?_
  intro p e s m below meth c ls E hr hlk hnm hl hP
  have hx := E.1
  have hb := E.2.1
  have hK := E.2.2.2.2.2
  have hF : ∀ q ∈ ([] : List Loc), n0 q.base := fun q hq => absurd hq List.not_mem_nil
  obtain ⟨hcv, h_t, h_a⟩ := hP
  have hk : KJ g (fun q => n0 q) s.heap s.heap := KJ.rf
  refine lv_aload_n hx hb d_Curve_twice_0 rfl (lv_at hl 0 rfl) ?_
  refine q_get (C := "KateDesk$Curve") (T := T_Curve) (N := 10) (ci := 0) E ((hk.cv hK hcv).1) in_Curve rfl 0 (by decide) w_205 rfl rfl d_Curve_twice_1 ?_
  refine lv_aload_n hx hb d_Curve_twice_4 rfl (lv_at hl 0 rfl) ?_
  refine q_get (C := "KateDesk$Curve") (T := T_Curve) (N := 10) (ci := 0) E ((hk.cv hK hcv).1) in_Curve rfl 2 (by decide) w_207 rfl rfl d_Curve_twice_5 ?_
  refine lv_aload_n hx hb d_Curve_twice_8 rfl (lv_at hl 2 rfl) ?_
  refine q_get (C := "KateDesk$Point") (T := T_Point) (N := 3) (ci := 2) E ((hk.pt hK h_a).1) in_Point rfl 1 (by decide) w_50 rfl rfl d_Curve_twice_9 ?_
  refine lv_aload_n hx hb d_Curve_twice_12 rfl (lv_at hl 2 rfl) ?_
  refine q_get (C := "KateDesk$Point") (T := T_Point) (N := 3) (ci := 2) E ((hk.pt hK h_a).1) in_Point rfl 1 (by decide) w_50 rfl rfl d_Curve_twice_13 ?_
  refine q_cV (rest := []) E (c_Field_multiply l g n0 fo (X 1) a2 a2 F mi) w_165 w_4 w_652 w_163 w_164 hd_Field_multiply rfl ⟨by decide, by decide⟩ (OB.recv E.2.2.2.2.2 (by rfl) (((hk.cv hK hcv).2.1).1)) (⟨(hk.cv hK hcv).2.1, (hk.cv hK hcv).2.2 1 (by decide), (hk.pt hK h_a).2.2.1, (hk.pt hK h_a).2.2.1⟩) hF hl.1 rfl (Nat.le_of_ble_eq_true rfl) d_Curve_twice_16 ⟨by decide, by decide⟩ (qv (fun H1 locs hq hF => ?_))
  have hk := hk.tr (hq.w1 ((hk.cv hK hcv).2.2 1 (by decide)).1)
  refine lv_aload_n hx hb d_Curve_twice_19 rfl (lv_at hl 0 rfl) ?_
  refine q_get (C := "KateDesk$Curve") (T := T_Curve) (N := 10) (ci := 0) E ((hk.cv hK hcv).1) in_Curve rfl 0 (by decide) w_205 rfl rfl d_Curve_twice_20 ?_
  refine lv_aload_n hx hb d_Curve_twice_23 rfl (lv_at hl 0 rfl) ?_
  refine q_get (C := "KateDesk$Curve") (T := T_Curve) (N := 10) (ci := 0) E ((hk.cv hK hcv).1) in_Curve rfl 3 (by decide) w_208 rfl rfl d_Curve_twice_24 ?_
  refine lv_aload_n hx hb d_Curve_twice_27 rfl (lv_at hl 2 rfl) ?_
  refine q_get (C := "KateDesk$Point") (T := T_Point) (N := 3) (ci := 2) E ((hk.pt hK h_a).1) in_Point rfl 2 (by decide) w_54 rfl rfl d_Curve_twice_28 ?_
  refine lv_aload_n hx hb d_Curve_twice_31 rfl (lv_at hl 2 rfl) ?_
  refine q_get (C := "KateDesk$Point") (T := T_Point) (N := 3) (ci := 2) E ((hk.pt hK h_a).1) in_Point rfl 2 (by decide) w_54 rfl rfl d_Curve_twice_32 ?_
  refine q_cV (rest := []) E (c_Field_multiply l g n0 fo (X 2) a3 a3 F mi) w_165 w_4 w_652 w_163 w_164 hd_Field_multiply rfl ⟨by decide, by decide⟩ (OB.recv E.2.2.2.2.2 (by rfl) (((hk.cv hK hcv).2.1).1)) (⟨(hk.cv hK hcv).2.1, (hk.cv hK hcv).2.2 2 (by decide), (hk.pt hK h_a).2.2.2, (hk.pt hK h_a).2.2.2⟩) hF hl.1 rfl (Nat.le_of_ble_eq_true rfl) d_Curve_twice_35 ⟨by decide, by decide⟩ (qv (fun H2 locs hq hF => ?_))
  have hk := hk.tr (hq.w1 ((hk.cv hK hcv).2.2 2 (by decide)).1)
  refine lv_aload_n hx hb d_Curve_twice_38 rfl (lv_at hl 0 rfl) ?_
  refine q_get (C := "KateDesk$Curve") (T := T_Curve) (N := 10) (ci := 0) E ((hk.cv hK hcv).1) in_Curve rfl 0 (by decide) w_205 rfl rfl d_Curve_twice_39 ?_
  refine lv_aload_n hx hb d_Curve_twice_42 rfl (lv_at hl 0 rfl) ?_
  refine q_get (C := "KateDesk$Curve") (T := T_Curve) (N := 10) (ci := 0) E ((hk.cv hK hcv).1) in_Curve rfl 4 (by decide) w_209 rfl rfl d_Curve_twice_43 ?_
  refine lv_aload_n hx hb d_Curve_twice_46 rfl (lv_at hl 2 rfl) ?_
  refine q_get (C := "KateDesk$Point") (T := T_Point) (N := 3) (ci := 2) E ((hk.pt hK h_a).1) in_Point rfl 0 (by decide) w_46 rfl rfl d_Curve_twice_47 ?_
  refine lv_aload_n hx hb d_Curve_twice_50 rfl (lv_at hl 2 rfl) ?_
  refine q_get (C := "KateDesk$Point") (T := T_Point) (N := 3) (ci := 2) E ((hk.pt hK h_a).1) in_Point rfl 1 (by decide) w_50 rfl rfl d_Curve_twice_51 ?_
  refine q_cV (rest := []) E (c_Field_multiply l g n0 fo (X 3) a1 a2 F mi) w_165 w_4 w_652 w_163 w_164 hd_Field_multiply rfl ⟨by decide, by decide⟩ (OB.recv E.2.2.2.2.2 (by rfl) (((hk.cv hK hcv).2.1).1)) (⟨(hk.cv hK hcv).2.1, (hk.cv hK hcv).2.2 3 (by decide), (hk.pt hK h_a).2.1, (hk.pt hK h_a).2.2.1⟩) hF hl.1 rfl (Nat.le_of_ble_eq_true rfl) d_Curve_twice_54 ⟨by decide, by decide⟩ (qv (fun H3 locs hq hF => ?_))
  have hk := hk.tr (hq.w1 ((hk.cv hK hcv).2.2 3 (by decide)).1)
  refine lv_aload_n hx hb d_Curve_twice_57 rfl (lv_at hl 0 rfl) ?_
  refine q_get (C := "KateDesk$Curve") (T := T_Curve) (N := 10) (ci := 0) E ((hk.cv hK hcv).1) in_Curve rfl 0 (by decide) w_205 rfl rfl d_Curve_twice_58 ?_
  refine lv_aload_n hx hb d_Curve_twice_61 rfl (lv_at hl 0 rfl) ?_
  refine q_get (C := "KateDesk$Curve") (T := T_Curve) (N := 10) (ci := 0) E ((hk.cv hK hcv).1) in_Curve rfl 5 (by decide) w_210 rfl rfl d_Curve_twice_62 ?_
  refine lv_aload_n hx hb d_Curve_twice_65 rfl (lv_at hl 2 rfl) ?_
  refine q_get (C := "KateDesk$Point") (T := T_Point) (N := 3) (ci := 2) E ((hk.pt hK h_a).1) in_Point rfl 1 (by decide) w_50 rfl rfl d_Curve_twice_66 ?_
  refine lv_aload_n hx hb d_Curve_twice_69 rfl (lv_at hl 2 rfl) ?_
  refine q_get (C := "KateDesk$Point") (T := T_Point) (N := 3) (ci := 2) E ((hk.pt hK h_a).1) in_Point rfl 2 (by decide) w_54 rfl rfl d_Curve_twice_70 ?_
  refine q_cV (rest := []) E (c_Field_multiply l g n0 fo (X 4) a2 a3 F mi) w_165 w_4 w_652 w_163 w_164 hd_Field_multiply rfl ⟨by decide, by decide⟩ (OB.recv E.2.2.2.2.2 (by rfl) (((hk.cv hK hcv).2.1).1)) (⟨(hk.cv hK hcv).2.1, (hk.cv hK hcv).2.2 4 (by decide), (hk.pt hK h_a).2.2.1, (hk.pt hK h_a).2.2.2⟩) hF hl.1 rfl (Nat.le_of_ble_eq_true rfl) d_Curve_twice_73 ⟨by decide, by decide⟩ (qv (fun H4 locs hq hF => ?_))
  have hk := hk.tr (hq.w1 ((hk.cv hK hcv).2.2 4 (by decide)).1)
  refine lv_aload_n hx hb d_Curve_twice_76 rfl (lv_at hl 0 rfl) ?_
  refine lv_aload_n hx hb d_Curve_twice_77 rfl (lv_at hl 0 rfl) ?_
  refine q_get (C := "KateDesk$Curve") (T := T_Curve) (N := 10) (ci := 0) E ((hk.cv hK hcv).1) in_Curve rfl 3 (by decide) w_208 rfl rfl d_Curve_twice_78 ?_
  refine lv_aload_n hx hb d_Curve_twice_81 rfl (lv_at hl 0 rfl) ?_
  refine q_get (C := "KateDesk$Curve") (T := T_Curve) (N := 10) (ci := 0) E ((hk.cv hK hcv).1) in_Curve rfl 3 (by decide) w_208 rfl rfl d_Curve_twice_82 ?_
  refine q_cV (rest := []) E (c_Curve_twelvefold l g n0 o fo F mi X (X 2) (X 2)) w_706 w_11 w_703 w_705 (bw_s 8 rfl) hd_Curve_twelvefold rfl ⟨by decide, by decide⟩ (OB.recv E.2.2.2.2.2 (by rfl) ((hk.cv hK hcv).1)) (⟨hk.cv hK hcv, (hk.cv hK hcv).2.2 2 (by decide), (hk.cv hK hcv).2.2 2 (by decide)⟩) hF hl.1 rfl (Nat.le_of_ble_eq_true rfl) d_Curve_twice_85 ⟨by decide, by decide⟩ (qv (fun H5 locs hq hF => ?_))
  have hk := hk.tr hq
  refine lv_aload_n hx hb d_Curve_twice_88 rfl (lv_at hl 0 rfl) ?_
  refine q_get (C := "KateDesk$Curve") (T := T_Curve) (N := 10) (ci := 0) E ((hk.cv hK hcv).1) in_Curve rfl 0 (by decide) w_205 rfl rfl d_Curve_twice_89 ?_
  refine lv_aload_n hx hb d_Curve_twice_92 rfl (lv_at hl 0 rfl) ?_
  refine q_get (C := "KateDesk$Curve") (T := T_Curve) (N := 10) (ci := 0) E ((hk.cv hK hcv).1) in_Curve rfl 8 (by decide) w_213 rfl rfl d_Curve_twice_93 ?_
  refine lv_aload_n hx hb d_Curve_twice_96 rfl (lv_at hl 0 rfl) ?_
  refine q_get (C := "KateDesk$Curve") (T := T_Curve) (N := 10) (ci := 0) E ((hk.cv hK hcv).1) in_Curve rfl 2 (by decide) w_207 rfl rfl d_Curve_twice_97 ?_
  refine lv_aload_n hx hb d_Curve_twice_100 rfl (lv_at hl 0 rfl) ?_
  refine q_get (C := "KateDesk$Curve") (T := T_Curve) (N := 10) (ci := 0) E ((hk.cv hK hcv).1) in_Curve rfl 3 (by decide) w_208 rfl rfl d_Curve_twice_101 ?_
  refine q_cV (rest := []) E (c_Field_add l g n0 fo (X 7) (X 1) (X 2) F mi) w_157 w_4 w_653 w_155 w_156 hd_Field_add rfl ⟨by decide, by decide⟩ (OB.recv E.2.2.2.2.2 (by rfl) (((hk.cv hK hcv).2.1).1)) (⟨(hk.cv hK hcv).2.1, (hk.cv hK hcv).2.2 7 (by decide), (hk.cv hK hcv).2.2 1 (by decide), (hk.cv hK hcv).2.2 2 (by decide)⟩) hF hl.1 rfl (Nat.le_of_ble_eq_true rfl) d_Curve_twice_104 ⟨by decide, by decide⟩ (qv (fun H6 locs hq hF => ?_))
  have hk := hk.tr (hq.w1 ((hk.cv hK hcv).2.2 7 (by decide)).1)
  refine lv_aload_n hx hb d_Curve_twice_107 rfl (lv_at hl 0 rfl) ?_
  refine q_get (C := "KateDesk$Curve") (T := T_Curve) (N := 10) (ci := 0) E ((hk.cv hK hcv).1) in_Curve rfl 0 (by decide) w_205 rfl rfl d_Curve_twice_108 ?_
  refine lv_aload_n hx hb d_Curve_twice_111 rfl (lv_at hl 0 rfl) ?_
  refine q_get (C := "KateDesk$Curve") (T := T_Curve) (N := 10) (ci := 0) E ((hk.cv hK hcv).1) in_Curve rfl 7 (by decide) w_212 rfl rfl d_Curve_twice_112 ?_
  refine lv_aload_n hx hb d_Curve_twice_115 rfl (lv_at hl 0 rfl) ?_
  refine q_get (C := "KateDesk$Curve") (T := T_Curve) (N := 10) (ci := 0) E ((hk.cv hK hcv).1) in_Curve rfl 3 (by decide) w_208 rfl rfl d_Curve_twice_116 ?_
  refine lv_aload_n hx hb d_Curve_twice_119 rfl (lv_at hl 0 rfl) ?_
  refine q_get (C := "KateDesk$Curve") (T := T_Curve) (N := 10) (ci := 0) E ((hk.cv hK hcv).1) in_Curve rfl 3 (by decide) w_208 rfl rfl d_Curve_twice_120 ?_
  refine q_cV (rest := []) E (c_Field_add l g n0 fo (X 6) (X 2) (X 2) F mi) w_157 w_4 w_653 w_155 w_156 hd_Field_add rfl ⟨by decide, by decide⟩ (OB.recv E.2.2.2.2.2 (by rfl) (((hk.cv hK hcv).2.1).1)) (⟨(hk.cv hK hcv).2.1, (hk.cv hK hcv).2.2 6 (by decide), (hk.cv hK hcv).2.2 2 (by decide), (hk.cv hK hcv).2.2 2 (by decide)⟩) hF hl.1 rfl (Nat.le_of_ble_eq_true rfl) d_Curve_twice_123 ⟨by decide, by decide⟩ (qv (fun H7 locs hq hF => ?_))
  have hk := hk.tr (hq.w1 ((hk.cv hK hcv).2.2 6 (by decide)).1)
  refine lv_aload_n hx hb d_Curve_twice_126 rfl (lv_at hl 0 rfl) ?_
  refine q_get (C := "KateDesk$Curve") (T := T_Curve) (N := 10) (ci := 0) E ((hk.cv hK hcv).1) in_Curve rfl 0 (by decide) w_205 rfl rfl d_Curve_twice_127 ?_
  refine lv_aload_n hx hb d_Curve_twice_130 rfl (lv_at hl 0 rfl) ?_
  refine q_get (C := "KateDesk$Curve") (T := T_Curve) (N := 10) (ci := 0) E ((hk.cv hK hcv).1) in_Curve rfl 7 (by decide) w_212 rfl rfl d_Curve_twice_131 ?_
  refine lv_aload_n hx hb d_Curve_twice_134 rfl (lv_at hl 0 rfl) ?_
  refine q_get (C := "KateDesk$Curve") (T := T_Curve) (N := 10) (ci := 0) E ((hk.cv hK hcv).1) in_Curve rfl 7 (by decide) w_212 rfl rfl d_Curve_twice_135 ?_
  refine lv_aload_n hx hb d_Curve_twice_138 rfl (lv_at hl 0 rfl) ?_
  refine q_get (C := "KateDesk$Curve") (T := T_Curve) (N := 10) (ci := 0) E ((hk.cv hK hcv).1) in_Curve rfl 3 (by decide) w_208 rfl rfl d_Curve_twice_139 ?_
  refine q_cV (rest := []) E (c_Field_add l g n0 fo (X 6) (X 6) (X 2) F mi) w_157 w_4 w_653 w_155 w_156 hd_Field_add rfl ⟨by decide, by decide⟩ (OB.recv E.2.2.2.2.2 (by rfl) (((hk.cv hK hcv).2.1).1)) (⟨(hk.cv hK hcv).2.1, (hk.cv hK hcv).2.2 6 (by decide), (hk.cv hK hcv).2.2 6 (by decide), (hk.cv hK hcv).2.2 2 (by decide)⟩) hF hl.1 rfl (Nat.le_of_ble_eq_true rfl) d_Curve_twice_142 ⟨by decide, by decide⟩ (qv (fun H8 locs hq hF => ?_))
  have hk := hk.tr (hq.w1 ((hk.cv hK hcv).2.2 6 (by decide)).1)
  refine lv_aload_n hx hb d_Curve_twice_145 rfl (lv_at hl 0 rfl) ?_
  refine q_get (C := "KateDesk$Curve") (T := T_Curve) (N := 10) (ci := 0) E ((hk.cv hK hcv).1) in_Curve rfl 0 (by decide) w_205 rfl rfl d_Curve_twice_146 ?_
  refine lv_aload_n hx hb d_Curve_twice_149 rfl (lv_at hl 0 rfl) ?_
  refine q_get (C := "KateDesk$Curve") (T := T_Curve) (N := 10) (ci := 0) E ((hk.cv hK hcv).1) in_Curve rfl 7 (by decide) w_212 rfl rfl d_Curve_twice_150 ?_
  refine lv_aload_n hx hb d_Curve_twice_153 rfl (lv_at hl 0 rfl) ?_
  refine q_get (C := "KateDesk$Curve") (T := T_Curve) (N := 10) (ci := 0) E ((hk.cv hK hcv).1) in_Curve rfl 2 (by decide) w_207 rfl rfl d_Curve_twice_154 ?_
  refine lv_aload_n hx hb d_Curve_twice_157 rfl (lv_at hl 0 rfl) ?_
  refine q_get (C := "KateDesk$Curve") (T := T_Curve) (N := 10) (ci := 0) E ((hk.cv hK hcv).1) in_Curve rfl 7 (by decide) w_212 rfl rfl d_Curve_twice_158 ?_
  refine q_cV (rest := []) E (c_Field_subtract l g n0 fo (X 6) (X 1) (X 6) F mi) w_169 w_4 w_707 w_167 w_168 hd_Field_subtract rfl ⟨by decide, by decide⟩ (OB.recv E.2.2.2.2.2 (by rfl) (((hk.cv hK hcv).2.1).1)) (⟨(hk.cv hK hcv).2.1, (hk.cv hK hcv).2.2 6 (by decide), (hk.cv hK hcv).2.2 1 (by decide), (hk.cv hK hcv).2.2 6 (by decide)⟩) hF hl.1 rfl (Nat.le_of_ble_eq_true rfl) d_Curve_twice_161 ⟨by decide, by decide⟩ (qv (fun H9 locs hq hF => ?_))
  have hk := hk.tr (hq.w1 ((hk.cv hK hcv).2.2 6 (by decide)).1)
  refine lv_aload_n hx hb d_Curve_twice_164 rfl (lv_at hl 0 rfl) ?_
  refine q_get (C := "KateDesk$Curve") (T := T_Curve) (N := 10) (ci := 0) E ((hk.cv hK hcv).1) in_Curve rfl 0 (by decide) w_205 rfl rfl d_Curve_twice_165 ?_
  refine lv_aload_n hx hb d_Curve_twice_168 rfl (lv_at hl 0 rfl) ?_
  refine q_get (C := "KateDesk$Curve") (T := T_Curve) (N := 10) (ci := 0) E ((hk.cv hK hcv).1) in_Curve rfl 2 (by decide) w_207 rfl rfl d_Curve_twice_169 ?_
  refine lv_aload_n hx hb d_Curve_twice_172 rfl (lv_at hl 0 rfl) ?_
  refine q_get (C := "KateDesk$Curve") (T := T_Curve) (N := 10) (ci := 0) E ((hk.cv hK hcv).1) in_Curve rfl 2 (by decide) w_207 rfl rfl d_Curve_twice_173 ?_
  refine lv_aload_n hx hb d_Curve_twice_176 rfl (lv_at hl 0 rfl) ?_
  refine q_get (C := "KateDesk$Curve") (T := T_Curve) (N := 10) (ci := 0) E ((hk.cv hK hcv).1) in_Curve rfl 2 (by decide) w_207 rfl rfl d_Curve_twice_177 ?_
  refine q_cV (rest := []) E (c_Field_add l g n0 fo (X 1) (X 1) (X 1) F mi) w_157 w_4 w_653 w_155 w_156 hd_Field_add rfl ⟨by decide, by decide⟩ (OB.recv E.2.2.2.2.2 (by rfl) (((hk.cv hK hcv).2.1).1)) (⟨(hk.cv hK hcv).2.1, (hk.cv hK hcv).2.2 1 (by decide), (hk.cv hK hcv).2.2 1 (by decide), (hk.cv hK hcv).2.2 1 (by decide)⟩) hF hl.1 rfl (Nat.le_of_ble_eq_true rfl) d_Curve_twice_180 ⟨by decide, by decide⟩ (qv (fun H10 locs hq hF => ?_))
  have hk := hk.tr (hq.w1 ((hk.cv hK hcv).2.2 1 (by decide)).1)
  refine lv_aload_n hx hb d_Curve_twice_183 rfl (lv_at hl 0 rfl) ?_
  refine q_get (C := "KateDesk$Curve") (T := T_Curve) (N := 10) (ci := 0) E ((hk.cv hK hcv).1) in_Curve rfl 0 (by decide) w_205 rfl rfl d_Curve_twice_184 ?_
  refine lv_aload_n hx hb d_Curve_twice_187 rfl (lv_at hl 0 rfl) ?_
  refine q_get (C := "KateDesk$Curve") (T := T_Curve) (N := 10) (ci := 0) E ((hk.cv hK hcv).1) in_Curve rfl 2 (by decide) w_207 rfl rfl d_Curve_twice_188 ?_
  refine lv_aload_n hx hb d_Curve_twice_191 rfl (lv_at hl 0 rfl) ?_
  refine q_get (C := "KateDesk$Curve") (T := T_Curve) (N := 10) (ci := 0) E ((hk.cv hK hcv).1) in_Curve rfl 2 (by decide) w_207 rfl rfl d_Curve_twice_192 ?_
  refine lv_aload_n hx hb d_Curve_twice_195 rfl (lv_at hl 0 rfl) ?_
  refine q_get (C := "KateDesk$Curve") (T := T_Curve) (N := 10) (ci := 0) E ((hk.cv hK hcv).1) in_Curve rfl 2 (by decide) w_207 rfl rfl d_Curve_twice_196 ?_
  refine q_cV (rest := []) E (c_Field_add l g n0 fo (X 1) (X 1) (X 1) F mi) w_157 w_4 w_653 w_155 w_156 hd_Field_add rfl ⟨by decide, by decide⟩ (OB.recv E.2.2.2.2.2 (by rfl) (((hk.cv hK hcv).2.1).1)) (⟨(hk.cv hK hcv).2.1, (hk.cv hK hcv).2.2 1 (by decide), (hk.cv hK hcv).2.2 1 (by decide), (hk.cv hK hcv).2.2 1 (by decide)⟩) hF hl.1 rfl (Nat.le_of_ble_eq_true rfl) d_Curve_twice_199 ⟨by decide, by decide⟩ (qv (fun H11 locs hq hF => ?_))
  have hk := hk.tr (hq.w1 ((hk.cv hK hcv).2.2 1 (by decide)).1)
  refine lv_aload_n hx hb d_Curve_twice_202 rfl (lv_at hl 0 rfl) ?_
  refine q_get (C := "KateDesk$Curve") (T := T_Curve) (N := 10) (ci := 0) E ((hk.cv hK hcv).1) in_Curve rfl 0 (by decide) w_205 rfl rfl d_Curve_twice_203 ?_
  refine lv_aload_n hx hb d_Curve_twice_206 rfl (lv_at hl 0 rfl) ?_
  refine q_get (C := "KateDesk$Curve") (T := T_Curve) (N := 10) (ci := 0) E ((hk.cv hK hcv).1) in_Curve rfl 2 (by decide) w_207 rfl rfl d_Curve_twice_207 ?_
  refine lv_aload_n hx hb d_Curve_twice_210 rfl (lv_at hl 0 rfl) ?_
  refine q_get (C := "KateDesk$Curve") (T := T_Curve) (N := 10) (ci := 0) E ((hk.cv hK hcv).1) in_Curve rfl 2 (by decide) w_207 rfl rfl d_Curve_twice_211 ?_
  refine lv_aload_n hx hb d_Curve_twice_214 rfl (lv_at hl 0 rfl) ?_
  refine q_get (C := "KateDesk$Curve") (T := T_Curve) (N := 10) (ci := 0) E ((hk.cv hK hcv).1) in_Curve rfl 2 (by decide) w_207 rfl rfl d_Curve_twice_215 ?_
  refine q_cV (rest := []) E (c_Field_add l g n0 fo (X 1) (X 1) (X 1) F mi) w_157 w_4 w_653 w_155 w_156 hd_Field_add rfl ⟨by decide, by decide⟩ (OB.recv E.2.2.2.2.2 (by rfl) (((hk.cv hK hcv).2.1).1)) (⟨(hk.cv hK hcv).2.1, (hk.cv hK hcv).2.2 1 (by decide), (hk.cv hK hcv).2.2 1 (by decide), (hk.cv hK hcv).2.2 1 (by decide)⟩) hF hl.1 rfl (Nat.le_of_ble_eq_true rfl) d_Curve_twice_218 ⟨by decide, by decide⟩ (qv (fun H12 locs hq hF => ?_))
  have hk := hk.tr (hq.w1 ((hk.cv hK hcv).2.2 1 (by decide)).1)
  refine lv_aload_n hx hb d_Curve_twice_221 rfl (lv_at hl 0 rfl) ?_
  refine q_get (C := "KateDesk$Curve") (T := T_Curve) (N := 10) (ci := 0) E ((hk.cv hK hcv).1) in_Curve rfl 0 (by decide) w_205 rfl rfl d_Curve_twice_222 ?_
  refine lv_aload_n hx hb d_Curve_twice_225 rfl (lv_at hl 1 rfl) ?_
  refine q_get (C := "KateDesk$Point") (T := T_Point) (N := 3) (ci := 2) E ((hk.pt hK h_t).1) in_Point rfl 2 (by decide) w_54 rfl rfl d_Curve_twice_226 ?_
  refine lv_aload_n hx hb d_Curve_twice_229 rfl (lv_at hl 0 rfl) ?_
  refine q_get (C := "KateDesk$Curve") (T := T_Curve) (N := 10) (ci := 0) E ((hk.cv hK hcv).1) in_Curve rfl 2 (by decide) w_207 rfl rfl d_Curve_twice_230 ?_
  refine lv_aload_n hx hb d_Curve_twice_233 rfl (lv_at hl 0 rfl) ?_
  refine q_get (C := "KateDesk$Curve") (T := T_Curve) (N := 10) (ci := 0) E ((hk.cv hK hcv).1) in_Curve rfl 5 (by decide) w_210 rfl rfl d_Curve_twice_234 ?_
  refine q_cV (rest := []) E (c_Field_multiply l g n0 fo t3 (X 1) (X 4) F mi) w_165 w_4 w_652 w_163 w_164 hd_Field_multiply rfl ⟨by decide, by decide⟩ (OB.recv E.2.2.2.2.2 (by rfl) (((hk.cv hK hcv).2.1).1)) (⟨(hk.cv hK hcv).2.1, (hk.pt hK h_t).2.2.2, (hk.cv hK hcv).2.2 1 (by decide), (hk.cv hK hcv).2.2 4 (by decide)⟩) hF hl.1 rfl (Nat.le_of_ble_eq_true rfl) d_Curve_twice_237 ⟨by decide, by decide⟩ (qv (fun H13 locs hq hF => ?_))
  have hk := hk.tr (hq.w1 ((hk.pt hK h_t).2.2.2).1)
  refine lv_aload_n hx hb d_Curve_twice_240 rfl (lv_at hl 0 rfl) ?_
  refine q_get (C := "KateDesk$Curve") (T := T_Curve) (N := 10) (ci := 0) E ((hk.cv hK hcv).1) in_Curve rfl 0 (by decide) w_205 rfl rfl d_Curve_twice_241 ?_
  refine lv_aload_n hx hb d_Curve_twice_244 rfl (lv_at hl 0 rfl) ?_
  refine q_get (C := "KateDesk$Curve") (T := T_Curve) (N := 10) (ci := 0) E ((hk.cv hK hcv).1) in_Curve rfl 2 (by decide) w_207 rfl rfl d_Curve_twice_245 ?_
  refine lv_aload_n hx hb d_Curve_twice_248 rfl (lv_at hl 0 rfl) ?_
  refine q_get (C := "KateDesk$Curve") (T := T_Curve) (N := 10) (ci := 0) E ((hk.cv hK hcv).1) in_Curve rfl 2 (by decide) w_207 rfl rfl d_Curve_twice_249 ?_
  refine lv_aload_n hx hb d_Curve_twice_252 rfl (lv_at hl 0 rfl) ?_
  refine q_get (C := "KateDesk$Curve") (T := T_Curve) (N := 10) (ci := 0) E ((hk.cv hK hcv).1) in_Curve rfl 3 (by decide) w_208 rfl rfl d_Curve_twice_253 ?_
  refine q_cV (rest := []) E (c_Field_multiply l g n0 fo (X 1) (X 1) (X 2) F mi) w_165 w_4 w_652 w_163 w_164 hd_Field_multiply rfl ⟨by decide, by decide⟩ (OB.recv E.2.2.2.2.2 (by rfl) (((hk.cv hK hcv).2.1).1)) (⟨(hk.cv hK hcv).2.1, (hk.cv hK hcv).2.2 1 (by decide), (hk.cv hK hcv).2.2 1 (by decide), (hk.cv hK hcv).2.2 2 (by decide)⟩) hF hl.1 rfl (Nat.le_of_ble_eq_true rfl) d_Curve_twice_256 ⟨by decide, by decide⟩ (qv (fun H14 locs hq hF => ?_))
  have hk := hk.tr (hq.w1 ((hk.cv hK hcv).2.2 1 (by decide)).1)
  refine lv_aload_n hx hb d_Curve_twice_259 rfl (lv_at hl 0 rfl) ?_
  refine q_get (C := "KateDesk$Curve") (T := T_Curve) (N := 10) (ci := 0) E ((hk.cv hK hcv).1) in_Curve rfl 0 (by decide) w_205 rfl rfl d_Curve_twice_260 ?_
  refine lv_aload_n hx hb d_Curve_twice_263 rfl (lv_at hl 0 rfl) ?_
  refine q_get (C := "KateDesk$Curve") (T := T_Curve) (N := 10) (ci := 0) E ((hk.cv hK hcv).1) in_Curve rfl 8 (by decide) w_213 rfl rfl d_Curve_twice_264 ?_
  refine lv_aload_n hx hb d_Curve_twice_267 rfl (lv_at hl 0 rfl) ?_
  refine q_get (C := "KateDesk$Curve") (T := T_Curve) (N := 10) (ci := 0) E ((hk.cv hK hcv).1) in_Curve rfl 7 (by decide) w_212 rfl rfl d_Curve_twice_268 ?_
  refine lv_aload_n hx hb d_Curve_twice_271 rfl (lv_at hl 0 rfl) ?_
  refine q_get (C := "KateDesk$Curve") (T := T_Curve) (N := 10) (ci := 0) E ((hk.cv hK hcv).1) in_Curve rfl 8 (by decide) w_213 rfl rfl d_Curve_twice_272 ?_
  refine q_cV (rest := []) E (c_Field_multiply l g n0 fo (X 7) (X 6) (X 7) F mi) w_165 w_4 w_652 w_163 w_164 hd_Field_multiply rfl ⟨by decide, by decide⟩ (OB.recv E.2.2.2.2.2 (by rfl) (((hk.cv hK hcv).2.1).1)) (⟨(hk.cv hK hcv).2.1, (hk.cv hK hcv).2.2 7 (by decide), (hk.cv hK hcv).2.2 6 (by decide), (hk.cv hK hcv).2.2 7 (by decide)⟩) hF hl.1 rfl (Nat.le_of_ble_eq_true rfl) d_Curve_twice_275 ⟨by decide, by decide⟩ (qv (fun H15 locs hq hF => ?_))
  have hk := hk.tr (hq.w1 ((hk.cv hK hcv).2.2 7 (by decide)).1)
  refine lv_aload_n hx hb d_Curve_twice_278 rfl (lv_at hl 0 rfl) ?_
  refine q_get (C := "KateDesk$Curve") (T := T_Curve) (N := 10) (ci := 0) E ((hk.cv hK hcv).1) in_Curve rfl 0 (by decide) w_205 rfl rfl d_Curve_twice_279 ?_
  refine lv_aload_n hx hb d_Curve_twice_282 rfl (lv_at hl 1 rfl) ?_
  refine q_get (C := "KateDesk$Point") (T := T_Point) (N := 3) (ci := 2) E ((hk.pt hK h_t).1) in_Point rfl 1 (by decide) w_50 rfl rfl d_Curve_twice_283 ?_
  refine lv_aload_n hx hb d_Curve_twice_286 rfl (lv_at hl 0 rfl) ?_
  refine q_get (C := "KateDesk$Curve") (T := T_Curve) (N := 10) (ci := 0) E ((hk.cv hK hcv).1) in_Curve rfl 2 (by decide) w_207 rfl rfl d_Curve_twice_287 ?_
  refine lv_aload_n hx hb d_Curve_twice_290 rfl (lv_at hl 0 rfl) ?_
  refine q_get (C := "KateDesk$Curve") (T := T_Curve) (N := 10) (ci := 0) E ((hk.cv hK hcv).1) in_Curve rfl 8 (by decide) w_213 rfl rfl d_Curve_twice_291 ?_
  refine q_cV (rest := []) E (c_Field_add l g n0 fo t2 (X 1) (X 7) F mi) w_157 w_4 w_653 w_155 w_156 hd_Field_add rfl ⟨by decide, by decide⟩ (OB.recv E.2.2.2.2.2 (by rfl) (((hk.cv hK hcv).2.1).1)) (⟨(hk.cv hK hcv).2.1, (hk.pt hK h_t).2.2.1, (hk.cv hK hcv).2.2 1 (by decide), (hk.cv hK hcv).2.2 7 (by decide)⟩) hF hl.1 rfl (Nat.le_of_ble_eq_true rfl) d_Curve_twice_294 ⟨by decide, by decide⟩ (qv (fun H16 locs hq hF => ?_))
  have hk := hk.tr (hq.w1 ((hk.pt hK h_t).2.2.1).1)
  refine lv_aload_n hx hb d_Curve_twice_297 rfl (lv_at hl 0 rfl) ?_
  refine q_get (C := "KateDesk$Curve") (T := T_Curve) (N := 10) (ci := 0) E ((hk.cv hK hcv).1) in_Curve rfl 0 (by decide) w_205 rfl rfl d_Curve_twice_298 ?_
  refine lv_aload_n hx hb d_Curve_twice_301 rfl (lv_at hl 0 rfl) ?_
  refine q_get (C := "KateDesk$Curve") (T := T_Curve) (N := 10) (ci := 0) E ((hk.cv hK hcv).1) in_Curve rfl 7 (by decide) w_212 rfl rfl d_Curve_twice_302 ?_
  refine lv_aload_n hx hb d_Curve_twice_305 rfl (lv_at hl 0 rfl) ?_
  refine q_get (C := "KateDesk$Curve") (T := T_Curve) (N := 10) (ci := 0) E ((hk.cv hK hcv).1) in_Curve rfl 7 (by decide) w_212 rfl rfl d_Curve_twice_306 ?_
  refine lv_aload_n hx hb d_Curve_twice_309 rfl (lv_at hl 0 rfl) ?_
  refine q_get (C := "KateDesk$Curve") (T := T_Curve) (N := 10) (ci := 0) E ((hk.cv hK hcv).1) in_Curve rfl 4 (by decide) w_209 rfl rfl d_Curve_twice_310 ?_
  refine q_cV (rest := []) E (c_Field_multiply l g n0 fo (X 6) (X 6) (X 3) F mi) w_165 w_4 w_652 w_163 w_164 hd_Field_multiply rfl ⟨by decide, by decide⟩ (OB.recv E.2.2.2.2.2 (by rfl) (((hk.cv hK hcv).2.1).1)) (⟨(hk.cv hK hcv).2.1, (hk.cv hK hcv).2.2 6 (by decide), (hk.cv hK hcv).2.2 6 (by decide), (hk.cv hK hcv).2.2 3 (by decide)⟩) hF hl.1 rfl (Nat.le_of_ble_eq_true rfl) d_Curve_twice_313 ⟨by decide, by decide⟩ (qv (fun H17 locs hq hF => ?_))
  have hk := hk.tr (hq.w1 ((hk.cv hK hcv).2.2 6 (by decide)).1)
  refine lv_aload_n hx hb d_Curve_twice_316 rfl (lv_at hl 0 rfl) ?_
  refine q_get (C := "KateDesk$Curve") (T := T_Curve) (N := 10) (ci := 0) E ((hk.cv hK hcv).1) in_Curve rfl 0 (by decide) w_205 rfl rfl d_Curve_twice_317 ?_
  refine lv_aload_n hx hb d_Curve_twice_320 rfl (lv_at hl 1 rfl) ?_
  refine q_get (C := "KateDesk$Point") (T := T_Point) (N := 3) (ci := 2) E ((hk.pt hK h_t).1) in_Point rfl 0 (by decide) w_46 rfl rfl d_Curve_twice_321 ?_
  refine lv_aload_n hx hb d_Curve_twice_324 rfl (lv_at hl 0 rfl) ?_
  refine q_get (C := "KateDesk$Curve") (T := T_Curve) (N := 10) (ci := 0) E ((hk.cv hK hcv).1) in_Curve rfl 7 (by decide) w_212 rfl rfl d_Curve_twice_325 ?_
  refine lv_aload_n hx hb d_Curve_twice_328 rfl (lv_at hl 0 rfl) ?_
  refine q_get (C := "KateDesk$Curve") (T := T_Curve) (N := 10) (ci := 0) E ((hk.cv hK hcv).1) in_Curve rfl 7 (by decide) w_212 rfl rfl d_Curve_twice_329 ?_
  refine q_cV (rest := []) E (c_Field_add l g n0 fo t1 (X 6) (X 6) F mi) w_157 w_4 w_653 w_155 w_156 hd_Field_add rfl ⟨by decide, by decide⟩ (OB.recv E.2.2.2.2.2 (by rfl) (((hk.cv hK hcv).2.1).1)) (⟨(hk.cv hK hcv).2.1, (hk.pt hK h_t).2.1, (hk.cv hK hcv).2.2 6 (by decide), (hk.cv hK hcv).2.2 6 (by decide)⟩) hF hl.1 rfl (Nat.le_of_ble_eq_true rfl) d_Curve_twice_332 ⟨by decide, by decide⟩ (qv (fun H18 locs hq hF => ?_))
  have hk := hk.tr (hq.w1 ((hk.pt hK h_t).2.1).1)
  exact q_vret E hr hlk (⟨rfl, hk⟩) hF d_Curve_twice_335
