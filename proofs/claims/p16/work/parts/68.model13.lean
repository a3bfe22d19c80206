theorem tk2 {j : Nat} (h : j ≤ 4) : nI 1 <<< ((nI j &&& nI 7) &&& 31) = nI (2 ^ j) := by
  match j, h with
  | 0, _ => decide
  | 1, _ => decide
  | 2, _ => decide
  | 3, _ => decide
  | 4, _ => decide
theorem tk3 {j : Nat} (h : j ≤ 4) : 1 ≤ 2 ^ j ∧ 2 ^ j ≤ 16 := by
  match j, h with
  | 0, _ => decide
  | 1, _ => decide
  | 2, _ => decide
  | 3, _ => decide
  | 4, _ => decide
theorem tk {kv : Int32} (h : okC kv (nI 0) (nI 4)) : (nI 1 <<< ((kv &&& nI 7) &&& 31)) ≤ 0 ∨ ∃ j, (nI 1 <<< ((kv &&& nI 7) &&& 31)) = nI j ∧ 1 ≤ j ∧ j ≤ 32 := by
  obtain ⟨k, e, h1, h2⟩ := okC_nat (by decide) (by decide) h
  have := tk3 h2
  rw [e, tk2 h2]
  exact Or.inr ⟨2 ^ k, rfl, by omega, by omega⟩
def HO (g : WG) (H : Heap) (mo : Nat) : Prop := ∃ f, AJ g H (mo + 8) 224 f ∧ ∀ k, k < 224 → dg (f k)
theorem HO.off {g : WG} {H H' : Heap} {mo : Nat} (h : HO g H mo) (hk : FRM (MR mo) H H') : HO g H' mo := by
  obtain ⟨f, h1, h2⟩ := h
  exact ⟨f, h1.off hk (by unfold MR; omega), h2⟩
theorem MS.hold {g : WG} {n0 : Nat → Prop} {H H' : Heap} {mo : Nat} {th pw td wr : Int32} {w n : Nat} {fd : Nat → Int64} {U : State} (hK : KW g U) (h : MS g n0 H mo th pw td wr w n fd) (hk : KJ g (fun q => q = mo + 8) H H') : MS g n0 H' mo th pw td wr w n fd := by
  obtain ⟨h1, h2, ⟨f, h3, h4⟩, ⟨f5, h5⟩, h6, h7, h8, h9⟩ := h
  exact ⟨hk.ob hK h1, hk.ajo (by omega) h2, ⟨f, hk.ajo (by omega) h3, h4⟩, hk.aj h5, hk.ajo (by omega) h6, h7, h8, h9⟩
abbrev y_Model_lagrange : MethodName := ⟨"KateDeskModel", "lagrange", "(IIII)V"⟩
theorem hd_Model_lagrange : y_Model_lagrange.cls ≠ "java/lang/invoke/MethodHandle" ∧ y_Model_lagrange.cls ≠ "java/lang/invoke/VarHandle" ∧ (parseMethodDescriptor y_Model_lagrange.desc).map (fun d => d.parameters.length) = some 4 := by decide +kernel
theorem d_Model_lagrange_0 : decode prog_11_method_60_code 0 = .ok (.aload_n 0, 1) := by decide +kernel
theorem d_Model_lagrange_1 : decode prog_11_method_60_code 1 = .ok (.iload_n 1, 1) := by decide +kernel
theorem d_Model_lagrange_2 : decode prog_11_method_60_code 2 = .ok (.invokestatic 219, 3) := by decide +kernel
theorem d_Model_lagrange_5 : decode prog_11_method_60_code 5 = .ok (.ifCond .ne 41, 3) := by decide +kernel
theorem d_Model_lagrange_8 : decode prog_11_method_60_code 8 = .ok (.iload_n 2, 1) := by decide +kernel
theorem d_Model_lagrange_9 : decode prog_11_method_60_code 9 = .ok (.i2l, 1) := by decide +kernel
theorem d_Model_lagrange_10 : decode prog_11_method_60_code 10 = .ok (.lconst 0, 1) := by decide +kernel
theorem d_Model_lagrange_11 : decode prog_11_method_60_code 11 = .ok (.ldc2_w 269, 3) := by decide +kernel
theorem d_Model_lagrange_14 : decode prog_11_method_60_code 14 = .ok (.invokestatic 242, 3) := by decide +kernel
theorem d_Model_lagrange_17 : decode prog_11_method_60_code 17 = .ok (.ifCond .eq 29, 3) := by decide +kernel
theorem d_Model_lagrange_20 : decode prog_11_method_60_code 20 = .ok (.iload_n 3, 1) := by decide +kernel
theorem d_Model_lagrange_21 : decode prog_11_method_60_code 21 = .ok (.i2l, 1) := by decide +kernel
theorem d_Model_lagrange_22 : decode prog_11_method_60_code 22 = .ok (.lconst 0, 1) := by decide +kernel
theorem d_Model_lagrange_23 : decode prog_11_method_60_code 23 = .ok (.iconst 1, 1) := by decide +kernel
theorem d_Model_lagrange_24 : decode prog_11_method_60_code 24 = .ok (.iload_n 2, 1) := by decide +kernel
theorem d_Model_lagrange_25 : decode prog_11_method_60_code 25 = .ok (.bipush 7, 2) := by decide +kernel
theorem d_Model_lagrange_27 : decode prog_11_method_60_code 27 = .ok (.iand, 1) := by decide +kernel
theorem d_Model_lagrange_28 : decode prog_11_method_60_code 28 = .ok (.ishl, 1) := by decide +kernel
theorem d_Model_lagrange_29 : decode prog_11_method_60_code 29 = .ok (.iconst 1, 1) := by decide +kernel
theorem d_Model_lagrange_30 : decode prog_11_method_60_code 30 = .ok (.isub, 1) := by decide +kernel
theorem d_Model_lagrange_31 : decode prog_11_method_60_code 31 = .ok (.i2l, 1) := by decide +kernel
theorem d_Model_lagrange_32 : decode prog_11_method_60_code 32 = .ok (.invokestatic 242, 3) := by decide +kernel
theorem d_Model_lagrange_35 : decode prog_11_method_60_code 35 = .ok (.ifCond .eq 11, 3) := by decide +kernel
theorem d_Model_lagrange_38 : decode prog_11_method_60_code 38 = .ok (.iload 4, 2) := by decide +kernel
theorem d_Model_lagrange_40 : decode prog_11_method_60_code 40 = .ok (.invokestatic 219, 3) := by decide +kernel
theorem d_Model_lagrange_43 : decode prog_11_method_60_code 43 = .ok (.ifCond .eq 7, 3) := by decide +kernel
theorem d_Model_lagrange_46 : decode prog_11_method_60_code 46 = .ok (.iconst 1, 1) := by decide +kernel
theorem d_Model_lagrange_47 : decode prog_11_method_60_code 47 = .ok (.goto 4, 3) := by decide +kernel
theorem d_Model_lagrange_50 : decode prog_11_method_60_code 50 = .ok (.iconst 0, 1) := by decide +kernel
theorem d_Model_lagrange_51 : decode prog_11_method_60_code 51 = .ok (.iconst 1, 1) := by decide +kernel
theorem d_Model_lagrange_52 : decode prog_11_method_60_code 52 = .ok (.invokevirtual 223, 3) := by decide +kernel
theorem d_Model_lagrange_55 : decode prog_11_method_60_code 55 = .ok (.ifCond .eq 4, 3) := by decide +kernel
theorem d_Model_lagrange_58 : decode prog_11_method_60_code 58 = .ok (.return_, 1) := by decide +kernel
theorem d_Model_lagrange_59 : decode prog_11_method_60_code 59 = .ok (.aload_n 0, 1) := by decide +kernel
theorem d_Model_lagrange_60 : decode prog_11_method_60_code 60 = .ok (.sipush 166, 3) := by decide +kernel
theorem d_Model_lagrange_63 : decode prog_11_method_60_code 63 = .ok (.iload_n 2, 1) := by decide +kernel
theorem d_Model_lagrange_64 : decode prog_11_method_60_code 64 = .ok (.invokevirtual 259, 3) := by decide +kernel
theorem d_Model_lagrange_67 : decode prog_11_method_60_code 67 = .ok (.aload_n 0, 1) := by decide +kernel
theorem d_Model_lagrange_68 : decode prog_11_method_60_code 68 = .ok (.sipush 145, 3) := by decide +kernel
theorem d_Model_lagrange_71 : decode prog_11_method_60_code 71 = .ok (.iload_n 3, 1) := by decide +kernel
theorem d_Model_lagrange_72 : decode prog_11_method_60_code 72 = .ok (.i2l, 1) := by decide +kernel
theorem d_Model_lagrange_73 : decode prog_11_method_60_code 73 = .ok (.invokevirtual 235, 3) := by decide +kernel
theorem d_Model_lagrange_76 : decode prog_11_method_60_code 76 = .ok (.aload_n 0, 1) := by decide +kernel
theorem d_Model_lagrange_77 : decode prog_11_method_60_code 77 = .ok (.sipush 168, 3) := by decide +kernel
theorem d_Model_lagrange_80 : decode prog_11_method_60_code 80 = .ok (.sipush 166, 3) := by decide +kernel
theorem d_Model_lagrange_83 : decode prog_11_method_60_code 83 = .ok (.sipush 145, 3) := by decide +kernel
theorem d_Model_lagrange_86 : decode prog_11_method_60_code 86 = .ok (.invokevirtual 197, 3) := by decide +kernel
theorem d_Model_lagrange_89 : decode prog_11_method_60_code 89 = .ok (.aload_n 0, 1) := by decide +kernel
theorem d_Model_lagrange_90 : decode prog_11_method_60_code 90 = .ok (.sipush 168, 3) := by decide +kernel
theorem d_Model_lagrange_93 : decode prog_11_method_60_code 93 = .ok (.iload 4, 2) := by decide +kernel
theorem d_Model_lagrange_95 : decode prog_11_method_60_code 95 = .ok (.invokevirtual 215, 3) := by decide +kernel
theorem d_Model_lagrange_98 : decode prog_11_method_60_code 98 = .ok (.ifCond .eq 9, 3) := by decide +kernel
theorem d_Model_lagrange_101 : decode prog_11_method_60_code 101 = .ok (.aload_n 0, 1) := by decide +kernel
theorem d_Model_lagrange_102 : decode prog_11_method_60_code 102 = .ok (.iload_n 1, 1) := by decide +kernel
theorem d_Model_lagrange_103 : decode prog_11_method_60_code 103 = .ok (.invokevirtual 141, 3) := by decide +kernel
theorem d_Model_lagrange_106 : decode prog_11_method_60_code 106 = .ok (.return_, 1) := by decide +kernel
theorem d_Model_lagrange_107 : decode prog_11_method_60_code 107 = .ok (.aload_n 0, 1) := by decide +kernel
theorem d_Model_lagrange_108 : decode prog_11_method_60_code 108 = .ok (.sipush 145, 3) := by decide +kernel
theorem d_Model_lagrange_111 : decode prog_11_method_60_code 111 = .ok (.lconst 1, 1) := by decide +kernel
theorem d_Model_lagrange_112 : decode prog_11_method_60_code 112 = .ok (.iload_n 2, 1) := by decide +kernel
theorem d_Model_lagrange_113 : decode prog_11_method_60_code 113 = .ok (.lshl, 1) := by decide +kernel
theorem d_Model_lagrange_114 : decode prog_11_method_60_code 114 = .ok (.invokevirtual 235, 3) := by decide +kernel
theorem d_Model_lagrange_117 : decode prog_11_method_60_code 117 = .ok (.aload_n 0, 1) := by decide +kernel
theorem d_Model_lagrange_118 : decode prog_11_method_60_code 118 = .ok (.sipush 169, 3) := by decide +kernel
theorem d_Model_lagrange_121 : decode prog_11_method_60_code 121 = .ok (.iload 4, 2) := by decide +kernel
theorem d_Model_lagrange_123 : decode prog_11_method_60_code 123 = .ok (.sipush 145, 3) := by decide +kernel
theorem d_Model_lagrange_126 : decode prog_11_method_60_code 126 = .ok (.invokevirtual 197, 3) := by decide +kernel
theorem d_Model_lagrange_129 : decode prog_11_method_60_code 129 = .ok (.aload_n 0, 1) := by decide +kernel
theorem d_Model_lagrange_130 : decode prog_11_method_60_code 130 = .ok (.sipush 166, 3) := by decide +kernel
theorem d_Model_lagrange_133 : decode prog_11_method_60_code 133 = .ok (.invokevirtual 141, 3) := by decide +kernel
theorem d_Model_lagrange_136 : decode prog_11_method_60_code 136 = .ok (.aload_n 0, 1) := by decide +kernel
theorem d_Model_lagrange_137 : decode prog_11_method_60_code 137 = .ok (.sipush 169, 3) := by decide +kernel
theorem d_Model_lagrange_140 : decode prog_11_method_60_code 140 = .ok (.sipush 169, 3) := by decide +kernel
theorem d_Model_lagrange_143 : decode prog_11_method_60_code 143 = .ok (.sipush 166, 3) := by decide +kernel
theorem d_Model_lagrange_146 : decode prog_11_method_60_code 146 = .ok (.invokevirtual 203, 3) := by decide +kernel
theorem d_Model_lagrange_149 : decode prog_11_method_60_code 149 = .ok (.aload_n 0, 1) := by decide +kernel
theorem d_Model_lagrange_150 : decode prog_11_method_60_code 150 = .ok (.sipush 169, 3) := by decide +kernel
theorem d_Model_lagrange_153 : decode prog_11_method_60_code 153 = .ok (.sipush 169, 3) := by decide +kernel
theorem d_Model_lagrange_156 : decode prog_11_method_60_code 156 = .ok (.sipush 168, 3) := by decide +kernel
theorem d_Model_lagrange_159 : decode prog_11_method_60_code 159 = .ok (.invokevirtual 184, 3) := by decide +kernel
theorem d_Model_lagrange_162 : decode prog_11_method_60_code 162 = .ok (.aload_n 0, 1) := by decide +kernel
theorem d_Model_lagrange_163 : decode prog_11_method_60_code 163 = .ok (.sipush 168, 3) := by decide +kernel
theorem d_Model_lagrange_166 : decode prog_11_method_60_code 166 = .ok (.iload 4, 2) := by decide +kernel
theorem d_Model_lagrange_168 : decode prog_11_method_60_code 168 = .ok (.sipush 168, 3) := by decide +kernel
theorem d_Model_lagrange_171 : decode prog_11_method_60_code 171 = .ok (.invokevirtual 203, 3) := by decide +kernel
theorem d_Model_lagrange_174 : decode prog_11_method_60_code 174 = .ok (.aload_n 0, 1) := by decide +kernel
theorem d_Model_lagrange_175 : decode prog_11_method_60_code 175 = .ok (.sipush 166, 3) := by decide +kernel
theorem d_Model_lagrange_178 : decode prog_11_method_60_code 178 = .ok (.lconst 1, 1) := by decide +kernel
theorem d_Model_lagrange_179 : decode prog_11_method_60_code 179 = .ok (.iload_n 2, 1) := by decide +kernel
theorem d_Model_lagrange_180 : decode prog_11_method_60_code 180 = .ok (.lshl, 1) := by decide +kernel
theorem d_Model_lagrange_181 : decode prog_11_method_60_code 181 = .ok (.invokevirtual 235, 3) := by decide +kernel
theorem d_Model_lagrange_184 : decode prog_11_method_60_code 184 = .ok (.aload_n 0, 1) := by decide +kernel
theorem d_Model_lagrange_185 : decode prog_11_method_60_code 185 = .ok (.sipush 168, 3) := by decide +kernel
theorem d_Model_lagrange_188 : decode prog_11_method_60_code 188 = .ok (.sipush 168, 3) := by decide +kernel
theorem d_Model_lagrange_191 : decode prog_11_method_60_code 191 = .ok (.sipush 166, 3) := by decide +kernel
theorem d_Model_lagrange_194 : decode prog_11_method_60_code 194 = .ok (.invokevirtual 184, 3) := by decide +kernel
theorem d_Model_lagrange_197 : decode prog_11_method_60_code 197 = .ok (.aload_n 0, 1) := by decide +kernel
theorem d_Model_lagrange_198 : decode prog_11_method_60_code 198 = .ok (.sipush 166, 3) := by decide +kernel
theorem d_Model_lagrange_201 : decode prog_11_method_60_code 201 = .ok (.sipush 168, 3) := by decide +kernel
theorem d_Model_lagrange_204 : decode prog_11_method_60_code 204 = .ok (.invokevirtual 249, 3) := by decide +kernel
theorem d_Model_lagrange_207 : decode prog_11_method_60_code 207 = .ok (.aload_n 0, 1) := by decide +kernel
theorem d_Model_lagrange_208 : decode prog_11_method_60_code 208 = .ok (.iload_n 1, 1) := by decide +kernel
theorem d_Model_lagrange_209 : decode prog_11_method_60_code 209 = .ok (.sipush 169, 3) := by decide +kernel
theorem d_Model_lagrange_212 : decode prog_11_method_60_code 212 = .ok (.sipush 166, 3) := by decide +kernel
theorem d_Model_lagrange_215 : decode prog_11_method_60_code 215 = .ok (.invokevirtual 184, 3) := by decide +kernel
theorem d_Model_lagrange_218 : decode prog_11_method_60_code 218 = .ok (.return_, 1) := by decide +kernel
abbrev y_Model_out : MethodName := ⟨"KateDeskModel", "out", "(I)J"⟩
theorem hd_Model_out : y_Model_out.cls ≠ "java/lang/invoke/MethodHandle" ∧ y_Model_out.cls ≠ "java/lang/invoke/VarHandle" ∧ (parseMethodDescriptor y_Model_out.desc).map (fun d => d.parameters.length) = some 1 := by decide +kernel
theorem d_Model_out_0 : decode prog_11_method_48_code 0 = .ok (.aload_n 0, 1) := by decide +kernel
theorem d_Model_out_1 : decode prog_11_method_48_code 1 = .ok (.iload_n 1, 1) := by decide +kernel
theorem d_Model_out_2 : decode prog_11_method_48_code 2 = .ok (.i2l, 1) := by decide +kernel
theorem d_Model_out_3 : decode prog_11_method_48_code 3 = .ok (.lconst 0, 1) := by decide +kernel
theorem d_Model_out_4 : decode prog_11_method_48_code 4 = .ok (.aload_n 0, 1) := by decide +kernel
theorem d_Model_out_5 : decode prog_11_method_48_code 5 = .ok (.getfield 277, 3) := by decide +kernel
theorem d_Model_out_8 : decode prog_11_method_48_code 8 = .ok (.iconst 1, 1) := by decide +kernel
theorem d_Model_out_9 : decode prog_11_method_48_code 9 = .ok (.isub, 1) := by decide +kernel
theorem d_Model_out_10 : decode prog_11_method_48_code 10 = .ok (.i2l, 1) := by decide +kernel
theorem d_Model_out_11 : decode prog_11_method_48_code 11 = .ok (.invokestatic 242, 3) := by decide +kernel
theorem d_Model_out_14 : decode prog_11_method_48_code 14 = .ok (.ifCond .ne 7, 3) := by decide +kernel
theorem d_Model_out_17 : decode prog_11_method_48_code 17 = .ok (.iconst 1, 1) := by decide +kernel
theorem d_Model_out_18 : decode prog_11_method_48_code 18 = .ok (.goto 4, 3) := by decide +kernel
theorem d_Model_out_21 : decode prog_11_method_48_code 21 = .ok (.iconst 0, 1) := by decide +kernel
theorem d_Model_out_22 : decode prog_11_method_48_code 22 = .ok (.iconst 1, 1) := by decide +kernel
theorem d_Model_out_23 : decode prog_11_method_48_code 23 = .ok (.invokevirtual 223, 3) := by decide +kernel
theorem d_Model_out_26 : decode prog_11_method_48_code 26 = .ok (.ifCond .eq 5, 3) := by decide +kernel
theorem d_Model_out_29 : decode prog_11_method_48_code 29 = .ok (.lconst 0, 1) := by decide +kernel
theorem d_Model_out_30 : decode prog_11_method_48_code 30 = .ok (.lreturn, 1) := by decide +kernel
theorem d_Model_out_31 : decode prog_11_method_48_code 31 = .ok (.lconst 0, 1) := by decide +kernel
theorem d_Model_out_32 : decode prog_11_method_48_code 32 = .ok (.lstore_n 2, 1) := by decide +kernel
theorem d_Model_out_33 : decode prog_11_method_48_code 33 = .ok (.iconst 0, 1) := by decide +kernel
theorem d_Model_out_34 : decode prog_11_method_48_code 34 = .ok (.istore 4, 2) := by decide +kernel
theorem d_Model_out_36 : decode prog_11_method_48_code 36 = .ok (.iload 4, 2) := by decide +kernel
theorem d_Model_out_38 : decode prog_11_method_48_code 38 = .ok (.bipush 8, 2) := by decide +kernel
theorem d_Model_out_40 : decode prog_11_method_48_code 40 = .ok (.if_icmp .ge 39, 3) := by decide +kernel
theorem d_Model_out_43 : decode prog_11_method_48_code 43 = .ok (.iload_n 1, 1) := by decide +kernel
theorem d_Model_out_44 : decode prog_11_method_48_code 44 = .ok (.iload 4, 2) := by decide +kernel
theorem d_Model_out_46 : decode prog_11_method_48_code 46 = .ok (.iadd, 1) := by decide +kernel
theorem d_Model_out_47 : decode prog_11_method_48_code 47 = .ok (.aload_n 0, 1) := by decide +kernel
theorem d_Model_out_48 : decode prog_11_method_48_code 48 = .ok (.getfield 277, 3) := by decide +kernel
theorem d_Model_out_51 : decode prog_11_method_48_code 51 = .ok (.if_icmp .ge 28, 3) := by decide +kernel
theorem d_Model_out_54 : decode prog_11_method_48_code 54 = .ok (.lload_n 2, 1) := by decide +kernel
theorem d_Model_out_55 : decode prog_11_method_48_code 55 = .ok (.aload_n 0, 1) := by decide +kernel
theorem d_Model_out_56 : decode prog_11_method_48_code 56 = .ok (.getfield 131, 3) := by decide +kernel
theorem d_Model_out_59 : decode prog_11_method_48_code 59 = .ok (.iload_n 1, 1) := by decide +kernel
theorem d_Model_out_60 : decode prog_11_method_48_code 60 = .ok (.iload 4, 2) := by decide +kernel
theorem d_Model_out_62 : decode prog_11_method_48_code 62 = .ok (.iadd, 1) := by decide +kernel
theorem d_Model_out_63 : decode prog_11_method_48_code 63 = .ok (.iaload, 1) := by decide +kernel
theorem d_Model_out_64 : decode prog_11_method_48_code 64 = .ok (.i2l, 1) := by decide +kernel
theorem d_Model_out_65 : decode prog_11_method_48_code 65 = .ok (.bipush 8, 2) := by decide +kernel
theorem d_Model_out_67 : decode prog_11_method_48_code 67 = .ok (.iload 4, 2) := by decide +kernel
theorem d_Model_out_69 : decode prog_11_method_48_code 69 = .ok (.imul, 1) := by decide +kernel
theorem d_Model_out_70 : decode prog_11_method_48_code 70 = .ok (.lshl, 1) := by decide +kernel
theorem d_Model_out_71 : decode prog_11_method_48_code 71 = .ok (.lor, 1) := by decide +kernel
theorem d_Model_out_72 : decode prog_11_method_48_code 72 = .ok (.lstore_n 2, 1) := by decide +kernel
theorem d_Model_out_73 : decode prog_11_method_48_code 73 = .ok (.iinc 4 1, 3) := by decide +kernel
theorem d_Model_out_76 : decode prog_11_method_48_code 76 = .ok (.goto (-40), 3) := by decide +kernel
theorem d_Model_out_79 : decode prog_11_method_48_code 79 = .ok (.lload_n 2, 1) := by decide +kernel
theorem d_Model_out_80 : decode prog_11_method_48_code 80 = .ok (.lreturn, 1) := by decide +kernel
abbrev y_Model_transform : MethodName := ⟨"KateDeskModel", "transform", "(IIZ)V"⟩
theorem hd_Model_transform : y_Model_transform.cls ≠ "java/lang/invoke/MethodHandle" ∧ y_Model_transform.cls ≠ "java/lang/invoke/VarHandle" ∧ (parseMethodDescriptor y_Model_transform.desc).map (fun d => d.parameters.length) = some 3 := by decide +kernel
theorem d_Model_transform_0 : decode prog_11_method_59_code 0 = .ok (.iconst 1, 1) := by decide +kernel
theorem d_Model_transform_1 : decode prog_11_method_59_code 1 = .ok (.iload_n 2, 1) := by decide +kernel
theorem d_Model_transform_2 : decode prog_11_method_59_code 2 = .ok (.bipush 7, 2) := by decide +kernel
theorem d_Model_transform_4 : decode prog_11_method_59_code 4 = .ok (.iand, 1) := by decide +kernel
theorem d_Model_transform_5 : decode prog_11_method_59_code 5 = .ok (.ishl, 1) := by decide +kernel
theorem d_Model_transform_6 : decode prog_11_method_59_code 6 = .ok (.istore 4, 2) := by decide +kernel
theorem d_Model_transform_8 : decode prog_11_method_59_code 8 = .ok (.aload_n 0, 1) := by decide +kernel
theorem d_Model_transform_9 : decode prog_11_method_59_code 9 = .ok (.iload_n 2, 1) := by decide +kernel
theorem d_Model_transform_10 : decode prog_11_method_59_code 10 = .ok (.i2l, 1) := by decide +kernel
theorem d_Model_transform_11 : decode prog_11_method_59_code 11 = .ok (.lconst 0, 1) := by decide +kernel
theorem d_Model_transform_12 : decode prog_11_method_59_code 12 = .ok (.ldc2_w 269, 3) := by decide +kernel
theorem d_Model_transform_15 : decode prog_11_method_59_code 15 = .ok (.invokestatic 242, 3) := by decide +kernel
theorem d_Model_transform_18 : decode prog_11_method_59_code 18 = .ok (.ifCond .eq 12, 3) := by decide +kernel
theorem d_Model_transform_21 : decode prog_11_method_59_code 21 = .ok (.iload_n 1, 1) := by decide +kernel
theorem d_Model_transform_22 : decode prog_11_method_59_code 22 = .ok (.iload 4, 2) := by decide +kernel
theorem d_Model_transform_24 : decode prog_11_method_59_code 24 = .ok (.invokestatic 283, 3) := by decide +kernel
theorem d_Model_transform_27 : decode prog_11_method_59_code 27 = .ok (.ifCond .eq 7, 3) := by decide +kernel
theorem d_Model_transform_30 : decode prog_11_method_59_code 30 = .ok (.iconst 1, 1) := by decide +kernel
theorem d_Model_transform_31 : decode prog_11_method_59_code 31 = .ok (.goto 4, 3) := by decide +kernel
theorem d_Model_transform_34 : decode prog_11_method_59_code 34 = .ok (.iconst 0, 1) := by decide +kernel
theorem d_Model_transform_35 : decode prog_11_method_59_code 35 = .ok (.iconst 1, 1) := by decide +kernel
theorem d_Model_transform_36 : decode prog_11_method_59_code 36 = .ok (.invokevirtual 223, 3) := by decide +kernel
theorem d_Model_transform_39 : decode prog_11_method_59_code 39 = .ok (.ifCond .eq 4, 3) := by decide +kernel
theorem d_Model_transform_42 : decode prog_11_method_59_code 42 = .ok (.return_, 1) := by decide +kernel
theorem d_Model_transform_43 : decode prog_11_method_59_code 43 = .ok (.aload_n 0, 1) := by decide +kernel
theorem d_Model_transform_44 : decode prog_11_method_59_code 44 = .ok (.sipush 166, 3) := by decide +kernel
theorem d_Model_transform_47 : decode prog_11_method_59_code 47 = .ok (.iload_n 2, 1) := by decide +kernel
theorem d_Model_transform_48 : decode prog_11_method_59_code 48 = .ok (.invokevirtual 259, 3) := by decide +kernel
theorem d_Model_transform_51 : decode prog_11_method_59_code 51 = .ok (.iload_n 3, 1) := by decide +kernel
theorem d_Model_transform_52 : decode prog_11_method_59_code 52 = .ok (.ifCond .eq 23, 3) := by decide +kernel
theorem d_Model_transform_55 : decode prog_11_method_59_code 55 = .ok (.aload_n 0, 1) := by decide +kernel
theorem d_Model_transform_56 : decode prog_11_method_59_code 56 = .ok (.sipush 168, 3) := by decide +kernel
theorem d_Model_transform_59 : decode prog_11_method_59_code 59 = .ok (.sipush 166, 3) := by decide +kernel
theorem d_Model_transform_62 : decode prog_11_method_59_code 62 = .ok (.invokevirtual 249, 3) := by decide +kernel
theorem d_Model_transform_65 : decode prog_11_method_59_code 65 = .ok (.aload_n 0, 1) := by decide +kernel
theorem d_Model_transform_66 : decode prog_11_method_59_code 66 = .ok (.sipush 166, 3) := by decide +kernel
theorem d_Model_transform_69 : decode prog_11_method_59_code 69 = .ok (.sipush 168, 3) := by decide +kernel
theorem d_Model_transform_72 : decode prog_11_method_59_code 72 = .ok (.invokevirtual 180, 3) := by decide +kernel
theorem d_Model_transform_75 : decode prog_11_method_59_code 75 = .ok (.aload_n 0, 1) := by decide +kernel
theorem d_Model_transform_76 : decode prog_11_method_59_code 76 = .ok (.sipush 169, 3) := by decide +kernel
theorem d_Model_transform_79 : decode prog_11_method_59_code 79 = .ok (.invokevirtual 141, 3) := by decide +kernel
theorem d_Model_transform_82 : decode prog_11_method_59_code 82 = .ok (.iconst 0, 1) := by decide +kernel
theorem d_Model_transform_83 : decode prog_11_method_59_code 83 = .ok (.istore 5, 2) := by decide +kernel
theorem d_Model_transform_85 : decode prog_11_method_59_code 85 = .ok (.iload 5, 2) := by decide +kernel
theorem d_Model_transform_87 : decode prog_11_method_59_code 87 = .ok (.iload 4, 2) := by decide +kernel
theorem d_Model_transform_89 : decode prog_11_method_59_code 89 = .ok (.if_icmp .ge 73, 3) := by decide +kernel
theorem d_Model_transform_92 : decode prog_11_method_59_code 92 = .ok (.aload_n 0, 1) := by decide +kernel
theorem d_Model_transform_93 : decode prog_11_method_59_code 93 = .ok (.sipush 168, 3) := by decide +kernel
theorem d_Model_transform_96 : decode prog_11_method_59_code 96 = .ok (.iload_n 1, 1) := by decide +kernel
theorem d_Model_transform_97 : decode prog_11_method_59_code 97 = .ok (.iload 4, 2) := by decide +kernel
theorem d_Model_transform_99 : decode prog_11_method_59_code 99 = .ok (.sipush 169, 3) := by decide +kernel
theorem d_Model_transform_102 : decode prog_11_method_59_code 102 = .ok (.invokevirtual 297, 3) := by decide +kernel
theorem d_Model_transform_105 : decode prog_11_method_59_code 105 = .ok (.iconst 0, 1) := by decide +kernel
theorem d_Model_transform_106 : decode prog_11_method_59_code 106 = .ok (.istore 6, 2) := by decide +kernel
theorem d_Model_transform_108 : decode prog_11_method_59_code 108 = .ok (.iload 6, 2) := by decide +kernel
theorem d_Model_transform_110 : decode prog_11_method_59_code 110 = .ok (.bipush 14, 2) := by decide +kernel
theorem d_Model_transform_112 : decode prog_11_method_59_code 112 = .ok (.if_icmp .ge 31, 3) := by decide +kernel
theorem d_Model_transform_115 : decode prog_11_method_59_code 115 = .ok (.aload_n 0, 1) := by decide +kernel
theorem d_Model_transform_116 : decode prog_11_method_59_code 116 = .ok (.getfield 134, 3) := by decide +kernel
theorem d_Model_transform_119 : decode prog_11_method_59_code 119 = .ok (.bipush 14, 2) := by decide +kernel
theorem d_Model_transform_121 : decode prog_11_method_59_code 121 = .ok (.iload 5, 2) := by decide +kernel
theorem d_Model_transform_123 : decode prog_11_method_59_code 123 = .ok (.imul, 1) := by decide +kernel
theorem d_Model_transform_124 : decode prog_11_method_59_code 124 = .ok (.iload 6, 2) := by decide +kernel
theorem d_Model_transform_126 : decode prog_11_method_59_code 126 = .ok (.iadd, 1) := by decide +kernel
theorem d_Model_transform_127 : decode prog_11_method_59_code 127 = .ok (.aload_n 0, 1) := by decide +kernel
theorem d_Model_transform_128 : decode prog_11_method_59_code 128 = .ok (.sipush 168, 3) := by decide +kernel
theorem d_Model_transform_131 : decode prog_11_method_59_code 131 = .ok (.iload 6, 2) := by decide +kernel
theorem d_Model_transform_133 : decode prog_11_method_59_code 133 = .ok (.invokevirtual 164, 3) := by decide +kernel
theorem d_Model_transform_136 : decode prog_11_method_59_code 136 = .ok (.lastore, 1) := by decide +kernel
theorem d_Model_transform_137 : decode prog_11_method_59_code 137 = .ok (.iinc 6 1, 3) := by decide +kernel
theorem d_Model_transform_140 : decode prog_11_method_59_code 140 = .ok (.goto (-32), 3) := by decide +kernel
theorem d_Model_transform_143 : decode prog_11_method_59_code 143 = .ok (.aload_n 0, 1) := by decide +kernel
theorem d_Model_transform_144 : decode prog_11_method_59_code 144 = .ok (.sipush 169, 3) := by decide +kernel
theorem d_Model_transform_147 : decode prog_11_method_59_code 147 = .ok (.sipush 169, 3) := by decide +kernel
theorem d_Model_transform_150 : decode prog_11_method_59_code 150 = .ok (.sipush 166, 3) := by decide +kernel
theorem d_Model_transform_153 : decode prog_11_method_59_code 153 = .ok (.invokevirtual 184, 3) := by decide +kernel
theorem d_Model_transform_156 : decode prog_11_method_59_code 156 = .ok (.iinc 5 1, 3) := by decide +kernel
theorem d_Model_transform_159 : decode prog_11_method_59_code 159 = .ok (.goto (-74), 3) := by decide +kernel
theorem d_Model_transform_162 : decode prog_11_method_59_code 162 = .ok (.aload_n 0, 1) := by decide +kernel
theorem d_Model_transform_163 : decode prog_11_method_59_code 163 = .ok (.sipush 166, 3) := by decide +kernel
theorem d_Model_transform_166 : decode prog_11_method_59_code 166 = .ok (.iload 4, 2) := by decide +kernel
theorem d_Model_transform_168 : decode prog_11_method_59_code 168 = .ok (.i2l, 1) := by decide +kernel
theorem d_Model_transform_169 : decode prog_11_method_59_code 169 = .ok (.invokevirtual 235, 3) := by decide +kernel
theorem d_Model_transform_172 : decode prog_11_method_59_code 172 = .ok (.aload_n 0, 1) := by decide +kernel
theorem d_Model_transform_173 : decode prog_11_method_59_code 173 = .ok (.sipush 168, 3) := by decide +kernel
theorem d_Model_transform_176 : decode prog_11_method_59_code 176 = .ok (.sipush 166, 3) := by decide +kernel
theorem d_Model_transform_179 : decode prog_11_method_59_code 179 = .ok (.invokevirtual 249, 3) := by decide +kernel
theorem d_Model_transform_182 : decode prog_11_method_59_code 182 = .ok (.iconst 0, 1) := by decide +kernel
theorem d_Model_transform_183 : decode prog_11_method_59_code 183 = .ok (.istore 5, 2) := by decide +kernel
theorem d_Model_transform_185 : decode prog_11_method_59_code 185 = .ok (.iload 5, 2) := by decide +kernel
theorem d_Model_transform_187 : decode prog_11_method_59_code 187 = .ok (.iload 4, 2) := by decide +kernel
theorem d_Model_transform_189 : decode prog_11_method_59_code 189 = .ok (.if_icmp .ge 72, 3) := by decide +kernel
theorem d_Model_transform_192 : decode prog_11_method_59_code 192 = .ok (.iconst 0, 1) := by decide +kernel
theorem d_Model_transform_193 : decode prog_11_method_59_code 193 = .ok (.istore 6, 2) := by decide +kernel
theorem d_Model_transform_195 : decode prog_11_method_59_code 195 = .ok (.iload 6, 2) := by decide +kernel
theorem d_Model_transform_197 : decode prog_11_method_59_code 197 = .ok (.bipush 14, 2) := by decide +kernel
theorem d_Model_transform_199 : decode prog_11_method_59_code 199 = .ok (.if_icmp .ge 37, 3) := by decide +kernel
theorem d_Model_transform_202 : decode prog_11_method_59_code 202 = .ok (.aload_n 0, 1) := by decide +kernel
theorem d_Model_transform_203 : decode prog_11_method_59_code 203 = .ok (.getfield 7, 3) := by decide +kernel
theorem d_Model_transform_206 : decode prog_11_method_59_code 206 = .ok (.bipush 14, 2) := by decide +kernel
theorem d_Model_transform_208 : decode prog_11_method_59_code 208 = .ok (.iload_n 1, 1) := by decide +kernel
theorem d_Model_transform_209 : decode prog_11_method_59_code 209 = .ok (.iload 5, 2) := by decide +kernel
theorem d_Model_transform_211 : decode prog_11_method_59_code 211 = .ok (.iadd, 1) := by decide +kernel
theorem d_Model_transform_212 : decode prog_11_method_59_code 212 = .ok (.imul, 1) := by decide +kernel
theorem d_Model_transform_213 : decode prog_11_method_59_code 213 = .ok (.iload 6, 2) := by decide +kernel
theorem d_Model_transform_215 : decode prog_11_method_59_code 215 = .ok (.iadd, 1) := by decide +kernel
theorem d_Model_transform_216 : decode prog_11_method_59_code 216 = .ok (.aload_n 0, 1) := by decide +kernel
theorem d_Model_transform_217 : decode prog_11_method_59_code 217 = .ok (.getfield 134, 3) := by decide +kernel
theorem d_Model_transform_220 : decode prog_11_method_59_code 220 = .ok (.bipush 14, 2) := by decide +kernel
theorem d_Model_transform_222 : decode prog_11_method_59_code 222 = .ok (.iload 5, 2) := by decide +kernel
theorem d_Model_transform_224 : decode prog_11_method_59_code 224 = .ok (.imul, 1) := by decide +kernel
theorem d_Model_transform_225 : decode prog_11_method_59_code 225 = .ok (.iload 6, 2) := by decide +kernel
theorem d_Model_transform_227 : decode prog_11_method_59_code 227 = .ok (.iadd, 1) := by decide +kernel
theorem d_Model_transform_228 : decode prog_11_method_59_code 228 = .ok (.laload, 1) := by decide +kernel
theorem d_Model_transform_229 : decode prog_11_method_59_code 229 = .ok (.lastore, 1) := by decide +kernel
theorem d_Model_transform_230 : decode prog_11_method_59_code 230 = .ok (.iinc 6 1, 3) := by decide +kernel
theorem d_Model_transform_233 : decode prog_11_method_59_code 233 = .ok (.goto (-38), 3) := by decide +kernel
theorem d_Model_transform_236 : decode prog_11_method_59_code 236 = .ok (.iload_n 3, 1) := by decide +kernel
theorem d_Model_transform_237 : decode prog_11_method_59_code 237 = .ok (.ifCond .eq 18, 3) := by decide +kernel
theorem d_Model_transform_240 : decode prog_11_method_59_code 240 = .ok (.aload_n 0, 1) := by decide +kernel
theorem d_Model_transform_241 : decode prog_11_method_59_code 241 = .ok (.iload_n 1, 1) := by decide +kernel
theorem d_Model_transform_242 : decode prog_11_method_59_code 242 = .ok (.iload 5, 2) := by decide +kernel
theorem d_Model_transform_244 : decode prog_11_method_59_code 244 = .ok (.iadd, 1) := by decide +kernel
theorem d_Model_transform_245 : decode prog_11_method_59_code 245 = .ok (.iload_n 1, 1) := by decide +kernel
theorem d_Model_transform_246 : decode prog_11_method_59_code 246 = .ok (.iload 5, 2) := by decide +kernel
theorem d_Model_transform_248 : decode prog_11_method_59_code 248 = .ok (.iadd, 1) := by decide +kernel
theorem d_Model_transform_249 : decode prog_11_method_59_code 249 = .ok (.sipush 168, 3) := by decide +kernel
theorem d_Model_transform_252 : decode prog_11_method_59_code 252 = .ok (.invokevirtual 184, 3) := by decide +kernel
theorem d_Model_transform_255 : decode prog_11_method_59_code 255 = .ok (.iinc 5 1, 3) := by decide +kernel
theorem d_Model_transform_258 : decode prog_11_method_59_code 258 = .ok (.goto (-73), 3) := by decide +kernel
theorem d_Model_transform_261 : decode prog_11_method_59_code 261 = .ok (.return_, 1) := by decide +kernel
set_option maxHeartbeats 4000000 in
set_option maxRecDepth 100000 in
theorem c_Model_lagrange (l : Launch) (g : WG) (n0 : Nat → Prop) (mo : Nat) (a : Int32) (kv : Int32) (iv : Int32) (z0 : Int32) (fd : Nat → Int64) (hmn : n0 mo) (hz : FZ fd) : Ctr l y_Model_lagrange (.code y_Model_lagrange prog_11_method_60_code 5 none) 5 125 0 0 n0 g [.ref mo, .int a, .int kv, .int iv, .int z0] (fun H => MS g n0 H mo 0 0 0 0 0 14 fd) (QV (fun H H' => ((okS a (nI 1) ∧ okC kv (nI 0) (nI 4) ∧ ((0 : Int64).toInt ≤ iv.toInt64.toInt ∧ iv.toInt64.toInt ≤ ((nI 1 <<< ((kv &&& nI 7) &&& 31)) - nI 1).toInt64.toInt) ∧ okS z0 (nI 1)) ∧ TH g n0 H' mo 0) ∨ (¬ (okS a (nI 1) ∧ okC kv (nI 0) (nI 4) ∧ ((0 : Int64).toInt ≤ iv.toInt64.toInt ∧ iv.toInt64.toInt ≤ ((nI 1 <<< ((kv &&& nI 7) &&& 31)) - nI 1).toInt64.toInt) ∧ okS z0 (nI 1)) ∧ TH g n0 H' mo 1))) := by
  refine ctr_mk l (lv0 := [(0, .ref mo), (1, .int a), (2, .int kv), (3, .int iv), (4, .int z0)]) (by decide) (Nat.le_of_ble_eq_true rfl) rfl ?_
  intro p e s m below meth c ls E hr hlk hnm hl hP
  have hx := E.1
  have hb := E.2.1
  have hK := E.2.2.2.2.2
  have hF : ∀ q ∈ ([] : List Loc), n0 q.base := fun q hq => absurd hq List.not_mem_nil
  have hm := hP
  have hfr : FRM (MR mo) s.heap s.heap := FRM.rf
  have bad : ∀ (locs : List Loc) (ls : Array Slot), ¬ (okS a (nI 1) ∧ okC kv (nI 0) (nI 4) ∧ ((0 : Int64).toInt ≤ iv.toInt64.toInt ∧ iv.toInt64.toInt ≤ ((nI 1 <<< ((kv &&& nI 7) &&& 31)) - nI 1).toInt64.toInt) ∧ okS z0 (nI 1)) → (∀ q ∈ locs, n0 q.base) → lv_has ls 5 [(0, .ref mo), (1, .int a), (2, .int kv), (3, .int iv), (4, .int z0)] → W p l e { frames := 5, cells := 0, slots := 0, locals := 125 } s m [.ref mo, .int a, .int kv, .int iv, .int z0].toArray below meth c s.heap locs 0 0 (MQ below (QcP (QV (fun H H' => ((okS a (nI 1) ∧ okC kv (nI 0) (nI 4) ∧ ((0 : Int64).toInt ≤ iv.toInt64.toInt ∧ iv.toInt64.toInt ≤ ((nI 1 <<< ((kv &&& nI 7) &&& 31)) - nI 1).toInt64.toInt) ∧ okS z0 (nI 1)) ∧ TH g n0 H' mo 0) ∨ (¬ (okS a (nI 1) ∧ okC kv (nI 0) (nI 4) ∧ ((0 : Int64).toInt ≤ iv.toInt64.toInt ∧ iv.toInt64.toInt ≤ ((nI 1 <<< ((kv &&& nI 7) &&& 31)) - nI 1).toInt64.toInt) ∧ okS z0 (nI 1)) ∧ TH g n0 H' mo 1)))) [.ref mo, .int a, .int kv, .int iv, .int z0].toArray s 0 0 (fun q => n0 q)) (F0 m 51 ls [.int (nI 1), .ref mo]) := by
    intro  locs   ls hno hF hl
    refine lv_iconst (v := nI 1) hx hb d_Model_lagrange_51 (by decide) ?_
    refine q_cV (rest := []) E (c_Model_fails l g n0 mo 0 0 0 0 0 14 hw0 (nI 1) (nI 1) fd hmn (Or.inl rfl)) w_1056 w_15 w_1053 w_1055 (bw_s 24 rfl) hd_Model_fails rfl ⟨by decide, by decide⟩ (OB.recv E.2.2.2.2.2 (by rfl) hm.1) hm hF hl.1 rfl (Nat.le_of_ble_eq_true rfl) d_Model_lagrange_52 ⟨by decide, by decide⟩ (qi (fun rf H1 locs hq hF => ?_))
    obtain ⟨hrf, hq, hm⟩ := hq
    subst hrf
    have hfr := hfr.tr hq
    rw [if_neg (by decide)] at hm
    refine lv_if_eq (tgt := 59) hx hb d_Model_lagrange_55 (by decide) (fun h9 => absurd h9 (by decide)) (fun _ => ?_)
    exact q_vret E hr hlk (⟨rfl, Or.inr ⟨hno, ⟨_, _, _, _, _, _, hw0, hm⟩⟩⟩) hF d_Model_lagrange_58
  have good : ∀ (locs : List Loc) (ls : Array Slot), okS a (nI 1) ∧ okC kv (nI 0) (nI 4) ∧ ((0 : Int64).toInt ≤ iv.toInt64.toInt ∧ iv.toInt64.toInt ≤ ((nI 1 <<< ((kv &&& nI 7) &&& 31)) - nI 1).toInt64.toInt) ∧ okS z0 (nI 1) → (∀ q ∈ locs, n0 q.base) → lv_has ls 5 [(0, .ref mo), (1, .int a), (2, .int kv), (3, .int iv), (4, .int z0)] → W p l e { frames := 5, cells := 0, slots := 0, locals := 125 } s m [.ref mo, .int a, .int kv, .int iv, .int z0].toArray below meth c s.heap locs 0 0 (MQ below (QcP (QV (fun H H' => ((okS a (nI 1) ∧ okC kv (nI 0) (nI 4) ∧ ((0 : Int64).toInt ≤ iv.toInt64.toInt ∧ iv.toInt64.toInt ≤ ((nI 1 <<< ((kv &&& nI 7) &&& 31)) - nI 1).toInt64.toInt) ∧ okS z0 (nI 1)) ∧ TH g n0 H' mo 0) ∨ (¬ (okS a (nI 1) ∧ okC kv (nI 0) (nI 4) ∧ ((0 : Int64).toInt ≤ iv.toInt64.toInt ∧ iv.toInt64.toInt ≤ ((nI 1 <<< ((kv &&& nI 7) &&& 31)) - nI 1).toInt64.toInt) ∧ okS z0 (nI 1)) ∧ TH g n0 H' mo 1)))) [.ref mo, .int a, .int kv, .int iv, .int z0].toArray s 0 0 (fun q => n0 q)) (F0 m 51 ls [.int (nI 0), .ref mo]) := by
    intro  locs   ls hok hF hl
    refine lv_iconst (v := nI 1) hx hb d_Model_lagrange_51 (by decide) ?_
    refine q_cV (rest := []) E (c_Model_fails l g n0 mo 0 0 0 0 0 14 hw0 (nI 0) (nI 1) fd hmn (Or.inr rfl)) w_1056 w_15 w_1053 w_1055 (bw_s 24 rfl) hd_Model_fails rfl ⟨by decide, by decide⟩ (OB.recv E.2.2.2.2.2 (by rfl) hm.1) hm hF hl.1 rfl (Nat.le_of_ble_eq_true rfl) d_Model_lagrange_52 ⟨by decide, by decide⟩ (qi (fun rf H1 locs hq hF => ?_))
    obtain ⟨hrf, hq, hm⟩ := hq
    subst hrf
    have hfr := hfr.tr hq
    rw [if_pos nI_0] at hm
    refine lv_if_eq (tgt := 59) hx hb d_Model_lagrange_55 (by decide) (fun _ => ?_) (fun h9 => absurd (by decide) h9)
    obtain ⟨k1, e_k1, h_k1⟩ := okS_nat (by decide) (by decide) hok.1
    rw [e_k1] at hl
    obtain ⟨k2, e_k2, h_k2, h2_k2⟩ := okC_nat (by decide) (by decide) hok.2.1
    rw [e_k2] at hl
    obtain ⟨k4, e_k4, h_k4⟩ := okS_nat (by decide) (by decide) hok.2.2.2
    rw [e_k4] at hl
    refine lv_aload_n hx hb d_Model_lagrange_59 rfl (lv_at hl 0 rfl) ?_
    refine lv_sipush (v := nI 166) hx hb d_Model_lagrange_60 (by decide) ?_
    refine lv_iload_n hx hb d_Model_lagrange_63 rfl (lv_at hl 2 rfl) ?_
    refine q_cV (rest := []) E (c_Model_unit l g n0 mo 166 k2 0 0 0 0 0 14 hw0 fd hmn (by omega) (by omega)) w_1139 w_15 w_1136 w_1138 (bw_s 36 rfl) hd_Model_unit rfl ⟨by decide, by decide⟩ (OB.recv E.2.2.2.2.2 (by rfl) hm.1) hm hF hl.1 rfl (Nat.le_of_ble_eq_true rfl) d_Model_lagrange_64 ⟨by decide, by decide⟩ (qv (fun H2 locs hq hF => ?_))
    obtain ⟨hq, fd_1, hm⟩ := hq
    have hfr := hfr.tr hq
    refine lv_aload_n hx hb d_Model_lagrange_67 rfl (lv_at hl 0 rfl) ?_
    refine lv_sipush (v := nI 145) hx hb d_Model_lagrange_68 (by decide) ?_
    refine lv_iload_n hx hb d_Model_lagrange_71 rfl (lv_at hl 3 rfl) ?_
    refine lv_i2l (v := iv.toInt64) hx hb d_Model_lagrange_72 rfl ?_
    refine q_cV (rest := []) E (c_Model_small l g n0 mo 145 iv.toInt64 0 0 0 0 1 10 hw1 fd_1 (by omega)) w_1084 w_15 w_1081 w_1083 (bw_s 28 rfl) hd_Model_small rfl ⟨by decide, by decide⟩ (OB.recv E.2.2.2.2.2 (by rfl) hm.1) hm hF hl.1 rfl (Nat.le_of_ble_eq_true rfl) d_Model_lagrange_73 ⟨by decide, by decide⟩ (qv (fun H3 locs hq hF => ?_))
    obtain ⟨hq, fd_2, hm, -⟩ := hq
    have hfr := hfr.tr hq
    refine lv_aload_n hx hb d_Model_lagrange_76 rfl (lv_at hl 0 rfl) ?_
    refine lv_sipush (v := nI 168) hx hb d_Model_lagrange_77 (by decide) ?_
    refine lv_sipush (v := nI 166) hx hb d_Model_lagrange_80 (by decide) ?_
    refine lv_sipush (v := nI 145) hx hb d_Model_lagrange_83 (by decide) ?_
    refine q_cV (rest := []) E (c_Model_raise l g n0 mo 168 166 145 0 0 0 0 1 10 hw1  fd_2 (by omega) (by omega) (by omega) ) w_1126 w_15 w_1123 w_1125 (bw_s 35 rfl) hd_Model_raise rfl ⟨by decide, by decide⟩ (OB.recv E.2.2.2.2.2 (by rfl) hm.1) hm hF hl.1 rfl (Nat.le_of_ble_eq_true rfl) d_Model_lagrange_86 ⟨by decide, by decide⟩ (qv (fun H4 locs hq hF => ?_))
    obtain ⟨hq, fd_3, hm, -⟩ := hq
    have hfr := hfr.tr hq
    refine lv_aload_n hx hb d_Model_lagrange_89 rfl (lv_at hl 0 rfl) ?_
    refine lv_sipush (v := nI 168) hx hb d_Model_lagrange_90 (by decide) ?_
    refine lv_iload hx hb d_Model_lagrange_93 (lv_at hl 4 rfl) ?_
    refine q_cV (rest := []) E (c_Model_isSame l g n0 mo 168 k4 0 0 0 0 1 10 hw1 fd_3 (by omega) (by omega)) w_1163 w_15 w_1160 w_1162 (bw_s 39 rfl) hd_Model_isSame rfl ⟨by decide, by decide⟩ (OB.recv E.2.2.2.2.2 (by rfl) hm.1) hm hF hl.1 rfl (Nat.le_of_ble_eq_true rfl) d_Model_lagrange_95 ⟨by decide, by decide⟩ (qi (fun ra H5 locs hq hF => ?_))
    obtain ⟨h_ra, hq⟩ := hq
    subst hq
    refine lv_if_eq (tgt := 107) hx hb d_Model_lagrange_98 (by decide) (fun hc => ?_) (fun hc => ?_)
    rotate_left
    · skip
      refine lv_aload_n hx hb d_Model_lagrange_101 rfl (lv_at hl 0 rfl) ?_
      refine lv_iload_n hx hb d_Model_lagrange_102 rfl (lv_at hl 1 rfl) ?_
      refine q_cV (rest := []) E (c_Model_one l g n0 mo k1 0 0 0 0 1 10 hw1  fd_3 (by omega) ) w_971 w_15 w_968 w_970 (bw_s 16 rfl) hd_Model_one rfl ⟨by decide, by decide⟩ (OB.recv E.2.2.2.2.2 (by rfl) hm.1) hm hF hl.1 rfl (Nat.le_of_ble_eq_true rfl) d_Model_lagrange_103 ⟨by decide, by decide⟩ (qv (fun H6 locs hq hF => ?_))
      obtain ⟨hq, fd_4, hm, hpv⟩ := hq
      have hfr := hfr.tr hq
      exact q_vret E hr hlk (⟨rfl, Or.inl ⟨hok, ⟨_, _, _, _, _, _, hw1, hm⟩⟩⟩) hF d_Model_lagrange_106
    refine lv_aload_n hx hb d_Model_lagrange_107 rfl (lv_at hl 0 rfl) ?_
    refine lv_sipush (v := nI 145) hx hb d_Model_lagrange_108 (by decide) ?_
    refine lv_lconst (v := 1) hx hb d_Model_lagrange_111 (by decide) ?_
    refine lv_iload_n hx hb d_Model_lagrange_112 rfl (lv_at hl 2 rfl) ?_
    refine lv_lshl (v := (1 : Int64) <<< ((nI k2).toInt64 &&& 63)) hx hb d_Model_lagrange_113 rfl ?_
    refine q_cV (rest := []) E (c_Model_small l g n0 mo 145 ((1 : Int64) <<< ((nI k2).toInt64 &&& 63)) 0 0 0 0 1 10 hw1 fd_3 (by omega)) w_1084 w_15 w_1081 w_1083 (bw_s 28 rfl) hd_Model_small rfl ⟨by decide, by decide⟩ (OB.recv E.2.2.2.2.2 (by rfl) hm.1) hm hF hl.1 rfl (Nat.le_of_ble_eq_true rfl) d_Model_lagrange_114 ⟨by decide, by decide⟩ (qv (fun H6 locs hq hF => ?_))
    obtain ⟨hq, fd_5, hm, -⟩ := hq
    have hfr := hfr.tr hq
    refine lv_aload_n hx hb d_Model_lagrange_117 rfl (lv_at hl 0 rfl) ?_
    refine lv_sipush (v := nI 169) hx hb d_Model_lagrange_118 (by decide) ?_
    refine lv_iload hx hb d_Model_lagrange_121 (lv_at hl 4 rfl) ?_
    refine lv_sipush (v := nI 145) hx hb d_Model_lagrange_123 (by decide) ?_
    refine q_cV (rest := []) E (c_Model_raise l g n0 mo 169 k4 145 0 0 0 0 1 10 hw1  fd_5 (by omega) (by omega) (by omega) ) w_1126 w_15 w_1123 w_1125 (bw_s 35 rfl) hd_Model_raise rfl ⟨by decide, by decide⟩ (OB.recv E.2.2.2.2.2 (by rfl) hm.1) hm hF hl.1 rfl (Nat.le_of_ble_eq_true rfl) d_Model_lagrange_126 ⟨by decide, by decide⟩ (qv (fun H7 locs hq hF => ?_))
    obtain ⟨hq, fd_6, hm, -⟩ := hq
    have hfr := hfr.tr hq
    refine lv_aload_n hx hb d_Model_lagrange_129 rfl (lv_at hl 0 rfl) ?_
    refine lv_sipush (v := nI 166) hx hb d_Model_lagrange_130 (by decide) ?_
    refine q_cV (rest := []) E (c_Model_one l g n0 mo 166 0 0 0 0 1 10 hw1  fd_6 (by omega) ) w_971 w_15 w_968 w_970 (bw_s 16 rfl) hd_Model_one rfl ⟨by decide, by decide⟩ (OB.recv E.2.2.2.2.2 (by rfl) hm.1) hm hF hl.1 rfl (Nat.le_of_ble_eq_true rfl) d_Model_lagrange_133 ⟨by decide, by decide⟩ (qv (fun H8 locs hq hF => ?_))
    obtain ⟨hq, fd_7, hm, hpv⟩ := hq
    have hfr := hfr.tr hq
    refine lv_aload_n hx hb d_Model_lagrange_136 rfl (lv_at hl 0 rfl) ?_
    refine lv_sipush (v := nI 169) hx hb d_Model_lagrange_137 (by decide) ?_
    refine lv_sipush (v := nI 169) hx hb d_Model_lagrange_140 (by decide) ?_
    refine lv_sipush (v := nI 166) hx hb d_Model_lagrange_143 (by decide) ?_
    refine q_cV (rest := []) E (c_Model_less l g n0 mo 169 169 166 0 0 0 0 1 10 hw1  fd_7 (by omega) (by omega) (by omega) ) w_1109 w_15 w_1106 w_1108 (bw_s 31 rfl) hd_Model_less rfl ⟨by decide, by decide⟩ (OB.recv E.2.2.2.2.2 (by rfl) hm.1) hm hF hl.1 rfl (Nat.le_of_ble_eq_true rfl) d_Model_lagrange_146 ⟨by decide, by decide⟩ (qv (fun H9 locs hq hF => ?_))
    obtain ⟨hq, fd_8, hm, hpv, hv⟩ := hq
    have hfr := hfr.tr (kjR hq)
    refine lv_aload_n hx hb d_Model_lagrange_149 rfl (lv_at hl 0 rfl) ?_
    refine lv_sipush (v := nI 169) hx hb d_Model_lagrange_150 (by decide) ?_
    refine lv_sipush (v := nI 169) hx hb d_Model_lagrange_153 (by decide) ?_
    refine lv_sipush (v := nI 168) hx hb d_Model_lagrange_156 (by decide) ?_
    refine q_cV (rest := []) E (c_Model_product l g n0 mo 169 169 168 0 0 0 0 1 10 hw1  fd_8 (by omega) (by omega) (by omega) ) w_1113 w_15 w_1110 w_1112 (bw_s 32 rfl) hd_Model_product rfl ⟨by decide, by decide⟩ (OB.recv E.2.2.2.2.2 (by rfl) hm.1) hm hF hl.1 rfl (Nat.le_of_ble_eq_true rfl) d_Model_lagrange_159 ⟨by decide, by decide⟩ (qv (fun H10 locs hq hF => ?_))
    obtain ⟨hq, fd_9, hm, hpv, hv⟩ := hq
    have hfr := hfr.tr (kjR hq)
    refine lv_aload_n hx hb d_Model_lagrange_162 rfl (lv_at hl 0 rfl) ?_
    refine lv_sipush (v := nI 168) hx hb d_Model_lagrange_163 (by decide) ?_
    refine lv_iload hx hb d_Model_lagrange_166 (lv_at hl 4 rfl) ?_
    refine lv_sipush (v := nI 168) hx hb d_Model_lagrange_168 (by decide) ?_
    refine q_cV (rest := []) E (c_Model_less l g n0 mo 168 k4 168 0 0 0 0 1 10 hw1  fd_9 (by omega) (by omega) (by omega) ) w_1109 w_15 w_1106 w_1108 (bw_s 31 rfl) hd_Model_less rfl ⟨by decide, by decide⟩ (OB.recv E.2.2.2.2.2 (by rfl) hm.1) hm hF hl.1 rfl (Nat.le_of_ble_eq_true rfl) d_Model_lagrange_171 ⟨by decide, by decide⟩ (qv (fun H11 locs hq hF => ?_))
    obtain ⟨hq, fd_10, hm, hpv, hv⟩ := hq
    have hfr := hfr.tr (kjR hq)
    refine lv_aload_n hx hb d_Model_lagrange_174 rfl (lv_at hl 0 rfl) ?_
    refine lv_sipush (v := nI 166) hx hb d_Model_lagrange_175 (by decide) ?_
    refine lv_lconst (v := 1) hx hb d_Model_lagrange_178 (by decide) ?_
    refine lv_iload_n hx hb d_Model_lagrange_179 rfl (lv_at hl 2 rfl) ?_
    refine lv_lshl (v := (1 : Int64) <<< ((nI k2).toInt64 &&& 63)) hx hb d_Model_lagrange_180 rfl ?_
    refine q_cV (rest := []) E (c_Model_small l g n0 mo 166 ((1 : Int64) <<< ((nI k2).toInt64 &&& 63)) 0 0 0 0 1 10 hw1 fd_10 (by omega)) w_1084 w_15 w_1081 w_1083 (bw_s 28 rfl) hd_Model_small rfl ⟨by decide, by decide⟩ (OB.recv E.2.2.2.2.2 (by rfl) hm.1) hm hF hl.1 rfl (Nat.le_of_ble_eq_true rfl) d_Model_lagrange_181 ⟨by decide, by decide⟩ (qv (fun H12 locs hq hF => ?_))
    obtain ⟨hq, fd_11, hm, -⟩ := hq
    have hfr := hfr.tr hq
    refine lv_aload_n hx hb d_Model_lagrange_184 rfl (lv_at hl 0 rfl) ?_
    refine lv_sipush (v := nI 168) hx hb d_Model_lagrange_185 (by decide) ?_
    refine lv_sipush (v := nI 168) hx hb d_Model_lagrange_188 (by decide) ?_
    refine lv_sipush (v := nI 166) hx hb d_Model_lagrange_191 (by decide) ?_
    refine q_cV (rest := []) E (c_Model_product l g n0 mo 168 168 166 0 0 0 0 1 10 hw1  fd_11 (by omega) (by omega) (by omega) ) w_1113 w_15 w_1110 w_1112 (bw_s 32 rfl) hd_Model_product rfl ⟨by decide, by decide⟩ (OB.recv E.2.2.2.2.2 (by rfl) hm.1) hm hF hl.1 rfl (Nat.le_of_ble_eq_true rfl) d_Model_lagrange_194 ⟨by decide, by decide⟩ (qv (fun H13 locs hq hF => ?_))
    obtain ⟨hq, fd_12, hm, hpv, hv⟩ := hq
    have hfr := hfr.tr (kjR hq)
    refine lv_aload_n hx hb d_Model_lagrange_197 rfl (lv_at hl 0 rfl) ?_
    refine lv_sipush (v := nI 166) hx hb d_Model_lagrange_198 (by decide) ?_
    refine lv_sipush (v := nI 168) hx hb d_Model_lagrange_201 (by decide) ?_
    refine q_cV (rest := []) E (c_Model_inverse l g n0 mo 166 168 0 0 0 0 1 10 hw1  fd_12 (by omega) (by omega) ) w_1117 w_15 w_1114 w_1116 (bw_s 33 rfl) hd_Model_inverse rfl ⟨by decide, by decide⟩ (OB.recv E.2.2.2.2.2 (by rfl) hm.1) hm hF hl.1 rfl (Nat.le_of_ble_eq_true rfl) d_Model_lagrange_204 ⟨by decide, by decide⟩ (qv (fun H14 locs hq hF => ?_))
    obtain ⟨hq, fd_13, hm, -⟩ := hq
    have hfr := hfr.tr hq
    refine lv_aload_n hx hb d_Model_lagrange_207 rfl (lv_at hl 0 rfl) ?_
    refine lv_iload_n hx hb d_Model_lagrange_208 rfl (lv_at hl 1 rfl) ?_
    refine lv_sipush (v := nI 169) hx hb d_Model_lagrange_209 (by decide) ?_
    refine lv_sipush (v := nI 166) hx hb d_Model_lagrange_212 (by decide) ?_
    refine q_cV (rest := []) E (c_Model_product l g n0 mo k1 169 166 0 0 0 0 1 10 hw1  fd_13 (by omega) (by omega) (by omega) ) w_1113 w_15 w_1110 w_1112 (bw_s 32 rfl) hd_Model_product rfl ⟨by decide, by decide⟩ (OB.recv E.2.2.2.2.2 (by rfl) hm.1) hm hF hl.1 rfl (Nat.le_of_ble_eq_true rfl) d_Model_lagrange_215 ⟨by decide, by decide⟩ (qv (fun H15 locs hq hF => ?_))
    obtain ⟨hq, fd_14, hm, hpv, hv⟩ := hq
    have hfr := hfr.tr (kjR hq)
    exact q_vret E hr hlk (⟨rfl, Or.inl ⟨hok, ⟨_, _, _, _, _, _, hw1, hm⟩⟩⟩) hF d_Model_lagrange_218
  refine lv_aload_n hx hb d_Model_lagrange_0 rfl (lv_at hl 0 rfl) ?_
  refine lv_iload_n hx hb d_Model_lagrange_1 rfl (lv_at hl 1 rfl) ?_
  refine q_cS (rest := [.ref mo]) E (c_Model_noScalar l g n0 a ) w_1064 w_15 w_1062 w_1063 hd_Model_noScalar rfl ⟨by decide, by decide⟩ trivial hF hl.1 rfl (Nat.le_of_ble_eq_true rfl) d_Model_lagrange_2 ⟨by decide, by decide⟩ (qi (fun r_0 H1 locs hq hF => ?_))
  obtain ⟨h_0, hq⟩ := hq
  subst hq
  rcases h_0 with ⟨rfl, f_0⟩ | ⟨rfl, f_0⟩
  · skip
    refine lv_if_ne (tgt := 46) hx hb d_Model_lagrange_5 (by decide) (fun _ => ?_) (fun h9 => absurd h9 (by decide))
    refine lv_iconst (v := nI 1) hx hb d_Model_lagrange_46 (by decide) ?_
    refine lv_goto (tgt := 51) hx hb d_Model_lagrange_47 (by decide) ?_
    have hl : lv_has ls 5 [(0, .ref mo), (1, .int a), (2, .int kv), (3, .int iv), (4, .int z0)] := lv_sub hl [0, 1, 2, 3, 4] rfl
    exact bad _ ls (fun h => (f_0) h.1) hF hl
  · skip
    refine lv_if_ne (tgt := 46) hx hb d_Model_lagrange_5 (by decide) (fun h9 => absurd (by decide) h9) (fun _ => ?_)
    refine lv_iload_n hx hb d_Model_lagrange_8 rfl (lv_at hl 2 rfl) ?_
    refine lv_i2l (v := kv.toInt64) hx hb d_Model_lagrange_9 rfl ?_
    refine lv_lconst (v := 0) hx hb d_Model_lagrange_10 (by decide) ?_
    refine lv_ldc2 (v := 4) hx hb E.2.2.2.1 (E.2.2.2.2.1 _ w_1155) d_Model_lagrange_11 ?_
    refine q_cS (rest := [.ref mo]) E (c_Model_in l g n0 kv.toInt64 0 4 ) w_1101 w_15 w_1099 w_1100 hd_Model_in rfl ⟨by decide, by decide⟩ trivial hF hl.1 rfl (Nat.le_of_ble_eq_true rfl) d_Model_lagrange_14 ⟨by decide, by decide⟩ (qi (fun r_1 H2 locs hq hF => ?_))
    obtain ⟨h_1, hq⟩ := hq
    subst hq
    rcases h_1 with ⟨rfl, f_1⟩ | ⟨rfl, f_1⟩
    · skip
      refine lv_if_eq (tgt := 46) hx hb d_Model_lagrange_17 (by decide) (fun _ => ?_) (fun h9 => absurd (by decide) h9)
      refine lv_iconst (v := nI 1) hx hb d_Model_lagrange_46 (by decide) ?_
      refine lv_goto (tgt := 51) hx hb d_Model_lagrange_47 (by decide) ?_
      have hl : lv_has ls 5 [(0, .ref mo), (1, .int a), (2, .int kv), (3, .int iv), (4, .int z0)] := lv_sub hl [0, 1, 2, 3, 4] rfl
      exact bad _ ls (fun h => (fun q => f_1 ((in_okC (a := 0) (b := 4) (by decide) (by decide) (by decide) (by decide)).mpr q)) h.2.1) hF hl
    · skip
      refine lv_if_eq (tgt := 46) hx hb d_Model_lagrange_17 (by decide) (fun h9 => absurd h9 (by decide)) (fun _ => ?_)
      refine lv_iload_n hx hb d_Model_lagrange_20 rfl (lv_at hl 3 rfl) ?_
      refine lv_i2l (v := iv.toInt64) hx hb d_Model_lagrange_21 rfl ?_
      refine lv_lconst (v := 0) hx hb d_Model_lagrange_22 (by decide) ?_
      refine lv_iconst (v := nI 1) hx hb d_Model_lagrange_23 (by decide) ?_
      refine lv_iload_n hx hb d_Model_lagrange_24 rfl (lv_at hl 2 rfl) ?_
      refine lv_bipush (v := nI 7) hx hb d_Model_lagrange_25 (by decide) ?_
      refine lv_iand hx hb d_Model_lagrange_27 ?_
      refine lv_ishl hx hb d_Model_lagrange_28 ?_
      refine lv_iconst (v := nI 1) hx hb d_Model_lagrange_29 (by decide) ?_
      refine lv_isub hx hb d_Model_lagrange_30 ?_
      refine lv_i2l (v := (((nI 1) <<< ((kv &&& (nI 7)) &&& 31)) - (nI 1)).toInt64) hx hb d_Model_lagrange_31 rfl ?_
      refine q_cS (rest := [.ref mo]) E (c_Model_in l g n0 iv.toInt64 0 ((((nI 1) <<< ((kv &&& (nI 7)) &&& 31)) - (nI 1)).toInt64) ) w_1101 w_15 w_1099 w_1100 hd_Model_in rfl ⟨by decide, by decide⟩ trivial hF hl.1 rfl (Nat.le_of_ble_eq_true rfl) d_Model_lagrange_32 ⟨by decide, by decide⟩ (qi (fun r_2 H3 locs hq hF => ?_))
      obtain ⟨h_2, hq⟩ := hq
      subst hq
      rcases h_2 with ⟨rfl, f_2⟩ | ⟨rfl, f_2⟩
      · skip
        refine lv_if_eq (tgt := 46) hx hb d_Model_lagrange_35 (by decide) (fun _ => ?_) (fun h9 => absurd (by decide) h9)
        refine lv_iconst (v := nI 1) hx hb d_Model_lagrange_46 (by decide) ?_
        refine lv_goto (tgt := 51) hx hb d_Model_lagrange_47 (by decide) ?_
        have hl : lv_has ls 5 [(0, .ref mo), (1, .int a), (2, .int kv), (3, .int iv), (4, .int z0)] := lv_sub hl [0, 1, 2, 3, 4] rfl
        exact bad _ ls (fun h => (f_2) h.2.2.1) hF hl
      · skip
        refine lv_if_eq (tgt := 46) hx hb d_Model_lagrange_35 (by decide) (fun h9 => absurd h9 (by decide)) (fun _ => ?_)
        refine lv_iload hx hb d_Model_lagrange_38 (lv_at hl 4 rfl) ?_
        refine q_cS (rest := [.ref mo]) E (c_Model_noScalar l g n0 z0 ) w_1064 w_15 w_1062 w_1063 hd_Model_noScalar rfl ⟨by decide, by decide⟩ trivial hF hl.1 rfl (Nat.le_of_ble_eq_true rfl) d_Model_lagrange_40 ⟨by decide, by decide⟩ (qi (fun r_3 H4 locs hq hF => ?_))
        obtain ⟨h_3, hq⟩ := hq
        subst hq
        rcases h_3 with ⟨rfl, f_3⟩ | ⟨rfl, f_3⟩
        · skip
          refine lv_if_eq (tgt := 50) hx hb d_Model_lagrange_43 (by decide) (fun h9 => absurd h9 (by decide)) (fun _ => ?_)
          refine lv_iconst (v := nI 1) hx hb d_Model_lagrange_46 (by decide) ?_
          refine lv_goto (tgt := 51) hx hb d_Model_lagrange_47 (by decide) ?_
          have hl : lv_has ls 5 [(0, .ref mo), (1, .int a), (2, .int kv), (3, .int iv), (4, .int z0)] := lv_sub hl [0, 1, 2, 3, 4] rfl
          exact bad _ ls (fun h => (f_3) h.2.2.2) hF hl
        · skip
          refine lv_if_eq (tgt := 50) hx hb d_Model_lagrange_43 (by decide) (fun _ => ?_) (fun h9 => absurd (by decide) h9)
          refine lv_iconst (v := nI 0) hx hb d_Model_lagrange_50 (by decide) ?_
          have hl : lv_has ls 5 [(0, .ref mo), (1, .int a), (2, .int kv), (3, .int iv), (4, .int z0)] := lv_sub hl [0, 1, 2, 3, 4] rfl
          exact good _ ls ⟨f_0, (in_okC (a := 0) (b := 4) (by decide) (by decide) (by decide) (by decide)).mp f_1, f_2, f_3⟩ hF hl
set_option maxHeartbeats 4000000 in
set_option maxRecDepth 100000 in
theorem c_Model_out (l : Launch) (g : WG) (n0 : Nat → Prop) (mo : Nat) (kv : Int32) (fd : Nat → Int64) (hmn : n0 mo) : Ctr l y_Model_out (.code y_Model_out prog_11_method_48_code 5 (some FieldType.long)) 1 25 0 0 n0 g [.ref mo, .int kv] (fun H => MS g n0 H mo 0 0 0 0 0 14 fd) (QL (fun r H H' => TH g n0 H' mo 1)) := by
  refine ctr_mk l (lv0 := [(0, .ref mo), (1, .int kv)]) (by decide) (Nat.le_of_ble_eq_true rfl) rfl ?_
  intro p e s m below meth c ls E hr hlk hnm hl hP
  have hx := E.1
  have hb := E.2.1
  have hK := E.2.2.2.2.2
  have hF : ∀ q ∈ ([] : List Loc), n0 q.base := fun q hq => absurd hq List.not_mem_nil
  have hm := hP
  have hfr : FRM (MR mo) s.heap s.heap := FRM.rf
  refine lv_aload_n hx hb d_Model_out_0 rfl (lv_at hl 0 rfl) ?_
  refine lv_iload_n hx hb d_Model_out_1 rfl (lv_at hl 1 rfl) ?_
  refine lv_i2l (v := kv.toInt64) hx hb d_Model_out_2 rfl ?_
  refine lv_lconst (v := 0) hx hb d_Model_out_3 (by decide) ?_
  refine lv_aload_n hx hb d_Model_out_4 rfl (lv_at hl 0 rfl) ?_
  refine q_get (C := "KateDeskModel") (T := T_Model) (N := 14) (ci := 8) E hm.1 in_Model rfl 12 (by decide) w_1013 rfl rfl d_Model_out_5 ?_
  refine lv_iconst (v := nI 1) hx hb d_Model_out_8 (by decide) ?_
  refine lv_isub hx hb d_Model_out_9 ?_
  refine lv_i2l (v := (0 - (nI 1)).toInt64) hx hb d_Model_out_10 rfl ?_
  refine q_cS (rest := [.ref mo]) E (c_Model_in l g n0 kv.toInt64 0 ((0 : Int32) - nI 1).toInt64) w_1101 w_15 w_1099 w_1100 hd_Model_in rfl ⟨by decide, by decide⟩ trivial hF hl.1 rfl (Nat.le_of_ble_eq_true rfl) d_Model_out_11 ⟨by decide, by decide⟩ (qi (fun ri H1 locs hq hF => ?_))
  obtain ⟨hri, hq⟩ := hq
  subst hq
  rcases hri with ⟨rfl, -⟩ | ⟨-, h1, h2⟩
  rotate_left
  · exfalso
    rw [show ((0 : Int32) - nI 1).toInt64.toInt = -1 by decide] at h2
    rw [show (0 : Int64).toInt = 0 by decide] at h1
    omega
  refine lv_if_ne (tgt := 21) hx hb d_Model_out_14 (by decide) (fun h9 => absurd (by decide) h9) (fun _ => ?_)
  refine lv_iconst (v := nI 1) hx hb d_Model_out_17 (by decide) ?_
  refine lv_goto (tgt := 22) hx hb d_Model_out_18 (by decide) ?_
  refine lv_iconst (v := nI 1) hx hb d_Model_out_22 (by decide) ?_
  refine q_cV (rest := []) E (c_Model_fails l g n0 mo 0 0 0 0 0 14 hw0 (nI 1) (nI 1) fd hmn (Or.inl rfl)) w_1056 w_15 w_1053 w_1055 (bw_s 24 rfl) hd_Model_fails rfl ⟨by decide, by decide⟩ (OB.recv E.2.2.2.2.2 (by rfl) hm.1) hm hF hl.1 rfl (Nat.le_of_ble_eq_true rfl) d_Model_out_23 ⟨by decide, by decide⟩ (qi (fun rf H2 locs hq hF => ?_))
  obtain ⟨hrf, hq, hm⟩ := hq
  subst hrf
  have hfr := hfr.tr hq
  rw [if_neg (by decide)] at hm
  refine lv_if_eq (tgt := 31) hx hb d_Model_out_26 (by decide) (fun h9 => absurd h9 (by decide)) (fun _ => ?_)
  refine lv_lconst (v := 0) hx hb d_Model_out_29 (by decide) ?_
  exact q_lret E hr hlk (⟨_, rfl, ⟨_, _, _, _, _, _, hw0, hm⟩⟩) hF d_Model_out_30
set_option maxHeartbeats 4000000 in
set_option maxRecDepth 100000 in
theorem c_Model_transform (l : Launch) (g : WG) (n0 : Nat → Prop) (mo : Nat) (a : Int32) (kv : Int32) (bk : Int32) (fd : Nat → Int64) (hmn : n0 mo) (hz : FZ fd) (hn8 : n0 (mo + 8)) : Ctr l y_Model_transform (.code y_Model_transform prog_11_method_59_code 7 none) 5 125 0 0 n0 g [.ref mo, .int a, .int kv, .int bk] (fun H => MS g n0 H mo 0 0 0 0 0 14 fd ∧ HO g H mo) (QV (fun H H' => ((okC kv (nI 0) (nI 4) ∧ okS a (nI 1 <<< ((kv &&& nI 7) &&& 31))) ∧ TH g n0 H' mo 0) ∨ (¬ (okC kv (nI 0) (nI 4) ∧ okS a (nI 1 <<< ((kv &&& nI 7) &&& 31))) ∧ TH g n0 H' mo 1))) := by
  refine ctr_mk l (lv0 := [(0, .ref mo), (1, .int a), (2, .int kv), (3, .int bk)]) (by decide) (Nat.le_of_ble_eq_true rfl) rfl ?_
  intro p e s m below meth c ls E hr hlk hnm hl hP
  have hx := E.1
  have hb := E.2.1
  have hK := E.2.2.2.2.2
  have hF : ∀ q ∈ ([] : List Loc), n0 q.base := fun q hq => absurd hq List.not_mem_nil
  have hm := hP.1
  have hfr : FRM (MR mo) s.heap s.heap := FRM.rf
  have hh := hP.2
  have bad : ∀ (locs : List Loc) (ls : Array Slot), ¬ (okC kv (nI 0) (nI 4) ∧ okS a (nI 1 <<< ((kv &&& nI 7) &&& 31))) → (∀ q ∈ locs, n0 q.base) → lv_has ls 7 [(0, .ref mo), (1, .int a), (2, .int kv), (3, .int bk), (4, .int (nI 1 <<< ((kv &&& nI 7) &&& 31)))] → W p l e { frames := 5, cells := 0, slots := 0, locals := 125 } s m [.ref mo, .int a, .int kv, .int bk].toArray below meth c s.heap locs 0 0 (MQ below (QcP (QV (fun H H' => ((okC kv (nI 0) (nI 4) ∧ okS a (nI 1 <<< ((kv &&& nI 7) &&& 31))) ∧ TH g n0 H' mo 0) ∨ (¬ (okC kv (nI 0) (nI 4) ∧ okS a (nI 1 <<< ((kv &&& nI 7) &&& 31))) ∧ TH g n0 H' mo 1)))) [.ref mo, .int a, .int kv, .int bk].toArray s 0 0 (fun q => n0 q)) (F0 m 35 ls [.int (nI 1), .ref mo]) := by
    intro  locs   ls hno hF hl
    refine lv_iconst (v := nI 1) hx hb d_Model_transform_35 (by decide) ?_
    refine q_cV (rest := []) E (c_Model_fails l g n0 mo 0 0 0 0 0 14 hw0 (nI 1) (nI 1) fd hmn (Or.inl rfl)) w_1056 w_15 w_1053 w_1055 (bw_s 24 rfl) hd_Model_fails rfl ⟨by decide, by decide⟩ (OB.recv E.2.2.2.2.2 (by rfl) hm.1) hm hF hl.1 rfl (Nat.le_of_ble_eq_true rfl) d_Model_transform_36 ⟨by decide, by decide⟩ (qi (fun rf H1 locs hq hF => ?_))
    obtain ⟨hrf, hq, hm⟩ := hq
    subst hrf
    have hfr := hfr.tr hq
    rw [if_neg (by decide)] at hm
    refine lv_if_eq (tgt := 43) hx hb d_Model_transform_39 (by decide) (fun h9 => absurd h9 (by decide)) (fun _ => ?_)
    exact q_vret E hr hlk (⟨rfl, Or.inr ⟨hno, ⟨_, _, _, _, _, _, hw0, hm⟩⟩⟩) hF d_Model_transform_42
  have good : ∀ (locs : List Loc) (ls : Array Slot), okC kv (nI 0) (nI 4) ∧ okS a (nI 1 <<< ((kv &&& nI 7) &&& 31)) → (∀ q ∈ locs, n0 q.base) → lv_has ls 7 [(0, .ref mo), (1, .int a), (2, .int kv), (3, .int bk), (4, .int (nI 1 <<< ((kv &&& nI 7) &&& 31)))] → W p l e { frames := 5, cells := 0, slots := 0, locals := 125 } s m [.ref mo, .int a, .int kv, .int bk].toArray below meth c s.heap locs 0 0 (MQ below (QcP (QV (fun H H' => ((okC kv (nI 0) (nI 4) ∧ okS a (nI 1 <<< ((kv &&& nI 7) &&& 31))) ∧ TH g n0 H' mo 0) ∨ (¬ (okC kv (nI 0) (nI 4) ∧ okS a (nI 1 <<< ((kv &&& nI 7) &&& 31))) ∧ TH g n0 H' mo 1)))) [.ref mo, .int a, .int kv, .int bk].toArray s 0 0 (fun q => n0 q)) (F0 m 35 ls [.int (nI 0), .ref mo]) := by
    intro  locs   ls hok hF hl
    refine lv_iconst (v := nI 1) hx hb d_Model_transform_35 (by decide) ?_
    refine q_cV (rest := []) E (c_Model_fails l g n0 mo 0 0 0 0 0 14 hw0 (nI 0) (nI 1) fd hmn (Or.inr rfl)) w_1056 w_15 w_1053 w_1055 (bw_s 24 rfl) hd_Model_fails rfl ⟨by decide, by decide⟩ (OB.recv E.2.2.2.2.2 (by rfl) hm.1) hm hF hl.1 rfl (Nat.le_of_ble_eq_true rfl) d_Model_transform_36 ⟨by decide, by decide⟩ (qi (fun rf H1 locs hq hF => ?_))
    obtain ⟨hrf, hq, hm⟩ := hq
    subst hrf
    have hfr := hfr.tr hq
    rw [if_pos nI_0] at hm
    refine lv_if_eq (tgt := 43) hx hb d_Model_transform_39 (by decide) (fun _ => ?_) (fun h9 => absurd (by decide) h9)
    obtain ⟨k2, e_k2, h_k2, h2_k2⟩ := okC_nat (by decide) (by decide) hok.1
    rw [e_k2] at hl
    rw [tk2 h2_k2] at hl
    have hok2 := hok.2
    rw [e_k2, tk2 h2_k2] at hok2
    obtain ⟨hN1, hN16⟩ := tk3 h2_k2
    obtain ⟨NN, hNN⟩ : ∃ NN, NN = 2 ^ k2 := ⟨_, rfl⟩
    rw [← hNN] at hok2 hl hN1 hN16
    obtain ⟨k1, e_k1, h_k1⟩ := okS_nat (by omega) (by omega) hok2
    rw [e_k1] at hl
    have hh := hh.off hfr
    have hfr : FRM (MR mo) H1 H1 := FRM.rf
    have last : ∀ (k : Nat) (i : Nat) (H : Heap) (locs : List Loc) (ls : Array Slot) (fd1 : Nat → Int64), i + k = NN → MS g n0 H mo 0 0 0 0 1 10 fd1 → HO g H mo → (∀ q ∈ locs, n0 q.base) → lv_has ls 7 [(5, .int (nI i)), (0, .ref mo), (1, .int (nI k1)), (3, .int bk), (4, .int (nI NN))] → W p l e { frames := 5, cells := 0, slots := 0, locals := 125 } s m [.ref mo, .int a, .int kv, .int bk].toArray below meth c H locs 0 0 (MQ below (QcP (QV (fun H H' => ((okC kv (nI 0) (nI 4) ∧ okS a (nI 1 <<< ((kv &&& nI 7) &&& 31))) ∧ TH g n0 H' mo 0) ∨ (¬ (okC kv (nI 0) (nI 4) ∧ okS a (nI 1 <<< ((kv &&& nI 7) &&& 31))) ∧ TH g n0 H' mo 1)))) [.ref mo, .int a, .int kv, .int bk].toArray s 0 0 (fun q => n0 q)) (F0 m 185 ls []) := by
      intro k
      induction k with
      | zero =>
        intro  i   H   locs   ls   fd1 hi hm hh hF hl
        obtain rfl : NN = i := by omega
        refine lv_iload hx hb d_Model_transform_185 (lv_at hl 0 rfl) ?_
        refine lv_iload hx hb d_Model_transform_187 (lv_at hl 4 rfl) ?_
        refine lv_icmp_ge (tgt := 261) hx hb d_Model_transform_189 (by decide) (fun _ => ?_) (fun h9 => absurd (nI_le (Nat.le_refl _) (by omega)) h9)
        exact q_vret E hr hlk (⟨rfl, Or.inl ⟨hok, ⟨_, _, _, _, _, _, hw1, hm⟩⟩⟩) hF d_Model_transform_261
      | succ k ih =>
        intro  i   H   locs   ls   fd1 hi hm hh hF hl
        refine lv_iload hx hb d_Model_transform_185 (lv_at hl 0 rfl) ?_
        refine lv_iload hx hb d_Model_transform_187 (lv_at hl 4 rfl) ?_
        refine lv_icmp_ge (tgt := 261) hx hb d_Model_transform_189 (by decide) (fun h9 => absurd h9 (nI_ge (by omega) (by omega))) (fun _ => ?_)
        refine lv_iconst (v := nI 0) hx hb d_Model_transform_192 (by decide) ?_
        refine lv_istore (lv' := [(6, .int (nI 0)), (5, .int (nI i)), (0, .ref mo), (1, .int (nI k1)), (3, .int bk), (4, .int (nI NN))]) hx hb d_Model_transform_193 hl (by decide) rfl (fun ls hl => ?_)
        have hl : lv_has ls 7 [(6, .int (nI 0)), (5, .int (nI i)), (0, .ref mo), (1, .int (nI k1)), (3, .int bk), (4, .int (nI NN))] := lv_sub hl [0, 1, 2, 3, 4, 5] rfl
        have inner : ∀ (k2x : Nat) (j : Nat) (H : Heap) (locs : List Loc) (ls : Array Slot) (fd1 : Nat → Int64), j + k2x = 14 → MS g n0 H mo 0 0 0 0 1 10 fd1 → HO g H mo → (∀ q ∈ locs, n0 q.base) → lv_has ls 7 [(6, .int (nI j)), (5, .int (nI i)), (0, .ref mo), (1, .int (nI k1)), (3, .int bk), (4, .int (nI NN))] → W p l e { frames := 5, cells := 0, slots := 0, locals := 125 } s m [.ref mo, .int a, .int kv, .int bk].toArray below meth c H locs 0 0 (MQ below (QcP (QV (fun H H' => ((okC kv (nI 0) (nI 4) ∧ okS a (nI 1 <<< ((kv &&& nI 7) &&& 31))) ∧ TH g n0 H' mo 0) ∨ (¬ (okC kv (nI 0) (nI 4) ∧ okS a (nI 1 <<< ((kv &&& nI 7) &&& 31))) ∧ TH g n0 H' mo 1)))) [.ref mo, .int a, .int kv, .int bk].toArray s 0 0 (fun q => n0 q)) (F0 m 195 ls []) := by
          intro k2x
          induction k2x with
          | zero =>
            intro  j   H   locs   ls   fd1 hj hm hh hF hl
            have hfr : FRM (MR mo) H H := FRM.rf
            obtain rfl : j = 14 := by omega
            refine lv_iload hx hb d_Model_transform_195 (lv_at hl 0 rfl) ?_
            refine lv_bipush (v := nI 14) hx hb d_Model_transform_197 (by decide) ?_
            refine lv_icmp_ge (tgt := 236) hx hb d_Model_transform_199 (by decide) (fun _ => ?_) (fun h9 => absurd (by decide) h9)
            refine lv_iload_n hx hb d_Model_transform_236 rfl (lv_at hl 4 rfl) ?_
            refine lv_if_eq (tgt := 255) hx hb d_Model_transform_237 (by decide) (fun hb9 => ?_) (fun hb9 => ?_)
            rotate_left
            · skip
              refine lv_aload_n hx hb d_Model_transform_240 rfl (lv_at hl 2 rfl) ?_
              refine lv_iload_n hx hb d_Model_transform_241 rfl (lv_at hl 3 rfl) ?_
              refine lv_iload hx hb d_Model_transform_242 (lv_at hl 1 rfl) ?_
              refine lv_iadd hx hb d_Model_transform_244 ?_
              refine lv_topi (fun t9 e9 => ?_)
              obtain rfl : t9 = nI (k1 + i) := e9.trans (nI_add _ _)
              refine lv_iload_n hx hb d_Model_transform_245 rfl (lv_at hl 3 rfl) ?_
              refine lv_iload hx hb d_Model_transform_246 (lv_at hl 1 rfl) ?_
              refine lv_iadd hx hb d_Model_transform_248 ?_
              refine lv_topi (fun t9 e9 => ?_)
              obtain rfl : t9 = nI (k1 + i) := e9.trans (nI_add _ _)
              refine lv_sipush (v := nI 168) hx hb d_Model_transform_249 (by decide) ?_
              refine q_cV (rest := []) E (c_Model_product l g n0 mo (k1 + i) (k1 + i) 168 0 0 0 0 1 10 hw1  fd1 (by omega) (by omega) (by omega) ) w_1113 w_15 w_1110 w_1112 (bw_s 32 rfl) hd_Model_product rfl ⟨by decide, by decide⟩ (OB.recv E.2.2.2.2.2 (by rfl) hm.1) hm hF hl.1 rfl (Nat.le_of_ble_eq_true rfl) d_Model_transform_252 ⟨by decide, by decide⟩ (qv (fun H1 locs hq hF => ?_))
              obtain ⟨hq, fd_1, hm, hpv, hv⟩ := hq
              have hfr := hfr.tr (kjR hq)
              refine lv_iinc (k := 1) (v := nI (i + 1)) (lv' := [(5, .int (nI (i + 1))), (6, .int (nI 14)), (0, .ref mo), (1, .int (nI k1)), (3, .int bk), (4, .int (nI NN))]) hx hb d_Model_transform_255 hl rfl (i_inc i) (by decide) rfl (fun ls hl => ?_)
              refine lv_goto (tgt := 185) hx hb d_Model_transform_258 (by decide) ?_
              have hl : lv_has ls 7 [(5, .int (nI (i + 1))), (0, .ref mo), (1, .int (nI k1)), (3, .int bk), (4, .int (nI NN))] := lv_sub hl [0, 2, 3, 4, 5] rfl
              exact ih (i + 1) _ _ ls _ (by omega) hm (hh.off hfr) hF hl
            refine lv_iinc (k := 1) (v := nI (i + 1)) (lv' := [(5, .int (nI (i + 1))), (6, .int (nI 14)), (0, .ref mo), (1, .int (nI k1)), (3, .int bk), (4, .int (nI NN))]) hx hb d_Model_transform_255 hl rfl (i_inc i) (by decide) rfl (fun ls hl => ?_)
            refine lv_goto (tgt := 185) hx hb d_Model_transform_258 (by decide) ?_
            have hl : lv_has ls 7 [(5, .int (nI (i + 1))), (0, .ref mo), (1, .int (nI k1)), (3, .int bk), (4, .int (nI NN))] := lv_sub hl [0, 2, 3, 4, 5] rfl
            exact ih (i + 1) _ _ ls _ (by omega) hm (hh.off hfr) hF hl
          | succ k2x ih2 =>
            intro  j   H   locs   ls   fd1 hj hm hh hF hl
            have hfr : FRM (MR mo) H H := FRM.rf
            refine lv_iload hx hb d_Model_transform_195 (lv_at hl 0 rfl) ?_
            refine lv_bipush (v := nI 14) hx hb d_Model_transform_197 (by decide) ?_
            refine lv_icmp_ge (tgt := 236) hx hb d_Model_transform_199 (by decide) (fun h9 => absurd h9 (nI_ge (by omega) (by decide))) (fun _ => ?_)
            refine lv_aload_n hx hb d_Model_transform_202 rfl (lv_at hl 2 rfl) ?_
            refine q_get (C := "KateDeskModel") (T := T_Model) (N := 14) (ci := 8) E hm.1 in_Model rfl 1 (by decide) w_1002 rfl rfl d_Model_transform_203 ?_
            refine lv_bipush (v := nI 14) hx hb d_Model_transform_206 (by decide) ?_
            refine lv_iload_n hx hb d_Model_transform_208 rfl (lv_at hl 3 rfl) ?_
            refine lv_iload hx hb d_Model_transform_209 (lv_at hl 1 rfl) ?_
            refine lv_iadd hx hb d_Model_transform_211 ?_
            refine lv_topi (fun t9 e9 => ?_)
            obtain rfl : t9 = nI (k1 + i) := e9.trans (nI_add _ _)
            refine lv_imul hx hb d_Model_transform_212 ?_
            refine lv_topi (fun t9 e9 => ?_)
            obtain rfl : t9 = nI (14 * (k1 + i)) := e9.trans (pk_mul _ _)
            refine lv_iload hx hb d_Model_transform_213 (lv_at hl 0 rfl) ?_
            refine lv_iadd hx hb d_Model_transform_215 ?_
            refine lv_topi (fun t9 e9 => ?_)
            obtain rfl : t9 = nI ((14 * (k1 + i)) + j) := e9.trans (nI_add _ _)
            refine lv_aload_n hx hb d_Model_transform_216 rfl (lv_at hl 2 rfl) ?_
            refine q_get (C := "KateDeskModel") (T := T_Model) (N := 14) (ci := 8) E hm.1 in_Model rfl 13 (by decide) w_1014 rfl rfl d_Model_transform_217 ?_
            refine lv_bipush (v := nI 14) hx hb d_Model_transform_220 (by decide) ?_
            refine lv_iload hx hb d_Model_transform_222 (lv_at hl 1 rfl) ?_
            refine lv_imul hx hb d_Model_transform_224 ?_
            refine lv_topi (fun t9 e9 => ?_)
            obtain rfl : t9 = nI (14 * i) := e9.trans (pk_mul _ _)
            refine lv_iload hx hb d_Model_transform_225 (lv_at hl 0 rfl) ?_
            refine lv_iadd hx hb d_Model_transform_227 ?_
            refine lv_topi (fun t9 e9 => ?_)
            obtain rfl : t9 = nI ((14 * i) + j) := e9.trans (nI_add _ _)
            obtain ⟨fh, hh1, hh2⟩ := id hh
            refine q_lald (N := 224) (f := fh) E hh1 (14 * i + j) rfl (by omega) (by decide) d_Model_transform_228 ?_
            have hdv : dg (fh (14 * i + j)) := hh2 _ (by omega)
            refine q_last E hm.2.2.2.2.1 hm.2.2.2.2.2.2.1 hF (14 * (k1 + i) + j) rfl (by omega) (by decide) d_Model_transform_229 (fun H1 locs hq hf2 hF => ?_)
            have hm := hm.step hK (hq.mono (fun q h => Or.inl h)) hf2 ((hm.2.2.2.2.2.1).upd hdv)
            have hfr := hfr.tr (kjR1 hq)
            refine lv_iinc (k := 0) (v := nI (j + 1)) (lv' := [(6, .int (nI (j + 1))), (5, .int (nI i)), (0, .ref mo), (1, .int (nI k1)), (3, .int bk), (4, .int (nI NN))]) hx hb d_Model_transform_230 hl rfl (i_inc j) (by decide) rfl (fun ls hl => ?_)
            refine lv_goto (tgt := 195) hx hb d_Model_transform_233 (by decide) ?_
            have hl : lv_has ls 7 [(6, .int (nI (j + 1))), (5, .int (nI i)), (0, .ref mo), (1, .int (nI k1)), (3, .int bk), (4, .int (nI NN))] := lv_sub hl [0, 1, 2, 3, 4, 5] rfl
            exact ih2 (j + 1) _ _ ls _ (by omega) hm (hh.off hfr) hF hl
        exact inner 14 0 _ _ ls _ (by omega) hm hh hF hl
    have first : ∀ (k : Nat) (i : Nat) (H : Heap) (locs : List Loc) (ls : Array Slot) (fd1 : Nat → Int64), i + k = NN → MS g n0 H mo 0 0 0 0 1 10 fd1 → HO g H mo → (∀ q ∈ locs, n0 q.base) → lv_has ls 7 [(5, .int (nI i)), (0, .ref mo), (1, .int (nI k1)), (3, .int bk), (4, .int (nI NN))] → W p l e { frames := 5, cells := 0, slots := 0, locals := 125 } s m [.ref mo, .int a, .int kv, .int bk].toArray below meth c H locs 0 0 (MQ below (QcP (QV (fun H H' => ((okC kv (nI 0) (nI 4) ∧ okS a (nI 1 <<< ((kv &&& nI 7) &&& 31))) ∧ TH g n0 H' mo 0) ∨ (¬ (okC kv (nI 0) (nI 4) ∧ okS a (nI 1 <<< ((kv &&& nI 7) &&& 31))) ∧ TH g n0 H' mo 1)))) [.ref mo, .int a, .int kv, .int bk].toArray s 0 0 (fun q => n0 q)) (F0 m 85 ls []) := by
      intro k
      induction k with
      | zero =>
        intro  i   H   locs   ls   fd1 hi hm hh hF hl
        have hfr : FRM (MR mo) H H := FRM.rf
        obtain rfl : NN = i := by omega
        refine lv_iload hx hb d_Model_transform_85 (lv_at hl 0 rfl) ?_
        refine lv_iload hx hb d_Model_transform_87 (lv_at hl 4 rfl) ?_
        refine lv_icmp_ge (tgt := 162) hx hb d_Model_transform_89 (by decide) (fun _ => ?_) (fun h9 => absurd (nI_le (Nat.le_refl _) (by omega)) h9)
        refine lv_aload_n hx hb d_Model_transform_162 rfl (lv_at hl 1 rfl) ?_
        refine lv_sipush (v := nI 166) hx hb d_Model_transform_163 (by decide) ?_
        refine lv_iload hx hb d_Model_transform_166 (lv_at hl 4 rfl) ?_
        refine lv_i2l (v := (nI NN).toInt64) hx hb d_Model_transform_168 rfl ?_
        refine q_cV (rest := []) E (c_Model_small l g n0 mo 166 ((nI NN).toInt64) 0 0 0 0 1 10 hw1 fd1 (by omega)) w_1084 w_15 w_1081 w_1083 (bw_s 28 rfl) hd_Model_small rfl ⟨by decide, by decide⟩ (OB.recv E.2.2.2.2.2 (by rfl) hm.1) hm hF hl.1 rfl (Nat.le_of_ble_eq_true rfl) d_Model_transform_169 ⟨by decide, by decide⟩ (qv (fun H1 locs hq hF => ?_))
        obtain ⟨hq, fd_2, hm, -⟩ := hq
        have hfr := hfr.tr hq
        refine lv_aload_n hx hb d_Model_transform_172 rfl (lv_at hl 1 rfl) ?_
        refine lv_sipush (v := nI 168) hx hb d_Model_transform_173 (by decide) ?_
        refine lv_sipush (v := nI 166) hx hb d_Model_transform_176 (by decide) ?_
        refine q_cV (rest := []) E (c_Model_inverse l g n0 mo 168 166 0 0 0 0 1 10 hw1  fd_2 (by omega) (by omega) ) w_1117 w_15 w_1114 w_1116 (bw_s 33 rfl) hd_Model_inverse rfl ⟨by decide, by decide⟩ (OB.recv E.2.2.2.2.2 (by rfl) hm.1) hm hF hl.1 rfl (Nat.le_of_ble_eq_true rfl) d_Model_transform_179 ⟨by decide, by decide⟩ (qv (fun H2 locs hq hF => ?_))
        obtain ⟨hq, fd_3, hm, -⟩ := hq
        have hfr := hfr.tr hq
        refine lv_iconst (v := nI 0) hx hb d_Model_transform_182 (by decide) ?_
        refine lv_istore (lv' := [(5, .int (nI 0)), (0, .ref mo), (1, .int (nI k1)), (3, .int bk), (4, .int (nI NN))]) hx hb d_Model_transform_183 hl (by decide) rfl (fun ls hl => ?_)
        have hl : lv_has ls 7 [(5, .int (nI 0)), (0, .ref mo), (1, .int (nI k1)), (3, .int bk), (4, .int (nI NN))] := lv_sub hl [0, 1, 2, 3, 4] rfl
        exact last NN 0 _ _ ls _ (by omega) hm (hh.off hfr) hF hl
      | succ k ih =>
        intro  i   H   locs   ls   fd1 hi hm hh hF hl
        have hfr : FRM (MR mo) H H := FRM.rf
        refine lv_iload hx hb d_Model_transform_85 (lv_at hl 0 rfl) ?_
        refine lv_iload hx hb d_Model_transform_87 (lv_at hl 4 rfl) ?_
        refine lv_icmp_ge (tgt := 162) hx hb d_Model_transform_89 (by decide) (fun h9 => absurd h9 (nI_ge (by omega) (by omega))) (fun _ => ?_)
        refine lv_aload_n hx hb d_Model_transform_92 rfl (lv_at hl 1 rfl) ?_
        refine lv_sipush (v := nI 168) hx hb d_Model_transform_93 (by decide) ?_
        refine lv_iload_n hx hb d_Model_transform_96 rfl (lv_at hl 2 rfl) ?_
        refine lv_iload hx hb d_Model_transform_97 (lv_at hl 4 rfl) ?_
        refine lv_sipush (v := nI 169) hx hb d_Model_transform_99 (by decide) ?_
        refine q_cV (rest := []) E (c_Model_value l g n0 mo 168 k1 NN 169 0 0 0 0 1 10 hw1 fd1 (by omega) (by omega) (by omega) (by omega)) w_1235 w_15 w_1232 w_1234 (bw_s 47 rfl) hd_Model_value rfl ⟨by decide, by decide⟩ (OB.recv E.2.2.2.2.2 (by rfl) hm.1) hm hF hl.1 rfl (Nat.le_of_ble_eq_true rfl) d_Model_transform_102 ⟨by decide, by decide⟩ (qv (fun H1 locs hq hF => ?_))
        obtain ⟨hq, fd_4, hm, -⟩ := hq
        have hfr := hfr.tr hq
        refine lv_iconst (v := nI 0) hx hb d_Model_transform_105 (by decide) ?_
        refine lv_istore (lv' := [(6, .int (nI 0)), (5, .int (nI i)), (0, .ref mo), (1, .int (nI k1)), (3, .int bk), (4, .int (nI NN))]) hx hb d_Model_transform_106 hl (by decide) rfl (fun ls hl => ?_)
        have hh := hh.off hfr
        have hl : lv_has ls 7 [(6, .int (nI 0)), (5, .int (nI i)), (0, .ref mo), (1, .int (nI k1)), (3, .int bk), (4, .int (nI NN))] := lv_sub hl [0, 1, 2, 3, 4, 5] rfl
        have inner : ∀ (k2x : Nat) (j : Nat) (H : Heap) (locs : List Loc) (ls : Array Slot) (fd1 : Nat → Int64), j + k2x = 14 → MS g n0 H mo 0 0 0 0 1 10 fd1 → HO g H mo → (∀ q ∈ locs, n0 q.base) → lv_has ls 7 [(6, .int (nI j)), (5, .int (nI i)), (0, .ref mo), (1, .int (nI k1)), (3, .int bk), (4, .int (nI NN))] → W p l e { frames := 5, cells := 0, slots := 0, locals := 125 } s m [.ref mo, .int a, .int kv, .int bk].toArray below meth c H locs 0 0 (MQ below (QcP (QV (fun H H' => ((okC kv (nI 0) (nI 4) ∧ okS a (nI 1 <<< ((kv &&& nI 7) &&& 31))) ∧ TH g n0 H' mo 0) ∨ (¬ (okC kv (nI 0) (nI 4) ∧ okS a (nI 1 <<< ((kv &&& nI 7) &&& 31))) ∧ TH g n0 H' mo 1)))) [.ref mo, .int a, .int kv, .int bk].toArray s 0 0 (fun q => n0 q)) (F0 m 108 ls []) := by
          intro k2x
          induction k2x with
          | zero =>
            intro  j   H   locs   ls   fd1 hj hm hh hF hl
            have hfr : FRM (MR mo) H H := FRM.rf
            obtain rfl : j = 14 := by omega
            refine lv_iload hx hb d_Model_transform_108 (lv_at hl 0 rfl) ?_
            refine lv_bipush (v := nI 14) hx hb d_Model_transform_110 (by decide) ?_
            refine lv_icmp_ge (tgt := 143) hx hb d_Model_transform_112 (by decide) (fun _ => ?_) (fun h9 => absurd (by decide) h9)
            refine lv_aload_n hx hb d_Model_transform_143 rfl (lv_at hl 2 rfl) ?_
            refine lv_sipush (v := nI 169) hx hb d_Model_transform_144 (by decide) ?_
            refine lv_sipush (v := nI 169) hx hb d_Model_transform_147 (by decide) ?_
            refine lv_sipush (v := nI 166) hx hb d_Model_transform_150 (by decide) ?_
            refine q_cV (rest := []) E (c_Model_product l g n0 mo 169 169 166 0 0 0 0 1 10 hw1  fd1 (by omega) (by omega) (by omega) ) w_1113 w_15 w_1110 w_1112 (bw_s 32 rfl) hd_Model_product rfl ⟨by decide, by decide⟩ (OB.recv E.2.2.2.2.2 (by rfl) hm.1) hm hF hl.1 rfl (Nat.le_of_ble_eq_true rfl) d_Model_transform_153 ⟨by decide, by decide⟩ (qv (fun H1 locs hq hF => ?_))
            obtain ⟨hq, fd_5, hm, hpv, hv⟩ := hq
            have hfr := hfr.tr (kjR hq)
            refine lv_iinc (k := 1) (v := nI (i + 1)) (lv' := [(5, .int (nI (i + 1))), (6, .int (nI 14)), (0, .ref mo), (1, .int (nI k1)), (3, .int bk), (4, .int (nI NN))]) hx hb d_Model_transform_156 hl rfl (i_inc i) (by decide) rfl (fun ls hl => ?_)
            refine lv_goto (tgt := 85) hx hb d_Model_transform_159 (by decide) ?_
            have hl : lv_has ls 7 [(5, .int (nI (i + 1))), (0, .ref mo), (1, .int (nI k1)), (3, .int bk), (4, .int (nI NN))] := lv_sub hl [0, 2, 3, 4, 5] rfl
            exact ih (i + 1) _ _ ls _ (by omega) hm (hh.off hfr) hF hl
          | succ k2x ih2 =>
            intro  j   H   locs   ls   fd1 hj hm hh hF hl
            refine lv_iload hx hb d_Model_transform_108 (lv_at hl 0 rfl) ?_
            refine lv_bipush (v := nI 14) hx hb d_Model_transform_110 (by decide) ?_
            refine lv_icmp_ge (tgt := 143) hx hb d_Model_transform_112 (by decide) (fun h9 => absurd h9 (nI_ge (by omega) (by decide))) (fun _ => ?_)
            refine lv_aload_n hx hb d_Model_transform_115 rfl (lv_at hl 2 rfl) ?_
            refine q_get (C := "KateDeskModel") (T := T_Model) (N := 14) (ci := 8) E hm.1 in_Model rfl 13 (by decide) w_1014 rfl rfl d_Model_transform_116 ?_
            refine lv_bipush (v := nI 14) hx hb d_Model_transform_119 (by decide) ?_
            refine lv_iload hx hb d_Model_transform_121 (lv_at hl 1 rfl) ?_
            refine lv_imul hx hb d_Model_transform_123 ?_
            refine lv_topi (fun t9 e9 => ?_)
            obtain rfl : t9 = nI (14 * i) := e9.trans (pk_mul _ _)
            refine lv_iload hx hb d_Model_transform_124 (lv_at hl 0 rfl) ?_
            refine lv_iadd hx hb d_Model_transform_126 ?_
            refine lv_topi (fun t9 e9 => ?_)
            obtain rfl : t9 = nI ((14 * i) + j) := e9.trans (nI_add _ _)
            refine lv_aload_n hx hb d_Model_transform_127 rfl (lv_at hl 2 rfl) ?_
            refine lv_sipush (v := nI 168) hx hb d_Model_transform_128 (by decide) ?_
            refine lv_iload hx hb d_Model_transform_131 (lv_at hl 0 rfl) ?_
            refine q_cV (rest := [.int (nI ((14 * i) + j)), .ref (mo + 8)]) E (c_Model_limb l g n0 mo 168 j 0 (nI 1) (nI 10) 0 0 0 fd1 (by omega) (by omega)) w_979 w_15 w_976 w_978 (bw_s 18 rfl) hd_Model_limb rfl ⟨by decide, by decide⟩ (OB.recv E.2.2.2.2.2 (by rfl) hm.1) (⟨hm.1, hm.2.2.2.2.1⟩) hF hl.1 rfl (Nat.le_of_ble_eq_true rfl) d_Model_transform_133 ⟨by decide, by decide⟩ (ql (fun v1 H1 locs hq hF => ?_))
            obtain ⟨hq, hq9⟩ := hq
            obtain rfl := hq9
            subst hq
            obtain ⟨fh, hh1, hh2⟩ := id hh
            have hdv : dg (fd1 (14 * 168 + j)) := hm.2.2.2.2.2.1 _ (by omega)
            refine q_last E hh1 hn8 hF (14 * i + j) rfl (by omega) (by decide) d_Model_transform_136 (fun H2 locs hq hf2 hF => ?_)
            have hm := hm.hold hK hq
            refine lv_iinc (k := 0) (v := nI (j + 1)) (lv' := [(6, .int (nI (j + 1))), (5, .int (nI i)), (0, .ref mo), (1, .int (nI k1)), (3, .int bk), (4, .int (nI NN))]) hx hb d_Model_transform_137 hl rfl (i_inc j) (by decide) rfl (fun ls hl => ?_)
            refine lv_goto (tgt := 108) hx hb d_Model_transform_140 (by decide) ?_
            have hl : lv_has ls 7 [(6, .int (nI (j + 1))), (5, .int (nI i)), (0, .ref mo), (1, .int (nI k1)), (3, .int bk), (4, .int (nI NN))] := lv_sub hl [0, 1, 2, 3, 4, 5] rfl
            exact ih2 (j + 1) _ _ ls _ (by omega) hm ⟨_, hf2, fun k hk1 => by by_cases e : k = 14 * i + j; (rw [e, pk_uLs]; exact hdv); (rw [pk_uLn e]; exact hh2 k hk1)⟩ hF hl
        exact inner 14 0 _ _ ls _ (by omega) hm hh hF hl
    refine lv_aload_n hx hb d_Model_transform_43 rfl (lv_at hl 0 rfl) ?_
    refine lv_sipush (v := nI 166) hx hb d_Model_transform_44 (by decide) ?_
    refine lv_iload_n hx hb d_Model_transform_47 rfl (lv_at hl 2 rfl) ?_
    refine q_cV (rest := []) E (c_Model_unit l g n0 mo 166 k2 0 0 0 0 0 14 hw0 fd hmn (by omega) (by omega)) w_1139 w_15 w_1136 w_1138 (bw_s 36 rfl) hd_Model_unit rfl ⟨by decide, by decide⟩ (OB.recv E.2.2.2.2.2 (by rfl) hm.1) hm hF hl.1 rfl (Nat.le_of_ble_eq_true rfl) d_Model_transform_48 ⟨by decide, by decide⟩ (qv (fun H2 locs hq hF => ?_))
    obtain ⟨hq, fd_6, hm⟩ := hq
    have hfr := hfr.tr hq
    refine lv_iload_n hx hb d_Model_transform_51 rfl (lv_at hl 3 rfl) ?_
    have hl : lv_has ls 7 [(0, .ref mo), (1, .int (nI k1)), (3, .int bk), (4, .int (nI NN))] := lv_sub hl [0, 1, 3, 4] rfl
    refine lv_if_eq (tgt := 75) hx hb d_Model_transform_52 (by decide) (fun hb8 => ?_) (fun hb8 => ?_)
    rotate_left
    · skip
      refine lv_aload_n hx hb d_Model_transform_55 rfl (lv_at hl 0 rfl) ?_
      refine lv_sipush (v := nI 168) hx hb d_Model_transform_56 (by decide) ?_
      refine lv_sipush (v := nI 166) hx hb d_Model_transform_59 (by decide) ?_
      refine q_cV (rest := []) E (c_Model_inverse l g n0 mo 168 166 0 0 0 0 1 10 hw1  fd_6 (by omega) (by omega) ) w_1117 w_15 w_1114 w_1116 (bw_s 33 rfl) hd_Model_inverse rfl ⟨by decide, by decide⟩ (OB.recv E.2.2.2.2.2 (by rfl) hm.1) hm hF hl.1 rfl (Nat.le_of_ble_eq_true rfl) d_Model_transform_62 ⟨by decide, by decide⟩ (qv (fun H3 locs hq hF => ?_))
      obtain ⟨hq, fd_7, hm, -⟩ := hq
      have hfr := hfr.tr hq
      refine lv_aload_n hx hb d_Model_transform_65 rfl (lv_at hl 0 rfl) ?_
      refine lv_sipush (v := nI 166) hx hb d_Model_transform_66 (by decide) ?_
      refine lv_sipush (v := nI 168) hx hb d_Model_transform_69 (by decide) ?_
      refine q_cV (rest := []) E (c_Model_move l g n0 mo 166 168 0 0 0 0 1 10 hw1  fd_7 (by omega) (by omega) ) w_1076 w_15 w_1073 w_1075 (bw_s 27 rfl) hd_Model_move rfl ⟨by decide, by decide⟩ (OB.recv E.2.2.2.2.2 (by rfl) hm.1) hm hF hl.1 rfl (Nat.le_of_ble_eq_true rfl) d_Model_transform_72 ⟨by decide, by decide⟩ (qv (fun H4 locs hq hF => ?_))
      obtain ⟨hq, fd_8, hm, hpv⟩ := hq
      have hfr := hfr.tr hq
      refine lv_aload_n hx hb d_Model_transform_75 rfl (lv_at hl 0 rfl) ?_
      refine lv_sipush (v := nI 169) hx hb d_Model_transform_76 (by decide) ?_
      refine q_cV (rest := []) E (c_Model_one l g n0 mo 169 0 0 0 0 1 10 hw1  fd_8 (by omega) ) w_971 w_15 w_968 w_970 (bw_s 16 rfl) hd_Model_one rfl ⟨by decide, by decide⟩ (OB.recv E.2.2.2.2.2 (by rfl) hm.1) hm hF hl.1 rfl (Nat.le_of_ble_eq_true rfl) d_Model_transform_79 ⟨by decide, by decide⟩ (qv (fun H5 locs hq hF => ?_))
      obtain ⟨hq, fd_9, hm, hpv⟩ := hq
      have hfr := hfr.tr hq
      refine lv_iconst (v := nI 0) hx hb d_Model_transform_82 (by decide) ?_
      refine lv_istore (lv' := [(5, .int (nI 0)), (0, .ref mo), (1, .int (nI k1)), (3, .int bk), (4, .int (nI NN))]) hx hb d_Model_transform_83 hl (by decide) rfl (fun ls hl => ?_)
      have hl : lv_has ls 7 [(5, .int (nI 0)), (0, .ref mo), (1, .int (nI k1)), (3, .int bk), (4, .int (nI NN))] := lv_sub hl [0, 1, 2, 3, 4] rfl
      exact first NN 0 _ _ ls _ (by omega) hm (hh.off hfr) hF hl
    refine lv_aload_n hx hb d_Model_transform_75 rfl (lv_at hl 0 rfl) ?_
    refine lv_sipush (v := nI 169) hx hb d_Model_transform_76 (by decide) ?_
    refine q_cV (rest := []) E (c_Model_one l g n0 mo 169 0 0 0 0 1 10 hw1  fd_6 (by omega) ) w_971 w_15 w_968 w_970 (bw_s 16 rfl) hd_Model_one rfl ⟨by decide, by decide⟩ (OB.recv E.2.2.2.2.2 (by rfl) hm.1) hm hF hl.1 rfl (Nat.le_of_ble_eq_true rfl) d_Model_transform_79 ⟨by decide, by decide⟩ (qv (fun H3 locs hq hF => ?_))
    obtain ⟨hq, fd_10, hm, hpv⟩ := hq
    have hfr := hfr.tr hq
    refine lv_iconst (v := nI 0) hx hb d_Model_transform_82 (by decide) ?_
    refine lv_istore (lv' := [(5, .int (nI 0)), (0, .ref mo), (1, .int (nI k1)), (3, .int bk), (4, .int (nI NN))]) hx hb d_Model_transform_83 hl (by decide) rfl (fun ls hl => ?_)
    have hl : lv_has ls 7 [(5, .int (nI 0)), (0, .ref mo), (1, .int (nI k1)), (3, .int bk), (4, .int (nI NN))] := lv_sub hl [0, 1, 2, 3, 4] rfl
    exact first NN 0 _ _ ls _ (by omega) hm (hh.off hfr) hF hl
  refine lv_iconst (v := nI 1) hx hb d_Model_transform_0 (by decide) ?_
  refine lv_iload_n hx hb d_Model_transform_1 rfl (lv_at hl 2 rfl) ?_
  refine lv_bipush (v := nI 7) hx hb d_Model_transform_2 (by decide) ?_
  refine lv_iand hx hb d_Model_transform_4 ?_
  refine lv_ishl hx hb d_Model_transform_5 ?_
  refine lv_istore (lv' := [(4, .int ((nI 1) <<< ((kv &&& (nI 7)) &&& 31))), (0, .ref mo), (1, .int a), (2, .int kv), (3, .int bk)]) hx hb d_Model_transform_6 hl (by decide) rfl (fun ls hl => ?_)
  refine lv_aload_n hx hb d_Model_transform_8 rfl (lv_at hl 1 rfl) ?_
  refine lv_iload_n hx hb d_Model_transform_9 rfl (lv_at hl 3 rfl) ?_
  refine lv_i2l (v := kv.toInt64) hx hb d_Model_transform_10 rfl ?_
  refine lv_lconst (v := 0) hx hb d_Model_transform_11 (by decide) ?_
  refine lv_ldc2 (v := 4) hx hb E.2.2.2.1 (E.2.2.2.2.1 _ w_1155) d_Model_transform_12 ?_
  refine q_cS (rest := [.ref mo]) E (c_Model_in l g n0 kv.toInt64 0 4 ) w_1101 w_15 w_1099 w_1100 hd_Model_in rfl ⟨by decide, by decide⟩ trivial hF hl.1 rfl (Nat.le_of_ble_eq_true rfl) d_Model_transform_15 ⟨by decide, by decide⟩ (qi (fun r_0 H1 locs hq hF => ?_))
  obtain ⟨h_0, hq⟩ := hq
  subst hq
  rcases h_0 with ⟨rfl, f_0⟩ | ⟨rfl, f_0⟩
  · skip
    refine lv_if_eq (tgt := 30) hx hb d_Model_transform_18 (by decide) (fun _ => ?_) (fun h9 => absurd (by decide) h9)
    refine lv_iconst (v := nI 1) hx hb d_Model_transform_30 (by decide) ?_
    refine lv_goto (tgt := 35) hx hb d_Model_transform_31 (by decide) ?_
    have hl : lv_has ls 7 [(0, .ref mo), (1, .int a), (2, .int kv), (3, .int bk), (4, .int ((nI 1) <<< ((kv &&& (nI 7)) &&& 31)))] := lv_sub hl [1, 2, 3, 4, 0] rfl
    exact bad _ ls (fun h => (fun q => f_0 ((in_okC (a := 0) (b := 4) (by decide) (by decide) (by decide) (by decide)).mpr q)) h.1) hF hl
  · skip
    refine lv_if_eq (tgt := 30) hx hb d_Model_transform_18 (by decide) (fun h9 => absurd h9 (by decide)) (fun _ => ?_)
    refine lv_iload_n hx hb d_Model_transform_21 rfl (lv_at hl 2 rfl) ?_
    refine lv_iload hx hb d_Model_transform_22 (lv_at hl 0 rfl) ?_
    refine q_cS (rest := [.ref mo]) E (c_Model_noScalars l g n0 a ((nI 1) <<< ((kv &&& (nI 7)) &&& 31)) (tk ((in_okC (a := 0) (b := 4) (by decide) (by decide) (by decide) (by decide)).mp f_0))) w_1206 w_15 w_1204 w_1205 hd_Model_noScalars rfl ⟨by decide, by decide⟩ trivial hF hl.1 rfl (Nat.le_of_ble_eq_true rfl) d_Model_transform_24 ⟨by decide, by decide⟩ (qi (fun r_1 H2 locs hq hF => ?_))
    obtain ⟨h_1, hq⟩ := hq
    subst hq
    rcases h_1 with ⟨rfl, f_1⟩ | ⟨rfl, f_1⟩
    · skip
      refine lv_if_eq (tgt := 34) hx hb d_Model_transform_27 (by decide) (fun h9 => absurd h9 (by decide)) (fun _ => ?_)
      refine lv_iconst (v := nI 1) hx hb d_Model_transform_30 (by decide) ?_
      refine lv_goto (tgt := 35) hx hb d_Model_transform_31 (by decide) ?_
      have hl : lv_has ls 7 [(0, .ref mo), (1, .int a), (2, .int kv), (3, .int bk), (4, .int ((nI 1) <<< ((kv &&& (nI 7)) &&& 31)))] := lv_sub hl [1, 2, 3, 4, 0] rfl
      exact bad _ ls (fun h => (f_1) h.2) hF hl
    · skip
      refine lv_if_eq (tgt := 34) hx hb d_Model_transform_27 (by decide) (fun _ => ?_) (fun h9 => absurd (by decide) h9)
      refine lv_iconst (v := nI 0) hx hb d_Model_transform_34 (by decide) ?_
      have hl : lv_has ls 7 [(0, .ref mo), (1, .int a), (2, .int kv), (3, .int bk), (4, .int ((nI 1) <<< ((kv &&& (nI 7)) &&& 31)))] := lv_sub hl [1, 2, 3, 4, 0] rfl
      exact good _ ls ⟨(in_okC (a := 0) (b := 4) (by decide) (by decide) (by decide) (by decide)).mp f_0, f_1⟩ hF hl
