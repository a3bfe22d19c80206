theorem tk2 {j : Nat} (h : j ≤ 4) : nI 1 <<< ((nI j &&& nI 7) &&& 31) = nI (2 ^ j) := by
  match j, h with
  | 0, _ => decide
  | 1, _ => decide
  | 2, _ => decide
  | 3, _ => decide
  | 4, _ => decide
theorem tk3 {j : Nat} (h : j ≤ 4) : 1 ≤ 2 ^ j ∧ 2 ^ j ≤ 16 := by
  match j, h with
  | 0, _ => decide
  | 1, _ => decide
  | 2, _ => decide
  | 3, _ => decide
  | 4, _ => decide
theorem tk {kv : Int32} (h : okC kv (nI 0) (nI 4)) : (nI 1 <<< ((kv &&& nI 7) &&& 31)) ≤ 0 ∨ ∃ j, (nI 1 <<< ((kv &&& nI 7) &&& 31)) = nI j ∧ 1 ≤ j ∧ j ≤ 32 := by
  obtain ⟨k, e, h1, h2⟩ := okC_nat (by decide) (by decide) h
  have := tk3 h2
  rw [e, tk2 h2]
  exact Or.inr ⟨2 ^ k, rfl, by omega, by omega⟩
def HO (g : WG) (H : Heap) (mo : Nat) : Prop := ∃ f, AJ g H (mo + 8) 224 f ∧ ∀ k, k < 224 → dg (f k)
theorem HO.off {g : WG} {H H' : Heap} {mo : Nat} (h : HO g H mo) (hk : FRM (MR mo) H H') : HO g H' mo := by
  obtain ⟨f, h1, h2⟩ := h
  exact ⟨f, h1.off hk (by unfold MR; omega), h2⟩
theorem MS.hold {g : WG} {n0 : Nat → Prop} {H H' : Heap} {mo : Nat} {th pw td wr : Int32} {w n : Nat} {fd : Nat → Int64} {U : State} (hK : KW g U) (h : MS g n0 H mo th pw td wr w n fd) (hk : KJ g (fun q => q = mo + 8) H H') : MS g n0 H' mo th pw td wr w n fd := by
  obtain ⟨h1, h2, ⟨f, h3, h4⟩, ⟨f5, h5⟩, h6, h7, h8, h9⟩ := h
  exact ⟨hk.ob hK h1, hk.ajo (by omega) h2, ⟨f, hk.ajo (by omega) h3, h4⟩, hk.aj h5, hk.ajo (by omega) h6, h7, h8, h9⟩
abbrev y_Model_lagrange : MethodName := ⟨"KateDeskModel", "lagrange", "(IIII)V"⟩
theorem hd_Model_lagrange : y_Model_lagrange.cls ≠ "java/lang/invoke/MethodHandle" ∧ y_Model_lagrange.cls ≠ "java/lang/invoke/VarHandle" ∧ (parseMethodDescriptor y_Model_lagrange.desc).map (fun d => d.parameters.length) = some 4 := by decide +kernel
theorem d_Model_lagrange_0 : decode prog_11_method_60_code 0 = .ok (.aload_n 0, 1) := by decide +kernel
theorem d_Model_lagrange_1 : decode prog_11_method_60_code 1 = .ok (.iload_n 1, 1) := by decide +kernel
theorem d_Model_lagrange_2 : decode prog_11_method_60_code 2 = .ok (.invokestatic 219, 3) := by decide +kernel
theorem d_Model_lagrange_5 : decode prog_11_method_60_code 5 = .ok (.ifCond .ne 41, 3) := by decide +kernel
theorem d_Model_lagrange_8 : decode prog_11_method_60_code 8 = .ok (.iload_n 2, 1) := by decide +kernel
theorem d_Model_lagrange_9 : decode prog_11_method_60_code 9 = .ok (.i2l, 1) := by decide +kernel
theorem d_Model_lagrange_10 : decode prog_11_method_60_code 10 = .ok (.lconst 0, 1) := by decide +kernel
theorem d_Model_lagrange_11 : decode prog_11_method_60_code 11 = .ok (.ldc2_w 269, 3) := by decide +kernel
theorem d_Model_lagrange_14 : decode prog_11_method_60_code 14 = .ok (.invokestatic 242, 3) := by decide +kernel
theorem d_Model_lagrange_17 : decode prog_11_method_60_code 17 = .ok (.ifCond .eq 29, 3) := by decide +kernel
theorem d_Model_lagrange_20 : decode prog_11_method_60_code 20 = .ok (.iload_n 3, 1) := by decide +kernel
theorem d_Model_lagrange_21 : decode prog_11_method_60_code 21 = .ok (.i2l, 1) := by decide +kernel
theorem d_Model_lagrange_22 : decode prog_11_method_60_code 22 = .ok (.lconst 0, 1) := by decide +kernel
theorem d_Model_lagrange_23 : decode prog_11_method_60_code 23 = .ok (.iconst 1, 1) := by decide +kernel
theorem d_Model_lagrange_24 : decode prog_11_method_60_code 24 = .ok (.iload_n 2, 1) := by decide +kernel
theorem d_Model_lagrange_25 : decode prog_11_method_60_code 25 = .ok (.bipush 7, 2) := by decide +kernel
theorem d_Model_lagrange_27 : decode prog_11_method_60_code 27 = .ok (.iand, 1) := by decide +kernel
theorem d_Model_lagrange_28 : decode prog_11_method_60_code 28 = .ok (.ishl, 1) := by decide +kernel
theorem d_Model_lagrange_29 : decode prog_11_method_60_code 29 = .ok (.iconst 1, 1) := by decide +kernel
theorem d_Model_lagrange_30 : decode prog_11_method_60_code 30 = .ok (.isub, 1) := by decide +kernel
theorem d_Model_lagrange_31 : decode prog_11_method_60_code 31 = .ok (.i2l, 1) := by decide +kernel
theorem d_Model_lagrange_32 : decode prog_11_method_60_code 32 = .ok (.invokestatic 242, 3) := by decide +kernel
theorem d_Model_lagrange_35 : decode prog_11_method_60_code 35 = .ok (.ifCond .eq 11, 3) := by decide +kernel
theorem d_Model_lagrange_38 : decode prog_11_method_60_code 38 = .ok (.iload 4, 2) := by decide +kernel
theorem d_Model_lagrange_40 : decode prog_11_method_60_code 40 = .ok (.invokestatic 219, 3) := by decide +kernel
theorem d_Model_lagrange_43 : decode prog_11_method_60_code 43 = .ok (.ifCond .eq 7, 3) := by decide +kernel
theorem d_Model_lagrange_46 : decode prog_11_method_60_code 46 = .ok (.iconst 1, 1) := by decide +kernel
theorem d_Model_lagrange_47 : decode prog_11_method_60_code 47 = .ok (.goto 4, 3) := by decide +kernel
theorem d_Model_lagrange_50 : decode prog_11_method_60_code 50 = .ok (.iconst 0, 1) := by decide +kernel
theorem d_Model_lagrange_51 : decode prog_11_method_60_code 51 = .ok (.iconst 1, 1) := by decide +kernel
theorem d_Model_lagrange_52 : decode prog_11_method_60_code 52 = .ok (.invokevirtual 223, 3) := by decide +kernel
theorem d_Model_lagrange_55 : decode prog_11_method_60_code 55 = .ok (.ifCond .eq 4, 3) := by decide +kernel
theorem d_Model_lagrange_58 : decode prog_11_method_60_code 58 = .ok (.return_, 1) := by decide +kernel
theorem d_Model_lagrange_59 : decode prog_11_method_60_code 59 = .ok (.aload_n 0, 1) := by decide +kernel
theorem d_Model_lagrange_60 : decode prog_11_method_60_code 60 = .ok (.sipush 166, 3) := by decide +kernel
theorem d_Model_lagrange_63 : decode prog_11_method_60_code 63 = .ok (.iload_n 2, 1) := by decide +kernel
theorem d_Model_lagrange_64 : decode prog_11_method_60_code 64 = .ok (.invokevirtual 259, 3) := by decide +kernel
theorem d_Model_lagrange_67 : decode prog_11_method_60_code 67 = .ok (.aload_n 0, 1) := by decide +kernel
theorem d_Model_lagrange_68 : decode prog_11_method_60_code 68 = .ok (.sipush 145, 3) := by decide +kernel
theorem d_Model_lagrange_71 : decode prog_11_method_60_code 71 = .ok (.iload_n 3, 1) := by decide +kernel
theorem d_Model_lagrange_72 : decode prog_11_method_60_code 72 = .ok (.i2l, 1) := by decide +kernel
theorem d_Model_lagrange_73 : decode prog_11_method_60_code 73 = .ok (.invokevirtual 235, 3) := by decide +kernel
theorem d_Model_lagrange_76 : decode prog_11_method_60_code 76 = .ok (.aload_n 0, 1) := by decide +kernel
theorem d_Model_lagrange_77 : decode prog_11_method_60_code 77 = .ok (.sipush 168, 3) := by decide +kernel
theorem d_Model_lagrange_80 : decode prog_11_method_60_code 80 = .ok (.sipush 166, 3) := by decide +kernel
theorem d_Model_lagrange_83 : decode prog_11_method_60_code 83 = .ok (.sipush 145, 3) := by decide +kernel
theorem d_Model_lagrange_86 : decode prog_11_method_60_code 86 = .ok (.invokevirtual 197, 3) := by decide +kernel
theorem d_Model_lagrange_89 : decode prog_11_method_60_code 89 = .ok (.aload_n 0, 1) := by decide +kernel
theorem d_Model_lagrange_90 : decode prog_11_method_60_code 90 = .ok (.sipush 168, 3) := by decide +kernel
theorem d_Model_lagrange_93 : decode prog_11_method_60_code 93 = .ok (.iload 4, 2) := by decide +kernel
theorem d_Model_lagrange_95 : decode prog_11_method_60_code 95 = .ok (.invokevirtual 215, 3) := by decide +kernel
theorem d_Model_lagrange_98 : decode prog_11_method_60_code 98 = .ok (.ifCond .eq 9, 3) := by decide +kernel
theorem d_Model_lagrange_101 : decode prog_11_method_60_code 101 = .ok (.aload_n 0, 1) := by decide +kernel
theorem d_Model_lagrange_102 : decode prog_11_method_60_code 102 = .ok (.iload_n 1, 1) := by decide +kernel
theorem d_Model_lagrange_103 : decode prog_11_method_60_code 103 = .ok (.invokevirtual 141, 3) := by decide +kernel
theorem d_Model_lagrange_106 : decode prog_11_method_60_code 106 = .ok (.return_, 1) := by decide +kernel
theorem d_Model_lagrange_107 : decode prog_11_method_60_code 107 = .ok (.aload_n 0, 1) := by decide +kernel
theorem d_Model_lagrange_108 : decode prog_11_method_60_code 108 = .ok (.sipush 145, 3) := by decide +kernel
theorem d_Model_lagrange_111 : decode prog_11_method_60_code 111 = .ok (.lconst 1, 1) := by decide +kernel
theorem d_Model_lagrange_112 : decode prog_11_method_60_code 112 = .ok (.iload_n 2, 1) := by decide +kernel
theorem d_Model_lagrange_113 : decode prog_11_method_60_code 113 = .ok (.lshl, 1) := by decide +kernel
theorem d_Model_lagrange_114 : decode prog_11_method_60_code 114 = .ok (.invokevirtual 235, 3) := by decide +kernel
theorem d_Model_lagrange_117 : decode prog_11_method_60_code 117 = .ok (.aload_n 0, 1) := by decide +kernel
theorem d_Model_lagrange_118 : decode prog_11_method_60_code 118 = .ok (.sipush 169, 3) := by decide +kernel
theorem d_Model_lagrange_121 : decode prog_11_method_60_code 121 = .ok (.iload 4, 2) := by decide +kernel
theorem d_Model_lagrange_123 : decode prog_11_method_60_code 123 = .ok (.sipush 145, 3) := by decide +kernel
theorem d_Model_lagrange_126 : decode prog_11_method_60_code 126 = .ok (.invokevirtual 197, 3) := by decide +kernel
theorem d_Model_lagrange_129 : decode prog_11_method_60_code 129 = .ok (.aload_n 0, 1) := by decide +kernel
theorem d_Model_lagrange_130 : decode prog_11_method_60_code 130 = .ok (.sipush 166, 3) := by decide +kernel
theorem d_Model_lagrange_133 : decode prog_11_method_60_code 133 = .ok (.invokevirtual 141, 3) := by decide +kernel
theorem d_Model_lagrange_136 : decode prog_11_method_60_code 136 = .ok (.aload_n 0, 1) := by decide +kernel
theorem d_Model_lagrange_137 : decode prog_11_method_60_code 137 = .ok (.sipush 169, 3) := by decide +kernel
theorem d_Model_lagrange_140 : decode prog_11_method_60_code 140 = .ok (.sipush 169, 3) := by decide +kernel
theorem d_Model_lagrange_143 : decode prog_11_method_60_code 143 = .ok (.sipush 166, 3) := by decide +kernel
theorem d_Model_lagrange_146 : decode prog_11_method_60_code 146 = .ok (.invokevirtual 203, 3) := by decide +kernel
theorem d_Model_lagrange_149 : decode prog_11_method_60_code 149 = .ok (.aload_n 0, 1) := by decide +kernel
theorem d_Model_lagrange_150 : decode prog_11_method_60_code 150 = .ok (.sipush 169, 3) := by decide +kernel
theorem d_Model_lagrange_153 : decode prog_11_method_60_code 153 = .ok (.sipush 169, 3) := by decide +kernel
theorem d_Model_lagrange_156 : decode prog_11_method_60_code 156 = .ok (.sipush 168, 3) := by decide +kernel
theorem d_Model_lagrange_159 : decode prog_11_method_60_code 159 = .ok (.invokevirtual 184, 3) := by decide +kernel
theorem d_Model_lagrange_162 : decode prog_11_method_60_code 162 = .ok (.aload_n 0, 1) := by decide +kernel
theorem d_Model_lagrange_163 : decode prog_11_method_60_code 163 = .ok (.sipush 168, 3) := by decide +kernel
theorem d_Model_lagrange_166 : decode prog_11_method_60_code 166 = .ok (.iload 4, 2) := by decide +kernel
theorem d_Model_lagrange_168 : decode prog_11_method_60_code 168 = .ok (.sipush 168, 3) := by decide +kernel
theorem d_Model_lagrange_171 : decode prog_11_method_60_code 171 = .ok (.invokevirtual 203, 3) := by decide +kernel
theorem d_Model_lagrange_174 : decode prog_11_method_60_code 174 = .ok (.aload_n 0, 1) := by decide +kernel
theorem d_Model_lagrange_175 : decode prog_11_method_60_code 175 = .ok (.sipush 166, 3) := by decide +kernel
theorem d_Model_lagrange_178 : decode prog_11_method_60_code 178 = .ok (.lconst 1, 1) := by decide +kernel
theorem d_Model_lagrange_179 : decode prog_11_method_60_code 179 = .ok (.iload_n 2, 1) := by decide +kernel
theorem d_Model_lagrange_180 : decode prog_11_method_60_code 180 = .ok (.lshl, 1) := by decide +kernel
theorem d_Model_lagrange_181 : decode prog_11_method_60_code 181 = .ok (.invokevirtual 235, 3) := by decide +kernel
theorem d_Model_lagrange_184 : decode prog_11_method_60_code 184 = .ok (.aload_n 0, 1) := by decide +kernel
theorem d_Model_lagrange_185 : decode prog_11_method_60_code 185 = .ok (.sipush 168, 3) := by decide +kernel
theorem d_Model_lagrange_188 : decode prog_11_method_60_code 188 = .ok (.sipush 168, 3) := by decide +kernel
theorem d_Model_lagrange_191 : decode prog_11_method_60_code 191 = .ok (.sipush 166, 3) := by decide +kernel
theorem d_Model_lagrange_194 : decode prog_11_method_60_code 194 = .ok (.invokevirtual 184, 3) := by decide +kernel
theorem d_Model_lagrange_197 : decode prog_11_method_60_code 197 = .ok (.aload_n 0, 1) := by decide +kernel
theorem d_Model_lagrange_198 : decode prog_11_method_60_code 198 = .ok (.sipush 166, 3) := by decide +kernel
theorem d_Model_lagrange_201 : decode prog_11_method_60_code 201 = .ok (.sipush 168, 3) := by decide +kernel
theorem d_Model_lagrange_204 : decode prog_11_method_60_code 204 = .ok (.invokevirtual 249, 3) := by decide +kernel
theorem d_Model_lagrange_207 : decode prog_11_method_60_code 207 = .ok (.aload_n 0, 1) := by decide +kernel
theorem d_Model_lagrange_208 : decode prog_11_method_60_code 208 = .ok (.iload_n 1, 1) := by decide +kernel
theorem d_Model_lagrange_209 : decode prog_11_method_60_code 209 = .ok (.sipush 169, 3) := by decide +kernel
theorem d_Model_lagrange_212 : decode prog_11_method_60_code 212 = .ok (.sipush 166, 3) := by decide +kernel
theorem d_Model_lagrange_215 : decode prog_11_method_60_code 215 = .ok (.invokevirtual 184, 3) := by decide +kernel
theorem d_Model_lagrange_218 : decode prog_11_method_60_code 218 = .ok (.return_, 1) := by decide +kernel
abbrev y_Model_out : MethodName := ⟨"KateDeskModel", "out", "(I)J"⟩
theorem hd_Model_out : y_Model_out.cls ≠ "java/lang/invoke/MethodHandle" ∧ y_Model_out.cls ≠ "java/lang/invoke/VarHandle" ∧ (parseMethodDescriptor y_Model_out.desc).map (fun d => d.parameters.length) = some 1 := by decide +kernel
theorem d_Model_out_0 : decode prog_11_method_48_code 0 = .ok (.aload_n 0, 1) := by decide +kernel
theorem d_Model_out_1 : decode prog_11_method_48_code 1 = .ok (.iload_n 1, 1) := by decide +kernel
theorem d_Model_out_2 : decode prog_11_method_48_code 2 = .ok (.i2l, 1) := by decide +kernel
theorem d_Model_out_3 : decode prog_11_method_48_code 3 = .ok (.lconst 0, 1) := by decide +kernel
theorem d_Model_out_4 : decode prog_11_method_48_code 4 = .ok (.aload_n 0, 1) := by decide +kernel
theorem d_Model_out_5 : decode prog_11_method_48_code 5 = .ok (.getfield 277, 3) := by decide +kernel
theorem d_Model_out_8 : decode prog_11_method_48_code 8 = .ok (.iconst 1, 1) := by decide +kernel
theorem d_Model_out_9 : decode prog_11_method_48_code 9 = .ok (.isub, 1) := by decide +kernel
theorem d_Model_out_10 : decode prog_11_method_48_code 10 = .ok (.i2l, 1) := by decide +kernel
theorem d_Model_out_11 : decode prog_11_method_48_code 11 = .ok (.invokestatic 242, 3) := by decide +kernel
theorem d_Model_out_14 : decode prog_11_method_48_code 14 = .ok (.ifCond .ne 7, 3) := by decide +kernel
theorem d_Model_out_17 : decode prog_11_method_48_code 17 = .ok (.iconst 1, 1) := by decide +kernel
theorem d_Model_out_18 : decode prog_11_method_48_code 18 = .ok (.goto 4, 3) := by decide +kernel
theorem d_Model_out_21 : decode prog_11_method_48_code 21 = .ok (.iconst 0, 1) := by decide +kernel
theorem d_Model_out_22 : decode prog_11_method_48_code 22 = .ok (.iconst 1, 1) := by decide +kernel
theorem d_Model_out_23 : decode prog_11_method_48_code 23 = .ok (.invokevirtual 223, 3) := by decide +kernel
theorem d_Model_out_26 : decode prog_11_method_48_code 26 = .ok (.ifCond .eq 5, 3) := by decide +kernel
theorem d_Model_out_29 : decode prog_11_method_48_code 29 = .ok (.lconst 0, 1) := by decide +kernel
theorem d_Model_out_30 : decode prog_11_method_48_code 30 = .ok (.lreturn, 1) := by decide +kernel
theorem d_Model_out_31 : decode prog_11_method_48_code 31 = .ok (.lconst 0, 1) := by decide +kernel
theorem d_Model_out_32 : decode prog_11_method_48_code 32 = .ok (.lstore_n 2, 1) := by decide +kernel
theorem d_Model_out_33 : decode prog_11_method_48_code 33 = .ok (.iconst 0, 1) := by decide +kernel
theorem d_Model_out_34 : decode prog_11_method_48_code 34 = .ok (.istore 4, 2) := by decide +kernel
theorem d_Model_out_36 : decode prog_11_method_48_code 36 = .ok (.iload 4, 2) := by decide +kernel
theorem d_Model_out_38 : decode prog_11_method_48_code 38 = .ok (.bipush 8, 2) := by decide +kernel
theorem d_Model_out_40 : decode prog_11_method_48_code 40 = .ok (.if_icmp .ge 39, 3) := by decide +kernel
theorem d_Model_out_43 : decode prog_11_method_48_code 43 = .ok (.iload_n 1, 1) := by decide +kernel
theorem d_Model_out_44 : decode prog_11_method_48_code 44 = .ok (.iload 4, 2) := by decide +kernel
theorem d_Model_out_46 : decode prog_11_method_48_code 46 = .ok (.iadd, 1) := by decide +kernel
theorem d_Model_out_47 : decode prog_11_method_48_code 47 = .ok (.aload_n 0, 1) := by decide +kernel
theorem d_Model_out_48 : decode prog_11_method_48_code 48 = .ok (.getfield 277, 3) := by decide +kernel
theorem d_Model_out_51 : decode prog_11_method_48_code 51 = .ok (.if_icmp .ge 28, 3) := by decide +kernel
theorem d_Model_out_54 : decode prog_11_method_48_code 54 = .ok (.lload_n 2, 1) := by decide +kernel
theorem d_Model_out_55 : decode prog_11_method_48_code 55 = .ok (.aload_n 0, 1) := by decide +kernel
theorem d_Model_out_56 : decode prog_11_method_48_code 56 = .ok (.getfield 131, 3) := by decide +kernel
theorem d_Model_out_59 : decode prog_11_method_48_code 59 = .ok (.iload_n 1, 1) := by decide +kernel
theorem d_Model_out_60 : decode prog_11_method_48_code 60 = .ok (.iload 4, 2) := by decide +kernel
theorem d_Model_out_62 : decode prog_11_method_48_code 62 = .ok (.iadd, 1) := by decide +kernel
theorem d_Model_out_63 : decode prog_11_method_48_code 63 = .ok (.iaload, 1) := by decide +kernel
theorem d_Model_out_64 : decode prog_11_method_48_code 64 = .ok (.i2l, 1) := by decide +kernel
theorem d_Model_out_65 : decode prog_11_method_48_code 65 = .ok (.bipush 8, 2) := by decide +kernel
theorem d_Model_out_67 : decode prog_11_method_48_code 67 = .ok (.iload 4, 2) := by decide +kernel
theorem d_Model_out_69 : decode prog_11_method_48_code 69 = .ok (.imul, 1) := by decide +kernel
theorem d_Model_out_70 : decode prog_11_method_48_code 70 = .ok (.lshl, 1) := by decide +kernel
theorem d_Model_out_71 : decode prog_11_method_48_code 71 = .ok (.lor, 1) := by decide +kernel
theorem d_Model_out_72 : decode prog_11_method_48_code 72 = .ok (.lstore_n 2, 1) := by decide +kernel
theorem d_Model_out_73 : decode prog_11_method_48_code 73 = .ok (.iinc 4 1, 3) := by decide +kernel
theorem d_Model_out_76 : decode prog_11_method_48_code 76 = .ok (.goto (-40), 3) := by decide +kernel
theorem d_Model_out_79 : decode prog_11_method_48_code 79 = .ok (.lload_n 2, 1) := by decide +kernel
theorem d_Model_out_80 : decode prog_11_method_48_code 80 = .ok (.lreturn, 1) := by decide +kernel
abbrev y_Model_transform : MethodName := ⟨"KateDeskModel", "transform", "(IIZ)V"⟩
theorem hd_Model_transform : y_Model_transform.cls ≠ "java/lang/invoke/MethodHandle" ∧ y_Model_transform.cls ≠ "java/lang/invoke/VarHandle" ∧ (parseMethodDescriptor y_Model_transform.desc).map (fun d => d.parameters.length) = some 3 := by decide +kernel
theorem d_Model_transform_0 : decode prog_11_method_59_code 0 = .ok (.iconst 1, 1) := by decide +kernel
theorem d_Model_transform_1 : decode prog_11_method_59_code 1 = .ok (.iload_n 2, 1) := by decide +kernel
theorem d_Model_transform_2 : decode prog_11_method_59_code 2 = .ok (.bipush 7, 2) := by decide +kernel
theorem d_Model_transform_4 : decode prog_11_method_59_code 4 = .ok (.iand, 1) := by decide +kernel
theorem d_Model_transform_5 : decode prog_11_method_59_code 5 = .ok (.ishl, 1) := by decide +kernel
theorem d_Model_transform_6 : decode prog_11_method_59_code 6 = .ok (.istore 4, 2) := by decide +kernel
theorem d_Model_transform_8 : decode prog_11_method_59_code 8 = .ok (.aload_n 0, 1) := by decide +kernel
theorem d_Model_transform_9 : decode prog_11_method_59_code 9 = .ok (.iload_n 2, 1) := by decide +kernel
theorem d_Model_transform_10 : decode prog_11_method_59_code 10 = .ok (.i2l, 1) := by decide +kernel
theorem d_Model_transform_11 : decode prog_11_method_59_code 11 = .ok (.lconst 0, 1) := by decide +kernel
theorem d_Model_transform_12 : decode prog_11_method_59_code 12 = .ok (.ldc2_w 269, 3) := by decide +kernel
theorem d_Model_transform_15 : decode prog_11_method_59_code 15 = .ok (.invokestatic 242, 3) := by decide +kernel
theorem d_Model_transform_18 : decode prog_11_method_59_code 18 = .ok (.ifCond .eq 12, 3) := by decide +kernel
theorem d_Model_transform_21 : decode prog_11_method_59_code 21 = .ok (.iload_n 1, 1) := by decide +kernel
theorem d_Model_transform_22 : decode prog_11_method_59_code 22 = .ok (.iload 4, 2) := by decide +kernel
theorem d_Model_transform_24 : decode prog_11_method_59_code 24 = .ok (.invokestatic 283, 3) := by decide +kernel
theorem d_Model_transform_27 : decode prog_11_method_59_code 27 = .ok (.ifCond .eq 7, 3) := by decide +kernel
theorem d_Model_transform_30 : decode prog_11_method_59_code 30 = .ok (.iconst 1, 1) := by decide +kernel
theorem d_Model_transform_31 : decode prog_11_method_59_code 31 = .ok (.goto 4, 3) := by decide +kernel
theorem d_Model_transform_34 : decode prog_11_method_59_code 34 = .ok (.iconst 0, 1) := by decide +kernel
theorem d_Model_transform_35 : decode prog_11_method_59_code 35 = .ok (.iconst 1, 1) := by decide +kernel
theorem d_Model_transform_36 : decode prog_11_method_59_code 36 = .ok (.invokevirtual 223, 3) := by decide +kernel
theorem d_Model_transform_39 : decode prog_11_method_59_code 39 = .ok (.ifCond .eq 4, 3) := by decide +kernel
theorem d_Model_transform_42 : decode prog_11_method_59_code 42 = .ok (.return_, 1) := by decide +kernel
theorem d_Model_transform_43 : decode prog_11_method_59_code 43 = .ok (.aload_n 0, 1) := by decide +kernel
theorem d_Model_transform_44 : decode prog_11_method_59_code 44 = .ok (.sipush 166, 3) := by decide +kernel
theorem d_Model_transform_47 : decode prog_11_method_59_code 47 = .ok (.iload_n 2, 1) := by decide +kernel
theorem d_Model_transform_48 : decode prog_11_method_59_code 48 = .ok (.invokevirtual 259, 3) := by decide +kernel
theorem d_Model_transform_51 : decode prog_11_method_59_code 51 = .ok (.iload_n 3, 1) := by decide +kernel
theorem d_Model_transform_52 : decode prog_11_method_59_code 52 = .ok (.ifCond .eq 23, 3) := by decide +kernel
theorem d_Model_transform_55 : decode prog_11_method_59_code 55 = .ok (.aload_n 0, 1) := by decide +kernel
theorem d_Model_transform_56 : decode prog_11_method_59_code 56 = .ok (.sipush 168, 3) := by decide +kernel
theorem d_Model_transform_59 : decode prog_11_method_59_code 59 = .ok (.sipush 166, 3) := by decide +kernel
theorem d_Model_transform_62 : decode prog_11_method_59_code 62 = .ok (.invokevirtual 249, 3) := by decide +kernel
theorem d_Model_transform_65 : decode prog_11_method_59_code 65 = .ok (.aload_n 0, 1) := by decide +kernel
theorem d_Model_transform_66 : decode prog_11_method_59_code 66 = .ok (.sipush 166, 3) := by decide +kernel
theorem d_Model_transform_69 : decode prog_11_method_59_code 69 = .ok (.sipush 168, 3) := by decide +kernel
theorem d_Model_transform_72 : decode prog_11_method_59_code 72 = .ok (.invokevirtual 180, 3) := by decide +kernel
theorem d_Model_transform_75 : decode prog_11_method_59_code 75 = .ok (.aload_n 0, 1) := by decide +kernel
theorem d_Model_transform_76 : decode prog_11_method_59_code 76 = .ok (.sipush 169, 3) := by decide +kernel
theorem d_Model_transform_79 : decode prog_11_method_59_code 79 = .ok (.invokevirtual 141, 3) := by decide +kernel
theorem d_Model_transform_82 : decode prog_11_method_59_code 82 = .ok (.iconst 0, 1) := by decide +kernel
theorem d_Model_transform_83 : decode prog_11_method_59_code 83 = .ok (.istore 5, 2) := by decide +kernel
theorem d_Model_transform_85 : decode prog_11_method_59_code 85 = .ok (.iload 5, 2) := by decide +kernel
theorem d_Model_transform_87 : decode prog_11_method_59_code 87 = .ok (.iload 4, 2) := by decide +kernel
theorem d_Model_transform_89 : decode prog_11_method_59_code 89 = .ok (.if_icmp .ge 73, 3) := by decide +kernel
theorem d_Model_transform_92 : decode prog_11_method_59_code 92 = .ok (.aload_n 0, 1) := by decide +kernel
theorem d_Model_transform_93 : decode prog_11_method_59_code 93 = .ok (.sipush 168, 3) := by decide +kernel
theorem d_Model_transform_96 : decode prog_11_method_59_code 96 = .ok (.iload_n 1, 1) := by decide +kernel
theorem d_Model_transform_97 : decode prog_11_method_59_code 97 = .ok (.iload 4, 2) := by decide +kernel
theorem d_Model_transform_99 : decode prog_11_method_59_code 99 = .ok (.sipush 169, 3) := by decide +kernel
theorem d_Model_transform_102 : decode prog_11_method_59_code 102 = .ok (.invokevirtual 297, 3) := by decide +kernel
theorem d_Model_transform_105 : decode prog_11_method_59_code 105 = .ok (.iconst 0, 1) := by decide +kernel
theorem d_Model_transform_106 : decode prog_11_method_59_code 106 = .ok (.istore 6, 2) := by decide +kernel
theorem d_Model_transform_108 : decode prog_11_method_59_code 108 = .ok (.iload 6, 2) := by decide +kernel
theorem d_Model_transform_110 : decode prog_11_method_59_code 110 = .ok (.bipush 14, 2) := by decide +kernel
theorem d_Model_transform_112 : decode prog_11_method_59_code 112 = .ok (.if_icmp .ge 31, 3) := by decide +kernel
theorem d_Model_transform_115 : decode prog_11_method_59_code 115 = .ok (.aload_n 0, 1) := by decide +kernel
theorem d_Model_transform_116 : decode prog_11_method_59_code 116 = .ok (.getfield 134, 3) := by decide +kernel
theorem d_Model_transform_119 : decode prog_11_method_59_code 119 = .ok (.bipush 14, 2) := by decide +kernel
theorem d_Model_transform_121 : decode prog_11_method_59_code 121 = .ok (.iload 5, 2) := by decide +kernel
theorem d_Model_transform_123 : decode prog_11_method_59_code 123 = .ok (.imul, 1) := by decide +kernel
theorem d_Model_transform_124 : decode prog_11_method_59_code 124 = .ok (.iload 6, 2) := by decide +kernel
theorem d_Model_transform_126 : decode prog_11_method_59_code 126 = .ok (.iadd, 1) := by decide +kernel
theorem d_Model_transform_127 : decode prog_11_method_59_code 127 = .ok (.aload_n 0, 1) := by decide +kernel
theorem d_Model_transform_128 : decode prog_11_method_59_code 128 = .ok (.sipush 168, 3) := by decide +kernel
theorem d_Model_transform_131 : decode prog_11_method_59_code 131 = .ok (.iload 6, 2) := by decide +kernel
theorem d_Model_transform_133 : decode prog_11_method_59_code 133 = .ok (.invokevirtual 164, 3) := by decide +kernel
theorem d_Model_transform_136 : decode prog_11_method_59_code 136 = .ok (.lastore, 1) := by decide +kernel
theorem d_Model_transform_137 : decode prog_11_method_59_code 137 = .ok (.iinc 6 1, 3) := by decide +kernel
theorem d_Model_transform_140 : decode prog_11_method_59_code 140 = .ok (.goto (-32), 3) := by decide +kernel
theorem d_Model_transform_143 : decode prog_11_method_59_code 143 = .ok (.aload_n 0, 1) := by decide +kernel
theorem d_Model_transform_144 : decode prog_11_method_59_code 144 = .ok (.sipush 169, 3) := by decide +kernel
theorem d_Model_transform_147 : decode prog_11_method_59_code 147 = .ok (.sipush 169, 3) := by decide +kernel
theorem d_Model_transform_150 : decode prog_11_method_59_code 150 = .ok (.sipush 166, 3) := by decide +kernel
theorem d_Model_transform_153 : decode prog_11_method_59_code 153 = .ok (.invokevirtual 184, 3) := by decide +kernel
theorem d_Model_transform_156 : decode prog_11_method_59_code 156 = .ok (.iinc 5 1, 3) := by decide +kernel
theorem d_Model_transform_159 : decode prog_11_method_59_code 159 = .ok (.goto (-74), 3) := by decide +kernel
theorem d_Model_transform_162 : decode prog_11_method_59_code 162 = .ok (.aload_n 0, 1) := by decide +kernel
theorem d_Model_transform_163 : decode prog_11_method_59_code 163 = .ok (.sipush 166, 3) := by decide +kernel
theorem d_Model_transform_166 : decode prog_11_method_59_code 166 = .ok (.iload 4, 2) := by decide +kernel
theorem d_Model_transform_168 : decode prog_11_method_59_code 168 = .ok (.i2l, 1) := by decide +kernel
theorem d_Model_transform_169 : decode prog_11_method_59_code 169 = .ok (.invokevirtual 235, 3) := by decide +kernel
theorem d_Model_transform_172 : decode prog_11_method_59_code 172 = .ok (.aload_n 0, 1) := by decide +kernel
theorem d_Model_transform_173 : decode prog_11_method_59_code 173 = .ok (.sipush 168, 3) := by decide +kernel
theorem d_Model_transform_176 : decode prog_11_method_59_code 176 = .ok (.sipush 166, 3) := by decide +kernel
theorem d_Model_transform_179 : decode prog_11_method_59_code 179 = .ok (.invokevirtual 249, 3) := by decide +kernel
theorem d_Model_transform_182 : decode prog_11_method_59_code 182 = .ok (.iconst 0, 1) := by decide +kernel
theorem d_Model_transform_183 : decode prog_11_method_59_code 183 = .ok (.istore 5, 2) := by decide +kernel
theorem d_Model_transform_185 : decode prog_11_method_59_code 185 = .ok (.iload 5, 2) := by decide +kernel
theorem d_Model_transform_187 : decode prog_11_method_59_code 187 = .ok (.iload 4, 2) := by decide +kernel
theorem d_Model_transform_189 : decode prog_11_method_59_code 189 = .ok (.if_icmp .ge 72, 3) := by decide +kernel
theorem d_Model_transform_192 : decode prog_11_method_59_code 192 = .ok (.iconst 0, 1) := by decide +kernel
theorem d_Model_transform_193 : decode prog_11_method_59_code 193 = .ok (.istore 6, 2) := by decide +kernel
theorem d_Model_transform_195 : decode prog_11_method_59_code 195 = .ok (.iload 6, 2) := by decide +kernel
theorem d_Model_transform_197 : decode prog_11_method_59_code 197 = .ok (.bipush 14, 2) := by decide +kernel
theorem d_Model_transform_199 : decode prog_11_method_59_code 199 = .ok (.if_icmp .ge 37, 3) := by decide +kernel
theorem d_Model_transform_202 : decode prog_11_method_59_code 202 = .ok (.aload_n 0, 1) := by decide +kernel
theorem d_Model_transform_203 : decode prog_11_method_59_code 203 = .ok (.getfield 7, 3) := by decide +kernel
theorem d_Model_transform_206 : decode prog_11_method_59_code 206 = .ok (.bipush 14, 2) := by decide +kernel
theorem d_Model_transform_208 : decode prog_11_method_59_code 208 = .ok (.iload_n 1, 1) := by decide +kernel
theorem d_Model_transform_209 : decode prog_11_method_59_code 209 = .ok (.iload 5, 2) := by decide +kernel
theorem d_Model_transform_211 : decode prog_11_method_59_code 211 = .ok (.iadd, 1) := by decide +kernel
theorem d_Model_transform_212 : decode prog_11_method_59_code 212 = .ok (.imul, 1) := by decide +kernel
theorem d_Model_transform_213 : decode prog_11_method_59_code 213 = .ok (.iload 6, 2) := by decide +kernel
theorem d_Model_transform_215 : decode prog_11_method_59_code 215 = .ok (.iadd, 1) := by decide +kernel
theorem d_Model_transform_216 : decode prog_11_method_59_code 216 = .ok (.aload_n 0, 1) := by decide +kernel
theorem d_Model_transform_217 : decode prog_11_method_59_code 217 = .ok (.getfield 134, 3) := by decide +kernel
theorem d_Model_transform_220 : decode prog_11_method_59_code 220 = .ok (.bipush 14, 2) := by decide +kernel
theorem d_Model_transform_222 : decode prog_11_method_59_code 222 = .ok (.iload 5, 2) := by decide +kernel
theorem d_Model_transform_224 : decode prog_11_method_59_code 224 = .ok (.imul, 1) := by decide +kernel
theorem d_Model_transform_225 : decode prog_11_method_59_code 225 = .ok (.iload 6, 2) := by decide +kernel
theorem d_Model_transform_227 : decode prog_11_method_59_code 227 = .ok (.iadd, 1) := by decide +kernel
theorem d_Model_transform_228 : decode prog_11_method_59_code 228 = .ok (.laload, 1) := by decide +kernel
theorem d_Model_transform_229 : decode prog_11_method_59_code 229 = .ok (.lastore, 1) := by decide +kernel
theorem d_Model_transform_230 : decode prog_11_method_59_code 230 = .ok (.iinc 6 1, 3) := by decide +kernel
theorem d_Model_transform_233 : decode prog_11_method_59_code 233 = .ok (.goto (-38), 3) := by decide +kernel
theorem d_Model_transform_236 : decode prog_11_method_59_code 236 = .ok (.iload_n 3, 1) := by decide +kernel
theorem d_Model_transform_237 : decode prog_11_method_59_code 237 = .ok (.ifCond .eq 18, 3) := by decide +kernel
theorem d_Model_transform_240 : decode prog_11_method_59_code 240 = .ok (.aload_n 0, 1) := by decide +kernel
theorem d_Model_transform_241 : decode prog_11_method_59_code 241 = .ok (.iload_n 1, 1) := by decide +kernel
theorem d_Model_transform_242 : decode prog_11_method_59_code 242 = .ok (.iload 5, 2) := by decide +kernel
theorem d_Model_transform_244 : decode prog_11_method_59_code 244 = .ok (.iadd, 1) := by decide +kernel
theorem d_Model_transform_245 : decode prog_11_method_59_code 245 = .ok (.iload_n 1, 1) := by decide +kernel
theorem d_Model_transform_246 : decode prog_11_method_59_code 246 = .ok (.iload 5, 2) := by decide +kernel
theorem d_Model_transform_248 : decode prog_11_method_59_code 248 = .ok (.iadd, 1) := by decide +kernel
theorem d_Model_transform_249 : decode prog_11_method_59_code 249 = .ok (.sipush 168, 3) := by decide +kernel
theorem d_Model_transform_252 : decode prog_11_method_59_code 252 = .ok (.invokevirtual 184, 3) := by decide +kernel
theorem d_Model_transform_255 : decode prog_11_method_59_code 255 = .ok (.iinc 5 1, 3) := by decide +kernel
theorem d_Model_transform_258 : decode prog_11_method_59_code 258 = .ok (.goto (-73), 3) := by decide +kernel
theorem d_Model_transform_261 : decode prog_11_method_59_code 261 = .ok (.return_, 1) := by decide +kernel