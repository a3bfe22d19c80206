abbrev y_Model_bytes : MethodName := ⟨"KateDeskModel", "bytes", "(IZ)V"⟩
theorem hd_Model_bytes : y_Model_bytes.cls ≠ "java/lang/invoke/MethodHandle" ∧ y_Model_bytes.cls ≠ "java/lang/invoke/VarHandle" ∧ (parseMethodDescriptor y_Model_bytes.desc).map (fun d => d.parameters.length) = some 2 := by decide +kernel
theorem d_Model_bytes_0 : decode prog_11_method_47_code 0 = .ok (.aload_n 0, 1) := by decide +kernel
theorem d_Model_bytes_1 : decode prog_11_method_47_code 1 = .ok (.iload_n 1, 1) := by decide +kernel
theorem d_Model_bytes_2 : decode prog_11_method_47_code 2 = .ok (.invokestatic 262, 3) := by decide +kernel
theorem d_Model_bytes_5 : decode prog_11_method_47_code 5 = .ok (.iconst 1, 1) := by decide +kernel
theorem d_Model_bytes_6 : decode prog_11_method_47_code 6 = .ok (.invokevirtual 223, 3) := by decide +kernel
theorem d_Model_bytes_9 : decode prog_11_method_47_code 9 = .ok (.ifCond .eq 4, 3) := by decide +kernel
theorem d_Model_bytes_12 : decode prog_11_method_47_code 12 = .ok (.return_, 1) := by decide +kernel
theorem d_Model_bytes_13 : decode prog_11_method_47_code 13 = .ok (.aload_n 0, 1) := by decide +kernel
theorem d_Model_bytes_14 : decode prog_11_method_47_code 14 = .ok (.iconst 0, 1) := by decide +kernel
theorem d_Model_bytes_15 : decode prog_11_method_47_code 15 = .ok (.invokevirtual 137, 3) := by decide +kernel
theorem d_Model_bytes_18 : decode prog_11_method_47_code 18 = .ok (.iload_n 1, 1) := by decide +kernel
theorem d_Model_bytes_19 : decode prog_11_method_47_code 19 = .ok (.invokestatic 265, 3) := by decide +kernel
theorem d_Model_bytes_22 : decode prog_11_method_47_code 22 = .ok (.istore_n 3, 1) := by decide +kernel
theorem d_Model_bytes_23 : decode prog_11_method_47_code 23 = .ok (.aload_n 0, 1) := by decide +kernel
theorem d_Model_bytes_24 : decode prog_11_method_47_code 24 = .ok (.iload_n 3, 1) := by decide +kernel
theorem d_Model_bytes_25 : decode prog_11_method_47_code 25 = .ok (.iconst 2, 1) := by decide +kernel
theorem d_Model_bytes_26 : decode prog_11_method_47_code 26 = .ok (.iadd, 1) := by decide +kernel
theorem d_Model_bytes_27 : decode prog_11_method_47_code 27 = .ok (.invokevirtual 246, 3) := by decide +kernel
theorem d_Model_bytes_30 : decode prog_11_method_47_code 30 = .ok (.istore 4, 2) := by decide +kernel
theorem d_Model_bytes_32 : decode prog_11_method_47_code 32 = .ok (.aload_n 0, 1) := by decide +kernel
theorem d_Model_bytes_33 : decode prog_11_method_47_code 33 = .ok (.sipush 148, 3) := by decide +kernel
theorem d_Model_bytes_36 : decode prog_11_method_47_code 36 = .ok (.iload_n 3, 1) := by decide +kernel
theorem d_Model_bytes_37 : decode prog_11_method_47_code 37 = .ok (.iconst 2, 1) := by decide +kernel
theorem d_Model_bytes_38 : decode prog_11_method_47_code 38 = .ok (.iadd, 1) := by decide +kernel
theorem d_Model_bytes_39 : decode prog_11_method_47_code 39 = .ok (.invokevirtual 249, 3) := by decide +kernel
theorem d_Model_bytes_42 : decode prog_11_method_47_code 42 = .ok (.aload_n 0, 1) := by decide +kernel
theorem d_Model_bytes_43 : decode prog_11_method_47_code 43 = .ok (.sipush 149, 3) := by decide +kernel
theorem d_Model_bytes_46 : decode prog_11_method_47_code 46 = .ok (.iload_n 3, 1) := by decide +kernel
theorem d_Model_bytes_47 : decode prog_11_method_47_code 47 = .ok (.iconst 1, 1) := by decide +kernel
theorem d_Model_bytes_48 : decode prog_11_method_47_code 48 = .ok (.iadd, 1) := by decide +kernel
theorem d_Model_bytes_49 : decode prog_11_method_47_code 49 = .ok (.sipush 148, 3) := by decide +kernel
theorem d_Model_bytes_52 : decode prog_11_method_47_code 52 = .ok (.invokevirtual 184, 3) := by decide +kernel
theorem d_Model_bytes_55 : decode prog_11_method_47_code 55 = .ok (.aload_n 0, 1) := by decide +kernel
theorem d_Model_bytes_56 : decode prog_11_method_47_code 56 = .ok (.sipush 148, 3) := by decide +kernel
theorem d_Model_bytes_59 : decode prog_11_method_47_code 59 = .ok (.iload_n 3, 1) := by decide +kernel
theorem d_Model_bytes_60 : decode prog_11_method_47_code 60 = .ok (.sipush 148, 3) := by decide +kernel
theorem d_Model_bytes_63 : decode prog_11_method_47_code 63 = .ok (.invokevirtual 184, 3) := by decide +kernel
theorem d_Model_bytes_66 : decode prog_11_method_47_code 66 = .ok (.aload_n 0, 1) := by decide +kernel
theorem d_Model_bytes_67 : decode prog_11_method_47_code 67 = .ok (.iload_n 2, 1) := by decide +kernel
theorem d_Model_bytes_68 : decode prog_11_method_47_code 68 = .ok (.ifCond .eq 8, 3) := by decide +kernel
theorem d_Model_bytes_71 : decode prog_11_method_47_code 71 = .ok (.bipush 48, 2) := by decide +kernel
theorem d_Model_bytes_73 : decode prog_11_method_47_code 73 = .ok (.goto 5, 3) := by decide +kernel
theorem d_Model_bytes_76 : decode prog_11_method_47_code 76 = .ok (.bipush 96, 2) := by decide +kernel
theorem d_Model_bytes_78 : decode prog_11_method_47_code 78 = .ok (.putfield 277, 3) := by decide +kernel
theorem d_Model_bytes_81 : decode prog_11_method_47_code 81 = .ok (.iconst 0, 1) := by decide +kernel
theorem d_Model_bytes_82 : decode prog_11_method_47_code 82 = .ok (.istore 5, 2) := by decide +kernel
theorem d_Model_bytes_84 : decode prog_11_method_47_code 84 = .ok (.iload 5, 2) := by decide +kernel
theorem d_Model_bytes_86 : decode prog_11_method_47_code 86 = .ok (.aload_n 0, 1) := by decide +kernel
theorem d_Model_bytes_87 : decode prog_11_method_47_code 87 = .ok (.getfield 277, 3) := by decide +kernel
theorem d_Model_bytes_90 : decode prog_11_method_47_code 90 = .ok (.if_icmp .ge 53, 3) := by decide +kernel
theorem d_Model_bytes_93 : decode prog_11_method_47_code 93 = .ok (.aload_n 0, 1) := by decide +kernel
theorem d_Model_bytes_94 : decode prog_11_method_47_code 94 = .ok (.getfield 131, 3) := by decide +kernel
theorem d_Model_bytes_97 : decode prog_11_method_47_code 97 = .ok (.iload 5, 2) := by decide +kernel
theorem d_Model_bytes_99 : decode prog_11_method_47_code 99 = .ok (.iload 4, 2) := by decide +kernel
theorem d_Model_bytes_101 : decode prog_11_method_47_code 101 = .ok (.ifCond .eq 7, 3) := by decide +kernel
theorem d_Model_bytes_104 : decode prog_11_method_47_code 104 = .ok (.iconst 0, 1) := by decide +kernel
theorem d_Model_bytes_105 : decode prog_11_method_47_code 105 = .ok (.goto 31, 3) := by decide +kernel
theorem d_Model_bytes_108 : decode prog_11_method_47_code 108 = .ok (.aload_n 0, 1) := by decide +kernel
theorem d_Model_bytes_109 : decode prog_11_method_47_code 109 = .ok (.iload 5, 2) := by decide +kernel
theorem d_Model_bytes_111 : decode prog_11_method_47_code 111 = .ok (.bipush 48, 2) := by decide +kernel
theorem d_Model_bytes_113 : decode prog_11_method_47_code 113 = .ok (.if_icmp .ge 9, 3) := by decide +kernel
theorem d_Model_bytes_116 : decode prog_11_method_47_code 116 = .ok (.sipush 148, 3) := by decide +kernel
theorem d_Model_bytes_119 : decode prog_11_method_47_code 119 = .ok (.goto 6, 3) := by decide +kernel
theorem d_Model_bytes_122 : decode prog_11_method_47_code 122 = .ok (.sipush 149, 3) := by decide +kernel
theorem d_Model_bytes_125 : decode prog_11_method_47_code 125 = .ok (.bipush 47, 2) := by decide +kernel
theorem d_Model_bytes_127 : decode prog_11_method_47_code 127 = .ok (.iload 5, 2) := by decide +kernel
theorem d_Model_bytes_129 : decode prog_11_method_47_code 129 = .ok (.bipush 48, 2) := by decide +kernel
theorem d_Model_bytes_131 : decode prog_11_method_47_code 131 = .ok (.irem, 1) := by decide +kernel
theorem d_Model_bytes_132 : decode prog_11_method_47_code 132 = .ok (.isub, 1) := by decide +kernel
theorem d_Model_bytes_133 : decode prog_11_method_47_code 133 = .ok (.invokevirtual 280, 3) := by decide +kernel
theorem d_Model_bytes_136 : decode prog_11_method_47_code 136 = .ok (.iastore, 1) := by decide +kernel
theorem d_Model_bytes_137 : decode prog_11_method_47_code 137 = .ok (.iinc 5 1, 3) := by decide +kernel
theorem d_Model_bytes_140 : decode prog_11_method_47_code 140 = .ok (.goto (-56), 3) := by decide +kernel
theorem d_Model_bytes_143 : decode prog_11_method_47_code 143 = .ok (.iload 4, 2) := by decide +kernel
theorem d_Model_bytes_145 : decode prog_11_method_47_code 145 = .ok (.ifCond .eq 7, 3) := by decide +kernel
theorem d_Model_bytes_148 : decode prog_11_method_47_code 148 = .ok (.iconst 2, 1) := by decide +kernel
theorem d_Model_bytes_149 : decode prog_11_method_47_code 149 = .ok (.goto 4, 3) := by decide +kernel
theorem d_Model_bytes_152 : decode prog_11_method_47_code 152 = .ok (.iconst 0, 1) := by decide +kernel
theorem d_Model_bytes_153 : decode prog_11_method_47_code 153 = .ok (.istore 5, 2) := by decide +kernel
theorem d_Model_bytes_155 : decode prog_11_method_47_code 155 = .ok (.iload_n 2, 1) := by decide +kernel
theorem d_Model_bytes_156 : decode prog_11_method_47_code 156 = .ok (.ifCond .eq 32, 3) := by decide +kernel
theorem d_Model_bytes_159 : decode prog_11_method_47_code 159 = .ok (.iload 5, 2) := by decide +kernel
theorem d_Model_bytes_161 : decode prog_11_method_47_code 161 = .ok (.iload 4, 2) := by decide +kernel
theorem d_Model_bytes_163 : decode prog_11_method_47_code 163 = .ok (.ifCond .eq 7, 3) := by decide +kernel
theorem d_Model_bytes_166 : decode prog_11_method_47_code 166 = .ok (.iconst 4, 1) := by decide +kernel
theorem d_Model_bytes_167 : decode prog_11_method_47_code 167 = .ok (.goto 18, 3) := by decide +kernel
theorem d_Model_bytes_170 : decode prog_11_method_47_code 170 = .ok (.aload_n 0, 1) := by decide +kernel
theorem d_Model_bytes_171 : decode prog_11_method_47_code 171 = .ok (.sipush 149, 3) := by decide +kernel
theorem d_Model_bytes_174 : decode prog_11_method_47_code 174 = .ok (.invokevirtual 271, 3) := by decide +kernel
theorem d_Model_bytes_177 : decode prog_11_method_47_code 177 = .ok (.ifCond .eq 7, 3) := by decide +kernel
theorem d_Model_bytes_180 : decode prog_11_method_47_code 180 = .ok (.iconst 5, 1) := by decide +kernel
theorem d_Model_bytes_181 : decode prog_11_method_47_code 181 = .ok (.goto 4, 3) := by decide +kernel
theorem d_Model_bytes_184 : decode prog_11_method_47_code 184 = .ok (.iconst 4, 1) := by decide +kernel
theorem d_Model_bytes_185 : decode prog_11_method_47_code 185 = .ok (.iadd, 1) := by decide +kernel
theorem d_Model_bytes_186 : decode prog_11_method_47_code 186 = .ok (.istore 5, 2) := by decide +kernel
theorem d_Model_bytes_188 : decode prog_11_method_47_code 188 = .ok (.aload_n 0, 1) := by decide +kernel
theorem d_Model_bytes_189 : decode prog_11_method_47_code 189 = .ok (.getfield 131, 3) := by decide +kernel
theorem d_Model_bytes_192 : decode prog_11_method_47_code 192 = .ok (.iconst 0, 1) := by decide +kernel
theorem d_Model_bytes_193 : decode prog_11_method_47_code 193 = .ok (.dup2, 1) := by decide +kernel
theorem d_Model_bytes_194 : decode prog_11_method_47_code 194 = .ok (.iaload, 1) := by decide +kernel
theorem d_Model_bytes_195 : decode prog_11_method_47_code 195 = .ok (.bipush 32, 2) := by decide +kernel
theorem d_Model_bytes_197 : decode prog_11_method_47_code 197 = .ok (.iload 5, 2) := by decide +kernel
theorem d_Model_bytes_199 : decode prog_11_method_47_code 199 = .ok (.imul, 1) := by decide +kernel
theorem d_Model_bytes_200 : decode prog_11_method_47_code 200 = .ok (.iadd, 1) := by decide +kernel
theorem d_Model_bytes_201 : decode prog_11_method_47_code 201 = .ok (.iastore, 1) := by decide +kernel
theorem d_Model_bytes_202 : decode prog_11_method_47_code 202 = .ok (.return_, 1) := by decide +kernel