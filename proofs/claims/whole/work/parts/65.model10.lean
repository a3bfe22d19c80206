theorem okC_n {n : Int32} (h : okC n (nI 0) (nI 16)) : n ≤ 0 ∨ ∃ j, n = nI j ∧ 1 ≤ j ∧ j ≤ 32 := by
  obtain ⟨k, e, h1, h2⟩ := okC_nat (by decide) (by decide) h
  by_cases c : k = 0
  · subst c; rw [e]; exact Or.inl (by decide)
  · exact Or.inr ⟨k, e, by omega, by omega⟩
theorem FZ.s {fd : Nat → Int64} (h : FZ fd) {k n : Nat} (hk : k < 32) (hn : n ≤ 14) : SV fd k n = 0 := (h.1 k hk).sv hn
theorem FZ.z {fd : Nat → Int64} (h : FZ fd) {k n : Nat} (hk : k < 12) (hn : n ≤ 14) : SV fd (32 + 3 * k + 2) n = 0 := (h.2 k hk).2.2.sv hn
theorem FZ.x {fd : Nat → Int64} (h : FZ fd) {k n : Nat} (hk : k < 12) (hn : n ≤ 14) : SV fd (32 + 3 * k) n = 0 := (h.2 k hk).1.sv hn
abbrev y_Model_same : MethodName := ⟨"KateDeskModel", "same", "(II)Z"⟩
theorem hd_Model_same : y_Model_same.cls ≠ "java/lang/invoke/MethodHandle" ∧ y_Model_same.cls ≠ "java/lang/invoke/VarHandle" ∧ (parseMethodDescriptor y_Model_same.desc).map (fun d => d.parameters.length) = some 2 := by decide +kernel
theorem d_Model_same_0 : decode prog_11_method_53_code 0 = .ok (.aload_n 0, 1) := by decide +kernel
theorem d_Model_same_1 : decode prog_11_method_53_code 1 = .ok (.iload_n 1, 1) := by decide +kernel
theorem d_Model_same_2 : decode prog_11_method_53_code 2 = .ok (.invokestatic 262, 3) := by decide +kernel
theorem d_Model_same_5 : decode prog_11_method_53_code 5 = .ok (.ifCond .ne 10, 3) := by decide +kernel
theorem d_Model_same_8 : decode prog_11_method_53_code 8 = .ok (.iload_n 2, 1) := by decide +kernel
theorem d_Model_same_9 : decode prog_11_method_53_code 9 = .ok (.invokestatic 262, 3) := by decide +kernel
theorem d_Model_same_12 : decode prog_11_method_53_code 12 = .ok (.ifCond .eq 7, 3) := by decide +kernel
theorem d_Model_same_15 : decode prog_11_method_53_code 15 = .ok (.iconst 1, 1) := by decide +kernel
theorem d_Model_same_16 : decode prog_11_method_53_code 16 = .ok (.goto 4, 3) := by decide +kernel
theorem d_Model_same_19 : decode prog_11_method_53_code 19 = .ok (.iconst 0, 1) := by decide +kernel
theorem d_Model_same_20 : decode prog_11_method_53_code 20 = .ok (.iconst 1, 1) := by decide +kernel
theorem d_Model_same_21 : decode prog_11_method_53_code 21 = .ok (.invokevirtual 223, 3) := by decide +kernel
theorem d_Model_same_24 : decode prog_11_method_53_code 24 = .ok (.ifCond .eq 5, 3) := by decide +kernel
theorem d_Model_same_27 : decode prog_11_method_53_code 27 = .ok (.iconst 0, 1) := by decide +kernel
theorem d_Model_same_28 : decode prog_11_method_53_code 28 = .ok (.ireturn, 1) := by decide +kernel
theorem d_Model_same_29 : decode prog_11_method_53_code 29 = .ok (.aload_n 0, 1) := by decide +kernel
theorem d_Model_same_30 : decode prog_11_method_53_code 30 = .ok (.iconst 0, 1) := by decide +kernel
theorem d_Model_same_31 : decode prog_11_method_53_code 31 = .ok (.invokevirtual 137, 3) := by decide +kernel
theorem d_Model_same_34 : decode prog_11_method_53_code 34 = .ok (.aload_n 0, 1) := by decide +kernel
theorem d_Model_same_35 : decode prog_11_method_53_code 35 = .ok (.iload_n 1, 1) := by decide +kernel
theorem d_Model_same_36 : decode prog_11_method_53_code 36 = .ok (.invokestatic 265, 3) := by decide +kernel
theorem d_Model_same_39 : decode prog_11_method_53_code 39 = .ok (.iload_n 2, 1) := by decide +kernel
theorem d_Model_same_40 : decode prog_11_method_53_code 40 = .ok (.invokestatic 265, 3) := by decide +kernel
theorem d_Model_same_43 : decode prog_11_method_53_code 43 = .ok (.invokevirtual 289, 3) := by decide +kernel
theorem d_Model_same_46 : decode prog_11_method_53_code 46 = .ok (.ireturn, 1) := by decide +kernel
abbrev y_Model_checks : MethodName := ⟨"KateDeskModel", "checks", "(IIIII)Z"⟩
theorem hd_Model_checks : y_Model_checks.cls ≠ "java/lang/invoke/MethodHandle" ∧ y_Model_checks.cls ≠ "java/lang/invoke/VarHandle" ∧ (parseMethodDescriptor y_Model_checks.desc).map (fun d => d.parameters.length) = some 5 := by decide +kernel
theorem d_Model_checks_0 : decode prog_11_method_58_code 0 = .ok (.aload_n 0, 1) := by decide +kernel
theorem d_Model_checks_1 : decode prog_11_method_58_code 1 = .ok (.iload_n 1, 1) := by decide +kernel
theorem d_Model_checks_2 : decode prog_11_method_58_code 2 = .ok (.invokestatic 262, 3) := by decide +kernel
theorem d_Model_checks_5 : decode prog_11_method_58_code 5 = .ok (.ifCond .ne 33, 3) := by decide +kernel
theorem d_Model_checks_8 : decode prog_11_method_58_code 8 = .ok (.iload_n 2, 1) := by decide +kernel
theorem d_Model_checks_9 : decode prog_11_method_58_code 9 = .ok (.invokestatic 262, 3) := by decide +kernel
theorem d_Model_checks_12 : decode prog_11_method_58_code 12 = .ok (.ifCond .ne 26, 3) := by decide +kernel
theorem d_Model_checks_15 : decode prog_11_method_58_code 15 = .ok (.iload_n 3, 1) := by decide +kernel
theorem d_Model_checks_16 : decode prog_11_method_58_code 16 = .ok (.invokestatic 219, 3) := by decide +kernel
theorem d_Model_checks_19 : decode prog_11_method_58_code 19 = .ok (.ifCond .ne 19, 3) := by decide +kernel
theorem d_Model_checks_22 : decode prog_11_method_58_code 22 = .ok (.iload 4, 2) := by decide +kernel
theorem d_Model_checks_24 : decode prog_11_method_58_code 24 = .ok (.invokestatic 219, 3) := by decide +kernel
theorem d_Model_checks_27 : decode prog_11_method_58_code 27 = .ok (.ifCond .ne 11, 3) := by decide +kernel
theorem d_Model_checks_30 : decode prog_11_method_58_code 30 = .ok (.iload 5, 2) := by decide +kernel
theorem d_Model_checks_32 : decode prog_11_method_58_code 32 = .ok (.invokestatic 219, 3) := by decide +kernel
theorem d_Model_checks_35 : decode prog_11_method_58_code 35 = .ok (.ifCond .eq 7, 3) := by decide +kernel
theorem d_Model_checks_38 : decode prog_11_method_58_code 38 = .ok (.iconst 1, 1) := by decide +kernel
theorem d_Model_checks_39 : decode prog_11_method_58_code 39 = .ok (.goto 4, 3) := by decide +kernel
theorem d_Model_checks_42 : decode prog_11_method_58_code 42 = .ok (.iconst 0, 1) := by decide +kernel
theorem d_Model_checks_43 : decode prog_11_method_58_code 43 = .ok (.iconst 1, 1) := by decide +kernel
theorem d_Model_checks_44 : decode prog_11_method_58_code 44 = .ok (.invokevirtual 223, 3) := by decide +kernel
theorem d_Model_checks_47 : decode prog_11_method_58_code 47 = .ok (.ifCond .eq 5, 3) := by decide +kernel
theorem d_Model_checks_50 : decode prog_11_method_58_code 50 = .ok (.iconst 0, 1) := by decide +kernel
theorem d_Model_checks_51 : decode prog_11_method_58_code 51 = .ok (.ireturn, 1) := by decide +kernel
theorem d_Model_checks_52 : decode prog_11_method_58_code 52 = .ok (.aload_n 0, 1) := by decide +kernel
theorem d_Model_checks_53 : decode prog_11_method_58_code 53 = .ok (.iconst 1, 1) := by decide +kernel
theorem d_Model_checks_54 : decode prog_11_method_58_code 54 = .ok (.invokevirtual 137, 3) := by decide +kernel
theorem d_Model_checks_57 : decode prog_11_method_58_code 57 = .ok (.aload_n 0, 1) := by decide +kernel
theorem d_Model_checks_58 : decode prog_11_method_58_code 58 = .ok (.sipush 166, 3) := by decide +kernel
theorem d_Model_checks_61 : decode prog_11_method_58_code 61 = .ok (.iload 5, 2) := by decide +kernel
theorem d_Model_checks_63 : decode prog_11_method_58_code 63 = .ok (.iload_n 3, 1) := by decide +kernel
theorem d_Model_checks_64 : decode prog_11_method_58_code 64 = .ok (.invokevirtual 203, 3) := by decide +kernel
theorem d_Model_checks_67 : decode prog_11_method_58_code 67 = .ok (.aload_n 0, 1) := by decide +kernel
theorem d_Model_checks_68 : decode prog_11_method_58_code 68 = .ok (.iconst 0, 1) := by decide +kernel
theorem d_Model_checks_69 : decode prog_11_method_58_code 69 = .ok (.invokevirtual 137, 3) := by decide +kernel
theorem d_Model_checks_72 : decode prog_11_method_58_code 72 = .ok (.aload_n 0, 1) := by decide +kernel
theorem d_Model_checks_73 : decode prog_11_method_58_code 73 = .ok (.sipush 161, 3) := by decide +kernel
theorem d_Model_checks_76 : decode prog_11_method_58_code 76 = .ok (.sipush 166, 3) := by decide +kernel
theorem d_Model_checks_79 : decode prog_11_method_58_code 79 = .ok (.iload_n 2, 1) := by decide +kernel
theorem d_Model_checks_80 : decode prog_11_method_58_code 80 = .ok (.invokestatic 265, 3) := by decide +kernel
theorem d_Model_checks_83 : decode prog_11_method_58_code 83 = .ok (.invokevirtual 274, 3) := by decide +kernel
theorem d_Model_checks_86 : decode prog_11_method_58_code 86 = .ok (.aload_n 0, 1) := by decide +kernel
theorem d_Model_checks_87 : decode prog_11_method_58_code 87 = .ok (.sipush 157, 3) := by decide +kernel
theorem d_Model_checks_90 : decode prog_11_method_58_code 90 = .ok (.iload 4, 2) := by decide +kernel
theorem d_Model_checks_92 : decode prog_11_method_58_code 92 = .ok (.bipush 116, 2) := by decide +kernel
theorem d_Model_checks_94 : decode prog_11_method_58_code 94 = .ok (.invokevirtual 274, 3) := by decide +kernel
theorem d_Model_checks_97 : decode prog_11_method_58_code 97 = .ok (.aload_n 0, 1) := by decide +kernel
theorem d_Model_checks_98 : decode prog_11_method_58_code 98 = .ok (.sipush 160, 3) := by decide +kernel
theorem d_Model_checks_101 : decode prog_11_method_58_code 101 = .ok (.invokevirtual 200, 3) := by decide +kernel
theorem d_Model_checks_104 : decode prog_11_method_58_code 104 = .ok (.aload_n 0, 1) := by decide +kernel
theorem d_Model_checks_105 : decode prog_11_method_58_code 105 = .ok (.sipush 158, 3) := by decide +kernel
theorem d_Model_checks_108 : decode prog_11_method_58_code 108 = .ok (.sipush 160, 3) := by decide +kernel
theorem d_Model_checks_111 : decode prog_11_method_58_code 111 = .ok (.sipush 158, 3) := by decide +kernel
theorem d_Model_checks_114 : decode prog_11_method_58_code 114 = .ok (.invokevirtual 203, 3) := by decide +kernel
theorem d_Model_checks_117 : decode prog_11_method_58_code 117 = .ok (.aload_n 0, 1) := by decide +kernel
theorem d_Model_checks_118 : decode prog_11_method_58_code 118 = .ok (.sipush 164, 3) := by decide +kernel
theorem d_Model_checks_121 : decode prog_11_method_58_code 121 = .ok (.iload_n 1, 1) := by decide +kernel
theorem d_Model_checks_122 : decode prog_11_method_58_code 122 = .ok (.invokestatic 265, 3) := by decide +kernel
theorem d_Model_checks_125 : decode prog_11_method_58_code 125 = .ok (.sipush 157, 3) := by decide +kernel
theorem d_Model_checks_128 : decode prog_11_method_58_code 128 = .ok (.invokevirtual 212, 3) := by decide +kernel
theorem d_Model_checks_131 : decode prog_11_method_58_code 131 = .ok (.aload_n 0, 1) := by decide +kernel
theorem d_Model_checks_132 : decode prog_11_method_58_code 132 = .ok (.sipush 164, 3) := by decide +kernel
theorem d_Model_checks_135 : decode prog_11_method_58_code 135 = .ok (.sipush 161, 3) := by decide +kernel
theorem d_Model_checks_138 : decode prog_11_method_58_code 138 = .ok (.invokevirtual 289, 3) := by decide +kernel
theorem d_Model_checks_141 : decode prog_11_method_58_code 141 = .ok (.ireturn, 1) := by decide +kernel