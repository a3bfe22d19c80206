theorem FZ.le {fd : Nat → Int64} {k : Nat} (h : FZ fd) (hk : k < 32) : Z0 fd k := h.1 k hk
abbrev y_Model_join : MethodName := ⟨"KateDeskModel", "join", "(IIII)V"⟩
theorem hd_Model_join : y_Model_join.cls ≠ "java/lang/invoke/MethodHandle" ∧ y_Model_join.cls ≠ "java/lang/invoke/VarHandle" ∧ (parseMethodDescriptor y_Model_join.desc).map (fun d => d.parameters.length) = some 4 := by decide +kernel
theorem d_Model_join_0 : decode prog_11_method_49_code 0 = .ok (.aload_n 0, 1) := by decide +kernel
theorem d_Model_join_1 : decode prog_11_method_49_code 1 = .ok (.iload_n 1, 1) := by decide +kernel
theorem d_Model_join_2 : decode prog_11_method_49_code 2 = .ok (.i2l, 1) := by decide +kernel
theorem d_Model_join_3 : decode prog_11_method_49_code 3 = .ok (.lconst 0, 1) := by decide +kernel
theorem d_Model_join_4 : decode prog_11_method_49_code 4 = .ok (.ldc2_w 240, 3) := by decide +kernel
theorem d_Model_join_7 : decode prog_11_method_49_code 7 = .ok (.invokestatic 242, 3) := by decide +kernel
theorem d_Model_join_10 : decode prog_11_method_49_code 10 = .ok (.ifCond .eq 25, 3) := by decide +kernel
theorem d_Model_join_13 : decode prog_11_method_49_code 13 = .ok (.iload_n 2, 1) := by decide +kernel
theorem d_Model_join_14 : decode prog_11_method_49_code 14 = .ok (.invokestatic 262, 3) := by decide +kernel
theorem d_Model_join_17 : decode prog_11_method_49_code 17 = .ok (.ifCond .ne 18, 3) := by decide +kernel
theorem d_Model_join_20 : decode prog_11_method_49_code 20 = .ok (.iload_n 3, 1) := by decide +kernel
theorem d_Model_join_21 : decode prog_11_method_49_code 21 = .ok (.invokestatic 262, 3) := by decide +kernel
theorem d_Model_join_24 : decode prog_11_method_49_code 24 = .ok (.ifCond .ne 11, 3) := by decide +kernel
theorem d_Model_join_27 : decode prog_11_method_49_code 27 = .ok (.iload 4, 2) := by decide +kernel
theorem d_Model_join_29 : decode prog_11_method_49_code 29 = .ok (.invokestatic 262, 3) := by decide +kernel
theorem d_Model_join_32 : decode prog_11_method_49_code 32 = .ok (.ifCond .eq 7, 3) := by decide +kernel
theorem d_Model_join_35 : decode prog_11_method_49_code 35 = .ok (.iconst 1, 1) := by decide +kernel
theorem d_Model_join_36 : decode prog_11_method_49_code 36 = .ok (.goto 4, 3) := by decide +kernel
theorem d_Model_join_39 : decode prog_11_method_49_code 39 = .ok (.iconst 0, 1) := by decide +kernel
theorem d_Model_join_40 : decode prog_11_method_49_code 40 = .ok (.iconst 1, 1) := by decide +kernel
theorem d_Model_join_41 : decode prog_11_method_49_code 41 = .ok (.invokevirtual 223, 3) := by decide +kernel
theorem d_Model_join_44 : decode prog_11_method_49_code 44 = .ok (.ifCond .eq 4, 3) := by decide +kernel
theorem d_Model_join_47 : decode prog_11_method_49_code 47 = .ok (.return_, 1) := by decide +kernel
theorem d_Model_join_48 : decode prog_11_method_49_code 48 = .ok (.aload_n 0, 1) := by decide +kernel
theorem d_Model_join_49 : decode prog_11_method_49_code 49 = .ok (.iconst 0, 1) := by decide +kernel
theorem d_Model_join_50 : decode prog_11_method_49_code 50 = .ok (.invokevirtual 137, 3) := by decide +kernel
theorem d_Model_join_53 : decode prog_11_method_49_code 53 = .ok (.iload_n 1, 1) := by decide +kernel
theorem d_Model_join_54 : decode prog_11_method_49_code 54 = .ok (.ifCond .ne 11, 3) := by decide +kernel
theorem d_Model_join_57 : decode prog_11_method_49_code 57 = .ok (.aload_n 0, 1) := by decide +kernel
theorem d_Model_join_58 : decode prog_11_method_49_code 58 = .ok (.iload_n 2, 1) := by decide +kernel
theorem d_Model_join_59 : decode prog_11_method_49_code 59 = .ok (.invokestatic 265, 3) := by decide +kernel
theorem d_Model_join_62 : decode prog_11_method_49_code 62 = .ok (.invokevirtual 152, 3) := by decide +kernel
theorem d_Model_join_65 : decode prog_11_method_49_code 65 = .ok (.iload_n 1, 1) := by decide +kernel
theorem d_Model_join_66 : decode prog_11_method_49_code 66 = .ok (.iconst 1, 1) := by decide +kernel
theorem d_Model_join_67 : decode prog_11_method_49_code 67 = .ok (.if_icmp .ne 13, 3) := by decide +kernel
theorem d_Model_join_70 : decode prog_11_method_49_code 70 = .ok (.aload_n 0, 1) := by decide +kernel
theorem d_Model_join_71 : decode prog_11_method_49_code 71 = .ok (.iload_n 2, 1) := by decide +kernel
theorem d_Model_join_72 : decode prog_11_method_49_code 72 = .ok (.invokestatic 265, 3) := by decide +kernel
theorem d_Model_join_75 : decode prog_11_method_49_code 75 = .ok (.bipush 116, 2) := by decide +kernel
theorem d_Model_join_77 : decode prog_11_method_49_code 77 = .ok (.invokevirtual 209, 3) := by decide +kernel
theorem d_Model_join_80 : decode prog_11_method_49_code 80 = .ok (.iload_n 1, 1) := by decide +kernel
theorem d_Model_join_81 : decode prog_11_method_49_code 81 = .ok (.iconst 2, 1) := by decide +kernel
theorem d_Model_join_82 : decode prog_11_method_49_code 82 = .ok (.if_icmp .ge 4, 3) := by decide +kernel
theorem d_Model_join_85 : decode prog_11_method_49_code 85 = .ok (.return_, 1) := by decide +kernel
theorem d_Model_join_86 : decode prog_11_method_49_code 86 = .ok (.aload_n 0, 1) := by decide +kernel
theorem d_Model_join_87 : decode prog_11_method_49_code 87 = .ok (.sipush 157, 3) := by decide +kernel
theorem d_Model_join_90 : decode prog_11_method_49_code 90 = .ok (.iload 4, 2) := by decide +kernel
theorem d_Model_join_92 : decode prog_11_method_49_code 92 = .ok (.invokestatic 265, 3) := by decide +kernel
theorem d_Model_join_95 : decode prog_11_method_49_code 95 = .ok (.invokevirtual 209, 3) := by decide +kernel
theorem d_Model_join_98 : decode prog_11_method_49_code 98 = .ok (.aload_n 0, 1) := by decide +kernel
theorem d_Model_join_99 : decode prog_11_method_49_code 99 = .ok (.sipush 160, 3) := by decide +kernel
theorem d_Model_join_102 : decode prog_11_method_49_code 102 = .ok (.invokevirtual 200, 3) := by decide +kernel
theorem d_Model_join_105 : decode prog_11_method_49_code 105 = .ok (.iload_n 1, 1) := by decide +kernel
theorem d_Model_join_106 : decode prog_11_method_49_code 106 = .ok (.iconst 3, 1) := by decide +kernel
theorem d_Model_join_107 : decode prog_11_method_49_code 107 = .ok (.if_icmp .ne 16, 3) := by decide +kernel
theorem d_Model_join_110 : decode prog_11_method_49_code 110 = .ok (.aload_n 0, 1) := by decide +kernel
theorem d_Model_join_111 : decode prog_11_method_49_code 111 = .ok (.sipush 158, 3) := by decide +kernel
theorem d_Model_join_114 : decode prog_11_method_49_code 114 = .ok (.sipush 160, 3) := by decide +kernel
theorem d_Model_join_117 : decode prog_11_method_49_code 117 = .ok (.sipush 158, 3) := by decide +kernel
theorem d_Model_join_120 : decode prog_11_method_49_code 120 = .ok (.invokevirtual 203, 3) := by decide +kernel
theorem d_Model_join_123 : decode prog_11_method_49_code 123 = .ok (.aload_n 0, 1) := by decide +kernel
theorem d_Model_join_124 : decode prog_11_method_49_code 124 = .ok (.sipush 161, 3) := by decide +kernel
theorem d_Model_join_127 : decode prog_11_method_49_code 127 = .ok (.iload_n 3, 1) := by decide +kernel
theorem d_Model_join_128 : decode prog_11_method_49_code 128 = .ok (.invokestatic 265, 3) := by decide +kernel
theorem d_Model_join_131 : decode prog_11_method_49_code 131 = .ok (.sipush 157, 3) := by decide +kernel
theorem d_Model_join_134 : decode prog_11_method_49_code 134 = .ok (.invokevirtual 212, 3) := by decide +kernel
theorem d_Model_join_137 : decode prog_11_method_49_code 137 = .ok (.aload_n 0, 1) := by decide +kernel
theorem d_Model_join_138 : decode prog_11_method_49_code 138 = .ok (.iload_n 2, 1) := by decide +kernel
theorem d_Model_join_139 : decode prog_11_method_49_code 139 = .ok (.invokestatic 265, 3) := by decide +kernel
theorem d_Model_join_142 : decode prog_11_method_49_code 142 = .ok (.sipush 161, 3) := by decide +kernel
theorem d_Model_join_145 : decode prog_11_method_49_code 145 = .ok (.invokevirtual 209, 3) := by decide +kernel
theorem d_Model_join_148 : decode prog_11_method_49_code 148 = .ok (.return_, 1) := by decide +kernel
abbrev y_Model_reckon : MethodName := ⟨"KateDeskModel", "reckon", "(IIII)V"⟩
theorem hd_Model_reckon : y_Model_reckon.cls ≠ "java/lang/invoke/MethodHandle" ∧ y_Model_reckon.cls ≠ "java/lang/invoke/VarHandle" ∧ (parseMethodDescriptor y_Model_reckon.desc).map (fun d => d.parameters.length) = some 4 := by decide +kernel
theorem d_Model_reckon_0 : decode prog_11_method_41_code 0 = .ok (.aload_n 0, 1) := by decide +kernel
theorem d_Model_reckon_1 : decode prog_11_method_41_code 1 = .ok (.iload_n 1, 1) := by decide +kernel
theorem d_Model_reckon_2 : decode prog_11_method_41_code 2 = .ok (.i2l, 1) := by decide +kernel
theorem d_Model_reckon_3 : decode prog_11_method_41_code 3 = .ok (.lconst 0, 1) := by decide +kernel
theorem d_Model_reckon_4 : decode prog_11_method_41_code 4 = .ok (.ldc2_w 240, 3) := by decide +kernel
theorem d_Model_reckon_7 : decode prog_11_method_41_code 7 = .ok (.invokestatic 242, 3) := by decide +kernel
theorem d_Model_reckon_10 : decode prog_11_method_41_code 10 = .ok (.ifCond .eq 25, 3) := by decide +kernel
theorem d_Model_reckon_13 : decode prog_11_method_41_code 13 = .ok (.iload_n 2, 1) := by decide +kernel
theorem d_Model_reckon_14 : decode prog_11_method_41_code 14 = .ok (.invokestatic 219, 3) := by decide +kernel
theorem d_Model_reckon_17 : decode prog_11_method_41_code 17 = .ok (.ifCond .ne 18, 3) := by decide +kernel
theorem d_Model_reckon_20 : decode prog_11_method_41_code 20 = .ok (.iload_n 3, 1) := by decide +kernel
theorem d_Model_reckon_21 : decode prog_11_method_41_code 21 = .ok (.invokestatic 219, 3) := by decide +kernel
theorem d_Model_reckon_24 : decode prog_11_method_41_code 24 = .ok (.ifCond .ne 11, 3) := by decide +kernel
theorem d_Model_reckon_27 : decode prog_11_method_41_code 27 = .ok (.iload 4, 2) := by decide +kernel
theorem d_Model_reckon_29 : decode prog_11_method_41_code 29 = .ok (.invokestatic 219, 3) := by decide +kernel
theorem d_Model_reckon_32 : decode prog_11_method_41_code 32 = .ok (.ifCond .eq 7, 3) := by decide +kernel
theorem d_Model_reckon_35 : decode prog_11_method_41_code 35 = .ok (.iconst 1, 1) := by decide +kernel
theorem d_Model_reckon_36 : decode prog_11_method_41_code 36 = .ok (.goto 4, 3) := by decide +kernel
theorem d_Model_reckon_39 : decode prog_11_method_41_code 39 = .ok (.iconst 0, 1) := by decide +kernel
theorem d_Model_reckon_40 : decode prog_11_method_41_code 40 = .ok (.iconst 1, 1) := by decide +kernel
theorem d_Model_reckon_41 : decode prog_11_method_41_code 41 = .ok (.invokevirtual 223, 3) := by decide +kernel
theorem d_Model_reckon_44 : decode prog_11_method_41_code 44 = .ok (.ifCond .ne 33, 3) := by decide +kernel
theorem d_Model_reckon_47 : decode prog_11_method_41_code 47 = .ok (.aload_n 0, 1) := by decide +kernel
theorem d_Model_reckon_48 : decode prog_11_method_41_code 48 = .ok (.iload_n 1, 1) := by decide +kernel
theorem d_Model_reckon_49 : decode prog_11_method_41_code 49 = .ok (.iconst 3, 1) := by decide +kernel
theorem d_Model_reckon_50 : decode prog_11_method_41_code 50 = .ok (.if_icmp .ne 19, 3) := by decide +kernel
theorem d_Model_reckon_53 : decode prog_11_method_41_code 53 = .ok (.aload_n 0, 1) := by decide +kernel
theorem d_Model_reckon_54 : decode prog_11_method_41_code 54 = .ok (.iload 4, 2) := by decide +kernel
theorem d_Model_reckon_56 : decode prog_11_method_41_code 56 = .ok (.bipush 31, 2) := by decide +kernel
theorem d_Model_reckon_58 : decode prog_11_method_41_code 58 = .ok (.iand, 1) := by decide +kernel
theorem d_Model_reckon_59 : decode prog_11_method_41_code 59 = .ok (.invokevirtual 246, 3) := by decide +kernel
theorem d_Model_reckon_62 : decode prog_11_method_41_code 62 = .ok (.ifCond .eq 7, 3) := by decide +kernel
theorem d_Model_reckon_65 : decode prog_11_method_41_code 65 = .ok (.iconst 1, 1) := by decide +kernel
theorem d_Model_reckon_66 : decode prog_11_method_41_code 66 = .ok (.goto 4, 3) := by decide +kernel
theorem d_Model_reckon_69 : decode prog_11_method_41_code 69 = .ok (.iconst 0, 1) := by decide +kernel
theorem d_Model_reckon_70 : decode prog_11_method_41_code 70 = .ok (.iconst 2, 1) := by decide +kernel
theorem d_Model_reckon_71 : decode prog_11_method_41_code 71 = .ok (.invokevirtual 223, 3) := by decide +kernel
theorem d_Model_reckon_74 : decode prog_11_method_41_code 74 = .ok (.ifCond .eq 4, 3) := by decide +kernel
theorem d_Model_reckon_77 : decode prog_11_method_41_code 77 = .ok (.return_, 1) := by decide +kernel
theorem d_Model_reckon_78 : decode prog_11_method_41_code 78 = .ok (.aload_n 0, 1) := by decide +kernel
theorem d_Model_reckon_79 : decode prog_11_method_41_code 79 = .ok (.iconst 1, 1) := by decide +kernel
theorem d_Model_reckon_80 : decode prog_11_method_41_code 80 = .ok (.invokevirtual 137, 3) := by decide +kernel
theorem d_Model_reckon_83 : decode prog_11_method_41_code 83 = .ok (.iload_n 1, 1) := by decide +kernel
theorem d_Model_reckon_84 : decode prog_11_method_41_code 84 = .ok (.ifCond .ne 11, 3) := by decide +kernel
theorem d_Model_reckon_87 : decode prog_11_method_41_code 87 = .ok (.aload_n 0, 1) := by decide +kernel
theorem d_Model_reckon_88 : decode prog_11_method_41_code 88 = .ok (.iload_n 2, 1) := by decide +kernel
theorem d_Model_reckon_89 : decode prog_11_method_41_code 89 = .ok (.iload_n 3, 1) := by decide +kernel
theorem d_Model_reckon_90 : decode prog_11_method_41_code 90 = .ok (.iload 4, 2) := by decide +kernel
theorem d_Model_reckon_92 : decode prog_11_method_41_code 92 = .ok (.invokevirtual 148, 3) := by decide +kernel
theorem d_Model_reckon_95 : decode prog_11_method_41_code 95 = .ok (.iload_n 1, 1) := by decide +kernel
theorem d_Model_reckon_96 : decode prog_11_method_41_code 96 = .ok (.iconst 1, 1) := by decide +kernel
theorem d_Model_reckon_97 : decode prog_11_method_41_code 97 = .ok (.if_icmp .ne 11, 3) := by decide +kernel
theorem d_Model_reckon_100 : decode prog_11_method_41_code 100 = .ok (.aload_n 0, 1) := by decide +kernel
theorem d_Model_reckon_101 : decode prog_11_method_41_code 101 = .ok (.iload_n 2, 1) := by decide +kernel
theorem d_Model_reckon_102 : decode prog_11_method_41_code 102 = .ok (.iload_n 3, 1) := by decide +kernel
theorem d_Model_reckon_103 : decode prog_11_method_41_code 103 = .ok (.iload 4, 2) := by decide +kernel
theorem d_Model_reckon_105 : decode prog_11_method_41_code 105 = .ok (.invokevirtual 203, 3) := by decide +kernel
theorem d_Model_reckon_108 : decode prog_11_method_41_code 108 = .ok (.iload_n 1, 1) := by decide +kernel
theorem d_Model_reckon_109 : decode prog_11_method_41_code 109 = .ok (.iconst 2, 1) := by decide +kernel
theorem d_Model_reckon_110 : decode prog_11_method_41_code 110 = .ok (.if_icmp .ne 11, 3) := by decide +kernel
theorem d_Model_reckon_113 : decode prog_11_method_41_code 113 = .ok (.aload_n 0, 1) := by decide +kernel
theorem d_Model_reckon_114 : decode prog_11_method_41_code 114 = .ok (.iload_n 2, 1) := by decide +kernel
theorem d_Model_reckon_115 : decode prog_11_method_41_code 115 = .ok (.iload_n 3, 1) := by decide +kernel
theorem d_Model_reckon_116 : decode prog_11_method_41_code 116 = .ok (.iload 4, 2) := by decide +kernel
theorem d_Model_reckon_118 : decode prog_11_method_41_code 118 = .ok (.invokevirtual 184, 3) := by decide +kernel
theorem d_Model_reckon_121 : decode prog_11_method_41_code 121 = .ok (.iload_n 1, 1) := by decide +kernel
theorem d_Model_reckon_122 : decode prog_11_method_41_code 122 = .ok (.iconst 3, 1) := by decide +kernel
theorem d_Model_reckon_123 : decode prog_11_method_41_code 123 = .ok (.if_icmp .ge 4, 3) := by decide +kernel
theorem d_Model_reckon_126 : decode prog_11_method_41_code 126 = .ok (.return_, 1) := by decide +kernel
theorem d_Model_reckon_127 : decode prog_11_method_41_code 127 = .ok (.aload_n 0, 1) := by decide +kernel
theorem d_Model_reckon_128 : decode prog_11_method_41_code 128 = .ok (.sipush 145, 3) := by decide +kernel
theorem d_Model_reckon_131 : decode prog_11_method_41_code 131 = .ok (.iload_n 3, 1) := by decide +kernel
theorem d_Model_reckon_132 : decode prog_11_method_41_code 132 = .ok (.invokevirtual 180, 3) := by decide +kernel
theorem d_Model_reckon_135 : decode prog_11_method_41_code 135 = .ok (.aload_n 0, 1) := by decide +kernel
theorem d_Model_reckon_136 : decode prog_11_method_41_code 136 = .ok (.sipush 146, 3) := by decide +kernel
theorem d_Model_reckon_139 : decode prog_11_method_41_code 139 = .ok (.iload 4, 2) := by decide +kernel
theorem d_Model_reckon_141 : decode prog_11_method_41_code 141 = .ok (.invokevirtual 249, 3) := by decide +kernel
theorem d_Model_reckon_144 : decode prog_11_method_41_code 144 = .ok (.aload_n 0, 1) := by decide +kernel
theorem d_Model_reckon_145 : decode prog_11_method_41_code 145 = .ok (.iload_n 2, 1) := by decide +kernel
theorem d_Model_reckon_146 : decode prog_11_method_41_code 146 = .ok (.sipush 145, 3) := by decide +kernel
theorem d_Model_reckon_149 : decode prog_11_method_41_code 149 = .ok (.sipush 146, 3) := by decide +kernel
theorem d_Model_reckon_152 : decode prog_11_method_41_code 152 = .ok (.invokevirtual 184, 3) := by decide +kernel
theorem d_Model_reckon_155 : decode prog_11_method_41_code 155 = .ok (.return_, 1) := by decide +kernel
abbrev y_Model_commit : MethodName := ⟨"KateDeskModel", "commit", "(III)V"⟩
theorem hd_Model_commit : y_Model_commit.cls ≠ "java/lang/invoke/MethodHandle" ∧ y_Model_commit.cls ≠ "java/lang/invoke/VarHandle" ∧ (parseMethodDescriptor y_Model_commit.desc).map (fun d => d.parameters.length) = some 3 := by decide +kernel
theorem d_Model_commit_0 : decode prog_11_method_55_code 0 = .ok (.aload_n 0, 1) := by decide +kernel
theorem d_Model_commit_1 : decode prog_11_method_55_code 1 = .ok (.iload_n 1, 1) := by decide +kernel
theorem d_Model_commit_2 : decode prog_11_method_55_code 2 = .ok (.invokestatic 262, 3) := by decide +kernel
theorem d_Model_commit_5 : decode prog_11_method_55_code 5 = .ok (.ifCond .ne 23, 3) := by decide +kernel
theorem d_Model_commit_8 : decode prog_11_method_55_code 8 = .ok (.iload_n 3, 1) := by decide +kernel
theorem d_Model_commit_9 : decode prog_11_method_55_code 9 = .ok (.i2l, 1) := by decide +kernel
theorem d_Model_commit_10 : decode prog_11_method_55_code 10 = .ok (.lconst 0, 1) := by decide +kernel
theorem d_Model_commit_11 : decode prog_11_method_55_code 11 = .ok (.ldc2_w 292, 3) := by decide +kernel
theorem d_Model_commit_14 : decode prog_11_method_55_code 14 = .ok (.invokestatic 242, 3) := by decide +kernel
theorem d_Model_commit_17 : decode prog_11_method_55_code 17 = .ok (.ifCond .eq 11, 3) := by decide +kernel
theorem d_Model_commit_20 : decode prog_11_method_55_code 20 = .ok (.iload_n 2, 1) := by decide +kernel
theorem d_Model_commit_21 : decode prog_11_method_55_code 21 = .ok (.iload_n 3, 1) := by decide +kernel
theorem d_Model_commit_22 : decode prog_11_method_55_code 22 = .ok (.invokestatic 283, 3) := by decide +kernel
theorem d_Model_commit_25 : decode prog_11_method_55_code 25 = .ok (.ifCond .eq 7, 3) := by decide +kernel
theorem d_Model_commit_28 : decode prog_11_method_55_code 28 = .ok (.iconst 1, 1) := by decide +kernel
theorem d_Model_commit_29 : decode prog_11_method_55_code 29 = .ok (.goto 4, 3) := by decide +kernel
theorem d_Model_commit_32 : decode prog_11_method_55_code 32 = .ok (.iconst 0, 1) := by decide +kernel
theorem d_Model_commit_33 : decode prog_11_method_55_code 33 = .ok (.iconst 1, 1) := by decide +kernel
theorem d_Model_commit_34 : decode prog_11_method_55_code 34 = .ok (.invokevirtual 223, 3) := by decide +kernel
theorem d_Model_commit_37 : decode prog_11_method_55_code 37 = .ok (.ifCond .ne 24, 3) := by decide +kernel
theorem d_Model_commit_40 : decode prog_11_method_55_code 40 = .ok (.aload_n 0, 1) := by decide +kernel
theorem d_Model_commit_41 : decode prog_11_method_55_code 41 = .ok (.iload_n 3, 1) := by decide +kernel
theorem d_Model_commit_42 : decode prog_11_method_55_code 42 = .ok (.aload_n 0, 1) := by decide +kernel
theorem d_Model_commit_43 : decode prog_11_method_55_code 43 = .ok (.getfield 294, 3) := by decide +kernel
theorem d_Model_commit_46 : decode prog_11_method_55_code 46 = .ok (.if_icmp .le 7, 3) := by decide +kernel
theorem d_Model_commit_49 : decode prog_11_method_55_code 49 = .ok (.iconst 1, 1) := by decide +kernel
theorem d_Model_commit_50 : decode prog_11_method_55_code 50 = .ok (.goto 4, 3) := by decide +kernel
theorem d_Model_commit_53 : decode prog_11_method_55_code 53 = .ok (.iconst 0, 1) := by decide +kernel
theorem d_Model_commit_54 : decode prog_11_method_55_code 54 = .ok (.iconst 2, 1) := by decide +kernel
theorem d_Model_commit_55 : decode prog_11_method_55_code 55 = .ok (.invokevirtual 223, 3) := by decide +kernel
theorem d_Model_commit_58 : decode prog_11_method_55_code 58 = .ok (.ifCond .eq 4, 3) := by decide +kernel
theorem d_Model_commit_61 : decode prog_11_method_55_code 61 = .ok (.return_, 1) := by decide +kernel
theorem d_Model_commit_62 : decode prog_11_method_55_code 62 = .ok (.aload_n 0, 1) := by decide +kernel
theorem d_Model_commit_63 : decode prog_11_method_55_code 63 = .ok (.iload_n 2, 1) := by decide +kernel
theorem d_Model_commit_64 : decode prog_11_method_55_code 64 = .ok (.bipush 68, 2) := by decide +kernel
theorem d_Model_commit_66 : decode prog_11_method_55_code 66 = .ok (.iload_n 3, 1) := by decide +kernel
theorem d_Model_commit_67 : decode prog_11_method_55_code 67 = .ok (.invokevirtual 286, 3) := by decide +kernel
theorem d_Model_commit_70 : decode prog_11_method_55_code 70 = .ok (.aload_n 0, 1) := by decide +kernel
theorem d_Model_commit_71 : decode prog_11_method_55_code 71 = .ok (.iload_n 1, 1) := by decide +kernel
theorem d_Model_commit_72 : decode prog_11_method_55_code 72 = .ok (.invokestatic 265, 3) := by decide +kernel
theorem d_Model_commit_75 : decode prog_11_method_55_code 75 = .ok (.sipush 164, 3) := by decide +kernel
theorem d_Model_commit_78 : decode prog_11_method_55_code 78 = .ok (.invokevirtual 209, 3) := by decide +kernel
theorem d_Model_commit_81 : decode prog_11_method_55_code 81 = .ok (.return_, 1) := by decide +kernel
abbrev y_Model_point : MethodName := ⟨"KateDeskModel", "point", "(I)I"⟩
theorem hd_Model_point : y_Model_point.cls ≠ "java/lang/invoke/MethodHandle" ∧ y_Model_point.cls ≠ "java/lang/invoke/VarHandle" ∧ (parseMethodDescriptor y_Model_point.desc).map (fun d => d.parameters.length) = some 1 := by decide +kernel
theorem d_Model_point_0 : decode prog_11_method_46_code 0 = .ok (.aload_n 0, 1) := by decide +kernel
theorem d_Model_point_1 : decode prog_11_method_46_code 1 = .ok (.iload_n 1, 1) := by decide +kernel
theorem d_Model_point_2 : decode prog_11_method_46_code 2 = .ok (.invokestatic 262, 3) := by decide +kernel
theorem d_Model_point_5 : decode prog_11_method_46_code 5 = .ok (.iconst 1, 1) := by decide +kernel
theorem d_Model_point_6 : decode prog_11_method_46_code 6 = .ok (.invokevirtual 223, 3) := by decide +kernel
theorem d_Model_point_9 : decode prog_11_method_46_code 9 = .ok (.ifCond .eq 5, 3) := by decide +kernel
theorem d_Model_point_12 : decode prog_11_method_46_code 12 = .ok (.iconst 0, 1) := by decide +kernel
theorem d_Model_point_13 : decode prog_11_method_46_code 13 = .ok (.ireturn, 1) := by decide +kernel
theorem d_Model_point_14 : decode prog_11_method_46_code 14 = .ok (.aload_n 0, 1) := by decide +kernel
theorem d_Model_point_15 : decode prog_11_method_46_code 15 = .ok (.getfield 155, 3) := by decide +kernel
theorem d_Model_point_18 : decode prog_11_method_46_code 18 = .ok (.istore_n 2, 1) := by decide +kernel
theorem d_Model_point_19 : decode prog_11_method_46_code 19 = .ok (.aload_n 0, 1) := by decide +kernel
theorem d_Model_point_20 : decode prog_11_method_46_code 20 = .ok (.iconst 0, 1) := by decide +kernel
theorem d_Model_point_21 : decode prog_11_method_46_code 21 = .ok (.putfield 155, 3) := by decide +kernel
theorem d_Model_point_24 : decode prog_11_method_46_code 24 = .ok (.iload_n 2, 1) := by decide +kernel
theorem d_Model_point_25 : decode prog_11_method_46_code 25 = .ok (.bipush 48, 2) := by decide +kernel
theorem d_Model_point_27 : decode prog_11_method_46_code 27 = .ok (.if_icmp .eq 11, 3) := by decide +kernel
theorem d_Model_point_30 : decode prog_11_method_46_code 30 = .ok (.iload_n 2, 1) := by decide +kernel
theorem d_Model_point_31 : decode prog_11_method_46_code 31 = .ok (.bipush 96, 2) := by decide +kernel
theorem d_Model_point_33 : decode prog_11_method_46_code 33 = .ok (.if_icmp .eq 5, 3) := by decide +kernel
theorem d_Model_point_36 : decode prog_11_method_46_code 36 = .ok (.iconst 1, 1) := by decide +kernel
theorem d_Model_point_37 : decode prog_11_method_46_code 37 = .ok (.ireturn, 1) := by decide +kernel
theorem d_Model_point_38 : decode prog_11_method_46_code 38 = .ok (.aload_n 0, 1) := by decide +kernel
theorem d_Model_point_39 : decode prog_11_method_46_code 39 = .ok (.getfield 127, 3) := by decide +kernel
theorem d_Model_point_42 : decode prog_11_method_46_code 42 = .ok (.iconst 0, 1) := by decide +kernel
theorem d_Model_point_43 : decode prog_11_method_46_code 43 = .ok (.iaload, 1) := by decide +kernel
theorem d_Model_point_44 : decode prog_11_method_46_code 44 = .ok (.iconst 5, 1) := by decide +kernel
theorem d_Model_point_45 : decode prog_11_method_46_code 45 = .ok (.ishr, 1) := by decide +kernel
theorem d_Model_point_46 : decode prog_11_method_46_code 46 = .ok (.istore_n 3, 1) := by decide +kernel
theorem d_Model_point_47 : decode prog_11_method_46_code 47 = .ok (.iload_n 2, 1) := by decide +kernel
theorem d_Model_point_48 : decode prog_11_method_46_code 48 = .ok (.bipush 48, 2) := by decide +kernel
theorem d_Model_point_50 : decode prog_11_method_46_code 50 = .ok (.if_icmp .ne 27, 3) := by decide +kernel
theorem d_Model_point_53 : decode prog_11_method_46_code 53 = .ok (.iload_n 3, 1) := by decide +kernel
theorem d_Model_point_54 : decode prog_11_method_46_code 54 = .ok (.iconst 4, 1) := by decide +kernel
theorem d_Model_point_55 : decode prog_11_method_46_code 55 = .ok (.if_icmp .eq 14, 3) := by decide +kernel
theorem d_Model_point_58 : decode prog_11_method_46_code 58 = .ok (.iload_n 3, 1) := by decide +kernel
theorem d_Model_point_59 : decode prog_11_method_46_code 59 = .ok (.iconst 5, 1) := by decide +kernel
theorem d_Model_point_60 : decode prog_11_method_46_code 60 = .ok (.if_icmp .eq 9, 3) := by decide +kernel
theorem d_Model_point_63 : decode prog_11_method_46_code 63 = .ok (.iload_n 3, 1) := by decide +kernel
theorem d_Model_point_64 : decode prog_11_method_46_code 64 = .ok (.bipush 6, 2) := by decide +kernel
theorem d_Model_point_66 : decode prog_11_method_46_code 66 = .ok (.if_icmp .ne 7, 3) := by decide +kernel
theorem d_Model_point_69 : decode prog_11_method_46_code 69 = .ok (.iconst 1, 1) := by decide +kernel
theorem d_Model_point_70 : decode prog_11_method_46_code 70 = .ok (.goto 21, 3) := by decide +kernel
theorem d_Model_point_73 : decode prog_11_method_46_code 73 = .ok (.iconst 0, 1) := by decide +kernel
theorem d_Model_point_74 : decode prog_11_method_46_code 74 = .ok (.goto 17, 3) := by decide +kernel
theorem d_Model_point_77 : decode prog_11_method_46_code 77 = .ok (.iload_n 3, 1) := by decide +kernel
theorem d_Model_point_78 : decode prog_11_method_46_code 78 = .ok (.ifCond .eq 8, 3) := by decide +kernel
theorem d_Model_point_81 : decode prog_11_method_46_code 81 = .ok (.iload_n 3, 1) := by decide +kernel
theorem d_Model_point_82 : decode prog_11_method_46_code 82 = .ok (.iconst 2, 1) := by decide +kernel
theorem d_Model_point_83 : decode prog_11_method_46_code 83 = .ok (.if_icmp .ne 7, 3) := by decide +kernel
theorem d_Model_point_86 : decode prog_11_method_46_code 86 = .ok (.iconst 1, 1) := by decide +kernel
theorem d_Model_point_87 : decode prog_11_method_46_code 87 = .ok (.goto 4, 3) := by decide +kernel
theorem d_Model_point_90 : decode prog_11_method_46_code 90 = .ok (.iconst 0, 1) := by decide +kernel
theorem d_Model_point_91 : decode prog_11_method_46_code 91 = .ok (.istore 4, 2) := by decide +kernel
theorem d_Model_point_93 : decode prog_11_method_46_code 93 = .ok (.iload 4, 2) := by decide +kernel
theorem d_Model_point_95 : decode prog_11_method_46_code 95 = .ok (.ifCond .ne 5, 3) := by decide +kernel
theorem d_Model_point_98 : decode prog_11_method_46_code 98 = .ok (.iconst 2, 1) := by decide +kernel
theorem d_Model_point_99 : decode prog_11_method_46_code 99 = .ok (.ireturn, 1) := by decide +kernel
theorem d_Model_point_100 : decode prog_11_method_46_code 100 = .ok (.aload_n 0, 1) := by decide +kernel
theorem d_Model_point_101 : decode prog_11_method_46_code 101 = .ok (.iconst 0, 1) := by decide +kernel
theorem d_Model_point_102 : decode prog_11_method_46_code 102 = .ok (.invokevirtual 137, 3) := by decide +kernel
theorem d_Model_point_105 : decode prog_11_method_46_code 105 = .ok (.aload_n 0, 1) := by decide +kernel
theorem d_Model_point_106 : decode prog_11_method_46_code 106 = .ok (.sipush 148, 3) := by decide +kernel
theorem d_Model_point_109 : decode prog_11_method_46_code 109 = .ok (.invokevirtual 200, 3) := by decide +kernel
theorem d_Model_point_112 : decode prog_11_method_46_code 112 = .ok (.aload_n 0, 1) := by decide +kernel
theorem d_Model_point_113 : decode prog_11_method_46_code 113 = .ok (.sipush 149, 3) := by decide +kernel
theorem d_Model_point_116 : decode prog_11_method_46_code 116 = .ok (.invokevirtual 200, 3) := by decide +kernel
theorem d_Model_point_119 : decode prog_11_method_46_code 119 = .ok (.iconst 0, 1) := by decide +kernel
theorem d_Model_point_120 : decode prog_11_method_46_code 120 = .ok (.istore 5, 2) := by decide +kernel
theorem d_Model_point_122 : decode prog_11_method_46_code 122 = .ok (.iload 5, 2) := by decide +kernel
theorem d_Model_point_124 : decode prog_11_method_46_code 124 = .ok (.iload_n 2, 1) := by decide +kernel
theorem d_Model_point_125 : decode prog_11_method_46_code 125 = .ok (.if_icmp .ge 61, 3) := by decide +kernel
theorem d_Model_point_128 : decode prog_11_method_46_code 128 = .ok (.aload_n 0, 1) := by decide +kernel
theorem d_Model_point_129 : decode prog_11_method_46_code 129 = .ok (.iload 5, 2) := by decide +kernel
theorem d_Model_point_131 : decode prog_11_method_46_code 131 = .ok (.bipush 48, 2) := by decide +kernel
theorem d_Model_point_133 : decode prog_11_method_46_code 133 = .ok (.if_icmp .ge 9, 3) := by decide +kernel
theorem d_Model_point_136 : decode prog_11_method_46_code 136 = .ok (.sipush 148, 3) := by decide +kernel
theorem d_Model_point_139 : decode prog_11_method_46_code 139 = .ok (.goto 6, 3) := by decide +kernel
theorem d_Model_point_142 : decode prog_11_method_46_code 142 = .ok (.sipush 149, 3) := by decide +kernel
theorem d_Model_point_145 : decode prog_11_method_46_code 145 = .ok (.bipush 47, 2) := by decide +kernel
theorem d_Model_point_147 : decode prog_11_method_46_code 147 = .ok (.iload 5, 2) := by decide +kernel
theorem d_Model_point_149 : decode prog_11_method_46_code 149 = .ok (.bipush 48, 2) := by decide +kernel
theorem d_Model_point_151 : decode prog_11_method_46_code 151 = .ok (.irem, 1) := by decide +kernel
theorem d_Model_point_152 : decode prog_11_method_46_code 152 = .ok (.isub, 1) := by decide +kernel
theorem d_Model_point_153 : decode prog_11_method_46_code 153 = .ok (.iload 5, 2) := by decide +kernel
theorem d_Model_point_155 : decode prog_11_method_46_code 155 = .ok (.ifCond .ne 15, 3) := by decide +kernel
theorem d_Model_point_158 : decode prog_11_method_46_code 158 = .ok (.aload_n 0, 1) := by decide +kernel
theorem d_Model_point_159 : decode prog_11_method_46_code 159 = .ok (.getfield 127, 3) := by decide +kernel
theorem d_Model_point_162 : decode prog_11_method_46_code 162 = .ok (.iconst 0, 1) := by decide +kernel
theorem d_Model_point_163 : decode prog_11_method_46_code 163 = .ok (.iaload, 1) := by decide +kernel
theorem d_Model_point_164 : decode prog_11_method_46_code 164 = .ok (.bipush 31, 2) := by decide +kernel
theorem d_Model_point_166 : decode prog_11_method_46_code 166 = .ok (.iand, 1) := by decide +kernel
theorem d_Model_point_167 : decode prog_11_method_46_code 167 = .ok (.goto 10, 3) := by decide +kernel
theorem d_Model_point_170 : decode prog_11_method_46_code 170 = .ok (.aload_n 0, 1) := by decide +kernel
theorem d_Model_point_171 : decode prog_11_method_46_code 171 = .ok (.getfield 127, 3) := by decide +kernel
theorem d_Model_point_174 : decode prog_11_method_46_code 174 = .ok (.iload 5, 2) := by decide +kernel
theorem d_Model_point_176 : decode prog_11_method_46_code 176 = .ok (.iaload, 1) := by decide +kernel
theorem d_Model_point_177 : decode prog_11_method_46_code 177 = .ok (.invokevirtual 229, 3) := by decide +kernel
theorem d_Model_point_180 : decode prog_11_method_46_code 180 = .ok (.iinc 5 1, 3) := by decide +kernel
theorem d_Model_point_183 : decode prog_11_method_46_code 183 = .ok (.goto (-61), 3) := by decide +kernel
theorem d_Model_point_186 : decode prog_11_method_46_code 186 = .ok (.iload_n 3, 1) := by decide +kernel
theorem d_Model_point_187 : decode prog_11_method_46_code 187 = .ok (.bipush 6, 2) := by decide +kernel
theorem d_Model_point_189 : decode prog_11_method_46_code 189 = .ok (.if_icmp .eq 8, 3) := by decide +kernel
theorem d_Model_point_192 : decode prog_11_method_46_code 192 = .ok (.iload_n 3, 1) := by decide +kernel
theorem d_Model_point_193 : decode prog_11_method_46_code 193 = .ok (.iconst 2, 1) := by decide +kernel
theorem d_Model_point_194 : decode prog_11_method_46_code 194 = .ok (.if_icmp .ne 35, 3) := by decide +kernel
theorem d_Model_point_197 : decode prog_11_method_46_code 197 = .ok (.aload_n 0, 1) := by decide +kernel
theorem d_Model_point_198 : decode prog_11_method_46_code 198 = .ok (.sipush 148, 3) := by decide +kernel
theorem d_Model_point_201 : decode prog_11_method_46_code 201 = .ok (.invokevirtual 246, 3) := by decide +kernel
theorem d_Model_point_204 : decode prog_11_method_46_code 204 = .ok (.ifCond .eq 13, 3) := by decide +kernel
theorem d_Model_point_207 : decode prog_11_method_46_code 207 = .ok (.aload_n 0, 1) := by decide +kernel
theorem d_Model_point_208 : decode prog_11_method_46_code 208 = .ok (.sipush 149, 3) := by decide +kernel
theorem d_Model_point_211 : decode prog_11_method_46_code 211 = .ok (.invokevirtual 246, 3) := by decide +kernel
theorem d_Model_point_214 : decode prog_11_method_46_code 214 = .ok (.ifCond .ne 5, 3) := by decide +kernel
theorem d_Model_point_217 : decode prog_11_method_46_code 217 = .ok (.iconst 3, 1) := by decide +kernel
theorem d_Model_point_218 : decode prog_11_method_46_code 218 = .ok (.ireturn, 1) := by decide +kernel
theorem d_Model_point_219 : decode prog_11_method_46_code 219 = .ok (.aload_n 0, 1) := by decide +kernel
theorem d_Model_point_220 : decode prog_11_method_46_code 220 = .ok (.iload_n 1, 1) := by decide +kernel
theorem d_Model_point_221 : decode prog_11_method_46_code 221 = .ok (.invokestatic 265, 3) := by decide +kernel
theorem d_Model_point_224 : decode prog_11_method_46_code 224 = .ok (.invokevirtual 152, 3) := by decide +kernel
theorem d_Model_point_227 : decode prog_11_method_46_code 227 = .ok (.iconst 0, 1) := by decide +kernel
theorem d_Model_point_228 : decode prog_11_method_46_code 228 = .ok (.ireturn, 1) := by decide +kernel
theorem d_Model_point_229 : decode prog_11_method_46_code 229 = .ok (.aload_n 0, 1) := by decide +kernel
theorem d_Model_point_230 : decode prog_11_method_46_code 230 = .ok (.sipush 148, 3) := by decide +kernel
theorem d_Model_point_233 : decode prog_11_method_46_code 233 = .ok (.invokevirtual 232, 3) := by decide +kernel
theorem d_Model_point_236 : decode prog_11_method_46_code 236 = .ok (.ifCond .eq 13, 3) := by decide +kernel
theorem d_Model_point_239 : decode prog_11_method_46_code 239 = .ok (.aload_n 0, 1) := by decide +kernel
theorem d_Model_point_240 : decode prog_11_method_46_code 240 = .ok (.sipush 149, 3) := by decide +kernel
theorem d_Model_point_243 : decode prog_11_method_46_code 243 = .ok (.invokevirtual 232, 3) := by decide +kernel
theorem d_Model_point_246 : decode prog_11_method_46_code 246 = .ok (.ifCond .ne 5, 3) := by decide +kernel
theorem d_Model_point_249 : decode prog_11_method_46_code 249 = .ok (.iconst 4, 1) := by decide +kernel
theorem d_Model_point_250 : decode prog_11_method_46_code 250 = .ok (.ireturn, 1) := by decide +kernel
theorem d_Model_point_251 : decode prog_11_method_46_code 251 = .ok (.aload_n 0, 1) := by decide +kernel
theorem d_Model_point_252 : decode prog_11_method_46_code 252 = .ok (.sipush 151, 3) := by decide +kernel
theorem d_Model_point_255 : decode prog_11_method_46_code 255 = .ok (.sipush 148, 3) := by decide +kernel
theorem d_Model_point_258 : decode prog_11_method_46_code 258 = .ok (.sipush 148, 3) := by decide +kernel
theorem d_Model_point_261 : decode prog_11_method_46_code 261 = .ok (.invokevirtual 184, 3) := by decide +kernel
theorem d_Model_point_264 : decode prog_11_method_46_code 264 = .ok (.aload_n 0, 1) := by decide +kernel
theorem d_Model_point_265 : decode prog_11_method_46_code 265 = .ok (.sipush 151, 3) := by decide +kernel
theorem d_Model_point_268 : decode prog_11_method_46_code 268 = .ok (.sipush 151, 3) := by decide +kernel
theorem d_Model_point_271 : decode prog_11_method_46_code 271 = .ok (.sipush 148, 3) := by decide +kernel
theorem d_Model_point_274 : decode prog_11_method_46_code 274 = .ok (.invokevirtual 184, 3) := by decide +kernel
theorem d_Model_point_277 : decode prog_11_method_46_code 277 = .ok (.aload_n 0, 1) := by decide +kernel
theorem d_Model_point_278 : decode prog_11_method_46_code 278 = .ok (.sipush 152, 3) := by decide +kernel
theorem d_Model_point_281 : decode prog_11_method_46_code 281 = .ok (.ldc2_w 269, 3) := by decide +kernel
theorem d_Model_point_284 : decode prog_11_method_46_code 284 = .ok (.invokevirtual 235, 3) := by decide +kernel
theorem d_Model_point_287 : decode prog_11_method_46_code 287 = .ok (.aload_n 0, 1) := by decide +kernel
theorem d_Model_point_288 : decode prog_11_method_46_code 288 = .ok (.sipush 151, 3) := by decide +kernel
theorem d_Model_point_291 : decode prog_11_method_46_code 291 = .ok (.sipush 151, 3) := by decide +kernel
theorem d_Model_point_294 : decode prog_11_method_46_code 294 = .ok (.sipush 152, 3) := by decide +kernel
theorem d_Model_point_297 : decode prog_11_method_46_code 297 = .ok (.invokevirtual 148, 3) := by decide +kernel
theorem d_Model_point_300 : decode prog_11_method_46_code 300 = .ok (.iload_n 2, 1) := by decide +kernel
theorem d_Model_point_301 : decode prog_11_method_46_code 301 = .ok (.bipush 48, 2) := by decide +kernel
theorem d_Model_point_303 : decode prog_11_method_46_code 303 = .ok (.if_icmp .ne 72, 3) := by decide +kernel
theorem d_Model_point_306 : decode prog_11_method_46_code 306 = .ok (.aload_n 0, 1) := by decide +kernel
theorem d_Model_point_307 : decode prog_11_method_46_code 307 = .ok (.sipush 152, 3) := by decide +kernel
theorem d_Model_point_310 : decode prog_11_method_46_code 310 = .ok (.lconst 1, 1) := by decide +kernel
theorem d_Model_point_311 : decode prog_11_method_46_code 311 = .ok (.invokevirtual 193, 3) := by decide +kernel
theorem d_Model_point_314 : decode prog_11_method_46_code 314 = .ok (.aload_n 0, 1) := by decide +kernel
theorem d_Model_point_315 : decode prog_11_method_46_code 315 = .ok (.sipush 152, 3) := by decide +kernel
theorem d_Model_point_318 : decode prog_11_method_46_code 318 = .ok (.iconst 2, 1) := by decide +kernel
theorem d_Model_point_319 : decode prog_11_method_46_code 319 = .ok (.invokevirtual 254, 3) := by decide +kernel
theorem d_Model_point_322 : decode prog_11_method_46_code 322 = .ok (.aload_n 0, 1) := by decide +kernel
theorem d_Model_point_323 : decode prog_11_method_46_code 323 = .ok (.sipush 149, 3) := by decide +kernel
theorem d_Model_point_326 : decode prog_11_method_46_code 326 = .ok (.sipush 151, 3) := by decide +kernel
theorem d_Model_point_329 : decode prog_11_method_46_code 329 = .ok (.sipush 152, 3) := by decide +kernel
theorem d_Model_point_332 : decode prog_11_method_46_code 332 = .ok (.invokevirtual 197, 3) := by decide +kernel
theorem d_Model_point_335 : decode prog_11_method_46_code 335 = .ok (.aload_n 0, 1) := by decide +kernel
theorem d_Model_point_336 : decode prog_11_method_46_code 336 = .ok (.sipush 149, 3) := by decide +kernel
theorem d_Model_point_339 : decode prog_11_method_46_code 339 = .ok (.invokevirtual 271, 3) := by decide +kernel
theorem d_Model_point_342 : decode prog_11_method_46_code 342 = .ok (.iload_n 3, 1) := by decide +kernel
theorem d_Model_point_343 : decode prog_11_method_46_code 343 = .ok (.iconst 5, 1) := by decide +kernel
theorem d_Model_point_344 : decode prog_11_method_46_code 344 = .ok (.if_icmp .ne 7, 3) := by decide +kernel
theorem d_Model_point_347 : decode prog_11_method_46_code 347 = .ok (.iconst 1, 1) := by decide +kernel
theorem d_Model_point_348 : decode prog_11_method_46_code 348 = .ok (.goto 4, 3) := by decide +kernel
theorem d_Model_point_351 : decode prog_11_method_46_code 351 = .ok (.iconst 0, 1) := by decide +kernel
theorem d_Model_point_352 : decode prog_11_method_46_code 352 = .ok (.if_icmp .eq 23, 3) := by decide +kernel
theorem d_Model_point_355 : decode prog_11_method_46_code 355 = .ok (.aload_n 0, 1) := by decide +kernel
theorem d_Model_point_356 : decode prog_11_method_46_code 356 = .ok (.sipush 152, 3) := by decide +kernel
theorem d_Model_point_359 : decode prog_11_method_46_code 359 = .ok (.invokevirtual 200, 3) := by decide +kernel
theorem d_Model_point_362 : decode prog_11_method_46_code 362 = .ok (.aload_n 0, 1) := by decide +kernel
theorem d_Model_point_363 : decode prog_11_method_46_code 363 = .ok (.sipush 149, 3) := by decide +kernel
theorem d_Model_point_366 : decode prog_11_method_46_code 366 = .ok (.sipush 152, 3) := by decide +kernel
theorem d_Model_point_369 : decode prog_11_method_46_code 369 = .ok (.sipush 149, 3) := by decide +kernel
theorem d_Model_point_372 : decode prog_11_method_46_code 372 = .ok (.invokevirtual 203, 3) := by decide +kernel
theorem d_Model_point_375 : decode prog_11_method_46_code 375 = .ok (.aload_n 0, 1) := by decide +kernel
theorem d_Model_point_376 : decode prog_11_method_46_code 376 = .ok (.sipush 152, 3) := by decide +kernel
theorem d_Model_point_379 : decode prog_11_method_46_code 379 = .ok (.sipush 149, 3) := by decide +kernel
theorem d_Model_point_382 : decode prog_11_method_46_code 382 = .ok (.sipush 149, 3) := by decide +kernel
theorem d_Model_point_385 : decode prog_11_method_46_code 385 = .ok (.invokevirtual 184, 3) := by decide +kernel
theorem d_Model_point_388 : decode prog_11_method_46_code 388 = .ok (.aload_n 0, 1) := by decide +kernel
theorem d_Model_point_389 : decode prog_11_method_46_code 389 = .ok (.sipush 151, 3) := by decide +kernel
theorem d_Model_point_392 : decode prog_11_method_46_code 392 = .ok (.sipush 152, 3) := by decide +kernel
theorem d_Model_point_395 : decode prog_11_method_46_code 395 = .ok (.invokevirtual 215, 3) := by decide +kernel
theorem d_Model_point_398 : decode prog_11_method_46_code 398 = .ok (.ifCond .ne 5, 3) := by decide +kernel
theorem d_Model_point_401 : decode prog_11_method_46_code 401 = .ok (.iconst 5, 1) := by decide +kernel
theorem d_Model_point_402 : decode prog_11_method_46_code 402 = .ok (.ireturn, 1) := by decide +kernel
theorem d_Model_point_403 : decode prog_11_method_46_code 403 = .ok (.aload_n 0, 1) := by decide +kernel
theorem d_Model_point_404 : decode prog_11_method_46_code 404 = .ok (.sipush 150, 3) := by decide +kernel
theorem d_Model_point_407 : decode prog_11_method_46_code 407 = .ok (.invokevirtual 141, 3) := by decide +kernel
theorem d_Model_point_410 : decode prog_11_method_46_code 410 = .ok (.iconst 0, 1) := by decide +kernel
theorem d_Model_point_411 : decode prog_11_method_46_code 411 = .ok (.istore 5, 2) := by decide +kernel
theorem d_Model_point_413 : decode prog_11_method_46_code 413 = .ok (.iload 5, 2) := by decide +kernel
theorem d_Model_point_415 : decode prog_11_method_46_code 415 = .ok (.bipush 14, 2) := by decide +kernel
theorem d_Model_point_417 : decode prog_11_method_46_code 417 = .ok (.if_icmp .ge 30, 3) := by decide +kernel
theorem d_Model_point_420 : decode prog_11_method_46_code 420 = .ok (.aload_n 0, 1) := by decide +kernel
theorem d_Model_point_421 : decode prog_11_method_46_code 421 = .ok (.getfield 7, 3) := by decide +kernel
theorem d_Model_point_424 : decode prog_11_method_46_code 424 = .ok (.sipush 2142, 3) := by decide +kernel
theorem d_Model_point_427 : decode prog_11_method_46_code 427 = .ok (.iload 5, 2) := by decide +kernel
theorem d_Model_point_429 : decode prog_11_method_46_code 429 = .ok (.iadd, 1) := by decide +kernel
theorem d_Model_point_430 : decode prog_11_method_46_code 430 = .ok (.aload_n 0, 1) := by decide +kernel
theorem d_Model_point_431 : decode prog_11_method_46_code 431 = .ok (.getfield 59, 3) := by decide +kernel
theorem d_Model_point_434 : decode prog_11_method_46_code 434 = .ok (.bipush 14, 2) := by decide +kernel
theorem d_Model_point_436 : decode prog_11_method_46_code 436 = .ok (.iload 5, 2) := by decide +kernel
theorem d_Model_point_438 : decode prog_11_method_46_code 438 = .ok (.iadd, 1) := by decide +kernel
theorem d_Model_point_439 : decode prog_11_method_46_code 439 = .ok (.laload, 1) := by decide +kernel
theorem d_Model_point_440 : decode prog_11_method_46_code 440 = .ok (.lastore, 1) := by decide +kernel
theorem d_Model_point_441 : decode prog_11_method_46_code 441 = .ok (.iinc 5 1, 3) := by decide +kernel
theorem d_Model_point_444 : decode prog_11_method_46_code 444 = .ok (.goto (-31), 3) := by decide +kernel
theorem d_Model_point_447 : decode prog_11_method_46_code 447 = .ok (.aload_n 0, 1) := by decide +kernel
theorem d_Model_point_448 : decode prog_11_method_46_code 448 = .ok (.sipush 154, 3) := by decide +kernel
theorem d_Model_point_451 : decode prog_11_method_46_code 451 = .ok (.sipush 153, 3) := by decide +kernel
theorem d_Model_point_454 : decode prog_11_method_46_code 454 = .ok (.sipush 148, 3) := by decide +kernel
theorem d_Model_point_457 : decode prog_11_method_46_code 457 = .ok (.invokevirtual 274, 3) := by decide +kernel
theorem d_Model_point_460 : decode prog_11_method_46_code 460 = .ok (.aload_n 0, 1) := by decide +kernel
theorem d_Model_point_461 : decode prog_11_method_46_code 461 = .ok (.sipush 156, 3) := by decide +kernel
theorem d_Model_point_464 : decode prog_11_method_46_code 464 = .ok (.invokevirtual 246, 3) := by decide +kernel
theorem d_Model_point_467 : decode prog_11_method_46_code 467 = .ok (.ifCond .ne 6, 3) := by decide +kernel
theorem d_Model_point_470 : decode prog_11_method_46_code 470 = .ok (.bipush 6, 2) := by decide +kernel
theorem d_Model_point_472 : decode prog_11_method_46_code 472 = .ok (.ireturn, 1) := by decide +kernel
theorem d_Model_point_473 : decode prog_11_method_46_code 473 = .ok (.aload_n 0, 1) := by decide +kernel
theorem d_Model_point_474 : decode prog_11_method_46_code 474 = .ok (.iload_n 1, 1) := by decide +kernel
theorem d_Model_point_475 : decode prog_11_method_46_code 475 = .ok (.invokestatic 265, 3) := by decide +kernel
theorem d_Model_point_478 : decode prog_11_method_46_code 478 = .ok (.sipush 148, 3) := by decide +kernel
theorem d_Model_point_481 : decode prog_11_method_46_code 481 = .ok (.invokevirtual 209, 3) := by decide +kernel
theorem d_Model_point_484 : decode prog_11_method_46_code 484 = .ok (.iconst 0, 1) := by decide +kernel
theorem d_Model_point_485 : decode prog_11_method_46_code 485 = .ok (.ireturn, 1) := by decide +kernel
abbrev y_Model_look : MethodName := ⟨"KateDeskModel", "look", "(I)I"⟩
theorem hd_Model_look : y_Model_look.cls ≠ "java/lang/invoke/MethodHandle" ∧ y_Model_look.cls ≠ "java/lang/invoke/VarHandle" ∧ (parseMethodDescriptor y_Model_look.desc).map (fun d => d.parameters.length) = some 1 := by decide +kernel
theorem d_Model_look_0 : decode prog_11_method_61_code 0 = .ok (.aload_n 0, 1) := by decide +kernel
theorem d_Model_look_1 : decode prog_11_method_61_code 1 = .ok (.iload_n 1, 1) := by decide +kernel
theorem d_Model_look_2 : decode prog_11_method_61_code 2 = .ok (.i2l, 1) := by decide +kernel
theorem d_Model_look_3 : decode prog_11_method_61_code 3 = .ok (.lconst 0, 1) := by decide +kernel
theorem d_Model_look_4 : decode prog_11_method_61_code 4 = .ok (.ldc2_w 238, 3) := by decide +kernel
theorem d_Model_look_7 : decode prog_11_method_61_code 7 = .ok (.invokestatic 242, 3) := by decide +kernel
theorem d_Model_look_10 : decode prog_11_method_61_code 10 = .ok (.ifCond .ne 7, 3) := by decide +kernel
theorem d_Model_look_13 : decode prog_11_method_61_code 13 = .ok (.iconst 1, 1) := by decide +kernel
theorem d_Model_look_14 : decode prog_11_method_61_code 14 = .ok (.goto 4, 3) := by decide +kernel
theorem d_Model_look_17 : decode prog_11_method_61_code 17 = .ok (.iconst 0, 1) := by decide +kernel
theorem d_Model_look_18 : decode prog_11_method_61_code 18 = .ok (.iconst 1, 1) := by decide +kernel
theorem d_Model_look_19 : decode prog_11_method_61_code 19 = .ok (.invokevirtual 223, 3) := by decide +kernel
theorem d_Model_look_22 : decode prog_11_method_61_code 22 = .ok (.ifCond .eq 5, 3) := by decide +kernel
theorem d_Model_look_25 : decode prog_11_method_61_code 25 = .ok (.iconst 0, 1) := by decide +kernel
theorem d_Model_look_26 : decode prog_11_method_61_code 26 = .ok (.ireturn, 1) := by decide +kernel
theorem d_Model_look_27 : decode prog_11_method_61_code 27 = .ok (.iload_n 1, 1) := by decide +kernel
theorem d_Model_look_28 : decode prog_11_method_61_code 28 = .ok (.ifCond .ne 10, 3) := by decide +kernel
theorem d_Model_look_31 : decode prog_11_method_61_code 31 = .ok (.aload_n 0, 1) := by decide +kernel
theorem d_Model_look_32 : decode prog_11_method_61_code 32 = .ok (.getfield 294, 3) := by decide +kernel
theorem d_Model_look_35 : decode prog_11_method_61_code 35 = .ok (.goto 19, 3) := by decide +kernel
theorem d_Model_look_38 : decode prog_11_method_61_code 38 = .ok (.iload_n 1, 1) := by decide +kernel
theorem d_Model_look_39 : decode prog_11_method_61_code 39 = .ok (.iconst 1, 1) := by decide +kernel
theorem d_Model_look_40 : decode prog_11_method_61_code 40 = .ok (.if_icmp .ne 10, 3) := by decide +kernel
theorem d_Model_look_43 : decode prog_11_method_61_code 43 = .ok (.aload_n 0, 1) := by decide +kernel
theorem d_Model_look_44 : decode prog_11_method_61_code 44 = .ok (.getfield 155, 3) := by decide +kernel
theorem d_Model_look_47 : decode prog_11_method_61_code 47 = .ok (.goto 7, 3) := by decide +kernel
theorem d_Model_look_50 : decode prog_11_method_61_code 50 = .ok (.aload_n 0, 1) := by decide +kernel
theorem d_Model_look_51 : decode prog_11_method_61_code 51 = .ok (.getfield 277, 3) := by decide +kernel
theorem d_Model_look_54 : decode prog_11_method_61_code 54 = .ok (.ireturn, 1) := by decide +kernel
set_option maxHeartbeats 4000000 in
set_option maxRecDepth 100000 in
theorem c_Model_join (l : Launch) (g : WG) (n0 : Nat → Prop) (mo : Nat) (w0 : Int32) (a : Int32) (a2 : Int32) (a3 : Int32) (fd : Nat → Int64) (hmn : n0 mo) (hz : FZ fd) : Ctr l y_Model_join (.code y_Model_join prog_11_method_49_code 5 none) 5 119 0 0 n0 g [.ref mo, .int w0, .int a, .int a2, .int a3] (fun H => MS g n0 H mo 0 0 0 0 0 14 fd) (QV (fun H H' => ((okC w0 (nI 0) (nI 3) ∧ okP a (nI 1) ∧ okP a2 (nI 1) ∧ okP a3 (nI 1)) ∧ TH g n0 H' mo 0) ∨ (¬ (okC w0 (nI 0) (nI 3) ∧ okP a (nI 1) ∧ okP a2 (nI 1) ∧ okP a3 (nI 1)) ∧ TH g n0 H' mo 1))) := by
  refine ctr_mk l (lv0 := [(0, .ref mo), (1, .int w0), (2, .int a), (3, .int a2), (4, .int a3)]) (by decide) (Nat.le_of_ble_eq_true rfl) rfl ?_
  intro p e s m below meth c ls E hr hlk hnm hl hP
  have hx := E.1
  have hb := E.2.1
  have hK := E.2.2.2.2.2
  have hF : ∀ q ∈ ([] : List Loc), n0 q.base := fun q hq => absurd hq List.not_mem_nil
  have hm := hP
  have hfr : FRM (MR mo) s.heap s.heap := FRM.rf
  have bad : ∀ (locs : List Loc) (ls : Array Slot), ¬ (okC w0 (nI 0) (nI 3) ∧ okP a (nI 1) ∧ okP a2 (nI 1) ∧ okP a3 (nI 1)) → (∀ q ∈ locs, n0 q.base) → lv_has ls 5 [(0, .ref mo), (1, .int w0), (2, .int a), (3, .int a2), (4, .int a3)] → W p l e { frames := 5, cells := 0, slots := 0, locals := 119 } s m [.ref mo, .int w0, .int a, .int a2, .int a3].toArray below meth c s.heap locs 0 0 (MQ below (QcP (QV (fun H H' => ((okC w0 (nI 0) (nI 3) ∧ okP a (nI 1) ∧ okP a2 (nI 1) ∧ okP a3 (nI 1)) ∧ TH g n0 H' mo 0) ∨ (¬ (okC w0 (nI 0) (nI 3) ∧ okP a (nI 1) ∧ okP a2 (nI 1) ∧ okP a3 (nI 1)) ∧ TH g n0 H' mo 1)))) [.ref mo, .int w0, .int a, .int a2, .int a3].toArray s 0 0 (fun q => n0 q)) (F0 m 40 ls [.int (nI 1), .ref mo]) := by
    intro  locs   ls hno hF hl
    refine lv_iconst (v := nI 1) hx hb d_Model_join_40 (by decide) ?_
    refine q_cV (rest := []) E (c_Model_fails l g n0 mo 0 0 0 0 0 14 hw0 (nI 1) (nI 1) fd hmn (Or.inl rfl)) w_1056 w_15 w_1053 w_1055 (bw_s 24 rfl) hd_Model_fails rfl ⟨by decide, by decide⟩ (OB.recv E.2.2.2.2.2 (by rfl) hm.1) hm hF hl.1 rfl (Nat.le_of_ble_eq_true rfl) d_Model_join_41 ⟨by decide, by decide⟩ (qi (fun rf H1 locs hq hF => ?_))
    obtain ⟨hrf, hq, hm⟩ := hq
    subst hrf
    have hfr := hfr.tr hq
    rw [if_neg (by decide)] at hm
    refine lv_if_eq (tgt := 48) hx hb d_Model_join_44 (by decide) (fun h9 => absurd h9 (by decide)) (fun _ => ?_)
    exact q_vret E hr hlk (⟨rfl, Or.inr ⟨hno, ⟨_, _, _, _, _, _, hw0, hm⟩⟩⟩) hF d_Model_join_47
  have good : ∀ (locs : List Loc) (ls : Array Slot), okC w0 (nI 0) (nI 3) ∧ okP a (nI 1) ∧ okP a2 (nI 1) ∧ okP a3 (nI 1) → (∀ q ∈ locs, n0 q.base) → lv_has ls 5 [(0, .ref mo), (1, .int w0), (2, .int a), (3, .int a2), (4, .int a3)] → W p l e { frames := 5, cells := 0, slots := 0, locals := 119 } s m [.ref mo, .int w0, .int a, .int a2, .int a3].toArray below meth c s.heap locs 0 0 (MQ below (QcP (QV (fun H H' => ((okC w0 (nI 0) (nI 3) ∧ okP a (nI 1) ∧ okP a2 (nI 1) ∧ okP a3 (nI 1)) ∧ TH g n0 H' mo 0) ∨ (¬ (okC w0 (nI 0) (nI 3) ∧ okP a (nI 1) ∧ okP a2 (nI 1) ∧ okP a3 (nI 1)) ∧ TH g n0 H' mo 1)))) [.ref mo, .int w0, .int a, .int a2, .int a3].toArray s 0 0 (fun q => n0 q)) (F0 m 40 ls [.int (nI 0), .ref mo]) := by
    intro  locs   ls hok hF hl
    refine lv_iconst (v := nI 1) hx hb d_Model_join_40 (by decide) ?_
    refine q_cV (rest := []) E (c_Model_fails l g n0 mo 0 0 0 0 0 14 hw0 (nI 0) (nI 1) fd hmn (Or.inr rfl)) w_1056 w_15 w_1053 w_1055 (bw_s 24 rfl) hd_Model_fails rfl ⟨by decide, by decide⟩ (OB.recv E.2.2.2.2.2 (by rfl) hm.1) hm hF hl.1 rfl (Nat.le_of_ble_eq_true rfl) d_Model_join_41 ⟨by decide, by decide⟩ (qi (fun rf H1 locs hq hF => ?_))
    obtain ⟨hrf, hq, hm⟩ := hq
    subst hrf
    have hfr := hfr.tr hq
    rw [if_pos nI_0] at hm
    refine lv_if_eq (tgt := 48) hx hb d_Model_join_44 (by decide) (fun _ => ?_) (fun h9 => absurd (by decide) h9)
    obtain ⟨k0, e_k0, h_k0, h2_k0⟩ := okC_nat (by decide) (by decide) hok.1
    rw [e_k0] at hl
    obtain ⟨k1, e_k1, h_k1⟩ := okP_nat (by decide) (by decide) hok.2.1
    rw [e_k1] at hl
    obtain ⟨k2, e_k2, h_k2⟩ := okP_nat (by decide) (by decide) hok.2.2.1
    rw [e_k2] at hl
    obtain ⟨k3, e_k3, h_k3⟩ := okP_nat (by decide) (by decide) hok.2.2.2
    rw [e_k3] at hl
    obtain ⟨hq9, -⟩ : k0 ≤ 3 ∧ True := ⟨h2_k0, trivial⟩
    match k0, hq9 with
    | 0, _ =>
      refine lv_aload_n hx hb d_Model_join_48 rfl (lv_at hl 0 rfl) ?_
      refine lv_iconst (v := nI 0) hx hb d_Model_join_49 (by decide) ?_
      refine q_cV (rest := []) E (c_Model_use l g n0 mo 0 0 0 0 0 14 hw0 0 14 hw0 fd hmn) w_967 w_15 w_964 w_966 (bw_s 15 rfl) hd_Model_use rfl ⟨by decide, by decide⟩ (OB.recv E.2.2.2.2.2 (by rfl) hm.1) hm hF hl.1 rfl (Nat.le_of_ble_eq_true rfl) d_Model_join_50 ⟨by decide, by decide⟩ (qv (fun H2 locs hq hF => ?_))
      obtain ⟨hq, hm⟩ := hq
      have hfr := hfr.tr hq
      refine lv_iload_n hx hb d_Model_join_53 rfl (lv_at hl 1 rfl) ?_
      refine lv_if_ne (tgt := 65) hx hb d_Model_join_54 (by decide) (fun h9 => absurd (by decide) h9) (fun _ => ?_)
      refine lv_aload_n hx hb d_Model_join_57 rfl (lv_at hl 0 rfl) ?_
      refine lv_iload_n hx hb d_Model_join_58 rfl (lv_at hl 2 rfl) ?_
      refine q_cS (rest := [.ref mo]) E (c_Model_slot l g n0 (nI k1)) w_1154 w_15 w_1152 w_1153 hd_Model_slot rfl ⟨by decide, by decide⟩ trivial hF hl.1 rfl (Nat.le_of_ble_eq_true rfl) d_Model_join_59 ⟨by decide, by decide⟩ (qi (fun rs H3 locs hq hF => ?_))
      obtain ⟨hrs, hq9⟩ := hq
      subst hrs
      subst hq9
      refine lv_topi (fun t9 e9 => ?_)
      obtain rfl : t9 = nI (32 + 3 * k1) := e9.trans (by rw [pk_mul, nI_add])
      refine q_cV (rest := []) E (c_Model_nothing l g n0 mo (32 + 3 * k1) 0 0 0 0 0 14 hw0 fd (by omega)) w_996 w_15 w_993 w_995 (bw_s 22 rfl) hd_Model_nothing rfl ⟨by decide, by decide⟩ (OB.recv E.2.2.2.2.2 (by rfl) hm.1) hm hF hl.1 rfl (Nat.le_of_ble_eq_true rfl) d_Model_join_62 ⟨by decide, by decide⟩ (qv (fun H4 locs hq hF => ?_))
      obtain ⟨hq, fd_1, hm, hS9, hz1, hone, hz2⟩ := hq
      have hfr := hfr.tr hq
      refine lv_iload_n hx hb d_Model_join_65 rfl (lv_at hl 1 rfl) ?_
      refine lv_iconst (v := nI 1) hx hb d_Model_join_66 (by decide) ?_
      refine lv_icmp_ne (tgt := 80) hx hb d_Model_join_67 (by decide) (fun _ => ?_) (fun h9 => absurd h9 (by decide))
      refine lv_iload_n hx hb d_Model_join_80 rfl (lv_at hl 1 rfl) ?_
      refine lv_iconst (v := nI 2) hx hb d_Model_join_81 (by decide) ?_
      refine lv_icmp_ge (tgt := 86) hx hb d_Model_join_82 (by decide) (fun h9 => absurd h9 (by decide)) (fun _ => ?_)
      exact q_vret E hr hlk (⟨rfl, Or.inl ⟨hok, ⟨_, _, _, _, _, _, hw0, hm⟩⟩⟩) hF d_Model_join_85
    | 1, _ =>
      refine lv_aload_n hx hb d_Model_join_48 rfl (lv_at hl 0 rfl) ?_
      refine lv_iconst (v := nI 0) hx hb d_Model_join_49 (by decide) ?_
      refine q_cV (rest := []) E (c_Model_use l g n0 mo 0 0 0 0 0 14 hw0 0 14 hw0 fd hmn) w_967 w_15 w_964 w_966 (bw_s 15 rfl) hd_Model_use rfl ⟨by decide, by decide⟩ (OB.recv E.2.2.2.2.2 (by rfl) hm.1) hm hF hl.1 rfl (Nat.le_of_ble_eq_true rfl) d_Model_join_50 ⟨by decide, by decide⟩ (qv (fun H2 locs hq hF => ?_))
      obtain ⟨hq, hm⟩ := hq
      have hfr := hfr.tr hq
      refine lv_iload_n hx hb d_Model_join_53 rfl (lv_at hl 1 rfl) ?_
      refine lv_if_ne (tgt := 65) hx hb d_Model_join_54 (by decide) (fun _ => ?_) (fun h9 => absurd h9 (by decide))
      refine lv_iload_n hx hb d_Model_join_65 rfl (lv_at hl 1 rfl) ?_
      refine lv_iconst (v := nI 1) hx hb d_Model_join_66 (by decide) ?_
      refine lv_icmp_ne (tgt := 80) hx hb d_Model_join_67 (by decide) (fun h9 => absurd (by decide) h9) (fun _ => ?_)
      refine lv_aload_n hx hb d_Model_join_70 rfl (lv_at hl 0 rfl) ?_
      refine lv_iload_n hx hb d_Model_join_71 rfl (lv_at hl 2 rfl) ?_
      refine q_cS (rest := [.ref mo]) E (c_Model_slot l g n0 (nI k1)) w_1154 w_15 w_1152 w_1153 hd_Model_slot rfl ⟨by decide, by decide⟩ trivial hF hl.1 rfl (Nat.le_of_ble_eq_true rfl) d_Model_join_72 ⟨by decide, by decide⟩ (qi (fun rs H3 locs hq hF => ?_))
      obtain ⟨hrs, hq9⟩ := hq
      subst hrs
      subst hq9
      refine lv_topi (fun t9 e9 => ?_)
      obtain rfl : t9 = nI (32 + 3 * k1) := e9.trans (by rw [pk_mul, nI_add])
      refine lv_bipush (v := nI 116) hx hb d_Model_join_75 (by decide) ?_
      refine q_cV (rest := []) E (c_Model_movePoint l g n0 mo (32 + 3 * k1) 116 0 0 0 0 0 14 hw0 fd (by omega) (by omega) (by omega)) w_1171 w_15 w_1168 w_1170 (bw_s 41 rfl) hd_Model_movePoint rfl ⟨by decide, by decide⟩ (OB.recv E.2.2.2.2.2 (by rfl) hm.1) hm hF hl.1 rfl (Nat.le_of_ble_eq_true rfl) d_Model_join_77 ⟨by decide, by decide⟩ (qv (fun H4 locs hq hF => ?_))
      obtain ⟨hq, fd_2, hm, hS9, hcp⟩ := hq
      have hfr := hfr.tr hq
      refine lv_iload_n hx hb d_Model_join_80 rfl (lv_at hl 1 rfl) ?_
      refine lv_iconst (v := nI 2) hx hb d_Model_join_81 (by decide) ?_
      refine lv_icmp_ge (tgt := 86) hx hb d_Model_join_82 (by decide) (fun h9 => absurd h9 (by decide)) (fun _ => ?_)
      exact q_vret E hr hlk (⟨rfl, Or.inl ⟨hok, ⟨_, _, _, _, _, _, hw0, hm⟩⟩⟩) hF d_Model_join_85
    | 2, _ =>
      refine lv_aload_n hx hb d_Model_join_48 rfl (lv_at hl 0 rfl) ?_
      refine lv_iconst (v := nI 0) hx hb d_Model_join_49 (by decide) ?_
      refine q_cV (rest := []) E (c_Model_use l g n0 mo 0 0 0 0 0 14 hw0 0 14 hw0 fd hmn) w_967 w_15 w_964 w_966 (bw_s 15 rfl) hd_Model_use rfl ⟨by decide, by decide⟩ (OB.recv E.2.2.2.2.2 (by rfl) hm.1) hm hF hl.1 rfl (Nat.le_of_ble_eq_true rfl) d_Model_join_50 ⟨by decide, by decide⟩ (qv (fun H2 locs hq hF => ?_))
      obtain ⟨hq, hm⟩ := hq
      have hfr := hfr.tr hq
      refine lv_iload_n hx hb d_Model_join_53 rfl (lv_at hl 1 rfl) ?_
      refine lv_if_ne (tgt := 65) hx hb d_Model_join_54 (by decide) (fun _ => ?_) (fun h9 => absurd h9 (by decide))
      refine lv_iload_n hx hb d_Model_join_65 rfl (lv_at hl 1 rfl) ?_
      refine lv_iconst (v := nI 1) hx hb d_Model_join_66 (by decide) ?_
      refine lv_icmp_ne (tgt := 80) hx hb d_Model_join_67 (by decide) (fun _ => ?_) (fun h9 => absurd h9 (by decide))
      refine lv_iload_n hx hb d_Model_join_80 rfl (lv_at hl 1 rfl) ?_
      refine lv_iconst (v := nI 2) hx hb d_Model_join_81 (by decide) ?_
      refine lv_icmp_ge (tgt := 86) hx hb d_Model_join_82 (by decide) (fun _ => ?_) (fun h9 => absurd (by decide) h9)
      refine lv_aload_n hx hb d_Model_join_86 rfl (lv_at hl 0 rfl) ?_
      refine lv_sipush (v := nI 157) hx hb d_Model_join_87 (by decide) ?_
      refine lv_iload hx hb d_Model_join_90 (lv_at hl 4 rfl) ?_
      refine q_cS (rest := [.int (nI 157), .ref mo]) E (c_Model_slot l g n0 (nI k3)) w_1154 w_15 w_1152 w_1153 hd_Model_slot rfl ⟨by decide, by decide⟩ trivial hF hl.1 rfl (Nat.le_of_ble_eq_true rfl) d_Model_join_92 ⟨by decide, by decide⟩ (qi (fun rs H3 locs hq hF => ?_))
      obtain ⟨hrs, hq9⟩ := hq
      subst hrs
      subst hq9
      refine lv_topi (fun t9 e9 => ?_)
      obtain rfl : t9 = nI (32 + 3 * k3) := e9.trans (by rw [pk_mul, nI_add])
      refine q_cV (rest := []) E (c_Model_movePoint l g n0 mo 157 (32 + 3 * k3) 0 0 0 0 0 14 hw0 fd (by omega) (by omega) (by omega)) w_1171 w_15 w_1168 w_1170 (bw_s 41 rfl) hd_Model_movePoint rfl ⟨by decide, by decide⟩ (OB.recv E.2.2.2.2.2 (by rfl) hm.1) hm hF hl.1 rfl (Nat.le_of_ble_eq_true rfl) d_Model_join_95 ⟨by decide, by decide⟩ (qv (fun H4 locs hq hF => ?_))
      obtain ⟨hq, fd_3, hm, hS9, hcp⟩ := hq
      have hfr := hfr.tr hq
      refine lv_aload_n hx hb d_Model_join_98 rfl (lv_at hl 0 rfl) ?_
      refine lv_sipush (v := nI 160) hx hb d_Model_join_99 (by decide) ?_
      refine q_cV (rest := []) E (c_Model_zero l g n0 mo 160 0 0 0 0 0 14 hw0  fd_3 (by omega) ) w_1000 w_15 w_997 w_999 (bw_s 23 rfl) hd_Model_zero rfl ⟨by decide, by decide⟩ (OB.recv E.2.2.2.2.2 (by rfl) hm.1) hm hF hl.1 rfl (Nat.le_of_ble_eq_true rfl) d_Model_join_102 ⟨by decide, by decide⟩ (qv (fun H5 locs hq hF => ?_))
      obtain ⟨hq, fd_4, hm, hpv⟩ := hq
      have hfr := hfr.tr hq
      refine lv_iload_n hx hb d_Model_join_105 rfl (lv_at hl 1 rfl) ?_
      refine lv_iconst (v := nI 3) hx hb d_Model_join_106 (by decide) ?_
      refine lv_icmp_ne (tgt := 123) hx hb d_Model_join_107 (by decide) (fun _ => ?_) (fun h9 => absurd h9 (by decide))
      refine lv_aload_n hx hb d_Model_join_123 rfl (lv_at hl 0 rfl) ?_
      refine lv_sipush (v := nI 161) hx hb d_Model_join_124 (by decide) ?_
      refine lv_iload_n hx hb d_Model_join_127 rfl (lv_at hl 3 rfl) ?_
      refine q_cS (rest := [.int (nI 161), .ref mo]) E (c_Model_slot l g n0 (nI k2)) w_1154 w_15 w_1152 w_1153 hd_Model_slot rfl ⟨by decide, by decide⟩ trivial hF hl.1 rfl (Nat.le_of_ble_eq_true rfl) d_Model_join_128 ⟨by decide, by decide⟩ (qi (fun rs H6 locs hq hF => ?_))
      obtain ⟨hrs, hq9⟩ := hq
      subst hrs
      subst hq9
      refine lv_topi (fun t9 e9 => ?_)
      obtain rfl : t9 = nI (32 + 3 * k2) := e9.trans (by rw [pk_mul, nI_add])
      refine lv_sipush (v := nI 157) hx hb d_Model_join_131 (by decide) ?_
      refine q_cV (rest := []) E (c_Model_sum l g n0 mo 161 (32 + 3 * k2) 157 0 0 0 0 0 14 hw0 fd_4 (by omega) (by omega) (by omega) False False 0 0 (fun h => h.elim) (fun h => h.elim)) w_1175 w_15 w_1172 w_1174 (bw_s 42 rfl) hd_Model_sum rfl ⟨by decide, by decide⟩ (OB.recv E.2.2.2.2.2 (by rfl) hm.1) hm hF hl.1 rfl (Nat.le_of_ble_eq_true rfl) d_Model_join_134 ⟨by decide, by decide⟩ (qv (fun H7 locs hq hF => ?_))
      obtain ⟨hq, fd_5, hm, hS9, hC9, hD9⟩ := hq
      have hfr := hfr.tr hq
      refine lv_aload_n hx hb d_Model_join_137 rfl (lv_at hl 0 rfl) ?_
      refine lv_iload_n hx hb d_Model_join_138 rfl (lv_at hl 2 rfl) ?_
      refine q_cS (rest := [.ref mo]) E (c_Model_slot l g n0 (nI k1)) w_1154 w_15 w_1152 w_1153 hd_Model_slot rfl ⟨by decide, by decide⟩ trivial hF hl.1 rfl (Nat.le_of_ble_eq_true rfl) d_Model_join_139 ⟨by decide, by decide⟩ (qi (fun rs H8 locs hq hF => ?_))
      obtain ⟨hrs, hq9⟩ := hq
      subst hrs
      subst hq9
      refine lv_topi (fun t9 e9 => ?_)
      obtain rfl : t9 = nI (32 + 3 * k1) := e9.trans (by rw [pk_mul, nI_add])
      refine lv_sipush (v := nI 161) hx hb d_Model_join_142 (by decide) ?_
      refine q_cV (rest := []) E (c_Model_movePoint l g n0 mo (32 + 3 * k1) 161 0 0 0 0 0 14 hw0 fd_5 (by omega) (by omega) (by omega)) w_1171 w_15 w_1168 w_1170 (bw_s 41 rfl) hd_Model_movePoint rfl ⟨by decide, by decide⟩ (OB.recv E.2.2.2.2.2 (by rfl) hm.1) hm hF hl.1 rfl (Nat.le_of_ble_eq_true rfl) d_Model_join_145 ⟨by decide, by decide⟩ (qv (fun H9 locs hq hF => ?_))
      obtain ⟨hq, fd_6, hm, hS9, hcp⟩ := hq
      have hfr := hfr.tr hq
      exact q_vret E hr hlk (⟨rfl, Or.inl ⟨hok, ⟨_, _, _, _, _, _, hw0, hm⟩⟩⟩) hF d_Model_join_148
    | 3, _ =>
      refine lv_aload_n hx hb d_Model_join_48 rfl (lv_at hl 0 rfl) ?_
      refine lv_iconst (v := nI 0) hx hb d_Model_join_49 (by decide) ?_
      refine q_cV (rest := []) E (c_Model_use l g n0 mo 0 0 0 0 0 14 hw0 0 14 hw0 fd hmn) w_967 w_15 w_964 w_966 (bw_s 15 rfl) hd_Model_use rfl ⟨by decide, by decide⟩ (OB.recv E.2.2.2.2.2 (by rfl) hm.1) hm hF hl.1 rfl (Nat.le_of_ble_eq_true rfl) d_Model_join_50 ⟨by decide, by decide⟩ (qv (fun H2 locs hq hF => ?_))
      obtain ⟨hq, hm⟩ := hq
      have hfr := hfr.tr hq
      refine lv_iload_n hx hb d_Model_join_53 rfl (lv_at hl 1 rfl) ?_
      refine lv_if_ne (tgt := 65) hx hb d_Model_join_54 (by decide) (fun _ => ?_) (fun h9 => absurd h9 (by decide))
      refine lv_iload_n hx hb d_Model_join_65 rfl (lv_at hl 1 rfl) ?_
      refine lv_iconst (v := nI 1) hx hb d_Model_join_66 (by decide) ?_
      refine lv_icmp_ne (tgt := 80) hx hb d_Model_join_67 (by decide) (fun _ => ?_) (fun h9 => absurd h9 (by decide))
      refine lv_iload_n hx hb d_Model_join_80 rfl (lv_at hl 1 rfl) ?_
      refine lv_iconst (v := nI 2) hx hb d_Model_join_81 (by decide) ?_
      refine lv_icmp_ge (tgt := 86) hx hb d_Model_join_82 (by decide) (fun _ => ?_) (fun h9 => absurd (by decide) h9)
      refine lv_aload_n hx hb d_Model_join_86 rfl (lv_at hl 0 rfl) ?_
      refine lv_sipush (v := nI 157) hx hb d_Model_join_87 (by decide) ?_
      refine lv_iload hx hb d_Model_join_90 (lv_at hl 4 rfl) ?_
      refine q_cS (rest := [.int (nI 157), .ref mo]) E (c_Model_slot l g n0 (nI k3)) w_1154 w_15 w_1152 w_1153 hd_Model_slot rfl ⟨by decide, by decide⟩ trivial hF hl.1 rfl (Nat.le_of_ble_eq_true rfl) d_Model_join_92 ⟨by decide, by decide⟩ (qi (fun rs H3 locs hq hF => ?_))
      obtain ⟨hrs, hq9⟩ := hq
      subst hrs
      subst hq9
      refine lv_topi (fun t9 e9 => ?_)
      obtain rfl : t9 = nI (32 + 3 * k3) := e9.trans (by rw [pk_mul, nI_add])
      refine q_cV (rest := []) E (c_Model_movePoint l g n0 mo 157 (32 + 3 * k3) 0 0 0 0 0 14 hw0 fd (by omega) (by omega) (by omega)) w_1171 w_15 w_1168 w_1170 (bw_s 41 rfl) hd_Model_movePoint rfl ⟨by decide, by decide⟩ (OB.recv E.2.2.2.2.2 (by rfl) hm.1) hm hF hl.1 rfl (Nat.le_of_ble_eq_true rfl) d_Model_join_95 ⟨by decide, by decide⟩ (qv (fun H4 locs hq hF => ?_))
      obtain ⟨hq, fd_7, hm, hS9, hcp⟩ := hq
      have hfr := hfr.tr hq
      refine lv_aload_n hx hb d_Model_join_98 rfl (lv_at hl 0 rfl) ?_
      refine lv_sipush (v := nI 160) hx hb d_Model_join_99 (by decide) ?_
      refine q_cV (rest := []) E (c_Model_zero l g n0 mo 160 0 0 0 0 0 14 hw0  fd_7 (by omega) ) w_1000 w_15 w_997 w_999 (bw_s 23 rfl) hd_Model_zero rfl ⟨by decide, by decide⟩ (OB.recv E.2.2.2.2.2 (by rfl) hm.1) hm hF hl.1 rfl (Nat.le_of_ble_eq_true rfl) d_Model_join_102 ⟨by decide, by decide⟩ (qv (fun H5 locs hq hF => ?_))
      obtain ⟨hq, fd_8, hm, hpv⟩ := hq
      have hfr := hfr.tr hq
      refine lv_iload_n hx hb d_Model_join_105 rfl (lv_at hl 1 rfl) ?_
      refine lv_iconst (v := nI 3) hx hb d_Model_join_106 (by decide) ?_
      refine lv_icmp_ne (tgt := 123) hx hb d_Model_join_107 (by decide) (fun h9 => absurd (by decide) h9) (fun _ => ?_)
      refine lv_aload_n hx hb d_Model_join_110 rfl (lv_at hl 0 rfl) ?_
      refine lv_sipush (v := nI 158) hx hb d_Model_join_111 (by decide) ?_
      refine lv_sipush (v := nI 160) hx hb d_Model_join_114 (by decide) ?_
      refine lv_sipush (v := nI 158) hx hb d_Model_join_117 (by decide) ?_
      refine q_cV (rest := []) E (c_Model_less l g n0 mo 158 160 158 0 0 0 0 0 14 hw0  fd_8 (by omega) (by omega) (by omega) ) w_1109 w_15 w_1106 w_1108 (bw_s 31 rfl) hd_Model_less rfl ⟨by decide, by decide⟩ (OB.recv E.2.2.2.2.2 (by rfl) hm.1) hm hF hl.1 rfl (Nat.le_of_ble_eq_true rfl) d_Model_join_120 ⟨by decide, by decide⟩ (qv (fun H6 locs hq hF => ?_))
      obtain ⟨hq, fd_9, hm, hpv, hv⟩ := hq
      have hfr := hfr.tr (kjR hq)
      refine lv_aload_n hx hb d_Model_join_123 rfl (lv_at hl 0 rfl) ?_
      refine lv_sipush (v := nI 161) hx hb d_Model_join_124 (by decide) ?_
      refine lv_iload_n hx hb d_Model_join_127 rfl (lv_at hl 3 rfl) ?_
      refine q_cS (rest := [.int (nI 161), .ref mo]) E (c_Model_slot l g n0 (nI k2)) w_1154 w_15 w_1152 w_1153 hd_Model_slot rfl ⟨by decide, by decide⟩ trivial hF hl.1 rfl (Nat.le_of_ble_eq_true rfl) d_Model_join_128 ⟨by decide, by decide⟩ (qi (fun rs H7 locs hq hF => ?_))
      obtain ⟨hrs, hq9⟩ := hq
      subst hrs
      subst hq9
      refine lv_topi (fun t9 e9 => ?_)
      obtain rfl : t9 = nI (32 + 3 * k2) := e9.trans (by rw [pk_mul, nI_add])
      refine lv_sipush (v := nI 157) hx hb d_Model_join_131 (by decide) ?_
      refine q_cV (rest := []) E (c_Model_sum l g n0 mo 161 (32 + 3 * k2) 157 0 0 0 0 0 14 hw0 fd_9 (by omega) (by omega) (by omega) False False 0 0 (fun h => h.elim) (fun h => h.elim)) w_1175 w_15 w_1172 w_1174 (bw_s 42 rfl) hd_Model_sum rfl ⟨by decide, by decide⟩ (OB.recv E.2.2.2.2.2 (by rfl) hm.1) hm hF hl.1 rfl (Nat.le_of_ble_eq_true rfl) d_Model_join_134 ⟨by decide, by decide⟩ (qv (fun H8 locs hq hF => ?_))
      obtain ⟨hq, fd_10, hm, hS9, hC9, hD9⟩ := hq
      have hfr := hfr.tr hq
      refine lv_aload_n hx hb d_Model_join_137 rfl (lv_at hl 0 rfl) ?_
      refine lv_iload_n hx hb d_Model_join_138 rfl (lv_at hl 2 rfl) ?_
      refine q_cS (rest := [.ref mo]) E (c_Model_slot l g n0 (nI k1)) w_1154 w_15 w_1152 w_1153 hd_Model_slot rfl ⟨by decide, by decide⟩ trivial hF hl.1 rfl (Nat.le_of_ble_eq_true rfl) d_Model_join_139 ⟨by decide, by decide⟩ (qi (fun rs H9 locs hq hF => ?_))
      obtain ⟨hrs, hq9⟩ := hq
      subst hrs
      subst hq9
      refine lv_topi (fun t9 e9 => ?_)
      obtain rfl : t9 = nI (32 + 3 * k1) := e9.trans (by rw [pk_mul, nI_add])
      refine lv_sipush (v := nI 161) hx hb d_Model_join_142 (by decide) ?_
      refine q_cV (rest := []) E (c_Model_movePoint l g n0 mo (32 + 3 * k1) 161 0 0 0 0 0 14 hw0 fd_10 (by omega) (by omega) (by omega)) w_1171 w_15 w_1168 w_1170 (bw_s 41 rfl) hd_Model_movePoint rfl ⟨by decide, by decide⟩ (OB.recv E.2.2.2.2.2 (by rfl) hm.1) hm hF hl.1 rfl (Nat.le_of_ble_eq_true rfl) d_Model_join_145 ⟨by decide, by decide⟩ (qv (fun H10 locs hq hF => ?_))
      obtain ⟨hq, fd_11, hm, hS9, hcp⟩ := hq
      have hfr := hfr.tr hq
      exact q_vret E hr hlk (⟨rfl, Or.inl ⟨hok, ⟨_, _, _, _, _, _, hw0, hm⟩⟩⟩) hF d_Model_join_148
  refine lv_aload_n hx hb d_Model_join_0 rfl (lv_at hl 0 rfl) ?_
  refine lv_iload_n hx hb d_Model_join_1 rfl (lv_at hl 1 rfl) ?_
  refine lv_i2l (v := w0.toInt64) hx hb d_Model_join_2 rfl ?_
  refine lv_lconst (v := 0) hx hb d_Model_join_3 (by decide) ?_
  refine lv_ldc2 (v := 3) hx hb E.2.2.2.1 (E.2.2.2.2.1 _ w_1098) d_Model_join_4 ?_
  refine q_cS (rest := [.ref mo]) E (c_Model_in l g n0 w0.toInt64 0 3 ) w_1101 w_15 w_1099 w_1100 hd_Model_in rfl ⟨by decide, by decide⟩ trivial hF hl.1 rfl (Nat.le_of_ble_eq_true rfl) d_Model_join_7 ⟨by decide, by decide⟩ (qi (fun r_0 H1 locs hq hF => ?_))
  obtain ⟨h_0, hq⟩ := hq
  subst hq
  rcases h_0 with ⟨rfl, f_0⟩ | ⟨rfl, f_0⟩
  · skip
    refine lv_if_eq (tgt := 35) hx hb d_Model_join_10 (by decide) (fun _ => ?_) (fun h9 => absurd (by decide) h9)
    refine lv_iconst (v := nI 1) hx hb d_Model_join_35 (by decide) ?_
    refine lv_goto (tgt := 40) hx hb d_Model_join_36 (by decide) ?_
    have hl : lv_has ls 5 [(0, .ref mo), (1, .int w0), (2, .int a), (3, .int a2), (4, .int a3)] := lv_sub hl [0, 1, 2, 3, 4] rfl
    exact bad _ ls (fun h => (fun q => f_0 ((in_okC (a := 0) (b := 3) (by decide) (by decide) (by decide) (by decide)).mpr q)) h.1) hF hl
  · skip
    refine lv_if_eq (tgt := 35) hx hb d_Model_join_10 (by decide) (fun h9 => absurd h9 (by decide)) (fun _ => ?_)
    refine lv_iload_n hx hb d_Model_join_13 rfl (lv_at hl 2 rfl) ?_
    refine q_cS (rest := [.ref mo]) E (c_Model_noPoint l g n0 a ) w_1151 w_15 w_1149 w_1150 hd_Model_noPoint rfl ⟨by decide, by decide⟩ trivial hF hl.1 rfl (Nat.le_of_ble_eq_true rfl) d_Model_join_14 ⟨by decide, by decide⟩ (qi (fun r_1 H2 locs hq hF => ?_))
    obtain ⟨h_1, hq⟩ := hq
    subst hq
    rcases h_1 with ⟨rfl, f_1⟩ | ⟨rfl, f_1⟩
    · skip
      refine lv_if_ne (tgt := 35) hx hb d_Model_join_17 (by decide) (fun _ => ?_) (fun h9 => absurd h9 (by decide))
      refine lv_iconst (v := nI 1) hx hb d_Model_join_35 (by decide) ?_
      refine lv_goto (tgt := 40) hx hb d_Model_join_36 (by decide) ?_
      have hl : lv_has ls 5 [(0, .ref mo), (1, .int w0), (2, .int a), (3, .int a2), (4, .int a3)] := lv_sub hl [0, 1, 2, 3, 4] rfl
      exact bad _ ls (fun h => (f_1) h.2.1) hF hl
    · skip
      refine lv_if_ne (tgt := 35) hx hb d_Model_join_17 (by decide) (fun h9 => absurd (by decide) h9) (fun _ => ?_)
      refine lv_iload_n hx hb d_Model_join_20 rfl (lv_at hl 3 rfl) ?_
      refine q_cS (rest := [.ref mo]) E (c_Model_noPoint l g n0 a2 ) w_1151 w_15 w_1149 w_1150 hd_Model_noPoint rfl ⟨by decide, by decide⟩ trivial hF hl.1 rfl (Nat.le_of_ble_eq_true rfl) d_Model_join_21 ⟨by decide, by decide⟩ (qi (fun r_2 H3 locs hq hF => ?_))
      obtain ⟨h_2, hq⟩ := hq
      subst hq
      rcases h_2 with ⟨rfl, f_2⟩ | ⟨rfl, f_2⟩
      · skip
        refine lv_if_ne (tgt := 35) hx hb d_Model_join_24 (by decide) (fun _ => ?_) (fun h9 => absurd h9 (by decide))
        refine lv_iconst (v := nI 1) hx hb d_Model_join_35 (by decide) ?_
        refine lv_goto (tgt := 40) hx hb d_Model_join_36 (by decide) ?_
        have hl : lv_has ls 5 [(0, .ref mo), (1, .int w0), (2, .int a), (3, .int a2), (4, .int a3)] := lv_sub hl [0, 1, 2, 3, 4] rfl
        exact bad _ ls (fun h => (f_2) h.2.2.1) hF hl
      · skip
        refine lv_if_ne (tgt := 35) hx hb d_Model_join_24 (by decide) (fun h9 => absurd (by decide) h9) (fun _ => ?_)
        refine lv_iload hx hb d_Model_join_27 (lv_at hl 4 rfl) ?_
        refine q_cS (rest := [.ref mo]) E (c_Model_noPoint l g n0 a3 ) w_1151 w_15 w_1149 w_1150 hd_Model_noPoint rfl ⟨by decide, by decide⟩ trivial hF hl.1 rfl (Nat.le_of_ble_eq_true rfl) d_Model_join_29 ⟨by decide, by decide⟩ (qi (fun r_3 H4 locs hq hF => ?_))
        obtain ⟨h_3, hq⟩ := hq
        subst hq
        rcases h_3 with ⟨rfl, f_3⟩ | ⟨rfl, f_3⟩
        · skip
          refine lv_if_eq (tgt := 39) hx hb d_Model_join_32 (by decide) (fun h9 => absurd h9 (by decide)) (fun _ => ?_)
          refine lv_iconst (v := nI 1) hx hb d_Model_join_35 (by decide) ?_
          refine lv_goto (tgt := 40) hx hb d_Model_join_36 (by decide) ?_
          have hl : lv_has ls 5 [(0, .ref mo), (1, .int w0), (2, .int a), (3, .int a2), (4, .int a3)] := lv_sub hl [0, 1, 2, 3, 4] rfl
          exact bad _ ls (fun h => (f_3) h.2.2.2) hF hl
        · skip
          refine lv_if_eq (tgt := 39) hx hb d_Model_join_32 (by decide) (fun _ => ?_) (fun h9 => absurd (by decide) h9)
          refine lv_iconst (v := nI 0) hx hb d_Model_join_39 (by decide) ?_
          have hl : lv_has ls 5 [(0, .ref mo), (1, .int w0), (2, .int a), (3, .int a2), (4, .int a3)] := lv_sub hl [0, 1, 2, 3, 4] rfl
          exact good _ ls ⟨(in_okC (a := 0) (b := 3) (by decide) (by decide) (by decide) (by decide)).mp f_0, f_1, f_2, f_3⟩ hF hl
set_option maxHeartbeats 4000000 in
set_option maxRecDepth 100000 in
theorem c_Model_reckon (l : Launch) (g : WG) (n0 : Nat → Prop) (mo : Nat) (w0 : Int32) (a : Int32) (a2 : Int32) (a3 : Int32) (fd : Nat → Int64) (hmn : n0 mo) (hz : FZ fd) : Ctr l y_Model_reckon (.code y_Model_reckon prog_11_method_41_code 5 none) 3 79 0 0 n0 g [.ref mo, .int w0, .int a, .int a2, .int a3] (fun H => MS g n0 H mo 0 0 0 0 0 14 fd) (QV (fun H H' => ((okC w0 (nI 0) (nI 3) ∧ okS a (nI 1) ∧ okS a2 (nI 1) ∧ okS a3 (nI 1)) ∧ ((¬ w0 = nI 3 ∧ TH g n0 H' mo 0) ∨ (w0 = nI 3 ∧ TH g n0 H' mo (nI 2)))) ∨ (¬ (okC w0 (nI 0) (nI 3) ∧ okS a (nI 1) ∧ okS a2 (nI 1) ∧ okS a3 (nI 1)) ∧ TH g n0 H' mo 1))) := by
  refine ctr_mk l (lv0 := [(0, .ref mo), (1, .int w0), (2, .int a), (3, .int a2), (4, .int a3)]) (by decide) (Nat.le_of_ble_eq_true rfl) rfl ?_
  intro p e s m below meth c ls E hr hlk hnm hl hP
  have hx := E.1
  have hb := E.2.1
  have hK := E.2.2.2.2.2
  have hF : ∀ q ∈ ([] : List Loc), n0 q.base := fun q hq => absurd hq List.not_mem_nil
  have hm := hP
  have hfr : FRM (MR mo) s.heap s.heap := FRM.rf
  have bad : ∀ (locs : List Loc) (ls : Array Slot), ¬ (okC w0 (nI 0) (nI 3) ∧ okS a (nI 1) ∧ okS a2 (nI 1) ∧ okS a3 (nI 1)) → (∀ q ∈ locs, n0 q.base) → lv_has ls 5 [(0, .ref mo), (1, .int w0), (2, .int a), (3, .int a2), (4, .int a3)] → W p l e { frames := 3, cells := 0, slots := 0, locals := 79 } s m [.ref mo, .int w0, .int a, .int a2, .int a3].toArray below meth c s.heap locs 0 0 (MQ below (QcP (QV (fun H H' => ((okC w0 (nI 0) (nI 3) ∧ okS a (nI 1) ∧ okS a2 (nI 1) ∧ okS a3 (nI 1)) ∧ ((¬ w0 = nI 3 ∧ TH g n0 H' mo 0) ∨ (w0 = nI 3 ∧ TH g n0 H' mo (nI 2)))) ∨ (¬ (okC w0 (nI 0) (nI 3) ∧ okS a (nI 1) ∧ okS a2 (nI 1) ∧ okS a3 (nI 1)) ∧ TH g n0 H' mo 1)))) [.ref mo, .int w0, .int a, .int a2, .int a3].toArray s 0 0 (fun q => n0 q)) (F0 m 40 ls [.int (nI 1), .ref mo]) := by
    intro  locs   ls hno hF hl
    refine lv_iconst (v := nI 1) hx hb d_Model_reckon_40 (by decide) ?_
    refine q_cV (rest := []) E (c_Model_fails l g n0 mo 0 0 0 0 0 14 hw0 (nI 1) (nI 1) fd hmn (Or.inl rfl)) w_1056 w_15 w_1053 w_1055 (bw_s 24 rfl) hd_Model_fails rfl ⟨by decide, by decide⟩ (OB.recv E.2.2.2.2.2 (by rfl) hm.1) hm hF hl.1 rfl (Nat.le_of_ble_eq_true rfl) d_Model_reckon_41 ⟨by decide, by decide⟩ (qi (fun rf H1 locs hq hF => ?_))
    obtain ⟨hrf, hq, hm⟩ := hq
    subst hrf
    have hfr := hfr.tr hq
    rw [if_neg (by decide)] at hm
    refine lv_if_ne (tgt := 77) hx hb d_Model_reckon_44 (by decide) (fun _ => ?_) (fun h9 => absurd h9 (by decide))
    exact q_vret E hr hlk (⟨rfl, Or.inr ⟨hno, ⟨_, _, _, _, _, _, hw0, hm⟩⟩⟩) hF d_Model_reckon_77
  have good : ∀ (locs : List Loc) (ls : Array Slot), okC w0 (nI 0) (nI 3) ∧ okS a (nI 1) ∧ okS a2 (nI 1) ∧ okS a3 (nI 1) → (∀ q ∈ locs, n0 q.base) → lv_has ls 5 [(0, .ref mo), (1, .int w0), (2, .int a), (3, .int a2), (4, .int a3)] → W p l e { frames := 3, cells := 0, slots := 0, locals := 79 } s m [.ref mo, .int w0, .int a, .int a2, .int a3].toArray below meth c s.heap locs 0 0 (MQ below (QcP (QV (fun H H' => ((okC w0 (nI 0) (nI 3) ∧ okS a (nI 1) ∧ okS a2 (nI 1) ∧ okS a3 (nI 1)) ∧ ((¬ w0 = nI 3 ∧ TH g n0 H' mo 0) ∨ (w0 = nI 3 ∧ TH g n0 H' mo (nI 2)))) ∨ (¬ (okC w0 (nI 0) (nI 3) ∧ okS a (nI 1) ∧ okS a2 (nI 1) ∧ okS a3 (nI 1)) ∧ TH g n0 H' mo 1)))) [.ref mo, .int w0, .int a, .int a2, .int a3].toArray s 0 0 (fun q => n0 q)) (F0 m 40 ls [.int (nI 0), .ref mo]) := by
    intro  locs   ls hok hF hl
    refine lv_iconst (v := nI 1) hx hb d_Model_reckon_40 (by decide) ?_
    refine q_cV (rest := []) E (c_Model_fails l g n0 mo 0 0 0 0 0 14 hw0 (nI 0) (nI 1) fd hmn (Or.inr rfl)) w_1056 w_15 w_1053 w_1055 (bw_s 24 rfl) hd_Model_fails rfl ⟨by decide, by decide⟩ (OB.recv E.2.2.2.2.2 (by rfl) hm.1) hm hF hl.1 rfl (Nat.le_of_ble_eq_true rfl) d_Model_reckon_41 ⟨by decide, by decide⟩ (qi (fun rf H1 locs hq hF => ?_))
    obtain ⟨hrf, hq, hm⟩ := hq
    subst hrf
    have hfr := hfr.tr hq
    rw [if_pos nI_0] at hm
    refine lv_if_ne (tgt := 77) hx hb d_Model_reckon_44 (by decide) (fun h9 => absurd (by decide) h9) (fun _ => ?_)
    obtain ⟨k0, e_k0, h_k0, h2_k0⟩ := okC_nat (by decide) (by decide) hok.1
    rw [e_k0] at hl
    obtain ⟨k1, e_k1, h_k1⟩ := okS_nat (by decide) (by decide) hok.2.1
    rw [e_k1] at hl
    obtain ⟨k2, e_k2, h_k2⟩ := okS_nat (by decide) (by decide) hok.2.2.1
    rw [e_k2] at hl
    obtain ⟨k3, e_k3, h_k3⟩ := okS_nat (by decide) (by decide) hok.2.2.2
    rw [e_k3] at hl
    obtain ⟨hq9, -⟩ : k0 ≤ 3 ∧ True := ⟨h2_k0, trivial⟩
    match k0, hq9 with
    | 0, _ =>
      refine lv_aload_n hx hb d_Model_reckon_47 rfl (lv_at hl 0 rfl) ?_
      refine lv_iload_n hx hb d_Model_reckon_48 rfl (lv_at hl 1 rfl) ?_
      refine lv_iconst (v := nI 3) hx hb d_Model_reckon_49 (by decide) ?_
      refine lv_icmp_ne (tgt := 69) hx hb d_Model_reckon_50 (by decide) (fun _ => ?_) (fun h9 => absurd h9 (by decide))
      refine lv_iconst (v := nI 0) hx hb d_Model_reckon_69 (by decide) ?_
      refine lv_iconst (v := nI 2) hx hb d_Model_reckon_70 (by decide) ?_
      refine q_cV (rest := []) E (c_Model_fails l g n0 mo 0 0 0 0 0 14 hw0 (nI 0) (nI 2) fd hmn (Or.inr rfl)) w_1056 w_15 w_1053 w_1055 (bw_s 24 rfl) hd_Model_fails rfl ⟨by decide, by decide⟩ (OB.recv E.2.2.2.2.2 (by rfl) hm.1) hm hF hl.1 rfl (Nat.le_of_ble_eq_true rfl) d_Model_reckon_71 ⟨by decide, by decide⟩ (qi (fun rf H2 locs hq hF => ?_))
      obtain ⟨hrf, hq, hm⟩ := hq
      subst hrf
      have hfr := hfr.tr hq
      rw [if_pos nI_0] at hm
      refine lv_if_eq (tgt := 78) hx hb d_Model_reckon_74 (by decide) (fun _ => ?_) (fun h9 => absurd (by decide) h9)
      refine lv_aload_n hx hb d_Model_reckon_78 rfl (lv_at hl 0 rfl) ?_
      refine lv_iconst (v := nI 1) hx hb d_Model_reckon_79 (by decide) ?_
      refine q_cV (rest := []) E (c_Model_use l g n0 mo 0 0 0 0 0 14 hw0 1 10 hw1 fd hmn) w_967 w_15 w_964 w_966 (bw_s 15 rfl) hd_Model_use rfl ⟨by decide, by decide⟩ (OB.recv E.2.2.2.2.2 (by rfl) hm.1) hm hF hl.1 rfl (Nat.le_of_ble_eq_true rfl) d_Model_reckon_80 ⟨by decide, by decide⟩ (qv (fun H3 locs hq hF => ?_))
      obtain ⟨hq, hm⟩ := hq
      have hfr := hfr.tr hq
      refine lv_iload_n hx hb d_Model_reckon_83 rfl (lv_at hl 1 rfl) ?_
      refine lv_if_ne (tgt := 95) hx hb d_Model_reckon_84 (by decide) (fun h9 => absurd (by decide) h9) (fun _ => ?_)
      refine lv_aload_n hx hb d_Model_reckon_87 rfl (lv_at hl 0 rfl) ?_
      refine lv_iload_n hx hb d_Model_reckon_88 rfl (lv_at hl 2 rfl) ?_
      refine lv_iload_n hx hb d_Model_reckon_89 rfl (lv_at hl 3 rfl) ?_
      refine lv_iload hx hb d_Model_reckon_90 (lv_at hl 4 rfl) ?_
      refine q_cV (rest := []) E (c_Model_add l g n0 mo k1 k2 k3 0 0 0 0 1 10 hw1  fd (by omega) (by omega) (by omega) ) w_975 w_15 w_972 w_974 (bw_s 17 rfl) hd_Model_add rfl ⟨by decide, by decide⟩ (OB.recv E.2.2.2.2.2 (by rfl) hm.1) hm hF hl.1 rfl (Nat.le_of_ble_eq_true rfl) d_Model_reckon_92 ⟨by decide, by decide⟩ (qv (fun H4 locs hq hF => ?_))
      obtain ⟨hq, fd_1, hm, hpv, hv⟩ := hq
      have hfr := hfr.tr (kjR hq)
      refine lv_iload_n hx hb d_Model_reckon_95 rfl (lv_at hl 1 rfl) ?_
      refine lv_iconst (v := nI 1) hx hb d_Model_reckon_96 (by decide) ?_
      refine lv_icmp_ne (tgt := 108) hx hb d_Model_reckon_97 (by decide) (fun _ => ?_) (fun h9 => absurd h9 (by decide))
      refine lv_iload_n hx hb d_Model_reckon_108 rfl (lv_at hl 1 rfl) ?_
      refine lv_iconst (v := nI 2) hx hb d_Model_reckon_109 (by decide) ?_
      refine lv_icmp_ne (tgt := 121) hx hb d_Model_reckon_110 (by decide) (fun _ => ?_) (fun h9 => absurd h9 (by decide))
      refine lv_iload_n hx hb d_Model_reckon_121 rfl (lv_at hl 1 rfl) ?_
      refine lv_iconst (v := nI 3) hx hb d_Model_reckon_122 (by decide) ?_
      refine lv_icmp_ge (tgt := 127) hx hb d_Model_reckon_123 (by decide) (fun h9 => absurd h9 (by decide)) (fun _ => ?_)
      exact q_vret E hr hlk (⟨rfl, Or.inl ⟨hok, Or.inl ⟨by rw [e_k0]; decide, ⟨_, _, _, _, _, _, hw1, hm⟩⟩⟩⟩) hF d_Model_reckon_126
    | 1, _ =>
      refine lv_aload_n hx hb d_Model_reckon_47 rfl (lv_at hl 0 rfl) ?_
      refine lv_iload_n hx hb d_Model_reckon_48 rfl (lv_at hl 1 rfl) ?_
      refine lv_iconst (v := nI 3) hx hb d_Model_reckon_49 (by decide) ?_
      refine lv_icmp_ne (tgt := 69) hx hb d_Model_reckon_50 (by decide) (fun _ => ?_) (fun h9 => absurd h9 (by decide))
      refine lv_iconst (v := nI 0) hx hb d_Model_reckon_69 (by decide) ?_
      refine lv_iconst (v := nI 2) hx hb d_Model_reckon_70 (by decide) ?_
      refine q_cV (rest := []) E (c_Model_fails l g n0 mo 0 0 0 0 0 14 hw0 (nI 0) (nI 2) fd hmn (Or.inr rfl)) w_1056 w_15 w_1053 w_1055 (bw_s 24 rfl) hd_Model_fails rfl ⟨by decide, by decide⟩ (OB.recv E.2.2.2.2.2 (by rfl) hm.1) hm hF hl.1 rfl (Nat.le_of_ble_eq_true rfl) d_Model_reckon_71 ⟨by decide, by decide⟩ (qi (fun rf H2 locs hq hF => ?_))
      obtain ⟨hrf, hq, hm⟩ := hq
      subst hrf
      have hfr := hfr.tr hq
      rw [if_pos nI_0] at hm
      refine lv_if_eq (tgt := 78) hx hb d_Model_reckon_74 (by decide) (fun _ => ?_) (fun h9 => absurd (by decide) h9)
      refine lv_aload_n hx hb d_Model_reckon_78 rfl (lv_at hl 0 rfl) ?_
      refine lv_iconst (v := nI 1) hx hb d_Model_reckon_79 (by decide) ?_
      refine q_cV (rest := []) E (c_Model_use l g n0 mo 0 0 0 0 0 14 hw0 1 10 hw1 fd hmn) w_967 w_15 w_964 w_966 (bw_s 15 rfl) hd_Model_use rfl ⟨by decide, by decide⟩ (OB.recv E.2.2.2.2.2 (by rfl) hm.1) hm hF hl.1 rfl (Nat.le_of_ble_eq_true rfl) d_Model_reckon_80 ⟨by decide, by decide⟩ (qv (fun H3 locs hq hF => ?_))
      obtain ⟨hq, hm⟩ := hq
      have hfr := hfr.tr hq
      refine lv_iload_n hx hb d_Model_reckon_83 rfl (lv_at hl 1 rfl) ?_
      refine lv_if_ne (tgt := 95) hx hb d_Model_reckon_84 (by decide) (fun _ => ?_) (fun h9 => absurd h9 (by decide))
      refine lv_iload_n hx hb d_Model_reckon_95 rfl (lv_at hl 1 rfl) ?_
      refine lv_iconst (v := nI 1) hx hb d_Model_reckon_96 (by decide) ?_
      refine lv_icmp_ne (tgt := 108) hx hb d_Model_reckon_97 (by decide) (fun h9 => absurd (by decide) h9) (fun _ => ?_)
      refine lv_aload_n hx hb d_Model_reckon_100 rfl (lv_at hl 0 rfl) ?_
      refine lv_iload_n hx hb d_Model_reckon_101 rfl (lv_at hl 2 rfl) ?_
      refine lv_iload_n hx hb d_Model_reckon_102 rfl (lv_at hl 3 rfl) ?_
      refine lv_iload hx hb d_Model_reckon_103 (lv_at hl 4 rfl) ?_
      refine q_cV (rest := []) E (c_Model_less l g n0 mo k1 k2 k3 0 0 0 0 1 10 hw1  fd (by omega) (by omega) (by omega) ) w_1109 w_15 w_1106 w_1108 (bw_s 31 rfl) hd_Model_less rfl ⟨by decide, by decide⟩ (OB.recv E.2.2.2.2.2 (by rfl) hm.1) hm hF hl.1 rfl (Nat.le_of_ble_eq_true rfl) d_Model_reckon_105 ⟨by decide, by decide⟩ (qv (fun H4 locs hq hF => ?_))
      obtain ⟨hq, fd_2, hm, hpv, hv⟩ := hq
      have hfr := hfr.tr (kjR hq)
      refine lv_iload_n hx hb d_Model_reckon_108 rfl (lv_at hl 1 rfl) ?_
      refine lv_iconst (v := nI 2) hx hb d_Model_reckon_109 (by decide) ?_
      refine lv_icmp_ne (tgt := 121) hx hb d_Model_reckon_110 (by decide) (fun _ => ?_) (fun h9 => absurd h9 (by decide))
      refine lv_iload_n hx hb d_Model_reckon_121 rfl (lv_at hl 1 rfl) ?_
      refine lv_iconst (v := nI 3) hx hb d_Model_reckon_122 (by decide) ?_
      refine lv_icmp_ge (tgt := 127) hx hb d_Model_reckon_123 (by decide) (fun h9 => absurd h9 (by decide)) (fun _ => ?_)
      exact q_vret E hr hlk (⟨rfl, Or.inl ⟨hok, Or.inl ⟨by rw [e_k0]; decide, ⟨_, _, _, _, _, _, hw1, hm⟩⟩⟩⟩) hF d_Model_reckon_126
    | 2, _ =>
      refine lv_aload_n hx hb d_Model_reckon_47 rfl (lv_at hl 0 rfl) ?_
      refine lv_iload_n hx hb d_Model_reckon_48 rfl (lv_at hl 1 rfl) ?_
      refine lv_iconst (v := nI 3) hx hb d_Model_reckon_49 (by decide) ?_
      refine lv_icmp_ne (tgt := 69) hx hb d_Model_reckon_50 (by decide) (fun _ => ?_) (fun h9 => absurd h9 (by decide))
      refine lv_iconst (v := nI 0) hx hb d_Model_reckon_69 (by decide) ?_
      refine lv_iconst (v := nI 2) hx hb d_Model_reckon_70 (by decide) ?_
      refine q_cV (rest := []) E (c_Model_fails l g n0 mo 0 0 0 0 0 14 hw0 (nI 0) (nI 2) fd hmn (Or.inr rfl)) w_1056 w_15 w_1053 w_1055 (bw_s 24 rfl) hd_Model_fails rfl ⟨by decide, by decide⟩ (OB.recv E.2.2.2.2.2 (by rfl) hm.1) hm hF hl.1 rfl (Nat.le_of_ble_eq_true rfl) d_Model_reckon_71 ⟨by decide, by decide⟩ (qi (fun rf H2 locs hq hF => ?_))
      obtain ⟨hrf, hq, hm⟩ := hq
      subst hrf
      have hfr := hfr.tr hq
      rw [if_pos nI_0] at hm
      refine lv_if_eq (tgt := 78) hx hb d_Model_reckon_74 (by decide) (fun _ => ?_) (fun h9 => absurd (by decide) h9)
      refine lv_aload_n hx hb d_Model_reckon_78 rfl (lv_at hl 0 rfl) ?_
      refine lv_iconst (v := nI 1) hx hb d_Model_reckon_79 (by decide) ?_
      refine q_cV (rest := []) E (c_Model_use l g n0 mo 0 0 0 0 0 14 hw0 1 10 hw1 fd hmn) w_967 w_15 w_964 w_966 (bw_s 15 rfl) hd_Model_use rfl ⟨by decide, by decide⟩ (OB.recv E.2.2.2.2.2 (by rfl) hm.1) hm hF hl.1 rfl (Nat.le_of_ble_eq_true rfl) d_Model_reckon_80 ⟨by decide, by decide⟩ (qv (fun H3 locs hq hF => ?_))
      obtain ⟨hq, hm⟩ := hq
      have hfr := hfr.tr hq
      refine lv_iload_n hx hb d_Model_reckon_83 rfl (lv_at hl 1 rfl) ?_
      refine lv_if_ne (tgt := 95) hx hb d_Model_reckon_84 (by decide) (fun _ => ?_) (fun h9 => absurd h9 (by decide))
      refine lv_iload_n hx hb d_Model_reckon_95 rfl (lv_at hl 1 rfl) ?_
      refine lv_iconst (v := nI 1) hx hb d_Model_reckon_96 (by decide) ?_
      refine lv_icmp_ne (tgt := 108) hx hb d_Model_reckon_97 (by decide) (fun _ => ?_) (fun h9 => absurd h9 (by decide))
      refine lv_iload_n hx hb d_Model_reckon_108 rfl (lv_at hl 1 rfl) ?_
      refine lv_iconst (v := nI 2) hx hb d_Model_reckon_109 (by decide) ?_
      refine lv_icmp_ne (tgt := 121) hx hb d_Model_reckon_110 (by decide) (fun h9 => absurd (by decide) h9) (fun _ => ?_)
      refine lv_aload_n hx hb d_Model_reckon_113 rfl (lv_at hl 0 rfl) ?_
      refine lv_iload_n hx hb d_Model_reckon_114 rfl (lv_at hl 2 rfl) ?_
      refine lv_iload_n hx hb d_Model_reckon_115 rfl (lv_at hl 3 rfl) ?_
      refine lv_iload hx hb d_Model_reckon_116 (lv_at hl 4 rfl) ?_
      refine q_cV (rest := []) E (c_Model_product l g n0 mo k1 k2 k3 0 0 0 0 1 10 hw1  fd (by omega) (by omega) (by omega) ) w_1113 w_15 w_1110 w_1112 (bw_s 32 rfl) hd_Model_product rfl ⟨by decide, by decide⟩ (OB.recv E.2.2.2.2.2 (by rfl) hm.1) hm hF hl.1 rfl (Nat.le_of_ble_eq_true rfl) d_Model_reckon_118 ⟨by decide, by decide⟩ (qv (fun H4 locs hq hF => ?_))
      obtain ⟨hq, fd_3, hm, hpv, hv⟩ := hq
      have hfr := hfr.tr (kjR hq)
      refine lv_iload_n hx hb d_Model_reckon_121 rfl (lv_at hl 1 rfl) ?_
      refine lv_iconst (v := nI 3) hx hb d_Model_reckon_122 (by decide) ?_
      refine lv_icmp_ge (tgt := 127) hx hb d_Model_reckon_123 (by decide) (fun h9 => absurd h9 (by decide)) (fun _ => ?_)
      exact q_vret E hr hlk (⟨rfl, Or.inl ⟨hok, Or.inl ⟨by rw [e_k0]; decide, ⟨_, _, _, _, _, _, hw1, hm⟩⟩⟩⟩) hF d_Model_reckon_126
    | 3, _ =>
      refine lv_aload_n hx hb d_Model_reckon_47 rfl (lv_at hl 0 rfl) ?_
      refine lv_iload_n hx hb d_Model_reckon_48 rfl (lv_at hl 1 rfl) ?_
      refine lv_iconst (v := nI 3) hx hb d_Model_reckon_49 (by decide) ?_
      refine lv_icmp_ne (tgt := 69) hx hb d_Model_reckon_50 (by decide) (fun h9 => absurd (by decide) h9) (fun _ => ?_)
      refine lv_aload_n hx hb d_Model_reckon_53 rfl (lv_at hl 0 rfl) ?_
      refine lv_iload hx hb d_Model_reckon_54 (lv_at hl 4 rfl) ?_
      refine lv_bipush (v := nI 31) hx hb d_Model_reckon_56 (by decide) ?_
      refine lv_iand hx hb d_Model_reckon_58 ?_
      refine lv_topi (fun t9 e9 => ?_)
      obtain rfl : t9 = nI k3 := e9.trans (by rw [pk_andN (by omega) (k := 5) (by decide), Nat.mod_eq_of_lt (by omega)])
      refine q_cV (rest := [.ref mo]) E (c_Model_isZero l g n0 mo k3 0 0 0 0 0 14 hw0 fd (by omega)) w_1105 w_15 w_1102 w_1104 (bw_s 30 rfl) hd_Model_isZero rfl ⟨by decide, by decide⟩ (OB.recv E.2.2.2.2.2 (by rfl) hm.1) hm hF hl.1 rfl (Nat.le_of_ble_eq_true rfl) d_Model_reckon_59 ⟨by decide, by decide⟩ (qi (fun rz H2 locs hq hF => ?_))
      obtain ⟨⟨-, hrz⟩, hq⟩ := hq
      subst hq
      obtain rfl := hrz (hz.1 k3 (by omega))
      refine lv_if_eq (tgt := 69) hx hb d_Model_reckon_62 (by decide) (fun h9 => absurd h9 (by decide)) (fun _ => ?_)
      refine lv_iconst (v := nI 1) hx hb d_Model_reckon_65 (by decide) ?_
      refine lv_goto (tgt := 70) hx hb d_Model_reckon_66 (by decide) ?_
      refine lv_iconst (v := nI 2) hx hb d_Model_reckon_70 (by decide) ?_
      refine q_cV (rest := []) E (c_Model_fails l g n0 mo 0 0 0 0 0 14 hw0 (nI 1) (nI 2) fd hmn (Or.inl rfl)) w_1056 w_15 w_1053 w_1055 (bw_s 24 rfl) hd_Model_fails rfl ⟨by decide, by decide⟩ (OB.recv E.2.2.2.2.2 (by rfl) hm.1) hm hF hl.1 rfl (Nat.le_of_ble_eq_true rfl) d_Model_reckon_71 ⟨by decide, by decide⟩ (qi (fun rf H3 locs hq hF => ?_))
      obtain ⟨hrf, hq, hm⟩ := hq
      subst hrf
      have hfr := hfr.tr hq
      rw [if_neg (by decide)] at hm
      refine lv_if_eq (tgt := 78) hx hb d_Model_reckon_74 (by decide) (fun h9 => absurd h9 (by decide)) (fun _ => ?_)
      exact q_vret E hr hlk (⟨rfl, Or.inl ⟨hok, Or.inr ⟨e_k0, ⟨_, _, _, _, _, _, hw0, hm⟩⟩⟩⟩) hF d_Model_reckon_77
  refine lv_aload_n hx hb d_Model_reckon_0 rfl (lv_at hl 0 rfl) ?_
  refine lv_iload_n hx hb d_Model_reckon_1 rfl (lv_at hl 1 rfl) ?_
  refine lv_i2l (v := w0.toInt64) hx hb d_Model_reckon_2 rfl ?_
  refine lv_lconst (v := 0) hx hb d_Model_reckon_3 (by decide) ?_
  refine lv_ldc2 (v := 3) hx hb E.2.2.2.1 (E.2.2.2.2.1 _ w_1098) d_Model_reckon_4 ?_
  refine q_cS (rest := [.ref mo]) E (c_Model_in l g n0 w0.toInt64 0 3 ) w_1101 w_15 w_1099 w_1100 hd_Model_in rfl ⟨by decide, by decide⟩ trivial hF hl.1 rfl (Nat.le_of_ble_eq_true rfl) d_Model_reckon_7 ⟨by decide, by decide⟩ (qi (fun r_0 H1 locs hq hF => ?_))
  obtain ⟨h_0, hq⟩ := hq
  subst hq
  rcases h_0 with ⟨rfl, f_0⟩ | ⟨rfl, f_0⟩
  · skip
    refine lv_if_eq (tgt := 35) hx hb d_Model_reckon_10 (by decide) (fun _ => ?_) (fun h9 => absurd (by decide) h9)
    refine lv_iconst (v := nI 1) hx hb d_Model_reckon_35 (by decide) ?_
    refine lv_goto (tgt := 40) hx hb d_Model_reckon_36 (by decide) ?_
    have hl : lv_has ls 5 [(0, .ref mo), (1, .int w0), (2, .int a), (3, .int a2), (4, .int a3)] := lv_sub hl [0, 1, 2, 3, 4] rfl
    exact bad _ ls (fun h => (fun q => f_0 ((in_okC (a := 0) (b := 3) (by decide) (by decide) (by decide) (by decide)).mpr q)) h.1) hF hl
  · skip
    refine lv_if_eq (tgt := 35) hx hb d_Model_reckon_10 (by decide) (fun h9 => absurd h9 (by decide)) (fun _ => ?_)
    refine lv_iload_n hx hb d_Model_reckon_13 rfl (lv_at hl 2 rfl) ?_
    refine q_cS (rest := [.ref mo]) E (c_Model_noScalar l g n0 a ) w_1064 w_15 w_1062 w_1063 hd_Model_noScalar rfl ⟨by decide, by decide⟩ trivial hF hl.1 rfl (Nat.le_of_ble_eq_true rfl) d_Model_reckon_14 ⟨by decide, by decide⟩ (qi (fun r_1 H2 locs hq hF => ?_))
    obtain ⟨h_1, hq⟩ := hq
    subst hq
    rcases h_1 with ⟨rfl, f_1⟩ | ⟨rfl, f_1⟩
    · skip
      refine lv_if_ne (tgt := 35) hx hb d_Model_reckon_17 (by decide) (fun _ => ?_) (fun h9 => absurd h9 (by decide))
      refine lv_iconst (v := nI 1) hx hb d_Model_reckon_35 (by decide) ?_
      refine lv_goto (tgt := 40) hx hb d_Model_reckon_36 (by decide) ?_
      have hl : lv_has ls 5 [(0, .ref mo), (1, .int w0), (2, .int a), (3, .int a2), (4, .int a3)] := lv_sub hl [0, 1, 2, 3, 4] rfl
      exact bad _ ls (fun h => (f_1) h.2.1) hF hl
    · skip
      refine lv_if_ne (tgt := 35) hx hb d_Model_reckon_17 (by decide) (fun h9 => absurd (by decide) h9) (fun _ => ?_)
      refine lv_iload_n hx hb d_Model_reckon_20 rfl (lv_at hl 3 rfl) ?_
      refine q_cS (rest := [.ref mo]) E (c_Model_noScalar l g n0 a2 ) w_1064 w_15 w_1062 w_1063 hd_Model_noScalar rfl ⟨by decide, by decide⟩ trivial hF hl.1 rfl (Nat.le_of_ble_eq_true rfl) d_Model_reckon_21 ⟨by decide, by decide⟩ (qi (fun r_2 H3 locs hq hF => ?_))
      obtain ⟨h_2, hq⟩ := hq
      subst hq
      rcases h_2 with ⟨rfl, f_2⟩ | ⟨rfl, f_2⟩
      · skip
        refine lv_if_ne (tgt := 35) hx hb d_Model_reckon_24 (by decide) (fun _ => ?_) (fun h9 => absurd h9 (by decide))
        refine lv_iconst (v := nI 1) hx hb d_Model_reckon_35 (by decide) ?_
        refine lv_goto (tgt := 40) hx hb d_Model_reckon_36 (by decide) ?_
        have hl : lv_has ls 5 [(0, .ref mo), (1, .int w0), (2, .int a), (3, .int a2), (4, .int a3)] := lv_sub hl [0, 1, 2, 3, 4] rfl
        exact bad _ ls (fun h => (f_2) h.2.2.1) hF hl
      · skip
        refine lv_if_ne (tgt := 35) hx hb d_Model_reckon_24 (by decide) (fun h9 => absurd (by decide) h9) (fun _ => ?_)
        refine lv_iload hx hb d_Model_reckon_27 (lv_at hl 4 rfl) ?_
        refine q_cS (rest := [.ref mo]) E (c_Model_noScalar l g n0 a3 ) w_1064 w_15 w_1062 w_1063 hd_Model_noScalar rfl ⟨by decide, by decide⟩ trivial hF hl.1 rfl (Nat.le_of_ble_eq_true rfl) d_Model_reckon_29 ⟨by decide, by decide⟩ (qi (fun r_3 H4 locs hq hF => ?_))
        obtain ⟨h_3, hq⟩ := hq
        subst hq
        rcases h_3 with ⟨rfl, f_3⟩ | ⟨rfl, f_3⟩
        · skip
          refine lv_if_eq (tgt := 39) hx hb d_Model_reckon_32 (by decide) (fun h9 => absurd h9 (by decide)) (fun _ => ?_)
          refine lv_iconst (v := nI 1) hx hb d_Model_reckon_35 (by decide) ?_
          refine lv_goto (tgt := 40) hx hb d_Model_reckon_36 (by decide) ?_
          have hl : lv_has ls 5 [(0, .ref mo), (1, .int w0), (2, .int a), (3, .int a2), (4, .int a3)] := lv_sub hl [0, 1, 2, 3, 4] rfl
          exact bad _ ls (fun h => (f_3) h.2.2.2) hF hl
        · skip
          refine lv_if_eq (tgt := 39) hx hb d_Model_reckon_32 (by decide) (fun _ => ?_) (fun h9 => absurd (by decide) h9)
          refine lv_iconst (v := nI 0) hx hb d_Model_reckon_39 (by decide) ?_
          have hl : lv_has ls 5 [(0, .ref mo), (1, .int w0), (2, .int a), (3, .int a2), (4, .int a3)] := lv_sub hl [0, 1, 2, 3, 4] rfl
          exact good _ ls ⟨(in_okC (a := 0) (b := 3) (by decide) (by decide) (by decide) (by decide)).mp f_0, f_1, f_2, f_3⟩ hF hl
set_option maxHeartbeats 4000000 in
set_option maxRecDepth 100000 in
theorem c_Model_commit (l : Launch) (g : WG) (n0 : Nat → Prop) (mo : Nat) (a : Int32) (a2 : Int32) (n : Int32) (fd : Nat → Int64) (hmn : n0 mo) (hz : FZ fd) : Ctr l y_Model_commit (.code y_Model_commit prog_11_method_55_code 4 none) 7 167 0 0 n0 g [.ref mo, .int a, .int a2, .int n] (fun H => MS g n0 H mo 0 0 0 0 0 14 fd) (QV (fun H H' => ((okP a (nI 1) ∧ okC n (nI 0) (nI 16) ∧ okS a2 n) ∧ ((n ≤ 0 ∧ TH g n0 H' mo 0) ∨ (¬ n ≤ 0 ∧ TH g n0 H' mo (nI 2)))) ∨ (¬ (okP a (nI 1) ∧ okC n (nI 0) (nI 16) ∧ okS a2 n) ∧ TH g n0 H' mo 1))) := by
  refine ctr_mk l (lv0 := [(0, .ref mo), (1, .int a), (2, .int a2), (3, .int n)]) (by decide) (Nat.le_of_ble_eq_true rfl) rfl ?_
  intro p e s m below meth c ls E hr hlk hnm hl hP
  have hx := E.1
  have hb := E.2.1
  have hK := E.2.2.2.2.2
  have hF : ∀ q ∈ ([] : List Loc), n0 q.base := fun q hq => absurd hq List.not_mem_nil
  have hm := hP
  have hfr : FRM (MR mo) s.heap s.heap := FRM.rf
  have bad : ∀ (locs : List Loc) (ls : Array Slot), ¬ (okP a (nI 1) ∧ okC n (nI 0) (nI 16) ∧ okS a2 n) → (∀ q ∈ locs, n0 q.base) → lv_has ls 4 [(0, .ref mo), (1, .int a), (2, .int a2), (3, .int n)] → W p l e { frames := 7, cells := 0, slots := 0, locals := 167 } s m [.ref mo, .int a, .int a2, .int n].toArray below meth c s.heap locs 0 0 (MQ below (QcP (QV (fun H H' => ((okP a (nI 1) ∧ okC n (nI 0) (nI 16) ∧ okS a2 n) ∧ ((n ≤ 0 ∧ TH g n0 H' mo 0) ∨ (¬ n ≤ 0 ∧ TH g n0 H' mo (nI 2)))) ∨ (¬ (okP a (nI 1) ∧ okC n (nI 0) (nI 16) ∧ okS a2 n) ∧ TH g n0 H' mo 1)))) [.ref mo, .int a, .int a2, .int n].toArray s 0 0 (fun q => n0 q)) (F0 m 33 ls [.int (nI 1), .ref mo]) := by
    intro  locs   ls hno hF hl
    refine lv_iconst (v := nI 1) hx hb d_Model_commit_33 (by decide) ?_
    refine q_cV (rest := []) E (c_Model_fails l g n0 mo 0 0 0 0 0 14 hw0 (nI 1) (nI 1) fd hmn (Or.inl rfl)) w_1056 w_15 w_1053 w_1055 (bw_s 24 rfl) hd_Model_fails rfl ⟨by decide, by decide⟩ (OB.recv E.2.2.2.2.2 (by rfl) hm.1) hm hF hl.1 rfl (Nat.le_of_ble_eq_true rfl) d_Model_commit_34 ⟨by decide, by decide⟩ (qi (fun rf H1 locs hq hF => ?_))
    obtain ⟨hrf, hq, hm⟩ := hq
    subst hrf
    have hfr := hfr.tr hq
    rw [if_neg (by decide)] at hm
    refine lv_if_ne (tgt := 61) hx hb d_Model_commit_37 (by decide) (fun _ => ?_) (fun h9 => absurd h9 (by decide))
    exact q_vret E hr hlk (⟨rfl, Or.inr ⟨hno, ⟨_, _, _, _, _, _, hw0, hm⟩⟩⟩) hF d_Model_commit_61
  have good : ∀ (locs : List Loc) (ls : Array Slot), okP a (nI 1) ∧ okC n (nI 0) (nI 16) ∧ okS a2 n → (∀ q ∈ locs, n0 q.base) → lv_has ls 4 [(0, .ref mo), (1, .int a), (2, .int a2), (3, .int n)] → W p l e { frames := 7, cells := 0, slots := 0, locals := 167 } s m [.ref mo, .int a, .int a2, .int n].toArray below meth c s.heap locs 0 0 (MQ below (QcP (QV (fun H H' => ((okP a (nI 1) ∧ okC n (nI 0) (nI 16) ∧ okS a2 n) ∧ ((n ≤ 0 ∧ TH g n0 H' mo 0) ∨ (¬ n ≤ 0 ∧ TH g n0 H' mo (nI 2)))) ∨ (¬ (okP a (nI 1) ∧ okC n (nI 0) (nI 16) ∧ okS a2 n) ∧ TH g n0 H' mo 1)))) [.ref mo, .int a, .int a2, .int n].toArray s 0 0 (fun q => n0 q)) (F0 m 33 ls [.int (nI 0), .ref mo]) := by
    intro  locs   ls hok hF hl
    refine lv_iconst (v := nI 1) hx hb d_Model_commit_33 (by decide) ?_
    refine q_cV (rest := []) E (c_Model_fails l g n0 mo 0 0 0 0 0 14 hw0 (nI 0) (nI 1) fd hmn (Or.inr rfl)) w_1056 w_15 w_1053 w_1055 (bw_s 24 rfl) hd_Model_fails rfl ⟨by decide, by decide⟩ (OB.recv E.2.2.2.2.2 (by rfl) hm.1) hm hF hl.1 rfl (Nat.le_of_ble_eq_true rfl) d_Model_commit_34 ⟨by decide, by decide⟩ (qi (fun rf H1 locs hq hF => ?_))
    obtain ⟨hrf, hq, hm⟩ := hq
    subst hrf
    have hfr := hfr.tr hq
    rw [if_pos nI_0] at hm
    refine lv_if_ne (tgt := 61) hx hb d_Model_commit_37 (by decide) (fun h9 => absurd (by decide) h9) (fun _ => ?_)
    obtain ⟨k3, e_k3, h_k3, h2_k3⟩ := okC_nat (by decide) (by decide) hok.2.1
    rw [e_k3] at hl
    obtain ⟨k1, e_k1, h_k1⟩ := okP_nat (by decide) (by decide) hok.1
    rw [e_k1] at hl
    refine lv_aload_n hx hb d_Model_commit_40 rfl (lv_at hl 0 rfl) ?_
    refine lv_iload_n hx hb d_Model_commit_41 rfl (lv_at hl 3 rfl) ?_
    refine lv_aload_n hx hb d_Model_commit_42 rfl (lv_at hl 0 rfl) ?_
    refine q_get (C := "KateDeskModel") (T := T_Model) (N := 14) (ci := 8) E hm.1 in_Model rfl 8 (by decide) w_1009 rfl rfl d_Model_commit_43 ?_
    refine lv_icmp_le (tgt := 53) hx hb d_Model_commit_46 (by decide) (fun hc => ?_) (fun hc => ?_)
    rotate_left
    · skip
      refine lv_iconst (v := nI 1) hx hb d_Model_commit_49 (by decide) ?_
      refine lv_goto (tgt := 54) hx hb d_Model_commit_50 (by decide) ?_
      refine lv_iconst (v := nI 2) hx hb d_Model_commit_54 (by decide) ?_
      refine q_cV (rest := []) E (c_Model_fails l g n0 mo 0 0 0 0 0 14 hw0 (nI 1) (nI 2) fd hmn (Or.inl rfl)) w_1056 w_15 w_1053 w_1055 (bw_s 24 rfl) hd_Model_fails rfl ⟨by decide, by decide⟩ (OB.recv E.2.2.2.2.2 (by rfl) hm.1) hm hF hl.1 rfl (Nat.le_of_ble_eq_true rfl) d_Model_commit_55 ⟨by decide, by decide⟩ (qi (fun rf H2 locs hq hF => ?_))
      obtain ⟨hrf, hq, hm⟩ := hq
      subst hrf
      have hfr := hfr.tr hq
      rw [if_neg (by decide)] at hm
      refine lv_if_eq (tgt := 62) hx hb d_Model_commit_58 (by decide) (fun h9 => absurd h9 (by decide)) (fun _ => ?_)
      exact q_vret E hr hlk (⟨rfl, Or.inl ⟨hok, Or.inr ⟨by rw [e_k3]; exact hc, ⟨_, _, _, _, _, _, hw0, hm⟩⟩⟩⟩) hF d_Model_commit_61
    refine lv_iconst (v := nI 0) hx hb d_Model_commit_53 (by decide) ?_
    refine lv_iconst (v := nI 2) hx hb d_Model_commit_54 (by decide) ?_
    refine q_cV (rest := []) E (c_Model_fails l g n0 mo 0 0 0 0 0 14 hw0 (nI 0) (nI 2) fd hmn (Or.inr rfl)) w_1056 w_15 w_1053 w_1055 (bw_s 24 rfl) hd_Model_fails rfl ⟨by decide, by decide⟩ (OB.recv E.2.2.2.2.2 (by rfl) hm.1) hm hF hl.1 rfl (Nat.le_of_ble_eq_true rfl) d_Model_commit_55 ⟨by decide, by decide⟩ (qi (fun rf H2 locs hq hF => ?_))
    obtain ⟨hrf, hq, hm⟩ := hq
    subst hrf
    have hfr := hfr.tr hq
    rw [if_pos nI_0] at hm
    refine lv_if_eq (tgt := 62) hx hb d_Model_commit_58 (by decide) (fun _ => ?_) (fun h9 => absurd (by decide) h9)
    refine lv_aload_n hx hb d_Model_commit_62 rfl (lv_at hl 0 rfl) ?_
    refine lv_iload_n hx hb d_Model_commit_63 rfl (lv_at hl 2 rfl) ?_
    refine lv_bipush (v := nI 68) hx hb d_Model_commit_64 (by decide) ?_
    refine lv_iload_n hx hb d_Model_commit_66 rfl (lv_at hl 3 rfl) ?_
    have hk0 : k3 = 0 := by rcases Nat.eq_zero_or_pos k3 with h | h; exact h; exact absurd hc (nI_nle h (by omega))
    refine q_cV (rest := []) E (c_Model_sums l g n0 mo k3 a2 (nI 68) 0 0 0 0 0 14 hw0 fd hmn (by omega) (fun h => absurd h (by omega))) w_1210 w_15 w_1207 w_1209 (bw_s 45 rfl) hd_Model_sums rfl ⟨by decide, by decide⟩ (OB.recv E.2.2.2.2.2 (by rfl) hm.1) hm hF hl.1 rfl (Nat.le_of_ble_eq_true rfl) d_Model_commit_67 ⟨by decide, by decide⟩ (qv (fun H3 locs hq hF => ?_))
    obtain ⟨hq, fd_1, hm⟩ := hq
    have hfr := hfr.tr hq
    refine lv_aload_n hx hb d_Model_commit_70 rfl (lv_at hl 0 rfl) ?_
    refine lv_iload_n hx hb d_Model_commit_71 rfl (lv_at hl 1 rfl) ?_
    refine q_cS (rest := [.ref mo]) E (c_Model_slot l g n0 (nI k1)) w_1154 w_15 w_1152 w_1153 hd_Model_slot rfl ⟨by decide, by decide⟩ trivial hF hl.1 rfl (Nat.le_of_ble_eq_true rfl) d_Model_commit_72 ⟨by decide, by decide⟩ (qi (fun rs H4 locs hq hF => ?_))
    obtain ⟨hrs, hq9⟩ := hq
    subst hrs
    subst hq9
    refine lv_topi (fun t9 e9 => ?_)
    obtain rfl : t9 = nI (32 + 3 * k1) := e9.trans (by rw [pk_mul, nI_add])
    refine lv_sipush (v := nI 164) hx hb d_Model_commit_75 (by decide) ?_
    refine q_cV (rest := []) E (c_Model_movePoint l g n0 mo (32 + 3 * k1) 164 0 0 0 0 0 14 hw0 fd_1 (by omega) (by omega) (by omega)) w_1171 w_15 w_1168 w_1170 (bw_s 41 rfl) hd_Model_movePoint rfl ⟨by decide, by decide⟩ (OB.recv E.2.2.2.2.2 (by rfl) hm.1) hm hF hl.1 rfl (Nat.le_of_ble_eq_true rfl) d_Model_commit_78 ⟨by decide, by decide⟩ (qv (fun H5 locs hq hF => ?_))
    obtain ⟨hq, fd_2, hm, hS9, hcp⟩ := hq
    have hfr := hfr.tr hq
    exact q_vret E hr hlk (⟨rfl, Or.inl ⟨hok, Or.inl ⟨by rw [e_k3]; exact hc, ⟨_, _, _, _, _, _, hw0, hm⟩⟩⟩⟩) hF d_Model_commit_81
  refine lv_aload_n hx hb d_Model_commit_0 rfl (lv_at hl 0 rfl) ?_
  refine lv_iload_n hx hb d_Model_commit_1 rfl (lv_at hl 1 rfl) ?_
  refine q_cS (rest := [.ref mo]) E (c_Model_noPoint l g n0 a ) w_1151 w_15 w_1149 w_1150 hd_Model_noPoint rfl ⟨by decide, by decide⟩ trivial hF hl.1 rfl (Nat.le_of_ble_eq_true rfl) d_Model_commit_2 ⟨by decide, by decide⟩ (qi (fun r_0 H1 locs hq hF => ?_))
  obtain ⟨h_0, hq⟩ := hq
  subst hq
  rcases h_0 with ⟨rfl, f_0⟩ | ⟨rfl, f_0⟩
  · skip
    refine lv_if_ne (tgt := 28) hx hb d_Model_commit_5 (by decide) (fun _ => ?_) (fun h9 => absurd h9 (by decide))
    refine lv_iconst (v := nI 1) hx hb d_Model_commit_28 (by decide) ?_
    refine lv_goto (tgt := 33) hx hb d_Model_commit_29 (by decide) ?_
    have hl : lv_has ls 4 [(0, .ref mo), (1, .int a), (2, .int a2), (3, .int n)] := lv_sub hl [0, 1, 2, 3] rfl
    exact bad _ ls (fun h => (f_0) h.1) hF hl
  · skip
    refine lv_if_ne (tgt := 28) hx hb d_Model_commit_5 (by decide) (fun h9 => absurd (by decide) h9) (fun _ => ?_)
    refine lv_iload_n hx hb d_Model_commit_8 rfl (lv_at hl 3 rfl) ?_
    refine lv_i2l (v := n.toInt64) hx hb d_Model_commit_9 rfl ?_
    refine lv_lconst (v := 0) hx hb d_Model_commit_10 (by decide) ?_
    refine lv_ldc2 (v := 16) hx hb E.2.2.2.1 (E.2.2.2.2.1 _ w_1223) d_Model_commit_11 ?_
    refine q_cS (rest := [.ref mo]) E (c_Model_in l g n0 n.toInt64 0 16 ) w_1101 w_15 w_1099 w_1100 hd_Model_in rfl ⟨by decide, by decide⟩ trivial hF hl.1 rfl (Nat.le_of_ble_eq_true rfl) d_Model_commit_14 ⟨by decide, by decide⟩ (qi (fun r_1 H2 locs hq hF => ?_))
    obtain ⟨h_1, hq⟩ := hq
    subst hq
    rcases h_1 with ⟨rfl, f_1⟩ | ⟨rfl, f_1⟩
    · skip
      refine lv_if_eq (tgt := 28) hx hb d_Model_commit_17 (by decide) (fun _ => ?_) (fun h9 => absurd (by decide) h9)
      refine lv_iconst (v := nI 1) hx hb d_Model_commit_28 (by decide) ?_
      refine lv_goto (tgt := 33) hx hb d_Model_commit_29 (by decide) ?_
      have hl : lv_has ls 4 [(0, .ref mo), (1, .int a), (2, .int a2), (3, .int n)] := lv_sub hl [0, 1, 2, 3] rfl
      exact bad _ ls (fun h => (fun q => f_1 ((in_okC (a := 0) (b := 16) (by decide) (by decide) (by decide) (by decide)).mpr q)) h.2.1) hF hl
    · skip
      refine lv_if_eq (tgt := 28) hx hb d_Model_commit_17 (by decide) (fun h9 => absurd h9 (by decide)) (fun _ => ?_)
      refine lv_iload_n hx hb d_Model_commit_20 rfl (lv_at hl 2 rfl) ?_
      refine lv_iload_n hx hb d_Model_commit_21 rfl (lv_at hl 3 rfl) ?_
      refine q_cS (rest := [.ref mo]) E (c_Model_noScalars l g n0 a2 n (okC_n ((in_okC (a := 0) (b := 16) (by decide) (by decide) (by decide) (by decide)).mp f_1))) w_1206 w_15 w_1204 w_1205 hd_Model_noScalars rfl ⟨by decide, by decide⟩ trivial hF hl.1 rfl (Nat.le_of_ble_eq_true rfl) d_Model_commit_22 ⟨by decide, by decide⟩ (qi (fun r_2 H3 locs hq hF => ?_))
      obtain ⟨h_2, hq⟩ := hq
      subst hq
      rcases h_2 with ⟨rfl, f_2⟩ | ⟨rfl, f_2⟩
      · skip
        refine lv_if_eq (tgt := 32) hx hb d_Model_commit_25 (by decide) (fun h9 => absurd h9 (by decide)) (fun _ => ?_)
        refine lv_iconst (v := nI 1) hx hb d_Model_commit_28 (by decide) ?_
        refine lv_goto (tgt := 33) hx hb d_Model_commit_29 (by decide) ?_
        have hl : lv_has ls 4 [(0, .ref mo), (1, .int a), (2, .int a2), (3, .int n)] := lv_sub hl [0, 1, 2, 3] rfl
        exact bad _ ls (fun h => (f_2) h.2.2) hF hl
      · skip
        refine lv_if_eq (tgt := 32) hx hb d_Model_commit_25 (by decide) (fun _ => ?_) (fun h9 => absurd (by decide) h9)
        refine lv_iconst (v := nI 0) hx hb d_Model_commit_32 (by decide) ?_
        have hl : lv_has ls 4 [(0, .ref mo), (1, .int a), (2, .int a2), (3, .int n)] := lv_sub hl [0, 1, 2, 3] rfl
        exact good _ ls ⟨f_0, (in_okC (a := 0) (b := 16) (by decide) (by decide) (by decide) (by decide)).mp f_1, f_2⟩ hF hl
set_option maxHeartbeats 4000000 in
set_option maxRecDepth 100000 in
theorem c_Model_point (l : Launch) (g : WG) (n0 : Nat → Prop) (mo : Nat) (a : Int32) (fd : Nat → Int64) (hmn : n0 mo) (hz : FZ fd) : Ctr l y_Model_point (.code y_Model_point prog_11_method_46_code 6 (some FieldType.int)) 1 22 0 0 n0 g [.ref mo, .int a] (fun H => MS g n0 H mo 0 0 0 0 0 14 fd) (QI (fun r H H' => ((okP a (nI 1)) ∧ TH g n0 H' mo 0 ∧ r = 1) ∨ (¬ (okP a (nI 1)) ∧ TH g n0 H' mo 1))) := by
  refine ctr_mk l (lv0 := [(0, .ref mo), (1, .int a)]) (by decide) (Nat.le_of_ble_eq_true rfl) rfl ?_
  intro p e s m below meth c ls E hr hlk hnm hl hP
  have hx := E.1
  have hb := E.2.1
  have hK := E.2.2.2.2.2
  have hF : ∀ q ∈ ([] : List Loc), n0 q.base := fun q hq => absurd hq List.not_mem_nil
  have hm := hP
  have hfr : FRM (MR mo) s.heap s.heap := FRM.rf
  have bad : ∀ (locs : List Loc) (ls : Array Slot), ¬ (okP a (nI 1)) → (∀ q ∈ locs, n0 q.base) → lv_has ls 6 [(0, .ref mo), (1, .int a)] → W p l e { frames := 1, cells := 0, slots := 0, locals := 22 } s m [.ref mo, .int a].toArray below meth c s.heap locs 0 0 (MQ below (QcP (QI (fun r H H' => ((okP a (nI 1)) ∧ TH g n0 H' mo 0 ∧ r = 1) ∨ (¬ (okP a (nI 1)) ∧ TH g n0 H' mo 1)))) [.ref mo, .int a].toArray s 0 0 (fun q => n0 q)) (F0 m 5 ls [.int (nI 1), .ref mo]) := by
    intro  locs   ls hno hF hl
    refine lv_iconst (v := nI 1) hx hb d_Model_point_5 (by decide) ?_
    refine q_cV (rest := []) E (c_Model_fails l g n0 mo 0 0 0 0 0 14 hw0 (nI 1) (nI 1) fd hmn (Or.inl rfl)) w_1056 w_15 w_1053 w_1055 (bw_s 24 rfl) hd_Model_fails rfl ⟨by decide, by decide⟩ (OB.recv E.2.2.2.2.2 (by rfl) hm.1) hm hF hl.1 rfl (Nat.le_of_ble_eq_true rfl) d_Model_point_6 ⟨by decide, by decide⟩ (qi (fun rf H1 locs hq hF => ?_))
    obtain ⟨hrf, hq, hm⟩ := hq
    subst hrf
    have hfr := hfr.tr hq
    rw [if_neg (by decide)] at hm
    refine lv_if_eq (tgt := 14) hx hb d_Model_point_9 (by decide) (fun h9 => absurd h9 (by decide)) (fun _ => ?_)
    refine lv_iconst (v := nI 0) hx hb d_Model_point_12 (by decide) ?_
    exact q_iret E hr hlk (⟨_, rfl, Or.inr ⟨hno, ⟨_, _, _, _, _, _, hw0, hm⟩⟩⟩) hF d_Model_point_13
  have good : ∀ (locs : List Loc) (ls : Array Slot), okP a (nI 1) → (∀ q ∈ locs, n0 q.base) → lv_has ls 6 [(0, .ref mo), (1, .int a)] → W p l e { frames := 1, cells := 0, slots := 0, locals := 22 } s m [.ref mo, .int a].toArray below meth c s.heap locs 0 0 (MQ below (QcP (QI (fun r H H' => ((okP a (nI 1)) ∧ TH g n0 H' mo 0 ∧ r = 1) ∨ (¬ (okP a (nI 1)) ∧ TH g n0 H' mo 1)))) [.ref mo, .int a].toArray s 0 0 (fun q => n0 q)) (F0 m 5 ls [.int (nI 0), .ref mo]) := by
    intro  locs   ls hok hF hl
    refine lv_iconst (v := nI 1) hx hb d_Model_point_5 (by decide) ?_
    refine q_cV (rest := []) E (c_Model_fails l g n0 mo 0 0 0 0 0 14 hw0 (nI 0) (nI 1) fd hmn (Or.inr rfl)) w_1056 w_15 w_1053 w_1055 (bw_s 24 rfl) hd_Model_fails rfl ⟨by decide, by decide⟩ (OB.recv E.2.2.2.2.2 (by rfl) hm.1) hm hF hl.1 rfl (Nat.le_of_ble_eq_true rfl) d_Model_point_6 ⟨by decide, by decide⟩ (qi (fun rf H1 locs hq hF => ?_))
    obtain ⟨hrf, hq, hm⟩ := hq
    subst hrf
    have hfr := hfr.tr hq
    rw [if_pos nI_0] at hm
    refine lv_if_eq (tgt := 14) hx hb d_Model_point_9 (by decide) (fun _ => ?_) (fun h9 => absurd (by decide) h9)
    refine lv_aload_n hx hb d_Model_point_14 rfl (lv_at hl 0 rfl) ?_
    refine q_get (C := "KateDeskModel") (T := T_Model) (N := 14) (ci := 8) E hm.1 in_Model rfl 10 (by decide) w_1011 rfl rfl d_Model_point_15 ?_
    refine lv_istore_n (lv' := [(2, .int 0), (0, .ref mo), (1, .int a)]) hx hb d_Model_point_18 rfl hl (by decide) rfl (fun ls hl => ?_)
    refine lv_aload_n hx hb d_Model_point_19 rfl (lv_at hl 1 rfl) ?_
    refine lv_iconst (v := nI 0) hx hb d_Model_point_20 (by decide) ?_
    refine q_put (C := "KateDeskModel") (T := T_Model) (N := 14) (ci := 8) (ty := .int) E hm.1 in_Model ty_Model tyok_Model nm_Model rfl 10 (by decide) w_1011 rfl rfl (by decide +kernel) rfl rfl (Nat.le_of_ble_eq_true rfl) hmn hF d_Model_point_21 (fun H2 locs hq ho2 hF => ?_)
    have hm := hm.frm hq (by omega) (by omega) (by omega) (by omega) ho2
    refine lv_iload_n hx hb d_Model_point_24 rfl (lv_at hl 0 rfl) ?_
    refine lv_bipush (v := nI 48) hx hb d_Model_point_25 (by decide) ?_
    refine lv_icmp_eq (tgt := 38) hx hb d_Model_point_27 (by decide) (fun h9 => absurd h9 (by decide)) (fun _ => ?_)
    refine lv_iload_n hx hb d_Model_point_30 rfl (lv_at hl 0 rfl) ?_
    refine lv_bipush (v := nI 96) hx hb d_Model_point_31 (by decide) ?_
    refine lv_icmp_eq (tgt := 38) hx hb d_Model_point_33 (by decide) (fun h9 => absurd h9 (by decide)) (fun _ => ?_)
    refine lv_iconst (v := nI 1) hx hb d_Model_point_36 (by decide) ?_
    exact q_iret E hr hlk (⟨_, rfl, Or.inl ⟨hok, ⟨_, _, _, _, _, _, hw0, hm⟩, rfl⟩⟩) hF d_Model_point_37
  refine lv_aload_n hx hb d_Model_point_0 rfl (lv_at hl 0 rfl) ?_
  refine lv_iload_n hx hb d_Model_point_1 rfl (lv_at hl 1 rfl) ?_
  refine q_cS (rest := [.ref mo]) E (c_Model_noPoint l g n0 a ) w_1151 w_15 w_1149 w_1150 hd_Model_noPoint rfl ⟨by decide, by decide⟩ trivial hF hl.1 rfl (Nat.le_of_ble_eq_true rfl) d_Model_point_2 ⟨by decide, by decide⟩ (qi (fun r_0 H1 locs hq hF => ?_))
  obtain ⟨h_0, hq⟩ := hq
  subst hq
  rcases h_0 with ⟨rfl, f_0⟩ | ⟨rfl, f_0⟩
  · skip
    have hl : lv_has ls 6 [(0, .ref mo), (1, .int a)] := lv_sub hl [0, 1] rfl
    exact bad _ ls (fun h => (f_0) h) hF hl
  · skip
    have hl : lv_has ls 6 [(0, .ref mo), (1, .int a)] := lv_sub hl [0, 1] rfl
    exact good _ ls f_0 hF hl
set_option maxHeartbeats 4000000 in
set_option maxRecDepth 100000 in
theorem c_Model_look (l : Launch) (g : WG) (n0 : Nat → Prop) (mo : Nat) (w0 : Int32) (fd : Nat → Int64) (hmn : n0 mo) (hz : FZ fd) : Ctr l y_Model_look (.code y_Model_look prog_11_method_61_code 2 (some FieldType.int)) 1 25 0 0 n0 g [.ref mo, .int w0] (fun H => MS g n0 H mo 0 0 0 0 0 14 fd) (QI (fun r H H' => ((okC w0 (nI 0) (nI 2)) ∧ TH g n0 H' mo 0 ∧ r = 0) ∨ (¬ (okC w0 (nI 0) (nI 2)) ∧ TH g n0 H' mo 1))) := by
  refine ctr_mk l (lv0 := [(0, .ref mo), (1, .int w0)]) (by decide) (Nat.le_of_ble_eq_true rfl) rfl ?_
  intro p e s m below meth c ls E hr hlk hnm hl hP
  have hx := E.1
  have hb := E.2.1
  have hK := E.2.2.2.2.2
  have hF : ∀ q ∈ ([] : List Loc), n0 q.base := fun q hq => absurd hq List.not_mem_nil
  have hm := hP
  have hfr : FRM (MR mo) s.heap s.heap := FRM.rf
  have bad : ∀ (locs : List Loc) (ls : Array Slot), ¬ (okC w0 (nI 0) (nI 2)) → (∀ q ∈ locs, n0 q.base) → lv_has ls 2 [(0, .ref mo), (1, .int w0)] → W p l e { frames := 1, cells := 0, slots := 0, locals := 25 } s m [.ref mo, .int w0].toArray below meth c s.heap locs 0 0 (MQ below (QcP (QI (fun r H H' => ((okC w0 (nI 0) (nI 2)) ∧ TH g n0 H' mo 0 ∧ r = 0) ∨ (¬ (okC w0 (nI 0) (nI 2)) ∧ TH g n0 H' mo 1)))) [.ref mo, .int w0].toArray s 0 0 (fun q => n0 q)) (F0 m 18 ls [.int (nI 1), .ref mo]) := by
    intro  locs   ls hno hF hl
    refine lv_iconst (v := nI 1) hx hb d_Model_look_18 (by decide) ?_
    refine q_cV (rest := []) E (c_Model_fails l g n0 mo 0 0 0 0 0 14 hw0 (nI 1) (nI 1) fd hmn (Or.inl rfl)) w_1056 w_15 w_1053 w_1055 (bw_s 24 rfl) hd_Model_fails rfl ⟨by decide, by decide⟩ (OB.recv E.2.2.2.2.2 (by rfl) hm.1) hm hF hl.1 rfl (Nat.le_of_ble_eq_true rfl) d_Model_look_19 ⟨by decide, by decide⟩ (qi (fun rf H1 locs hq hF => ?_))
    obtain ⟨hrf, hq, hm⟩ := hq
    subst hrf
    have hfr := hfr.tr hq
    rw [if_neg (by decide)] at hm
    refine lv_if_eq (tgt := 27) hx hb d_Model_look_22 (by decide) (fun h9 => absurd h9 (by decide)) (fun _ => ?_)
    refine lv_iconst (v := nI 0) hx hb d_Model_look_25 (by decide) ?_
    exact q_iret E hr hlk (⟨_, rfl, Or.inr ⟨hno, ⟨_, _, _, _, _, _, hw0, hm⟩⟩⟩) hF d_Model_look_26
  have good : ∀ (locs : List Loc) (ls : Array Slot), okC w0 (nI 0) (nI 2) → (∀ q ∈ locs, n0 q.base) → lv_has ls 2 [(0, .ref mo), (1, .int w0)] → W p l e { frames := 1, cells := 0, slots := 0, locals := 25 } s m [.ref mo, .int w0].toArray below meth c s.heap locs 0 0 (MQ below (QcP (QI (fun r H H' => ((okC w0 (nI 0) (nI 2)) ∧ TH g n0 H' mo 0 ∧ r = 0) ∨ (¬ (okC w0 (nI 0) (nI 2)) ∧ TH g n0 H' mo 1)))) [.ref mo, .int w0].toArray s 0 0 (fun q => n0 q)) (F0 m 18 ls [.int (nI 0), .ref mo]) := by
    intro  locs   ls hok hF hl
    refine lv_iconst (v := nI 1) hx hb d_Model_look_18 (by decide) ?_
    refine q_cV (rest := []) E (c_Model_fails l g n0 mo 0 0 0 0 0 14 hw0 (nI 0) (nI 1) fd hmn (Or.inr rfl)) w_1056 w_15 w_1053 w_1055 (bw_s 24 rfl) hd_Model_fails rfl ⟨by decide, by decide⟩ (OB.recv E.2.2.2.2.2 (by rfl) hm.1) hm hF hl.1 rfl (Nat.le_of_ble_eq_true rfl) d_Model_look_19 ⟨by decide, by decide⟩ (qi (fun rf H1 locs hq hF => ?_))
    obtain ⟨hrf, hq, hm⟩ := hq
    subst hrf
    have hfr := hfr.tr hq
    rw [if_pos nI_0] at hm
    refine lv_if_eq (tgt := 27) hx hb d_Model_look_22 (by decide) (fun _ => ?_) (fun h9 => absurd (by decide) h9)
    obtain ⟨k0, e_k0, h_k0, h2_k0⟩ := okC_nat (by decide) (by decide) hok
    rw [e_k0] at hl
    obtain ⟨hq9, -⟩ : k0 ≤ 2 ∧ True := ⟨h2_k0, trivial⟩
    match k0, hq9 with
    | 0, _ =>
      refine lv_iload_n hx hb d_Model_look_27 rfl (lv_at hl 1 rfl) ?_
      refine lv_if_ne (tgt := 38) hx hb d_Model_look_28 (by decide) (fun h9 => absurd (by decide) h9) (fun _ => ?_)
      refine lv_aload_n hx hb d_Model_look_31 rfl (lv_at hl 0 rfl) ?_
      refine q_get (C := "KateDeskModel") (T := T_Model) (N := 14) (ci := 8) E hm.1 in_Model rfl 8 (by decide) w_1009 rfl rfl d_Model_look_32 ?_
      refine lv_goto (tgt := 54) hx hb d_Model_look_35 (by decide) ?_
      exact q_iret E hr hlk (⟨_, rfl, Or.inl ⟨hok, ⟨_, _, _, _, _, _, hw0, hm⟩, rfl⟩⟩) hF d_Model_look_54
    | 1, _ =>
      refine lv_iload_n hx hb d_Model_look_27 rfl (lv_at hl 1 rfl) ?_
      refine lv_if_ne (tgt := 38) hx hb d_Model_look_28 (by decide) (fun _ => ?_) (fun h9 => absurd h9 (by decide))
      refine lv_iload_n hx hb d_Model_look_38 rfl (lv_at hl 1 rfl) ?_
      refine lv_iconst (v := nI 1) hx hb d_Model_look_39 (by decide) ?_
      refine lv_icmp_ne (tgt := 50) hx hb d_Model_look_40 (by decide) (fun h9 => absurd (by decide) h9) (fun _ => ?_)
      refine lv_aload_n hx hb d_Model_look_43 rfl (lv_at hl 0 rfl) ?_
      refine q_get (C := "KateDeskModel") (T := T_Model) (N := 14) (ci := 8) E hm.1 in_Model rfl 10 (by decide) w_1011 rfl rfl d_Model_look_44 ?_
      refine lv_goto (tgt := 54) hx hb d_Model_look_47 (by decide) ?_
      exact q_iret E hr hlk (⟨_, rfl, Or.inl ⟨hok, ⟨_, _, _, _, _, _, hw0, hm⟩, rfl⟩⟩) hF d_Model_look_54
    | 2, _ =>
      refine lv_iload_n hx hb d_Model_look_27 rfl (lv_at hl 1 rfl) ?_
      refine lv_if_ne (tgt := 38) hx hb d_Model_look_28 (by decide) (fun _ => ?_) (fun h9 => absurd h9 (by decide))
      refine lv_iload_n hx hb d_Model_look_38 rfl (lv_at hl 1 rfl) ?_
      refine lv_iconst (v := nI 1) hx hb d_Model_look_39 (by decide) ?_
      refine lv_icmp_ne (tgt := 50) hx hb d_Model_look_40 (by decide) (fun _ => ?_) (fun h9 => absurd h9 (by decide))
      refine lv_aload_n hx hb d_Model_look_50 rfl (lv_at hl 0 rfl) ?_
      refine q_get (C := "KateDeskModel") (T := T_Model) (N := 14) (ci := 8) E hm.1 in_Model rfl 12 (by decide) w_1013 rfl rfl d_Model_look_51 ?_
      exact q_iret E hr hlk (⟨_, rfl, Or.inl ⟨hok, ⟨_, _, _, _, _, _, hw0, hm⟩, rfl⟩⟩) hF d_Model_look_54
  refine lv_aload_n hx hb d_Model_look_0 rfl (lv_at hl 0 rfl) ?_
  refine lv_iload_n hx hb d_Model_look_1 rfl (lv_at hl 1 rfl) ?_
  refine lv_i2l (v := w0.toInt64) hx hb d_Model_look_2 rfl ?_
  refine lv_lconst (v := 0) hx hb d_Model_look_3 (by decide) ?_
  refine lv_ldc2 (v := 2) hx hb E.2.2.2.1 (E.2.2.2.2.1 _ w_1089) d_Model_look_4 ?_
  refine q_cS (rest := [.ref mo]) E (c_Model_in l g n0 w0.toInt64 0 2 ) w_1101 w_15 w_1099 w_1100 hd_Model_in rfl ⟨by decide, by decide⟩ trivial hF hl.1 rfl (Nat.le_of_ble_eq_true rfl) d_Model_look_7 ⟨by decide, by decide⟩ (qi (fun r_0 H1 locs hq hF => ?_))
  obtain ⟨h_0, hq⟩ := hq
  subst hq
  rcases h_0 with ⟨rfl, f_0⟩ | ⟨rfl, f_0⟩
  · skip
    refine lv_if_ne (tgt := 17) hx hb d_Model_look_10 (by decide) (fun h9 => absurd (by decide) h9) (fun _ => ?_)
    refine lv_iconst (v := nI 1) hx hb d_Model_look_13 (by decide) ?_
    refine lv_goto (tgt := 18) hx hb d_Model_look_14 (by decide) ?_
    have hl : lv_has ls 2 [(0, .ref mo), (1, .int w0)] := lv_sub hl [0, 1] rfl
    exact bad _ ls (fun h => (fun q => f_0 ((in_okC (a := 0) (b := 2) (by decide) (by decide) (by decide) (by decide)).mpr q)) h) hF hl
  · skip
    refine lv_if_ne (tgt := 17) hx hb d_Model_look_10 (by decide) (fun _ => ?_) (fun h9 => absurd h9 (by decide))
    refine lv_iconst (v := nI 0) hx hb d_Model_look_17 (by decide) ?_
    have hl : lv_has ls 2 [(0, .ref mo), (1, .int w0)] := lv_sub hl [0, 1] rfl
    exact good _ ls ((in_okC (a := 0) (b := 2) (by decide) (by decide) (by decide) (by decide)).mp f_0) hF hl
