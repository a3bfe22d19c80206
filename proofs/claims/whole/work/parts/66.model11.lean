theorem FZ.le {fd : Nat → Int64} {k : Nat} (h : FZ fd) (hk : k < 32) : Z0 fd k := h.1 k hk
abbrev y_Model_join : MethodName := ⟨"KateDeskModel", "join", "(IIII)V"⟩
theorem hd_Model_join : y_Model_join.cls ≠ "java/lang/invoke/MethodHandle" ∧ y_Model_join.cls ≠ "java/lang/invoke/VarHandle" ∧ (parseMethodDescriptor y_Model_join.desc).map (fun d => d.parameters.length) = some 4 := by decide +kernel
theorem d_Model_join_0 : decode prog_11_method_49_code 0 = .ok (.aload_n 0, 1) := by decide +kernel
theorem d_Model_join_1 : decode prog_11_method_49_code 1 = .ok (.iload_n 1, 1) := by decide +kernel
theorem d_Model_join_2 : decode prog_11_method_49_code 2 = .ok (.i2l, 1) := by decide +kernel
theorem d_Model_join_3 : decode prog_11_method_49_code 3 = .ok (.lconst 0, 1) := by decide +kernel
theorem d_Model_join_4 : decode prog_11_method_49_code 4 = .ok (.ldc2_w 240, 3) := by decide +kernel
theorem d_Model_join_7 : decode prog_11_method_49_code 7 = .ok (.invokestatic 242, 3) := by decide +kernel
theorem d_Model_join_10 : decode prog_11_method_49_code 10 = .ok (.ifCond .eq 25, 3) := by decide +kernel
theorem d_Model_join_13 : decode prog_11_method_49_code 13 = .ok (.iload_n 2, 1) := by decide +kernel
theorem d_Model_join_14 : decode prog_11_method_49_code 14 = .ok (.invokestatic 262, 3) := by decide +kernel
theorem d_Model_join_17 : decode prog_11_method_49_code 17 = .ok (.ifCond .ne 18, 3) := by decide +kernel
theorem d_Model_join_20 : decode prog_11_method_49_code 20 = .ok (.iload_n 3, 1) := by decide +kernel
theorem d_Model_join_21 : decode prog_11_method_49_code 21 = .ok (.invokestatic 262, 3) := by decide +kernel
theorem d_Model_join_24 : decode prog_11_method_49_code 24 = .ok (.ifCond .ne 11, 3) := by decide +kernel
theorem d_Model_join_27 : decode prog_11_method_49_code 27 = .ok (.iload 4, 2) := by decide +kernel
theorem d_Model_join_29 : decode prog_11_method_49_code 29 = .ok (.invokestatic 262, 3) := by decide +kernel
theorem d_Model_join_32 : decode prog_11_method_49_code 32 = .ok (.ifCond .eq 7, 3) := by decide +kernel
theorem d_Model_join_35 : decode prog_11_method_49_code 35 = .ok (.iconst 1, 1) := by decide +kernel
theorem d_Model_join_36 : decode prog_11_method_49_code 36 = .ok (.goto 4, 3) := by decide +kernel
theorem d_Model_join_39 : decode prog_11_method_49_code 39 = .ok (.iconst 0, 1) := by decide +kernel
theorem d_Model_join_40 : decode prog_11_method_49_code 40 = .ok (.iconst 1, 1) := by decide +kernel
theorem d_Model_join_41 : decode prog_11_method_49_code 41 = .ok (.invokevirtual 223, 3) := by decide +kernel
theorem d_Model_join_44 : decode prog_11_method_49_code 44 = .ok (.ifCond .eq 4, 3) := by decide +kernel
theorem d_Model_join_47 : decode prog_11_method_49_code 47 = .ok (.return_, 1) := by decide +kernel
theorem d_Model_join_48 : decode prog_11_method_49_code 48 = .ok (.aload_n 0, 1) := by decide +kernel
theorem d_Model_join_49 : decode prog_11_method_49_code 49 = .ok (.iconst 0, 1) := by decide +kernel
theorem d_Model_join_50 : decode prog_11_method_49_code 50 = .ok (.invokevirtual 137, 3) := by decide +kernel
theorem d_Model_join_53 : decode prog_11_method_49_code 53 = .ok (.iload_n 1, 1) := by decide +kernel
theorem d_Model_join_54 : decode prog_11_method_49_code 54 = .ok (.ifCond .ne 11, 3) := by decide +kernel
theorem d_Model_join_57 : decode prog_11_method_49_code 57 = .ok (.aload_n 0, 1) := by decide +kernel
theorem d_Model_join_58 : decode prog_11_method_49_code 58 = .ok (.iload_n 2, 1) := by decide +kernel
theorem d_Model_join_59 : decode prog_11_method_49_code 59 = .ok (.invokestatic 265, 3) := by decide +kernel
theorem d_Model_join_62 : decode prog_11_method_49_code 62 = .ok (.invokevirtual 152, 3) := by decide +kernel
theorem d_Model_join_65 : decode prog_11_method_49_code 65 = .ok (.iload_n 1, 1) := by decide +kernel
theorem d_Model_join_66 : decode prog_11_method_49_code 66 = .ok (.iconst 1, 1) := by decide +kernel
theorem d_Model_join_67 : decode prog_11_method_49_code 67 = .ok (.if_icmp .ne 13, 3) := by decide +kernel
theorem d_Model_join_70 : decode prog_11_method_49_code 70 = .ok (.aload_n 0, 1) := by decide +kernel
theorem d_Model_join_71 : decode prog_11_method_49_code 71 = .ok (.iload_n 2, 1) := by decide +kernel
theorem d_Model_join_72 : decode prog_11_method_49_code 72 = .ok (.invokestatic 265, 3) := by decide +kernel
theorem d_Model_join_75 : decode prog_11_method_49_code 75 = .ok (.bipush 116, 2) := by decide +kernel
theorem d_Model_join_77 : decode prog_11_method_49_code 77 = .ok (.invokevirtual 209, 3) := by decide +kernel
theorem d_Model_join_80 : decode prog_11_method_49_code 80 = .ok (.iload_n 1, 1) := by decide +kernel
theorem d_Model_join_81 : decode prog_11_method_49_code 81 = .ok (.iconst 2, 1) := by decide +kernel
theorem d_Model_join_82 : decode prog_11_method_49_code 82 = .ok (.if_icmp .ge 4, 3) := by decide +kernel
theorem d_Model_join_85 : decode prog_11_method_49_code 85 = .ok (.return_, 1) := by decide +kernel
theorem d_Model_join_86 : decode prog_11_method_49_code 86 = .ok (.aload_n 0, 1) := by decide +kernel
theorem d_Model_join_87 : decode prog_11_method_49_code 87 = .ok (.sipush 157, 3) := by decide +kernel
theorem d_Model_join_90 : decode prog_11_method_49_code 90 = .ok (.iload 4, 2) := by decide +kernel
theorem d_Model_join_92 : decode prog_11_method_49_code 92 = .ok (.invokestatic 265, 3) := by decide +kernel
theorem d_Model_join_95 : decode prog_11_method_49_code 95 = .ok (.invokevirtual 209, 3) := by decide +kernel
theorem d_Model_join_98 : decode prog_11_method_49_code 98 = .ok (.aload_n 0, 1) := by decide +kernel
theorem d_Model_join_99 : decode prog_11_method_49_code 99 = .ok (.sipush 160, 3) := by decide +kernel
theorem d_Model_join_102 : decode prog_11_method_49_code 102 = .ok (.invokevirtual 200, 3) := by decide +kernel
theorem d_Model_join_105 : decode prog_11_method_49_code 105 = .ok (.iload_n 1, 1) := by decide +kernel
theorem d_Model_join_106 : decode prog_11_method_49_code 106 = .ok (.iconst 3, 1) := by decide +kernel
theorem d_Model_join_107 : decode prog_11_method_49_code 107 = .ok (.if_icmp .ne 16, 3) := by decide +kernel
theorem d_Model_join_110 : decode prog_11_method_49_code 110 = .ok (.aload_n 0, 1) := by decide +kernel
theorem d_Model_join_111 : decode prog_11_method_49_code 111 = .ok (.sipush 158, 3) := by decide +kernel
theorem d_Model_join_114 : decode prog_11_method_49_code 114 = .ok (.sipush 160, 3) := by decide +kernel
theorem d_Model_join_117 : decode prog_11_method_49_code 117 = .ok (.sipush 158, 3) := by decide +kernel
theorem d_Model_join_120 : decode prog_11_method_49_code 120 = .ok (.invokevirtual 203, 3) := by decide +kernel
theorem d_Model_join_123 : decode prog_11_method_49_code 123 = .ok (.aload_n 0, 1) := by decide +kernel
theorem d_Model_join_124 : decode prog_11_method_49_code 124 = .ok (.sipush 161, 3) := by decide +kernel
theorem d_Model_join_127 : decode prog_11_method_49_code 127 = .ok (.iload_n 3, 1) := by decide +kernel
theorem d_Model_join_128 : decode prog_11_method_49_code 128 = .ok (.invokestatic 265, 3) := by decide +kernel
theorem d_Model_join_131 : decode prog_11_method_49_code 131 = .ok (.sipush 157, 3) := by decide +kernel
theorem d_Model_join_134 : decode prog_11_method_49_code 134 = .ok (.invokevirtual 212, 3) := by decide +kernel
theorem d_Model_join_137 : decode prog_11_method_49_code 137 = .ok (.aload_n 0, 1) := by decide +kernel
theorem d_Model_join_138 : decode prog_11_method_49_code 138 = .ok (.iload_n 2, 1) := by decide +kernel
theorem d_Model_join_139 : decode prog_11_method_49_code 139 = .ok (.invokestatic 265, 3) := by decide +kernel
theorem d_Model_join_142 : decode prog_11_method_49_code 142 = .ok (.sipush 161, 3) := by decide +kernel
theorem d_Model_join_145 : decode prog_11_method_49_code 145 = .ok (.invokevirtual 209, 3) := by decide +kernel
theorem d_Model_join_148 : decode prog_11_method_49_code 148 = .ok (.return_, 1) := by decide +kernel
abbrev y_Model_reckon : MethodName := ⟨"KateDeskModel", "reckon", "(IIII)V"⟩
theorem hd_Model_reckon : y_Model_reckon.cls ≠ "java/lang/invoke/MethodHandle" ∧ y_Model_reckon.cls ≠ "java/lang/invoke/VarHandle" ∧ (parseMethodDescriptor y_Model_reckon.desc).map (fun d => d.parameters.length) = some 4 := by decide +kernel
theorem d_Model_reckon_0 : decode prog_11_method_41_code 0 = .ok (.aload_n 0, 1) := by decide +kernel
theorem d_Model_reckon_1 : decode prog_11_method_41_code 1 = .ok (.iload_n 1, 1) := by decide +kernel
theorem d_Model_reckon_2 : decode prog_11_method_41_code 2 = .ok (.i2l, 1) := by decide +kernel
theorem d_Model_reckon_3 : decode prog_11_method_41_code 3 = .ok (.lconst 0, 1) := by decide +kernel
theorem d_Model_reckon_4 : decode prog_11_method_41_code 4 = .ok (.ldc2_w 240, 3) := by decide +kernel
theorem d_Model_reckon_7 : decode prog_11_method_41_code 7 = .ok (.invokestatic 242, 3) := by decide +kernel
theorem d_Model_reckon_10 : decode prog_11_method_41_code 10 = .ok (.ifCond .eq 25, 3) := by decide +kernel
theorem d_Model_reckon_13 : decode prog_11_method_41_code 13 = .ok (.iload_n 2, 1) := by decide +kernel
theorem d_Model_reckon_14 : decode prog_11_method_41_code 14 = .ok (.invokestatic 219, 3) := by decide +kernel
theorem d_Model_reckon_17 : decode prog_11_method_41_code 17 = .ok (.ifCond .ne 18, 3) := by decide +kernel
theorem d_Model_reckon_20 : decode prog_11_method_41_code 20 = .ok (.iload_n 3, 1) := by decide +kernel
theorem d_Model_reckon_21 : decode prog_11_method_41_code 21 = .ok (.invokestatic 219, 3) := by decide +kernel
theorem d_Model_reckon_24 : decode prog_11_method_41_code 24 = .ok (.ifCond .ne 11, 3) := by decide +kernel
theorem d_Model_reckon_27 : decode prog_11_method_41_code 27 = .ok (.iload 4, 2) := by decide +kernel
theorem d_Model_reckon_29 : decode prog_11_method_41_code 29 = .ok (.invokestatic 219, 3) := by decide +kernel
theorem d_Model_reckon_32 : decode prog_11_method_41_code 32 = .ok (.ifCond .eq 7, 3) := by decide +kernel
theorem d_Model_reckon_35 : decode prog_11_method_41_code 35 = .ok (.iconst 1, 1) := by decide +kernel
theorem d_Model_reckon_36 : decode prog_11_method_41_code 36 = .ok (.goto 4, 3) := by decide +kernel
theorem d_Model_reckon_39 : decode prog_11_method_41_code 39 = .ok (.iconst 0, 1) := by decide +kernel
theorem d_Model_reckon_40 : decode prog_11_method_41_code 40 = .ok (.iconst 1, 1) := by decide +kernel
theorem d_Model_reckon_41 : decode prog_11_method_41_code 41 = .ok (.invokevirtual 223, 3) := by decide +kernel
theorem d_Model_reckon_44 : decode prog_11_method_41_code 44 = .ok (.ifCond .ne 33, 3) := by decide +kernel
theorem d_Model_reckon_47 : decode prog_11_method_41_code 47 = .ok (.aload_n 0, 1) := by decide +kernel
theorem d_Model_reckon_48 : decode prog_11_method_41_code 48 = .ok (.iload_n 1, 1) := by decide +kernel
theorem d_Model_reckon_49 : decode prog_11_method_41_code 49 = .ok (.iconst 3, 1) := by decide +kernel
theorem d_Model_reckon_50 : decode prog_11_method_41_code 50 = .ok (.if_icmp .ne 19, 3) := by decide +kernel
theorem d_Model_reckon_53 : decode prog_11_method_41_code 53 = .ok (.aload_n 0, 1) := by decide +kernel
theorem d_Model_reckon_54 : decode prog_11_method_41_code 54 = .ok (.iload 4, 2) := by decide +kernel
theorem d_Model_reckon_56 : decode prog_11_method_41_code 56 = .ok (.bipush 31, 2) := by decide +kernel
theorem d_Model_reckon_58 : decode prog_11_method_41_code 58 = .ok (.iand, 1) := by decide +kernel
theorem d_Model_reckon_59 : decode prog_11_method_41_code 59 = .ok (.invokevirtual 246, 3) := by decide +kernel
theorem d_Model_reckon_62 : decode prog_11_method_41_code 62 = .ok (.ifCond .eq 7, 3) := by decide +kernel
theorem d_Model_reckon_65 : decode prog_11_method_41_code 65 = .ok (.iconst 1, 1) := by decide +kernel
theorem d_Model_reckon_66 : decode prog_11_method_41_code 66 = .ok (.goto 4, 3) := by decide +kernel
theorem d_Model_reckon_69 : decode prog_11_method_41_code 69 = .ok (.iconst 0, 1) := by decide +kernel
theorem d_Model_reckon_70 : decode prog_11_method_41_code 70 = .ok (.iconst 2, 1) := by decide +kernel
theorem d_Model_reckon_71 : decode prog_11_method_41_code 71 = .ok (.invokevirtual 223, 3) := by decide +kernel
theorem d_Model_reckon_74 : decode prog_11_method_41_code 74 = .ok (.ifCond .eq 4, 3) := by decide +kernel
theorem d_Model_reckon_77 : decode prog_11_method_41_code 77 = .ok (.return_, 1) := by decide +kernel
theorem d_Model_reckon_78 : decode prog_11_method_41_code 78 = .ok (.aload_n 0, 1) := by decide +kernel
theorem d_Model_reckon_79 : decode prog_11_method_41_code 79 = .ok (.iconst 1, 1) := by decide +kernel
theorem d_Model_reckon_80 : decode prog_11_method_41_code 80 = .ok (.invokevirtual 137, 3) := by decide +kernel
theorem d_Model_reckon_83 : decode prog_11_method_41_code 83 = .ok (.iload_n 1, 1) := by decide +kernel
theorem d_Model_reckon_84 : decode prog_11_method_41_code 84 = .ok (.ifCond .ne 11, 3) := by decide +kernel
theorem d_Model_reckon_87 : decode prog_11_method_41_code 87 = .ok (.aload_n 0, 1) := by decide +kernel
theorem d_Model_reckon_88 : decode prog_11_method_41_code 88 = .ok (.iload_n 2, 1) := by decide +kernel
theorem d_Model_reckon_89 : decode prog_11_method_41_code 89 = .ok (.iload_n 3, 1) := by decide +kernel
theorem d_Model_reckon_90 : decode prog_11_method_41_code 90 = .ok (.iload 4, 2) := by decide +kernel
theorem d_Model_reckon_92 : decode prog_11_method_41_code 92 = .ok (.invokevirtual 148, 3) := by decide +kernel
theorem d_Model_reckon_95 : decode prog_11_method_41_code 95 = .ok (.iload_n 1, 1) := by decide +kernel
theorem d_Model_reckon_96 : decode prog_11_method_41_code 96 = .ok (.iconst 1, 1) := by decide +kernel
theorem d_Model_reckon_97 : decode prog_11_method_41_code 97 = .ok (.if_icmp .ne 11, 3) := by decide +kernel
theorem d_Model_reckon_100 : decode prog_11_method_41_code 100 = .ok (.aload_n 0, 1) := by decide +kernel
theorem d_Model_reckon_101 : decode prog_11_method_41_code 101 = .ok (.iload_n 2, 1) := by decide +kernel
theorem d_Model_reckon_102 : decode prog_11_method_41_code 102 = .ok (.iload_n 3, 1) := by decide +kernel
theorem d_Model_reckon_103 : decode prog_11_method_41_code 103 = .ok (.iload 4, 2) := by decide +kernel
theorem d_Model_reckon_105 : decode prog_11_method_41_code 105 = .ok (.invokevirtual 203, 3) := by decide +kernel
theorem d_Model_reckon_108 : decode prog_11_method_41_code 108 = .ok (.iload_n 1, 1) := by decide +kernel
theorem d_Model_reckon_109 : decode prog_11_method_41_code 109 = .ok (.iconst 2, 1) := by decide +kernel
theorem d_Model_reckon_110 : decode prog_11_method_41_code 110 = .ok (.if_icmp .ne 11, 3) := by decide +kernel
theorem d_Model_reckon_113 : decode prog_11_method_41_code 113 = .ok (.aload_n 0, 1) := by decide +kernel
theorem d_Model_reckon_114 : decode prog_11_method_41_code 114 = .ok (.iload_n 2, 1) := by decide +kernel
theorem d_Model_reckon_115 : decode prog_11_method_41_code 115 = .ok (.iload_n 3, 1) := by decide +kernel
theorem d_Model_reckon_116 : decode prog_11_method_41_code 116 = .ok (.iload 4, 2) := by decide +kernel
theorem d_Model_reckon_118 : decode prog_11_method_41_code 118 = .ok (.invokevirtual 184, 3) := by decide +kernel
theorem d_Model_reckon_121 : decode prog_11_method_41_code 121 = .ok (.iload_n 1, 1) := by decide +kernel
theorem d_Model_reckon_122 : decode prog_11_method_41_code 122 = .ok (.iconst 3, 1) := by decide +kernel
theorem d_Model_reckon_123 : decode prog_11_method_41_code 123 = .ok (.if_icmp .ge 4, 3) := by decide +kernel
theorem d_Model_reckon_126 : decode prog_11_method_41_code 126 = .ok (.return_, 1) := by decide +kernel
theorem d_Model_reckon_127 : decode prog_11_method_41_code 127 = .ok (.aload_n 0, 1) := by decide +kernel
theorem d_Model_reckon_128 : decode prog_11_method_41_code 128 = .ok (.sipush 145, 3) := by decide +kernel
theorem d_Model_reckon_131 : decode prog_11_method_41_code 131 = .ok (.iload_n 3, 1) := by decide +kernel
theorem d_Model_reckon_132 : decode prog_11_method_41_code 132 = .ok (.invokevirtual 180, 3) := by decide +kernel
theorem d_Model_reckon_135 : decode prog_11_method_41_code 135 = .ok (.aload_n 0, 1) := by decide +kernel
theorem d_Model_reckon_136 : decode prog_11_method_41_code 136 = .ok (.sipush 146, 3) := by decide +kernel
theorem d_Model_reckon_139 : decode prog_11_method_41_code 139 = .ok (.iload 4, 2) := by decide +kernel
theorem d_Model_reckon_141 : decode prog_11_method_41_code 141 = .ok (.invokevirtual 249, 3) := by decide +kernel
theorem d_Model_reckon_144 : decode prog_11_method_41_code 144 = .ok (.aload_n 0, 1) := by decide +kernel
theorem d_Model_reckon_145 : decode prog_11_method_41_code 145 = .ok (.iload_n 2, 1) := by decide +kernel
theorem d_Model_reckon_146 : decode prog_11_method_41_code 146 = .ok (.sipush 145, 3) := by decide +kernel
theorem d_Model_reckon_149 : decode prog_11_method_41_code 149 = .ok (.sipush 146, 3) := by decide +kernel
theorem d_Model_reckon_152 : decode prog_11_method_41_code 152 = .ok (.invokevirtual 184, 3) := by decide +kernel
theorem d_Model_reckon_155 : decode prog_11_method_41_code 155 = .ok (.return_, 1) := by decide +kernel
abbrev y_Model_commit : MethodName := ⟨"KateDeskModel", "commit", "(III)V"⟩
theorem hd_Model_commit : y_Model_commit.cls ≠ "java/lang/invoke/MethodHandle" ∧ y_Model_commit.cls ≠ "java/lang/invoke/VarHandle" ∧ (parseMethodDescriptor y_Model_commit.desc).map (fun d => d.parameters.length) = some 3 := by decide +kernel
theorem d_Model_commit_0 : decode prog_11_method_55_code 0 = .ok (.aload_n 0, 1) := by decide +kernel
theorem d_Model_commit_1 : decode prog_11_method_55_code 1 = .ok (.iload_n 1, 1) := by decide +kernel
theorem d_Model_commit_2 : decode prog_11_method_55_code 2 = .ok (.invokestatic 262, 3) := by decide +kernel
theorem d_Model_commit_5 : decode prog_11_method_55_code 5 = .ok (.ifCond .ne 23, 3) := by decide +kernel
theorem d_Model_commit_8 : decode prog_11_method_55_code 8 = .ok (.iload_n 3, 1) := by decide +kernel
theorem d_Model_commit_9 : decode prog_11_method_55_code 9 = .ok (.i2l, 1) := by decide +kernel
theorem d_Model_commit_10 : decode prog_11_method_55_code 10 = .ok (.lconst 0, 1) := by decide +kernel
theorem d_Model_commit_11 : decode prog_11_method_55_code 11 = .ok (.ldc2_w 292, 3) := by decide +kernel
theorem d_Model_commit_14 : decode prog_11_method_55_code 14 = .ok (.invokestatic 242, 3) := by decide +kernel
theorem d_Model_commit_17 : decode prog_11_method_55_code 17 = .ok (.ifCond .eq 11, 3) := by decide +kernel
theorem d_Model_commit_20 : decode prog_11_method_55_code 20 = .ok (.iload_n 2, 1) := by decide +kernel
theorem d_Model_commit_21 : decode prog_11_method_55_code 21 = .ok (.iload_n 3, 1) := by decide +kernel
theorem d_Model_commit_22 : decode prog_11_method_55_code 22 = .ok (.invokestatic 283, 3) := by decide +kernel
theorem d_Model_commit_25 : decode prog_11_method_55_code 25 = .ok (.ifCond .eq 7, 3) := by decide +kernel
theorem d_Model_commit_28 : decode prog_11_method_55_code 28 = .ok (.iconst 1, 1) := by decide +kernel
theorem d_Model_commit_29 : decode prog_11_method_55_code 29 = .ok (.goto 4, 3) := by decide +kernel
theorem d_Model_commit_32 : decode prog_11_method_55_code 32 = .ok (.iconst 0, 1) := by decide +kernel
theorem d_Model_commit_33 : decode prog_11_method_55_code 33 = .ok (.iconst 1, 1) := by decide +kernel
theorem d_Model_commit_34 : decode prog_11_method_55_code 34 = .ok (.invokevirtual 223, 3) := by decide +kernel
theorem d_Model_commit_37 : decode prog_11_method_55_code 37 = .ok (.ifCond .ne 24, 3) := by decide +kernel
theorem d_Model_commit_40 : decode prog_11_method_55_code 40 = .ok (.aload_n 0, 1) := by decide +kernel
theorem d_Model_commit_41 : decode prog_11_method_55_code 41 = .ok (.iload_n 3, 1) := by decide +kernel
theorem d_Model_commit_42 : decode prog_11_method_55_code 42 = .ok (.aload_n 0, 1) := by decide +kernel
theorem d_Model_commit_43 : decode prog_11_method_55_code 43 = .ok (.getfield 294, 3) := by decide +kernel
theorem d_Model_commit_46 : decode prog_11_method_55_code 46 = .ok (.if_icmp .le 7, 3) := by decide +kernel
theorem d_Model_commit_49 : decode prog_11_method_55_code 49 = .ok (.iconst 1, 1) := by decide +kernel
theorem d_Model_commit_50 : decode prog_11_method_55_code 50 = .ok (.goto 4, 3) := by decide +kernel
theorem d_Model_commit_53 : decode prog_11_method_55_code 53 = .ok (.iconst 0, 1) := by decide +kernel
theorem d_Model_commit_54 : decode prog_11_method_55_code 54 = .ok (.iconst 2, 1) := by decide +kernel
theorem d_Model_commit_55 : decode prog_11_method_55_code 55 = .ok (.invokevirtual 223, 3) := by decide +kernel
theorem d_Model_commit_58 : decode prog_11_method_55_code 58 = .ok (.ifCond .eq 4, 3) := by decide +kernel
theorem d_Model_commit_61 : decode prog_11_method_55_code 61 = .ok (.return_, 1) := by decide +kernel
theorem d_Model_commit_62 : decode prog_11_method_55_code 62 = .ok (.aload_n 0, 1) := by decide +kernel
theorem d_Model_commit_63 : decode prog_11_method_55_code 63 = .ok (.iload_n 2, 1) := by decide +kernel
theorem d_Model_commit_64 : decode prog_11_method_55_code 64 = .ok (.bipush 68, 2) := by decide +kernel
theorem d_Model_commit_66 : decode prog_11_method_55_code 66 = .ok (.iload_n 3, 1) := by decide +kernel
theorem d_Model_commit_67 : decode prog_11_method_55_code 67 = .ok (.invokevirtual 286, 3) := by decide +kernel
theorem d_Model_commit_70 : decode prog_11_method_55_code 70 = .ok (.aload_n 0, 1) := by decide +kernel
theorem d_Model_commit_71 : decode prog_11_method_55_code 71 = .ok (.iload_n 1, 1) := by decide +kernel
theorem d_Model_commit_72 : decode prog_11_method_55_code 72 = .ok (.invokestatic 265, 3) := by decide +kernel
theorem d_Model_commit_75 : decode prog_11_method_55_code 75 = .ok (.sipush 164, 3) := by decide +kernel
theorem d_Model_commit_78 : decode prog_11_method_55_code 78 = .ok (.invokevirtual 209, 3) := by decide +kernel
theorem d_Model_commit_81 : decode prog_11_method_55_code 81 = .ok (.return_, 1) := by decide +kernel
abbrev y_Model_point : MethodName := ⟨"KateDeskModel", "point", "(I)I"⟩
theorem hd_Model_point : y_Model_point.cls ≠ "java/lang/invoke/MethodHandle" ∧ y_Model_point.cls ≠ "java/lang/invoke/VarHandle" ∧ (parseMethodDescriptor y_Model_point.desc).map (fun d => d.parameters.length) = some 1 := by decide +kernel
theorem d_Model_point_0 : decode prog_11_method_46_code 0 = .ok (.aload_n 0, 1) := by decide +kernel
theorem d_Model_point_1 : decode prog_11_method_46_code 1 = .ok (.iload_n 1, 1) := by decide +kernel
theorem d_Model_point_2 : decode prog_11_method_46_code 2 = .ok (.invokestatic 262, 3) := by decide +kernel
theorem d_Model_point_5 : decode prog_11_method_46_code 5 = .ok (.iconst 1, 1) := by decide +kernel
theorem d_Model_point_6 : decode prog_11_method_46_code 6 = .ok (.invokevirtual 223, 3) := by decide +kernel
theorem d_Model_point_9 : decode prog_11_method_46_code 9 = .ok (.ifCond .eq 5, 3) := by decide +kernel
theorem d_Model_point_12 : decode prog_11_method_46_code 12 = .ok (.iconst 0, 1) := by decide +kernel
theorem d_Model_point_13 : decode prog_11_method_46_code 13 = .ok (.ireturn, 1) := by decide +kernel
theorem d_Model_point_14 : decode prog_11_method_46_code 14 = .ok (.aload_n 0, 1) := by decide +kernel
theorem d_Model_point_15 : decode prog_11_method_46_code 15 = .ok (.getfield 155, 3) := by decide +kernel
theorem d_Model_point_18 : decode prog_11_method_46_code 18 = .ok (.istore_n 2, 1) := by decide +kernel
theorem d_Model_point_19 : decode prog_11_method_46_code 19 = .ok (.aload_n 0, 1) := by decide +kernel
theorem d_Model_point_20 : decode prog_11_method_46_code 20 = .ok (.iconst 0, 1) := by decide +kernel
theorem d_Model_point_21 : decode prog_11_method_46_code 21 = .ok (.putfield 155, 3) := by decide +kernel
theorem d_Model_point_24 : decode prog_11_method_46_code 24 = .ok (.iload_n 2, 1) := by decide +kernel
theorem d_Model_point_25 : decode prog_11_method_46_code 25 = .ok (.bipush 48, 2) := by decide +kernel
theorem d_Model_point_27 : decode prog_11_method_46_code 27 = .ok (.if_icmp .eq 11, 3) := by decide +kernel
theorem d_Model_point_30 : decode prog_11_method_46_code 30 = .ok (.iload_n 2, 1) := by decide +kernel
theorem d_Model_point_31 : decode prog_11_method_46_code 31 = .ok (.bipush 96, 2) := by decide +kernel
theorem d_Model_point_33 : decode prog_11_method_46_code 33 = .ok (.if_icmp .eq 5, 3) := by decide +kernel
theorem d_Model_point_36 : decode prog_11_method_46_code 36 = .ok (.iconst 1, 1) := by decide +kernel
theorem d_Model_point_37 : decode prog_11_method_46_code 37 = .ok (.ireturn, 1) := by decide +kernel
theorem d_Model_point_38 : decode prog_11_method_46_code 38 = .ok (.aload_n 0, 1) := by decide +kernel
theorem d_Model_point_39 : decode prog_11_method_46_code 39 = .ok (.getfield 127, 3) := by decide +kernel
theorem d_Model_point_42 : decode prog_11_method_46_code 42 = .ok (.iconst 0, 1) := by decide +kernel
theorem d_Model_point_43 : decode prog_11_method_46_code 43 = .ok (.iaload, 1) := by decide +kernel
theorem d_Model_point_44 : decode prog_11_method_46_code 44 = .ok (.iconst 5, 1) := by decide +kernel
theorem d_Model_point_45 : decode prog_11_method_46_code 45 = .ok (.ishr, 1) := by decide +kernel
theorem d_Model_point_46 : decode prog_11_method_46_code 46 = .ok (.istore_n 3, 1) := by decide +kernel
theorem d_Model_point_47 : decode prog_11_method_46_code 47 = .ok (.iload_n 2, 1) := by decide +kernel
theorem d_Model_point_48 : decode prog_11_method_46_code 48 = .ok (.bipush 48, 2) := by decide +kernel
theorem d_Model_point_50 : decode prog_11_method_46_code 50 = .ok (.if_icmp .ne 27, 3) := by decide +kernel
theorem d_Model_point_53 : decode prog_11_method_46_code 53 = .ok (.iload_n 3, 1) := by decide +kernel
theorem d_Model_point_54 : decode prog_11_method_46_code 54 = .ok (.iconst 4, 1) := by decide +kernel
theorem d_Model_point_55 : decode prog_11_method_46_code 55 = .ok (.if_icmp .eq 14, 3) := by decide +kernel
theorem d_Model_point_58 : decode prog_11_method_46_code 58 = .ok (.iload_n 3, 1) := by decide +kernel
theorem d_Model_point_59 : decode prog_11_method_46_code 59 = .ok (.iconst 5, 1) := by decide +kernel
theorem d_Model_point_60 : decode prog_11_method_46_code 60 = .ok (.if_icmp .eq 9, 3) := by decide +kernel
theorem d_Model_point_63 : decode prog_11_method_46_code 63 = .ok (.iload_n 3, 1) := by decide +kernel
theorem d_Model_point_64 : decode prog_11_method_46_code 64 = .ok (.bipush 6, 2) := by decide +kernel
theorem d_Model_point_66 : decode prog_11_method_46_code 66 = .ok (.if_icmp .ne 7, 3) := by decide +kernel
theorem d_Model_point_69 : decode prog_11_method_46_code 69 = .ok (.iconst 1, 1) := by decide +kernel
theorem d_Model_point_70 : decode prog_11_method_46_code 70 = .ok (.goto 21, 3) := by decide +kernel
theorem d_Model_point_73 : decode prog_11_method_46_code 73 = .ok (.iconst 0, 1) := by decide +kernel
theorem d_Model_point_74 : decode prog_11_method_46_code 74 = .ok (.goto 17, 3) := by decide +kernel
theorem d_Model_point_77 : decode prog_11_method_46_code 77 = .ok (.iload_n 3, 1) := by decide +kernel
theorem d_Model_point_78 : decode prog_11_method_46_code 78 = .ok (.ifCond .eq 8, 3) := by decide +kernel
theorem d_Model_point_81 : decode prog_11_method_46_code 81 = .ok (.iload_n 3, 1) := by decide +kernel
theorem d_Model_point_82 : decode prog_11_method_46_code 82 = .ok (.iconst 2, 1) := by decide +kernel
theorem d_Model_point_83 : decode prog_11_method_46_code 83 = .ok (.if_icmp .ne 7, 3) := by decide +kernel
theorem d_Model_point_86 : decode prog_11_method_46_code 86 = .ok (.iconst 1, 1) := by decide +kernel
theorem d_Model_point_87 : decode prog_11_method_46_code 87 = .ok (.goto 4, 3) := by decide +kernel
theorem d_Model_point_90 : decode prog_11_method_46_code 90 = .ok (.iconst 0, 1) := by decide +kernel
theorem d_Model_point_91 : decode prog_11_method_46_code 91 = .ok (.istore 4, 2) := by decide +kernel
theorem d_Model_point_93 : decode prog_11_method_46_code 93 = .ok (.iload 4, 2) := by decide +kernel
theorem d_Model_point_95 : decode prog_11_method_46_code 95 = .ok (.ifCond .ne 5, 3) := by decide +kernel
theorem d_Model_point_98 : decode prog_11_method_46_code 98 = .ok (.iconst 2, 1) := by decide +kernel
theorem d_Model_point_99 : decode prog_11_method_46_code 99 = .ok (.ireturn, 1) := by decide +kernel
theorem d_Model_point_100 : decode prog_11_method_46_code 100 = .ok (.aload_n 0, 1) := by decide +kernel
theorem d_Model_point_101 : decode prog_11_method_46_code 101 = .ok (.iconst 0, 1) := by decide +kernel
theorem d_Model_point_102 : decode prog_11_method_46_code 102 = .ok (.invokevirtual 137, 3) := by decide +kernel
theorem d_Model_point_105 : decode prog_11_method_46_code 105 = .ok (.aload_n 0, 1) := by decide +kernel
theorem d_Model_point_106 : decode prog_11_method_46_code 106 = .ok (.sipush 148, 3) := by decide +kernel
theorem d_Model_point_109 : decode prog_11_method_46_code 109 = .ok (.invokevirtual 200, 3) := by decide +kernel
theorem d_Model_point_112 : decode prog_11_method_46_code 112 = .ok (.aload_n 0, 1) := by decide +kernel
theorem d_Model_point_113 : decode prog_11_method_46_code 113 = .ok (.sipush 149, 3) := by decide +kernel
theorem d_Model_point_116 : decode prog_11_method_46_code 116 = .ok (.invokevirtual 200, 3) := by decide +kernel
theorem d_Model_point_119 : decode prog_11_method_46_code 119 = .ok (.iconst 0, 1) := by decide +kernel
theorem d_Model_point_120 : decode prog_11_method_46_code 120 = .ok (.istore 5, 2) := by decide +kernel
theorem d_Model_point_122 : decode prog_11_method_46_code 122 = .ok (.iload 5, 2) := by decide +kernel
theorem d_Model_point_124 : decode prog_11_method_46_code 124 = .ok (.iload_n 2, 1) := by decide +kernel
theorem d_Model_point_125 : decode prog_11_method_46_code 125 = .ok (.if_icmp .ge 61, 3) := by decide +kernel
theorem d_Model_point_128 : decode prog_11_method_46_code 128 = .ok (.aload_n 0, 1) := by decide +kernel
theorem d_Model_point_129 : decode prog_11_method_46_code 129 = .ok (.iload 5, 2) := by decide +kernel
theorem d_Model_point_131 : decode prog_11_method_46_code 131 = .ok (.bipush 48, 2) := by decide +kernel
theorem d_Model_point_133 : decode prog_11_method_46_code 133 = .ok (.if_icmp .ge 9, 3) := by decide +kernel
theorem d_Model_point_136 : decode prog_11_method_46_code 136 = .ok (.sipush 148, 3) := by decide +kernel
theorem d_Model_point_139 : decode prog_11_method_46_code 139 = .ok (.goto 6, 3) := by decide +kernel
theorem d_Model_point_142 : decode prog_11_method_46_code 142 = .ok (.sipush 149, 3) := by decide +kernel
theorem d_Model_point_145 : decode prog_11_method_46_code 145 = .ok (.bipush 47, 2) := by decide +kernel
theorem d_Model_point_147 : decode prog_11_method_46_code 147 = .ok (.iload 5, 2) := by decide +kernel
theorem d_Model_point_149 : decode prog_11_method_46_code 149 = .ok (.bipush 48, 2) := by decide +kernel
theorem d_Model_point_151 : decode prog_11_method_46_code 151 = .ok (.irem, 1) := by decide +kernel
theorem d_Model_point_152 : decode prog_11_method_46_code 152 = .ok (.isub, 1) := by decide +kernel
theorem d_Model_point_153 : decode prog_11_method_46_code 153 = .ok (.iload 5, 2) := by decide +kernel
theorem d_Model_point_155 : decode prog_11_method_46_code 155 = .ok (.ifCond .ne 15, 3) := by decide +kernel
theorem d_Model_point_158 : decode prog_11_method_46_code 158 = .ok (.aload_n 0, 1) := by decide +kernel
theorem d_Model_point_159 : decode prog_11_method_46_code 159 = .ok (.getfield 127, 3) := by decide +kernel
theorem d_Model_point_162 : decode prog_11_method_46_code 162 = .ok (.iconst 0, 1) := by decide +kernel
theorem d_Model_point_163 : decode prog_11_method_46_code 163 = .ok (.iaload, 1) := by decide +kernel
theorem d_Model_point_164 : decode prog_11_method_46_code 164 = .ok (.bipush 31, 2) := by decide +kernel
theorem d_Model_point_166 : decode prog_11_method_46_code 166 = .ok (.iand, 1) := by decide +kernel
theorem d_Model_point_167 : decode prog_11_method_46_code 167 = .ok (.goto 10, 3) := by decide +kernel
theorem d_Model_point_170 : decode prog_11_method_46_code 170 = .ok (.aload_n 0, 1) := by decide +kernel
theorem d_Model_point_171 : decode prog_11_method_46_code 171 = .ok (.getfield 127, 3) := by decide +kernel
theorem d_Model_point_174 : decode prog_11_method_46_code 174 = .ok (.iload 5, 2) := by decide +kernel
theorem d_Model_point_176 : decode prog_11_method_46_code 176 = .ok (.iaload, 1) := by decide +kernel
theorem d_Model_point_177 : decode prog_11_method_46_code 177 = .ok (.invokevirtual 229, 3) := by decide +kernel
theorem d_Model_point_180 : decode prog_11_method_46_code 180 = .ok (.iinc 5 1, 3) := by decide +kernel
theorem d_Model_point_183 : decode prog_11_method_46_code 183 = .ok (.goto (-61), 3) := by decide +kernel
theorem d_Model_point_186 : decode prog_11_method_46_code 186 = .ok (.iload_n 3, 1) := by decide +kernel
theorem d_Model_point_187 : decode prog_11_method_46_code 187 = .ok (.bipush 6, 2) := by decide +kernel
theorem d_Model_point_189 : decode prog_11_method_46_code 189 = .ok (.if_icmp .eq 8, 3) := by decide +kernel
theorem d_Model_point_192 : decode prog_11_method_46_code 192 = .ok (.iload_n 3, 1) := by decide +kernel
theorem d_Model_point_193 : decode prog_11_method_46_code 193 = .ok (.iconst 2, 1) := by decide +kernel
theorem d_Model_point_194 : decode prog_11_method_46_code 194 = .ok (.if_icmp .ne 35, 3) := by decide +kernel
theorem d_Model_point_197 : decode prog_11_method_46_code 197 = .ok (.aload_n 0, 1) := by decide +kernel
theorem d_Model_point_198 : decode prog_11_method_46_code 198 = .ok (.sipush 148, 3) := by decide +kernel
theorem d_Model_point_201 : decode prog_11_method_46_code 201 = .ok (.invokevirtual 246, 3) := by decide +kernel
theorem d_Model_point_204 : decode prog_11_method_46_code 204 = .ok (.ifCond .eq 13, 3) := by decide +kernel
theorem d_Model_point_207 : decode prog_11_method_46_code 207 = .ok (.aload_n 0, 1) := by decide +kernel
theorem d_Model_point_208 : decode prog_11_method_46_code 208 = .ok (.sipush 149, 3) := by decide +kernel
theorem d_Model_point_211 : decode prog_11_method_46_code 211 = .ok (.invokevirtual 246, 3) := by decide +kernel
theorem d_Model_point_214 : decode prog_11_method_46_code 214 = .ok (.ifCond .ne 5, 3) := by decide +kernel
theorem d_Model_point_217 : decode prog_11_method_46_code 217 = .ok (.iconst 3, 1) := by decide +kernel
theorem d_Model_point_218 : decode prog_11_method_46_code 218 = .ok (.ireturn, 1) := by decide +kernel
theorem d_Model_point_219 : decode prog_11_method_46_code 219 = .ok (.aload_n 0, 1) := by decide +kernel
theorem d_Model_point_220 : decode prog_11_method_46_code 220 = .ok (.iload_n 1, 1) := by decide +kernel
theorem d_Model_point_221 : decode prog_11_method_46_code 221 = .ok (.invokestatic 265, 3) := by decide +kernel
theorem d_Model_point_224 : decode prog_11_method_46_code 224 = .ok (.invokevirtual 152, 3) := by decide +kernel
theorem d_Model_point_227 : decode prog_11_method_46_code 227 = .ok (.iconst 0, 1) := by decide +kernel
theorem d_Model_point_228 : decode prog_11_method_46_code 228 = .ok (.ireturn, 1) := by decide +kernel
theorem d_Model_point_229 : decode prog_11_method_46_code 229 = .ok (.aload_n 0, 1) := by decide +kernel
theorem d_Model_point_230 : decode prog_11_method_46_code 230 = .ok (.sipush 148, 3) := by decide +kernel
theorem d_Model_point_233 : decode prog_11_method_46_code 233 = .ok (.invokevirtual 232, 3) := by decide +kernel
theorem d_Model_point_236 : decode prog_11_method_46_code 236 = .ok (.ifCond .eq 13, 3) := by decide +kernel
theorem d_Model_point_239 : decode prog_11_method_46_code 239 = .ok (.aload_n 0, 1) := by decide +kernel
theorem d_Model_point_240 : decode prog_11_method_46_code 240 = .ok (.sipush 149, 3) := by decide +kernel
theorem d_Model_point_243 : decode prog_11_method_46_code 243 = .ok (.invokevirtual 232, 3) := by decide +kernel
theorem d_Model_point_246 : decode prog_11_method_46_code 246 = .ok (.ifCond .ne 5, 3) := by decide +kernel
theorem d_Model_point_249 : decode prog_11_method_46_code 249 = .ok (.iconst 4, 1) := by decide +kernel
theorem d_Model_point_250 : decode prog_11_method_46_code 250 = .ok (.ireturn, 1) := by decide +kernel
theorem d_Model_point_251 : decode prog_11_method_46_code 251 = .ok (.aload_n 0, 1) := by decide +kernel
theorem d_Model_point_252 : decode prog_11_method_46_code 252 = .ok (.sipush 151, 3) := by decide +kernel
theorem d_Model_point_255 : decode prog_11_method_46_code 255 = .ok (.sipush 148, 3) := by decide +kernel
theorem d_Model_point_258 : decode prog_11_method_46_code 258 = .ok (.sipush 148, 3) := by decide +kernel
theorem d_Model_point_261 : decode prog_11_method_46_code 261 = .ok (.invokevirtual 184, 3) := by decide +kernel
theorem d_Model_point_264 : decode prog_11_method_46_code 264 = .ok (.aload_n 0, 1) := by decide +kernel
theorem d_Model_point_265 : decode prog_11_method_46_code 265 = .ok (.sipush 151, 3) := by decide +kernel
theorem d_Model_point_268 : decode prog_11_method_46_code 268 = .ok (.sipush 151, 3) := by decide +kernel
theorem d_Model_point_271 : decode prog_11_method_46_code 271 = .ok (.sipush 148, 3) := by decide +kernel
theorem d_Model_point_274 : decode prog_11_method_46_code 274 = .ok (.invokevirtual 184, 3) := by decide +kernel
theorem d_Model_point_277 : decode prog_11_method_46_code 277 = .ok (.aload_n 0, 1) := by decide +kernel
theorem d_Model_point_278 : decode prog_11_method_46_code 278 = .ok (.sipush 152, 3) := by decide +kernel
theorem d_Model_point_281 : decode prog_11_method_46_code 281 = .ok (.ldc2_w 269, 3) := by decide +kernel
theorem d_Model_point_284 : decode prog_11_method_46_code 284 = .ok (.invokevirtual 235, 3) := by decide +kernel
theorem d_Model_point_287 : decode prog_11_method_46_code 287 = .ok (.aload_n 0, 1) := by decide +kernel
theorem d_Model_point_288 : decode prog_11_method_46_code 288 = .ok (.sipush 151, 3) := by decide +kernel
theorem d_Model_point_291 : decode prog_11_method_46_code 291 = .ok (.sipush 151, 3) := by decide +kernel
theorem d_Model_point_294 : decode prog_11_method_46_code 294 = .ok (.sipush 152, 3) := by decide +kernel
theorem d_Model_point_297 : decode prog_11_method_46_code 297 = .ok (.invokevirtual 148, 3) := by decide +kernel
theorem d_Model_point_300 : decode prog_11_method_46_code 300 = .ok (.iload_n 2, 1) := by decide +kernel
theorem d_Model_point_301 : decode prog_11_method_46_code 301 = .ok (.bipush 48, 2) := by decide +kernel
theorem d_Model_point_303 : decode prog_11_method_46_code 303 = .ok (.if_icmp .ne 72, 3) := by decide +kernel
theorem d_Model_point_306 : decode prog_11_method_46_code 306 = .ok (.aload_n 0, 1) := by decide +kernel
theorem d_Model_point_307 : decode prog_11_method_46_code 307 = .ok (.sipush 152, 3) := by decide +kernel
theorem d_Model_point_310 : decode prog_11_method_46_code 310 = .ok (.lconst 1, 1) := by decide +kernel
theorem d_Model_point_311 : decode prog_11_method_46_code 311 = .ok (.invokevirtual 193, 3) := by decide +kernel
theorem d_Model_point_314 : decode prog_11_method_46_code 314 = .ok (.aload_n 0, 1) := by decide +kernel
theorem d_Model_point_315 : decode prog_11_method_46_code 315 = .ok (.sipush 152, 3) := by decide +kernel
theorem d_Model_point_318 : decode prog_11_method_46_code 318 = .ok (.iconst 2, 1) := by decide +kernel
theorem d_Model_point_319 : decode prog_11_method_46_code 319 = .ok (.invokevirtual 254, 3) := by decide +kernel
theorem d_Model_point_322 : decode prog_11_method_46_code 322 = .ok (.aload_n 0, 1) := by decide +kernel
theorem d_Model_point_323 : decode prog_11_method_46_code 323 = .ok (.sipush 149, 3) := by decide +kernel
theorem d_Model_point_326 : decode prog_11_method_46_code 326 = .ok (.sipush 151, 3) := by decide +kernel
theorem d_Model_point_329 : decode prog_11_method_46_code 329 = .ok (.sipush 152, 3) := by decide +kernel
theorem d_Model_point_332 : decode prog_11_method_46_code 332 = .ok (.invokevirtual 197, 3) := by decide +kernel
theorem d_Model_point_335 : decode prog_11_method_46_code 335 = .ok (.aload_n 0, 1) := by decide +kernel
theorem d_Model_point_336 : decode prog_11_method_46_code 336 = .ok (.sipush 149, 3) := by decide +kernel
theorem d_Model_point_339 : decode prog_11_method_46_code 339 = .ok (.invokevirtual 271, 3) := by decide +kernel
theorem d_Model_point_342 : decode prog_11_method_46_code 342 = .ok (.iload_n 3, 1) := by decide +kernel
theorem d_Model_point_343 : decode prog_11_method_46_code 343 = .ok (.iconst 5, 1) := by decide +kernel
theorem d_Model_point_344 : decode prog_11_method_46_code 344 = .ok (.if_icmp .ne 7, 3) := by decide +kernel
theorem d_Model_point_347 : decode prog_11_method_46_code 347 = .ok (.iconst 1, 1) := by decide +kernel
theorem d_Model_point_348 : decode prog_11_method_46_code 348 = .ok (.goto 4, 3) := by decide +kernel
theorem d_Model_point_351 : decode prog_11_method_46_code 351 = .ok (.iconst 0, 1) := by decide +kernel
theorem d_Model_point_352 : decode prog_11_method_46_code 352 = .ok (.if_icmp .eq 23, 3) := by decide +kernel
theorem d_Model_point_355 : decode prog_11_method_46_code 355 = .ok (.aload_n 0, 1) := by decide +kernel
theorem d_Model_point_356 : decode prog_11_method_46_code 356 = .ok (.sipush 152, 3) := by decide +kernel
theorem d_Model_point_359 : decode prog_11_method_46_code 359 = .ok (.invokevirtual 200, 3) := by decide +kernel
theorem d_Model_point_362 : decode prog_11_method_46_code 362 = .ok (.aload_n 0, 1) := by decide +kernel
theorem d_Model_point_363 : decode prog_11_method_46_code 363 = .ok (.sipush 149, 3) := by decide +kernel
theorem d_Model_point_366 : decode prog_11_method_46_code 366 = .ok (.sipush 152, 3) := by decide +kernel
theorem d_Model_point_369 : decode prog_11_method_46_code 369 = .ok (.sipush 149, 3) := by decide +kernel
theorem d_Model_point_372 : decode prog_11_method_46_code 372 = .ok (.invokevirtual 203, 3) := by decide +kernel
theorem d_Model_point_375 : decode prog_11_method_46_code 375 = .ok (.aload_n 0, 1) := by decide +kernel
theorem d_Model_point_376 : decode prog_11_method_46_code 376 = .ok (.sipush 152, 3) := by decide +kernel
theorem d_Model_point_379 : decode prog_11_method_46_code 379 = .ok (.sipush 149, 3) := by decide +kernel
theorem d_Model_point_382 : decode prog_11_method_46_code 382 = .ok (.sipush 149, 3) := by decide +kernel
theorem d_Model_point_385 : decode prog_11_method_46_code 385 = .ok (.invokevirtual 184, 3) := by decide +kernel
theorem d_Model_point_388 : decode prog_11_method_46_code 388 = .ok (.aload_n 0, 1) := by decide +kernel
theorem d_Model_point_389 : decode prog_11_method_46_code 389 = .ok (.sipush 151, 3) := by decide +kernel
theorem d_Model_point_392 : decode prog_11_method_46_code 392 = .ok (.sipush 152, 3) := by decide +kernel
theorem d_Model_point_395 : decode prog_11_method_46_code 395 = .ok (.invokevirtual 215, 3) := by decide +kernel
theorem d_Model_point_398 : decode prog_11_method_46_code 398 = .ok (.ifCond .ne 5, 3) := by decide +kernel
theorem d_Model_point_401 : decode prog_11_method_46_code 401 = .ok (.iconst 5, 1) := by decide +kernel
theorem d_Model_point_402 : decode prog_11_method_46_code 402 = .ok (.ireturn, 1) := by decide +kernel
theorem d_Model_point_403 : decode prog_11_method_46_code 403 = .ok (.aload_n 0, 1) := by decide +kernel
theorem d_Model_point_404 : decode prog_11_method_46_code 404 = .ok (.sipush 150, 3) := by decide +kernel
theorem d_Model_point_407 : decode prog_11_method_46_code 407 = .ok (.invokevirtual 141, 3) := by decide +kernel
theorem d_Model_point_410 : decode prog_11_method_46_code 410 = .ok (.iconst 0, 1) := by decide +kernel
theorem d_Model_point_411 : decode prog_11_method_46_code 411 = .ok (.istore 5, 2) := by decide +kernel
theorem d_Model_point_413 : decode prog_11_method_46_code 413 = .ok (.iload 5, 2) := by decide +kernel
theorem d_Model_point_415 : decode prog_11_method_46_code 415 = .ok (.bipush 14, 2) := by decide +kernel
theorem d_Model_point_417 : decode prog_11_method_46_code 417 = .ok (.if_icmp .ge 30, 3) := by decide +kernel
theorem d_Model_point_420 : decode prog_11_method_46_code 420 = .ok (.aload_n 0, 1) := by decide +kernel
theorem d_Model_point_421 : decode prog_11_method_46_code 421 = .ok (.getfield 7, 3) := by decide +kernel
theorem d_Model_point_424 : decode prog_11_method_46_code 424 = .ok (.sipush 2142, 3) := by decide +kernel
theorem d_Model_point_427 : decode prog_11_method_46_code 427 = .ok (.iload 5, 2) := by decide +kernel
theorem d_Model_point_429 : decode prog_11_method_46_code 429 = .ok (.iadd, 1) := by decide +kernel
theorem d_Model_point_430 : decode prog_11_method_46_code 430 = .ok (.aload_n 0, 1) := by decide +kernel
theorem d_Model_point_431 : decode prog_11_method_46_code 431 = .ok (.getfield 59, 3) := by decide +kernel
theorem d_Model_point_434 : decode prog_11_method_46_code 434 = .ok (.bipush 14, 2) := by decide +kernel
theorem d_Model_point_436 : decode prog_11_method_46_code 436 = .ok (.iload 5, 2) := by decide +kernel
theorem d_Model_point_438 : decode prog_11_method_46_code 438 = .ok (.iadd, 1) := by decide +kernel
theorem d_Model_point_439 : decode prog_11_method_46_code 439 = .ok (.laload, 1) := by decide +kernel
theorem d_Model_point_440 : decode prog_11_method_46_code 440 = .ok (.lastore, 1) := by decide +kernel
theorem d_Model_point_441 : decode prog_11_method_46_code 441 = .ok (.iinc 5 1, 3) := by decide +kernel
theorem d_Model_point_444 : decode prog_11_method_46_code 444 = .ok (.goto (-31), 3) := by decide +kernel
theorem d_Model_point_447 : decode prog_11_method_46_code 447 = .ok (.aload_n 0, 1) := by decide +kernel
theorem d_Model_point_448 : decode prog_11_method_46_code 448 = .ok (.sipush 154, 3) := by decide +kernel
theorem d_Model_point_451 : decode prog_11_method_46_code 451 = .ok (.sipush 153, 3) := by decide +kernel
theorem d_Model_point_454 : decode prog_11_method_46_code 454 = .ok (.sipush 148, 3) := by decide +kernel
theorem d_Model_point_457 : decode prog_11_method_46_code 457 = .ok (.invokevirtual 274, 3) := by decide +kernel
theorem d_Model_point_460 : decode prog_11_method_46_code 460 = .ok (.aload_n 0, 1) := by decide +kernel
theorem d_Model_point_461 : decode prog_11_method_46_code 461 = .ok (.sipush 156, 3) := by decide +kernel
theorem d_Model_point_464 : decode prog_11_method_46_code 464 = .ok (.invokevirtual 246, 3) := by decide +kernel
theorem d_Model_point_467 : decode prog_11_method_46_code 467 = .ok (.ifCond .ne 6, 3) := by decide +kernel
theorem d_Model_point_470 : decode prog_11_method_46_code 470 = .ok (.bipush 6, 2) := by decide +kernel
theorem d_Model_point_472 : decode prog_11_method_46_code 472 = .ok (.ireturn, 1) := by decide +kernel
theorem d_Model_point_473 : decode prog_11_method_46_code 473 = .ok (.aload_n 0, 1) := by decide +kernel
theorem d_Model_point_474 : decode prog_11_method_46_code 474 = .ok (.iload_n 1, 1) := by decide +kernel
theorem d_Model_point_475 : decode prog_11_method_46_code 475 = .ok (.invokestatic 265, 3) := by decide +kernel
theorem d_Model_point_478 : decode prog_11_method_46_code 478 = .ok (.sipush 148, 3) := by decide +kernel
theorem d_Model_point_481 : decode prog_11_method_46_code 481 = .ok (.invokevirtual 209, 3) := by decide +kernel
theorem d_Model_point_484 : decode prog_11_method_46_code 484 = .ok (.iconst 0, 1) := by decide +kernel
theorem d_Model_point_485 : decode prog_11_method_46_code 485 = .ok (.ireturn, 1) := by decide +kernel
abbrev y_Model_look : MethodName := ⟨"KateDeskModel", "look", "(I)I"⟩
theorem hd_Model_look : y_Model_look.cls ≠ "java/lang/invoke/MethodHandle" ∧ y_Model_look.cls ≠ "java/lang/invoke/VarHandle" ∧ (parseMethodDescriptor y_Model_look.desc).map (fun d => d.parameters.length) = some 1 := by decide +kernel
theorem d_Model_look_0 : decode prog_11_method_61_code 0 = .ok (.aload_n 0, 1) := by decide +kernel
theorem d_Model_look_1 : decode prog_11_method_61_code 1 = .ok (.iload_n 1, 1) := by decide +kernel
theorem d_Model_look_2 : decode prog_11_method_61_code 2 = .ok (.i2l, 1) := by decide +kernel
theorem d_Model_look_3 : decode prog_11_method_61_code 3 = .ok (.lconst 0, 1) := by decide +kernel
theorem d_Model_look_4 : decode prog_11_method_61_code 4 = .ok (.ldc2_w 238, 3) := by decide +kernel
theorem d_Model_look_7 : decode prog_11_method_61_code 7 = .ok (.invokestatic 242, 3) := by decide +kernel
theorem d_Model_look_10 : decode prog_11_method_61_code 10 = .ok (.ifCond .ne 7, 3) := by decide +kernel
theorem d_Model_look_13 : decode prog_11_method_61_code 13 = .ok (.iconst 1, 1) := by decide +kernel
theorem d_Model_look_14 : decode prog_11_method_61_code 14 = .ok (.goto 4, 3) := by decide +kernel
theorem d_Model_look_17 : decode prog_11_method_61_code 17 = .ok (.iconst 0, 1) := by decide +kernel
theorem d_Model_look_18 : decode prog_11_method_61_code 18 = .ok (.iconst 1, 1) := by decide +kernel
theorem d_Model_look_19 : decode prog_11_method_61_code 19 = .ok (.invokevirtual 223, 3) := by decide +kernel
theorem d_Model_look_22 : decode prog_11_method_61_code 22 = .ok (.ifCond .eq 5, 3) := by decide +kernel
theorem d_Model_look_25 : decode prog_11_method_61_code 25 = .ok (.iconst 0, 1) := by decide +kernel
theorem d_Model_look_26 : decode prog_11_method_61_code 26 = .ok (.ireturn, 1) := by decide +kernel
theorem d_Model_look_27 : decode prog_11_method_61_code 27 = .ok (.iload_n 1, 1) := by decide +kernel
theorem d_Model_look_28 : decode prog_11_method_61_code 28 = .ok (.ifCond .ne 10, 3) := by decide +kernel
theorem d_Model_look_31 : decode prog_11_method_61_code 31 = .ok (.aload_n 0, 1) := by decide +kernel
theorem d_Model_look_32 : decode prog_11_method_61_code 32 = .ok (.getfield 294, 3) := by decide +kernel
theorem d_Model_look_35 : decode prog_11_method_61_code 35 = .ok (.goto 19, 3) := by decide +kernel
theorem d_Model_look_38 : decode prog_11_method_61_code 38 = .ok (.iload_n 1, 1) := by decide +kernel
theorem d_Model_look_39 : decode prog_11_method_61_code 39 = .ok (.iconst 1, 1) := by decide +kernel
theorem d_Model_look_40 : decode prog_11_method_61_code 40 = .ok (.if_icmp .ne 10, 3) := by decide +kernel
theorem d_Model_look_43 : decode prog_11_method_61_code 43 = .ok (.aload_n 0, 1) := by decide +kernel
theorem d_Model_look_44 : decode prog_11_method_61_code 44 = .ok (.getfield 155, 3) := by decide +kernel
theorem d_Model_look_47 : decode prog_11_method_61_code 47 = .ok (.goto 7, 3) := by decide +kernel
theorem d_Model_look_50 : decode prog_11_method_61_code 50 = .ok (.aload_n 0, 1) := by decide +kernel
theorem d_Model_look_51 : decode prog_11_method_61_code 51 = .ok (.getfield 277, 3) := by decide +kernel
theorem d_Model_look_54 : decode prog_11_method_61_code 54 = .ok (.ireturn, 1) := by decide +kernel