abbrev y_Desk_same : MethodName := ⟨"KateDesk", "same", "(II)Z"⟩
theorem hd_Desk_same : y_Desk_same.cls ≠ "java/lang/invoke/MethodHandle" ∧ y_Desk_same.cls ≠ "java/lang/invoke/VarHandle" ∧ (parseMethodDescriptor y_Desk_same.desc).map (fun d => d.parameters.length) = some 2 := by decide +kernel
theorem d_Desk_same_0 : decode prog_1_method_15_code 0 = .ok (.iload_n 1, 1) := by decide +kernel
theorem d_Desk_same_1 : decode prog_1_method_15_code 1 = .ok (.iconst 1, 1) := by decide +kernel
theorem d_Desk_same_2 : decode prog_1_method_15_code 2 = .ok (.invokestatic 210, 3) := by decide +kernel
theorem d_Desk_same_5 : decode prog_1_method_15_code 5 = .ok (.iload_n 2, 1) := by decide +kernel
theorem d_Desk_same_6 : decode prog_1_method_15_code 6 = .ok (.iconst 1, 1) := by decide +kernel
theorem d_Desk_same_7 : decode prog_1_method_15_code 7 = .ok (.invokestatic 210, 3) := by decide +kernel
theorem d_Desk_same_10 : decode prog_1_method_15_code 10 = .ok (.aload_n 0, 1) := by decide +kernel
theorem d_Desk_same_11 : decode prog_1_method_15_code 11 = .ok (.getfield 76, 3) := by decide +kernel
theorem d_Desk_same_14 : decode prog_1_method_15_code 14 = .ok (.aload_n 0, 1) := by decide +kernel
theorem d_Desk_same_15 : decode prog_1_method_15_code 15 = .ok (.getfield 20, 3) := by decide +kernel
theorem d_Desk_same_18 : decode prog_1_method_15_code 18 = .ok (.iload_n 1, 1) := by decide +kernel
theorem d_Desk_same_19 : decode prog_1_method_15_code 19 = .ok (.aaload, 1) := by decide +kernel
theorem d_Desk_same_20 : decode prog_1_method_15_code 20 = .ok (.aload_n 0, 1) := by decide +kernel
theorem d_Desk_same_21 : decode prog_1_method_15_code 21 = .ok (.getfield 20, 3) := by decide +kernel
theorem d_Desk_same_24 : decode prog_1_method_15_code 24 = .ok (.iload_n 2, 1) := by decide +kernel
theorem d_Desk_same_25 : decode prog_1_method_15_code 25 = .ok (.aaload, 1) := by decide +kernel
theorem d_Desk_same_26 : decode prog_1_method_15_code 26 = .ok (.invokevirtual 251, 3) := by decide +kernel
theorem d_Desk_same_29 : decode prog_1_method_15_code 29 = .ok (.ireturn, 1) := by decide +kernel
abbrev y_Desk_join : MethodName := ⟨"KateDesk", "join", "(IIII)V"⟩
theorem hd_Desk_join : y_Desk_join.cls ≠ "java/lang/invoke/MethodHandle" ∧ y_Desk_join.cls ≠ "java/lang/invoke/VarHandle" ∧ (parseMethodDescriptor y_Desk_join.desc).map (fun d => d.parameters.length) = some 4 := by decide +kernel
theorem d_Desk_join_0 : decode prog_1_method_12_code 0 = .ok (.iload_n 1, 1) := by decide +kernel
theorem d_Desk_join_1 : decode prog_1_method_12_code 1 = .ok (.invokestatic 168, 3) := by decide +kernel
theorem d_Desk_join_4 : decode prog_1_method_12_code 4 = .ok (.iload_n 2, 1) := by decide +kernel
theorem d_Desk_join_5 : decode prog_1_method_12_code 5 = .ok (.iconst 1, 1) := by decide +kernel
theorem d_Desk_join_6 : decode prog_1_method_12_code 6 = .ok (.invokestatic 210, 3) := by decide +kernel
theorem d_Desk_join_9 : decode prog_1_method_12_code 9 = .ok (.iload_n 3, 1) := by decide +kernel
theorem d_Desk_join_10 : decode prog_1_method_12_code 10 = .ok (.iconst 1, 1) := by decide +kernel
theorem d_Desk_join_11 : decode prog_1_method_12_code 11 = .ok (.invokestatic 210, 3) := by decide +kernel
theorem d_Desk_join_14 : decode prog_1_method_12_code 14 = .ok (.iload 4, 2) := by decide +kernel
theorem d_Desk_join_16 : decode prog_1_method_12_code 16 = .ok (.iconst 1, 1) := by decide +kernel
theorem d_Desk_join_17 : decode prog_1_method_12_code 17 = .ok (.invokestatic 210, 3) := by decide +kernel
theorem d_Desk_join_20 : decode prog_1_method_12_code 20 = .ok (.iload_n 1, 1) := by decide +kernel
theorem d_Desk_join_21 : decode prog_1_method_12_code 21 = .ok (.ifCond .ne 15, 3) := by decide +kernel
theorem d_Desk_join_24 : decode prog_1_method_12_code 24 = .ok (.aload_n 0, 1) := by decide +kernel
theorem d_Desk_join_25 : decode prog_1_method_12_code 25 = .ok (.getfield 20, 3) := by decide +kernel
theorem d_Desk_join_28 : decode prog_1_method_12_code 28 = .ok (.iload_n 2, 1) := by decide +kernel
theorem d_Desk_join_29 : decode prog_1_method_12_code 29 = .ok (.aaload, 1) := by decide +kernel
theorem d_Desk_join_30 : decode prog_1_method_12_code 30 = .ok (.invokevirtual 233, 3) := by decide +kernel
theorem d_Desk_join_33 : decode prog_1_method_12_code 33 = .ok (.goto 60, 3) := by decide +kernel
theorem d_Desk_join_36 : decode prog_1_method_12_code 36 = .ok (.iload_n 1, 1) := by decide +kernel
theorem d_Desk_join_37 : decode prog_1_method_12_code 37 = .ok (.iconst 1, 1) := by decide +kernel
theorem d_Desk_join_38 : decode prog_1_method_12_code 38 = .ok (.if_icmp .ne 19, 3) := by decide +kernel
theorem d_Desk_join_41 : decode prog_1_method_12_code 41 = .ok (.aload_n 0, 1) := by decide +kernel
theorem d_Desk_join_42 : decode prog_1_method_12_code 42 = .ok (.getfield 20, 3) := by decide +kernel
theorem d_Desk_join_45 : decode prog_1_method_12_code 45 = .ok (.iload_n 2, 1) := by decide +kernel
theorem d_Desk_join_46 : decode prog_1_method_12_code 46 = .ok (.aaload, 1) := by decide +kernel
theorem d_Desk_join_47 : decode prog_1_method_12_code 47 = .ok (.aload_n 0, 1) := by decide +kernel
theorem d_Desk_join_48 : decode prog_1_method_12_code 48 = .ok (.getfield 109, 3) := by decide +kernel
theorem d_Desk_join_51 : decode prog_1_method_12_code 51 = .ok (.invokevirtual 221, 3) := by decide +kernel
theorem d_Desk_join_54 : decode prog_1_method_12_code 54 = .ok (.goto 39, 3) := by decide +kernel
theorem d_Desk_join_57 : decode prog_1_method_12_code 57 = .ok (.aload_n 0, 1) := by decide +kernel
theorem d_Desk_join_58 : decode prog_1_method_12_code 58 = .ok (.getfield 76, 3) := by decide +kernel
theorem d_Desk_join_61 : decode prog_1_method_12_code 61 = .ok (.aload_n 0, 1) := by decide +kernel
theorem d_Desk_join_62 : decode prog_1_method_12_code 62 = .ok (.getfield 20, 3) := by decide +kernel
theorem d_Desk_join_65 : decode prog_1_method_12_code 65 = .ok (.iload_n 2, 1) := by decide +kernel
theorem d_Desk_join_66 : decode prog_1_method_12_code 66 = .ok (.aaload, 1) := by decide +kernel
theorem d_Desk_join_67 : decode prog_1_method_12_code 67 = .ok (.aload_n 0, 1) := by decide +kernel
theorem d_Desk_join_68 : decode prog_1_method_12_code 68 = .ok (.getfield 20, 3) := by decide +kernel
theorem d_Desk_join_71 : decode prog_1_method_12_code 71 = .ok (.iload_n 3, 1) := by decide +kernel
theorem d_Desk_join_72 : decode prog_1_method_12_code 72 = .ok (.aaload, 1) := by decide +kernel
theorem d_Desk_join_73 : decode prog_1_method_12_code 73 = .ok (.aload_n 0, 1) := by decide +kernel
theorem d_Desk_join_74 : decode prog_1_method_12_code 74 = .ok (.getfield 20, 3) := by decide +kernel
theorem d_Desk_join_77 : decode prog_1_method_12_code 77 = .ok (.iload 4, 2) := by decide +kernel
theorem d_Desk_join_79 : decode prog_1_method_12_code 79 = .ok (.aaload, 1) := by decide +kernel
theorem d_Desk_join_80 : decode prog_1_method_12_code 80 = .ok (.iload_n 1, 1) := by decide +kernel
theorem d_Desk_join_81 : decode prog_1_method_12_code 81 = .ok (.iconst 3, 1) := by decide +kernel
theorem d_Desk_join_82 : decode prog_1_method_12_code 82 = .ok (.if_icmp .ne 7, 3) := by decide +kernel
theorem d_Desk_join_85 : decode prog_1_method_12_code 85 = .ok (.iconst 1, 1) := by decide +kernel
theorem d_Desk_join_86 : decode prog_1_method_12_code 86 = .ok (.goto 4, 3) := by decide +kernel
theorem d_Desk_join_89 : decode prog_1_method_12_code 89 = .ok (.iconst 0, 1) := by decide +kernel
theorem d_Desk_join_90 : decode prog_1_method_12_code 90 = .ok (.invokevirtual 236, 3) := by decide +kernel
theorem d_Desk_join_93 : decode prog_1_method_12_code 93 = .ok (.return_, 1) := by decide +kernel
abbrev y_Desk_times : MethodName := ⟨"KateDesk", "times", "(III)V"⟩
theorem hd_Desk_times : y_Desk_times.cls ≠ "java/lang/invoke/MethodHandle" ∧ y_Desk_times.cls ≠ "java/lang/invoke/VarHandle" ∧ (parseMethodDescriptor y_Desk_times.desc).map (fun d => d.parameters.length) = some 3 := by decide +kernel
theorem d_Desk_times_0 : decode prog_1_method_13_code 0 = .ok (.iload_n 1, 1) := by decide +kernel
theorem d_Desk_times_1 : decode prog_1_method_13_code 1 = .ok (.iconst 1, 1) := by decide +kernel
theorem d_Desk_times_2 : decode prog_1_method_13_code 2 = .ok (.invokestatic 210, 3) := by decide +kernel
theorem d_Desk_times_5 : decode prog_1_method_13_code 5 = .ok (.iload_n 2, 1) := by decide +kernel
theorem d_Desk_times_6 : decode prog_1_method_13_code 6 = .ok (.iconst 1, 1) := by decide +kernel
theorem d_Desk_times_7 : decode prog_1_method_13_code 7 = .ok (.invokestatic 129, 3) := by decide +kernel
theorem d_Desk_times_10 : decode prog_1_method_13_code 10 = .ok (.iload_n 3, 1) := by decide +kernel
theorem d_Desk_times_11 : decode prog_1_method_13_code 11 = .ok (.iconst 1, 1) := by decide +kernel
theorem d_Desk_times_12 : decode prog_1_method_13_code 12 = .ok (.invokestatic 210, 3) := by decide +kernel
theorem d_Desk_times_15 : decode prog_1_method_13_code 15 = .ok (.aload_n 0, 1) := by decide +kernel
theorem d_Desk_times_16 : decode prog_1_method_13_code 16 = .ok (.getfield 85, 3) := by decide +kernel
theorem d_Desk_times_19 : decode prog_1_method_13_code 19 = .ok (.iconst 0, 1) := by decide +kernel
theorem d_Desk_times_20 : decode prog_1_method_13_code 20 = .ok (.aload_n 0, 1) := by decide +kernel
theorem d_Desk_times_21 : decode prog_1_method_13_code 21 = .ok (.getfield 13, 3) := by decide +kernel
theorem d_Desk_times_24 : decode prog_1_method_13_code 24 = .ok (.iload_n 2, 1) := by decide +kernel
theorem d_Desk_times_25 : decode prog_1_method_13_code 25 = .ok (.aaload, 1) := by decide +kernel
theorem d_Desk_times_26 : decode prog_1_method_13_code 26 = .ok (.aload_n 0, 1) := by decide +kernel
theorem d_Desk_times_27 : decode prog_1_method_13_code 27 = .ok (.getfield 20, 3) := by decide +kernel
theorem d_Desk_times_30 : decode prog_1_method_13_code 30 = .ok (.iload_n 3, 1) := by decide +kernel
theorem d_Desk_times_31 : decode prog_1_method_13_code 31 = .ok (.aaload, 1) := by decide +kernel
theorem d_Desk_times_32 : decode prog_1_method_13_code 32 = .ok (.invokevirtual 239, 3) := by decide +kernel
theorem d_Desk_times_35 : decode prog_1_method_13_code 35 = .ok (.aload_n 0, 1) := by decide +kernel
theorem d_Desk_times_36 : decode prog_1_method_13_code 36 = .ok (.getfield 85, 3) := by decide +kernel
theorem d_Desk_times_39 : decode prog_1_method_13_code 39 = .ok (.aload_n 0, 1) := by decide +kernel
theorem d_Desk_times_40 : decode prog_1_method_13_code 40 = .ok (.getfield 20, 3) := by decide +kernel
theorem d_Desk_times_43 : decode prog_1_method_13_code 43 = .ok (.iload_n 1, 1) := by decide +kernel
theorem d_Desk_times_44 : decode prog_1_method_13_code 44 = .ok (.aaload, 1) := by decide +kernel
theorem d_Desk_times_45 : decode prog_1_method_13_code 45 = .ok (.iconst 1, 1) := by decide +kernel
theorem d_Desk_times_46 : decode prog_1_method_13_code 46 = .ok (.invokevirtual 243, 3) := by decide +kernel
theorem d_Desk_times_49 : decode prog_1_method_13_code 49 = .ok (.return_, 1) := by decide +kernel
abbrev y_Desk_combine : MethodName := ⟨"KateDesk", "combine", "(IIII)V"⟩
theorem hd_Desk_combine : y_Desk_combine.cls ≠ "java/lang/invoke/MethodHandle" ∧ y_Desk_combine.cls ≠ "java/lang/invoke/VarHandle" ∧ (parseMethodDescriptor y_Desk_combine.desc).map (fun d => d.parameters.length) = some 4 := by decide +kernel
theorem d_Desk_combine_0 : decode prog_1_method_14_code 0 = .ok (.iload_n 1, 1) := by decide +kernel
theorem d_Desk_combine_1 : decode prog_1_method_14_code 1 = .ok (.iconst 1, 1) := by decide +kernel
theorem d_Desk_combine_2 : decode prog_1_method_14_code 2 = .ok (.invokestatic 210, 3) := by decide +kernel
theorem d_Desk_combine_5 : decode prog_1_method_14_code 5 = .ok (.iload 4, 2) := by decide +kernel
theorem d_Desk_combine_7 : decode prog_1_method_14_code 7 = .ok (.iconst 0, 1) := by decide +kernel
theorem d_Desk_combine_8 : decode prog_1_method_14_code 8 = .ok (.bipush 12, 2) := by decide +kernel
theorem d_Desk_combine_10 : decode prog_1_method_14_code 10 = .ok (.invokestatic 247, 3) := by decide +kernel
theorem d_Desk_combine_13 : decode prog_1_method_14_code 13 = .ok (.iload_n 2, 1) := by decide +kernel
theorem d_Desk_combine_14 : decode prog_1_method_14_code 14 = .ok (.iload 4, 2) := by decide +kernel
theorem d_Desk_combine_16 : decode prog_1_method_14_code 16 = .ok (.invokestatic 129, 3) := by decide +kernel
theorem d_Desk_combine_19 : decode prog_1_method_14_code 19 = .ok (.iload_n 3, 1) := by decide +kernel
theorem d_Desk_combine_20 : decode prog_1_method_14_code 20 = .ok (.iload 4, 2) := by decide +kernel
theorem d_Desk_combine_22 : decode prog_1_method_14_code 22 = .ok (.invokestatic 210, 3) := by decide +kernel
theorem d_Desk_combine_25 : decode prog_1_method_14_code 25 = .ok (.iconst 0, 1) := by decide +kernel
theorem d_Desk_combine_26 : decode prog_1_method_14_code 26 = .ok (.istore 5, 2) := by decide +kernel
theorem d_Desk_combine_28 : decode prog_1_method_14_code 28 = .ok (.iload 5, 2) := by decide +kernel
theorem d_Desk_combine_30 : decode prog_1_method_14_code 30 = .ok (.iload 4, 2) := by decide +kernel
theorem d_Desk_combine_32 : decode prog_1_method_14_code 32 = .ok (.if_icmp .ge 36, 3) := by decide +kernel
theorem d_Desk_combine_35 : decode prog_1_method_14_code 35 = .ok (.aload_n 0, 1) := by decide +kernel
theorem d_Desk_combine_36 : decode prog_1_method_14_code 36 = .ok (.getfield 85, 3) := by decide +kernel
theorem d_Desk_combine_39 : decode prog_1_method_14_code 39 = .ok (.iload 5, 2) := by decide +kernel
theorem d_Desk_combine_41 : decode prog_1_method_14_code 41 = .ok (.aload_n 0, 1) := by decide +kernel
theorem d_Desk_combine_42 : decode prog_1_method_14_code 42 = .ok (.getfield 13, 3) := by decide +kernel
theorem d_Desk_combine_45 : decode prog_1_method_14_code 45 = .ok (.iload_n 2, 1) := by decide +kernel
theorem d_Desk_combine_46 : decode prog_1_method_14_code 46 = .ok (.iload 5, 2) := by decide +kernel
theorem d_Desk_combine_48 : decode prog_1_method_14_code 48 = .ok (.iadd, 1) := by decide +kernel
theorem d_Desk_combine_49 : decode prog_1_method_14_code 49 = .ok (.aaload, 1) := by decide +kernel
theorem d_Desk_combine_50 : decode prog_1_method_14_code 50 = .ok (.aload_n 0, 1) := by decide +kernel
theorem d_Desk_combine_51 : decode prog_1_method_14_code 51 = .ok (.getfield 20, 3) := by decide +kernel
theorem d_Desk_combine_54 : decode prog_1_method_14_code 54 = .ok (.iload_n 3, 1) := by decide +kernel
theorem d_Desk_combine_55 : decode prog_1_method_14_code 55 = .ok (.iload 5, 2) := by decide +kernel
theorem d_Desk_combine_57 : decode prog_1_method_14_code 57 = .ok (.iadd, 1) := by decide +kernel
theorem d_Desk_combine_58 : decode prog_1_method_14_code 58 = .ok (.aaload, 1) := by decide +kernel
theorem d_Desk_combine_59 : decode prog_1_method_14_code 59 = .ok (.invokevirtual 239, 3) := by decide +kernel
theorem d_Desk_combine_62 : decode prog_1_method_14_code 62 = .ok (.iinc 5 1, 3) := by decide +kernel
theorem d_Desk_combine_65 : decode prog_1_method_14_code 65 = .ok (.goto (-37), 3) := by decide +kernel
theorem d_Desk_combine_68 : decode prog_1_method_14_code 68 = .ok (.aload_n 0, 1) := by decide +kernel
theorem d_Desk_combine_69 : decode prog_1_method_14_code 69 = .ok (.getfield 85, 3) := by decide +kernel
theorem d_Desk_combine_72 : decode prog_1_method_14_code 72 = .ok (.aload_n 0, 1) := by decide +kernel
theorem d_Desk_combine_73 : decode prog_1_method_14_code 73 = .ok (.getfield 20, 3) := by decide +kernel
theorem d_Desk_combine_76 : decode prog_1_method_14_code 76 = .ok (.iload_n 1, 1) := by decide +kernel
theorem d_Desk_combine_77 : decode prog_1_method_14_code 77 = .ok (.aaload, 1) := by decide +kernel
theorem d_Desk_combine_78 : decode prog_1_method_14_code 78 = .ok (.iload 4, 2) := by decide +kernel
theorem d_Desk_combine_80 : decode prog_1_method_14_code 80 = .ok (.invokevirtual 243, 3) := by decide +kernel
theorem d_Desk_combine_83 : decode prog_1_method_14_code 83 = .ok (.return_, 1) := by decide +kernel
abbrev y_Desk_commit : MethodName := ⟨"KateDesk", "commit", "(III)V"⟩
theorem hd_Desk_commit : y_Desk_commit.cls ≠ "java/lang/invoke/MethodHandle" ∧ y_Desk_commit.cls ≠ "java/lang/invoke/VarHandle" ∧ (parseMethodDescriptor y_Desk_commit.desc).map (fun d => d.parameters.length) = some 3 := by decide +kernel
theorem d_Desk_commit_0 : decode prog_1_method_17_code 0 = .ok (.iload_n 1, 1) := by decide +kernel
theorem d_Desk_commit_1 : decode prog_1_method_17_code 1 = .ok (.iconst 1, 1) := by decide +kernel
theorem d_Desk_commit_2 : decode prog_1_method_17_code 2 = .ok (.invokestatic 210, 3) := by decide +kernel
theorem d_Desk_commit_5 : decode prog_1_method_17_code 5 = .ok (.iload_n 3, 1) := by decide +kernel
theorem d_Desk_commit_6 : decode prog_1_method_17_code 6 = .ok (.iconst 0, 1) := by decide +kernel
theorem d_Desk_commit_7 : decode prog_1_method_17_code 7 = .ok (.bipush 16, 2) := by decide +kernel
theorem d_Desk_commit_9 : decode prog_1_method_17_code 9 = .ok (.invokestatic 247, 3) := by decide +kernel
theorem d_Desk_commit_12 : decode prog_1_method_17_code 12 = .ok (.iload_n 2, 1) := by decide +kernel
theorem d_Desk_commit_13 : decode prog_1_method_17_code 13 = .ok (.iload_n 3, 1) := by decide +kernel
theorem d_Desk_commit_14 : decode prog_1_method_17_code 14 = .ok (.invokestatic 129, 3) := by decide +kernel
theorem d_Desk_commit_17 : decode prog_1_method_17_code 17 = .ok (.aload_n 0, 1) := by decide +kernel
theorem d_Desk_commit_18 : decode prog_1_method_17_code 18 = .ok (.getfield 27, 3) := by decide +kernel
theorem d_Desk_commit_21 : decode prog_1_method_17_code 21 = .ok (.iload_n 3, 1) := by decide +kernel
theorem d_Desk_commit_22 : decode prog_1_method_17_code 22 = .ok (.if_icmp .ge 14, 3) := by decide +kernel
theorem d_Desk_commit_25 : decode prog_1_method_17_code 25 = .ok (.new 120, 3) := by decide +kernel
theorem d_Desk_commit_28 : decode prog_1_method_17_code 28 = .ok (.dup, 1) := by decide +kernel
theorem d_Desk_commit_29 : decode prog_1_method_17_code 29 = .ok (.ldc_w 262, 3) := by decide +kernel
theorem d_Desk_commit_32 : decode prog_1_method_17_code 32 = .ok (.invokespecial 124, 3) := by decide +kernel
theorem d_Desk_commit_35 : decode prog_1_method_17_code 35 = .ok (.athrow, 1) := by decide +kernel
theorem d_Desk_commit_36 : decode prog_1_method_17_code 36 = .ok (.iconst 0, 1) := by decide +kernel
theorem d_Desk_commit_37 : decode prog_1_method_17_code 37 = .ok (.istore 4, 2) := by decide +kernel
theorem d_Desk_commit_39 : decode prog_1_method_17_code 39 = .ok (.iload 4, 2) := by decide +kernel
theorem d_Desk_commit_41 : decode prog_1_method_17_code 41 = .ok (.iload_n 3, 1) := by decide +kernel
theorem d_Desk_commit_42 : decode prog_1_method_17_code 42 = .ok (.if_icmp .ge 34, 3) := by decide +kernel
theorem d_Desk_commit_45 : decode prog_1_method_17_code 45 = .ok (.aload_n 0, 1) := by decide +kernel
theorem d_Desk_commit_46 : decode prog_1_method_17_code 46 = .ok (.getfield 85, 3) := by decide +kernel
theorem d_Desk_commit_49 : decode prog_1_method_17_code 49 = .ok (.iload 4, 2) := by decide +kernel
theorem d_Desk_commit_51 : decode prog_1_method_17_code 51 = .ok (.aload_n 0, 1) := by decide +kernel
theorem d_Desk_commit_52 : decode prog_1_method_17_code 52 = .ok (.getfield 13, 3) := by decide +kernel
theorem d_Desk_commit_55 : decode prog_1_method_17_code 55 = .ok (.iload_n 2, 1) := by decide +kernel
theorem d_Desk_commit_56 : decode prog_1_method_17_code 56 = .ok (.iload 4, 2) := by decide +kernel
theorem d_Desk_commit_58 : decode prog_1_method_17_code 58 = .ok (.iadd, 1) := by decide +kernel
theorem d_Desk_commit_59 : decode prog_1_method_17_code 59 = .ok (.aaload, 1) := by decide +kernel
theorem d_Desk_commit_60 : decode prog_1_method_17_code 60 = .ok (.aload_n 0, 1) := by decide +kernel
theorem d_Desk_commit_61 : decode prog_1_method_17_code 61 = .ok (.getfield 24, 3) := by decide +kernel
theorem d_Desk_commit_64 : decode prog_1_method_17_code 64 = .ok (.iload 4, 2) := by decide +kernel
theorem d_Desk_commit_66 : decode prog_1_method_17_code 66 = .ok (.aaload, 1) := by decide +kernel
theorem d_Desk_commit_67 : decode prog_1_method_17_code 67 = .ok (.invokevirtual 239, 3) := by decide +kernel
theorem d_Desk_commit_70 : decode prog_1_method_17_code 70 = .ok (.iinc 4 1, 3) := by decide +kernel
theorem d_Desk_commit_73 : decode prog_1_method_17_code 73 = .ok (.goto (-34), 3) := by decide +kernel
theorem d_Desk_commit_76 : decode prog_1_method_17_code 76 = .ok (.aload_n 0, 1) := by decide +kernel
theorem d_Desk_commit_77 : decode prog_1_method_17_code 77 = .ok (.getfield 85, 3) := by decide +kernel
theorem d_Desk_commit_80 : decode prog_1_method_17_code 80 = .ok (.aload_n 0, 1) := by decide +kernel
theorem d_Desk_commit_81 : decode prog_1_method_17_code 81 = .ok (.getfield 20, 3) := by decide +kernel
theorem d_Desk_commit_84 : decode prog_1_method_17_code 84 = .ok (.iload_n 1, 1) := by decide +kernel
theorem d_Desk_commit_85 : decode prog_1_method_17_code 85 = .ok (.aaload, 1) := by decide +kernel
theorem d_Desk_commit_86 : decode prog_1_method_17_code 86 = .ok (.iload_n 3, 1) := by decide +kernel
theorem d_Desk_commit_87 : decode prog_1_method_17_code 87 = .ok (.invokevirtual 243, 3) := by decide +kernel
theorem d_Desk_commit_90 : decode prog_1_method_17_code 90 = .ok (.return_, 1) := by decide +kernel
