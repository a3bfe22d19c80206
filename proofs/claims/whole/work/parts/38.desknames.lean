abbrev y_Desk_feed : MethodName := ⟨"KateDesk", "feed", "(IJ)I"⟩
theorem hd_Desk_feed : y_Desk_feed.cls ≠ "java/lang/invoke/MethodHandle" ∧ y_Desk_feed.cls ≠ "java/lang/invoke/VarHandle" ∧ (parseMethodDescriptor y_Desk_feed.desc).map (fun d => d.parameters.length) = some 2 := by decide +kernel
theorem d_Desk_feed_0 : decode prog_1_method_2_code 0 = .ok (.iload_n 1, 1) := by decide +kernel
theorem d_Desk_feed_1 : decode prog_1_method_2_code 1 = .ok (.iconst 1, 1) := by decide +kernel
theorem d_Desk_feed_2 : decode prog_1_method_2_code 2 = .ok (.if_icmp .lt 9, 3) := by decide +kernel
theorem d_Desk_feed_5 : decode prog_1_method_2_code 5 = .ok (.iload_n 1, 1) := by decide +kernel
theorem d_Desk_feed_6 : decode prog_1_method_2_code 6 = .ok (.bipush 8, 2) := by decide +kernel
theorem d_Desk_feed_8 : decode prog_1_method_2_code 8 = .ok (.if_icmp .le 13, 3) := by decide +kernel
theorem d_Desk_feed_11 : decode prog_1_method_2_code 11 = .ok (.new 112, 3) := by decide +kernel
theorem d_Desk_feed_14 : decode prog_1_method_2_code 14 = .ok (.dup, 1) := by decide +kernel
theorem d_Desk_feed_15 : decode prog_1_method_2_code 15 = .ok (.ldc 114, 2) := by decide +kernel
theorem d_Desk_feed_17 : decode prog_1_method_2_code 17 = .ok (.invokespecial 116, 3) := by decide +kernel
theorem d_Desk_feed_20 : decode prog_1_method_2_code 20 = .ok (.athrow, 1) := by decide +kernel
theorem d_Desk_feed_21 : decode prog_1_method_2_code 21 = .ok (.aload_n 0, 1) := by decide +kernel
theorem d_Desk_feed_22 : decode prog_1_method_2_code 22 = .ok (.getfield 34, 3) := by decide +kernel
theorem d_Desk_feed_25 : decode prog_1_method_2_code 25 = .ok (.getfield 117, 3) := by decide +kernel
theorem d_Desk_feed_28 : decode prog_1_method_2_code 28 = .ok (.iload_n 1, 1) := by decide +kernel
theorem d_Desk_feed_29 : decode prog_1_method_2_code 29 = .ok (.iadd, 1) := by decide +kernel
theorem d_Desk_feed_30 : decode prog_1_method_2_code 30 = .ok (.bipush 96, 2) := by decide +kernel
theorem d_Desk_feed_32 : decode prog_1_method_2_code 32 = .ok (.if_icmp .le 13, 3) := by decide +kernel
theorem d_Desk_feed_35 : decode prog_1_method_2_code 35 = .ok (.new 120, 3) := by decide +kernel
theorem d_Desk_feed_38 : decode prog_1_method_2_code 38 = .ok (.dup, 1) := by decide +kernel
theorem d_Desk_feed_39 : decode prog_1_method_2_code 39 = .ok (.ldc 122, 2) := by decide +kernel
theorem d_Desk_feed_41 : decode prog_1_method_2_code 41 = .ok (.invokespecial 124, 3) := by decide +kernel
theorem d_Desk_feed_44 : decode prog_1_method_2_code 44 = .ok (.athrow, 1) := by decide +kernel
theorem d_Desk_feed_45 : decode prog_1_method_2_code 45 = .ok (.iconst 0, 1) := by decide +kernel
theorem d_Desk_feed_46 : decode prog_1_method_2_code 46 = .ok (.istore 4, 2) := by decide +kernel
theorem d_Desk_feed_48 : decode prog_1_method_2_code 48 = .ok (.iload 4, 2) := by decide +kernel
theorem d_Desk_feed_50 : decode prog_1_method_2_code 50 = .ok (.iload_n 1, 1) := by decide +kernel
theorem d_Desk_feed_51 : decode prog_1_method_2_code 51 = .ok (.if_icmp .ge 24, 3) := by decide +kernel
theorem d_Desk_feed_54 : decode prog_1_method_2_code 54 = .ok (.aload_n 0, 1) := by decide +kernel
theorem d_Desk_feed_55 : decode prog_1_method_2_code 55 = .ok (.getfield 34, 3) := by decide +kernel
theorem d_Desk_feed_58 : decode prog_1_method_2_code 58 = .ok (.lload_n 2, 1) := by decide +kernel
theorem d_Desk_feed_59 : decode prog_1_method_2_code 59 = .ok (.bipush 8, 2) := by decide +kernel
theorem d_Desk_feed_61 : decode prog_1_method_2_code 61 = .ok (.iload 4, 2) := by decide +kernel
theorem d_Desk_feed_63 : decode prog_1_method_2_code 63 = .ok (.imul, 1) := by decide +kernel
theorem d_Desk_feed_64 : decode prog_1_method_2_code 64 = .ok (.lshr, 1) := by decide +kernel
theorem d_Desk_feed_65 : decode prog_1_method_2_code 65 = .ok (.l2i, 1) := by decide +kernel
theorem d_Desk_feed_66 : decode prog_1_method_2_code 66 = .ok (.invokevirtual 125, 3) := by decide +kernel
theorem d_Desk_feed_69 : decode prog_1_method_2_code 69 = .ok (.iinc 4 1, 3) := by decide +kernel
theorem d_Desk_feed_72 : decode prog_1_method_2_code 72 = .ok (.goto (-24), 3) := by decide +kernel
theorem d_Desk_feed_75 : decode prog_1_method_2_code 75 = .ok (.aload_n 0, 1) := by decide +kernel
theorem d_Desk_feed_76 : decode prog_1_method_2_code 76 = .ok (.getfield 34, 3) := by decide +kernel
theorem d_Desk_feed_79 : decode prog_1_method_2_code 79 = .ok (.getfield 117, 3) := by decide +kernel
theorem d_Desk_feed_82 : decode prog_1_method_2_code 82 = .ok (.ireturn, 1) := by decide +kernel
abbrev y_Desk_number : MethodName := ⟨"KateDesk", "number", "(I)Z"⟩
theorem hd_Desk_number : y_Desk_number.cls ≠ "java/lang/invoke/MethodHandle" ∧ y_Desk_number.cls ≠ "java/lang/invoke/VarHandle" ∧ (parseMethodDescriptor y_Desk_number.desc).map (fun d => d.parameters.length) = some 1 := by decide +kernel
theorem d_Desk_number_0 : decode prog_1_method_3_code 0 = .ok (.iload_n 1, 1) := by decide +kernel
theorem d_Desk_number_1 : decode prog_1_method_3_code 1 = .ok (.iconst 1, 1) := by decide +kernel
theorem d_Desk_number_2 : decode prog_1_method_3_code 2 = .ok (.invokestatic 129, 3) := by decide +kernel
theorem d_Desk_number_5 : decode prog_1_method_3_code 5 = .ok (.aload_n 0, 1) := by decide +kernel
theorem d_Desk_number_6 : decode prog_1_method_3_code 6 = .ok (.getfield 51, 3) := by decide +kernel
theorem d_Desk_number_9 : decode prog_1_method_3_code 9 = .ok (.invokestatic 133, 3) := by decide +kernel
theorem d_Desk_number_12 : decode prog_1_method_3_code 12 = .ok (.iconst 0, 1) := by decide +kernel
theorem d_Desk_number_13 : decode prog_1_method_3_code 13 = .ok (.istore_n 2, 1) := by decide +kernel
theorem d_Desk_number_14 : decode prog_1_method_3_code 14 = .ok (.iload_n 2, 1) := by decide +kernel
theorem d_Desk_number_15 : decode prog_1_method_3_code 15 = .ok (.aload_n 0, 1) := by decide +kernel
theorem d_Desk_number_16 : decode prog_1_method_3_code 16 = .ok (.getfield 34, 3) := by decide +kernel
theorem d_Desk_number_19 : decode prog_1_method_3_code 19 = .ok (.getfield 117, 3) := by decide +kernel
theorem d_Desk_number_22 : decode prog_1_method_3_code 22 = .ok (.if_icmp .ge 25, 3) := by decide +kernel
theorem d_Desk_number_25 : decode prog_1_method_3_code 25 = .ok (.aload_n 0, 1) := by decide +kernel
theorem d_Desk_number_26 : decode prog_1_method_3_code 26 = .ok (.getfield 51, 3) := by decide +kernel
theorem d_Desk_number_29 : decode prog_1_method_3_code 29 = .ok (.iload_n 2, 1) := by decide +kernel
theorem d_Desk_number_30 : decode prog_1_method_3_code 30 = .ok (.aload_n 0, 1) := by decide +kernel
theorem d_Desk_number_31 : decode prog_1_method_3_code 31 = .ok (.getfield 34, 3) := by decide +kernel
theorem d_Desk_number_34 : decode prog_1_method_3_code 34 = .ok (.iload_n 2, 1) := by decide +kernel
theorem d_Desk_number_35 : decode prog_1_method_3_code 35 = .ok (.invokevirtual 137, 3) := by decide +kernel
theorem d_Desk_number_38 : decode prog_1_method_3_code 38 = .ok (.invokestatic 141, 3) := by decide +kernel
theorem d_Desk_number_41 : decode prog_1_method_3_code 41 = .ok (.iinc 2 1, 3) := by decide +kernel
theorem d_Desk_number_44 : decode prog_1_method_3_code 44 = .ok (.goto (-30), 3) := by decide +kernel
theorem d_Desk_number_47 : decode prog_1_method_3_code 47 = .ok (.aload_n 0, 1) := by decide +kernel
theorem d_Desk_number_48 : decode prog_1_method_3_code 48 = .ok (.getfield 34, 3) := by decide +kernel
theorem d_Desk_number_51 : decode prog_1_method_3_code 51 = .ok (.getfield 117, 3) := by decide +kernel
theorem d_Desk_number_54 : decode prog_1_method_3_code 54 = .ok (.bipush 32, 2) := by decide +kernel
theorem d_Desk_number_56 : decode prog_1_method_3_code 56 = .ok (.if_icmp .gt 24, 3) := by decide +kernel
theorem d_Desk_number_59 : decode prog_1_method_3_code 59 = .ok (.aload_n 0, 1) := by decide +kernel
theorem d_Desk_number_60 : decode prog_1_method_3_code 60 = .ok (.getfield 51, 3) := by decide +kernel
theorem d_Desk_number_63 : decode prog_1_method_3_code 63 = .ok (.aload_n 0, 1) := by decide +kernel
theorem d_Desk_number_64 : decode prog_1_method_3_code 64 = .ok (.getfield 72, 3) := by decide +kernel
theorem d_Desk_number_67 : decode prog_1_method_3_code 67 = .ok (.getfield 145, 3) := by decide +kernel
theorem d_Desk_number_70 : decode prog_1_method_3_code 70 = .ok (.invokestatic 148, 3) := by decide +kernel
theorem d_Desk_number_73 : decode prog_1_method_3_code 73 = .ok (.ifCond .eq 7, 3) := by decide +kernel
theorem d_Desk_number_76 : decode prog_1_method_3_code 76 = .ok (.iconst 1, 1) := by decide +kernel
theorem d_Desk_number_77 : decode prog_1_method_3_code 77 = .ok (.goto 4, 3) := by decide +kernel
theorem d_Desk_number_80 : decode prog_1_method_3_code 80 = .ok (.iconst 0, 1) := by decide +kernel
theorem d_Desk_number_81 : decode prog_1_method_3_code 81 = .ok (.istore_n 2, 1) := by decide +kernel
theorem d_Desk_number_82 : decode prog_1_method_3_code 82 = .ok (.aload_n 0, 1) := by decide +kernel
theorem d_Desk_number_83 : decode prog_1_method_3_code 83 = .ok (.getfield 34, 3) := by decide +kernel
theorem d_Desk_number_86 : decode prog_1_method_3_code 86 = .ok (.iconst 0, 1) := by decide +kernel
theorem d_Desk_number_87 : decode prog_1_method_3_code 87 = .ok (.putfield 117, 3) := by decide +kernel
theorem d_Desk_number_90 : decode prog_1_method_3_code 90 = .ok (.iload_n 2, 1) := by decide +kernel
theorem d_Desk_number_91 : decode prog_1_method_3_code 91 = .ok (.ifCond .eq 16, 3) := by decide +kernel
theorem d_Desk_number_94 : decode prog_1_method_3_code 94 = .ok (.aload_n 0, 1) := by decide +kernel
theorem d_Desk_number_95 : decode prog_1_method_3_code 95 = .ok (.getfield 13, 3) := by decide +kernel
theorem d_Desk_number_98 : decode prog_1_method_3_code 98 = .ok (.iload_n 1, 1) := by decide +kernel
theorem d_Desk_number_99 : decode prog_1_method_3_code 99 = .ok (.aaload, 1) := by decide +kernel
theorem d_Desk_number_100 : decode prog_1_method_3_code 100 = .ok (.aload_n 0, 1) := by decide +kernel
theorem d_Desk_number_101 : decode prog_1_method_3_code 101 = .ok (.getfield 51, 3) := by decide +kernel
theorem d_Desk_number_104 : decode prog_1_method_3_code 104 = .ok (.invokestatic 152, 3) := by decide +kernel
theorem d_Desk_number_107 : decode prog_1_method_3_code 107 = .ok (.iload_n 2, 1) := by decide +kernel
theorem d_Desk_number_108 : decode prog_1_method_3_code 108 = .ok (.ireturn, 1) := by decide +kernel
abbrev y_Desk_set : MethodName := ⟨"KateDesk", "set", "(IJ)V"⟩
theorem hd_Desk_set : y_Desk_set.cls ≠ "java/lang/invoke/MethodHandle" ∧ y_Desk_set.cls ≠ "java/lang/invoke/VarHandle" ∧ (parseMethodDescriptor y_Desk_set.desc).map (fun d => d.parameters.length) = some 2 := by decide +kernel
theorem d_Desk_set_0 : decode prog_1_method_4_code 0 = .ok (.iload_n 1, 1) := by decide +kernel
theorem d_Desk_set_1 : decode prog_1_method_4_code 1 = .ok (.iconst 1, 1) := by decide +kernel
theorem d_Desk_set_2 : decode prog_1_method_4_code 2 = .ok (.invokestatic 129, 3) := by decide +kernel
theorem d_Desk_set_5 : decode prog_1_method_4_code 5 = .ok (.lload_n 2, 1) := by decide +kernel
theorem d_Desk_set_6 : decode prog_1_method_4_code 6 = .ok (.lconst 0, 1) := by decide +kernel
theorem d_Desk_set_7 : decode prog_1_method_4_code 7 = .ok (.lcmp, 1) := by decide +kernel
theorem d_Desk_set_8 : decode prog_1_method_4_code 8 = .ok (.ifCond .ge 13, 3) := by decide +kernel
theorem d_Desk_set_11 : decode prog_1_method_4_code 11 = .ok (.new 112, 3) := by decide +kernel
theorem d_Desk_set_14 : decode prog_1_method_4_code 14 = .ok (.dup, 1) := by decide +kernel
theorem d_Desk_set_15 : decode prog_1_method_4_code 15 = .ok (.ldc 156, 2) := by decide +kernel
theorem d_Desk_set_17 : decode prog_1_method_4_code 17 = .ok (.invokespecial 116, 3) := by decide +kernel
theorem d_Desk_set_20 : decode prog_1_method_4_code 20 = .ok (.athrow, 1) := by decide +kernel
theorem d_Desk_set_21 : decode prog_1_method_4_code 21 = .ok (.aload_n 0, 1) := by decide +kernel
theorem d_Desk_set_22 : decode prog_1_method_4_code 22 = .ok (.getfield 13, 3) := by decide +kernel
theorem d_Desk_set_25 : decode prog_1_method_4_code 25 = .ok (.iload_n 1, 1) := by decide +kernel
theorem d_Desk_set_26 : decode prog_1_method_4_code 26 = .ok (.aaload, 1) := by decide +kernel
theorem d_Desk_set_27 : decode prog_1_method_4_code 27 = .ok (.lload_n 2, 1) := by decide +kernel
theorem d_Desk_set_28 : decode prog_1_method_4_code 28 = .ok (.invokestatic 158, 3) := by decide +kernel
theorem d_Desk_set_31 : decode prog_1_method_4_code 31 = .ok (.return_, 1) := by decide +kernel
abbrev y_Desk_word : MethodName := ⟨"KateDesk", "word", "(II)J"⟩
theorem hd_Desk_word : y_Desk_word.cls ≠ "java/lang/invoke/MethodHandle" ∧ y_Desk_word.cls ≠ "java/lang/invoke/VarHandle" ∧ (parseMethodDescriptor y_Desk_word.desc).map (fun d => d.parameters.length) = some 2 := by decide +kernel
theorem d_Desk_word_0 : decode prog_1_method_5_code 0 = .ok (.iload_n 1, 1) := by decide +kernel
theorem d_Desk_word_1 : decode prog_1_method_5_code 1 = .ok (.iconst 1, 1) := by decide +kernel
theorem d_Desk_word_2 : decode prog_1_method_5_code 2 = .ok (.invokestatic 129, 3) := by decide +kernel
theorem d_Desk_word_5 : decode prog_1_method_5_code 5 = .ok (.iload_n 2, 1) := by decide +kernel
theorem d_Desk_word_6 : decode prog_1_method_5_code 6 = .ok (.ifCond .lt 9, 3) := by decide +kernel
theorem d_Desk_word_9 : decode prog_1_method_5_code 9 = .ok (.iload_n 2, 1) := by decide +kernel
theorem d_Desk_word_10 : decode prog_1_method_5_code 10 = .ok (.bipush 8, 2) := by decide +kernel
theorem d_Desk_word_12 : decode prog_1_method_5_code 12 = .ok (.if_icmp .lt 13, 3) := by decide +kernel
theorem d_Desk_word_15 : decode prog_1_method_5_code 15 = .ok (.new 112, 3) := by decide +kernel
theorem d_Desk_word_18 : decode prog_1_method_5_code 18 = .ok (.dup, 1) := by decide +kernel
theorem d_Desk_word_19 : decode prog_1_method_5_code 19 = .ok (.ldc 162, 2) := by decide +kernel
theorem d_Desk_word_21 : decode prog_1_method_5_code 21 = .ok (.invokespecial 116, 3) := by decide +kernel
theorem d_Desk_word_24 : decode prog_1_method_5_code 24 = .ok (.athrow, 1) := by decide +kernel
theorem d_Desk_word_25 : decode prog_1_method_5_code 25 = .ok (.aload_n 0, 1) := by decide +kernel
theorem d_Desk_word_26 : decode prog_1_method_5_code 26 = .ok (.getfield 13, 3) := by decide +kernel
theorem d_Desk_word_29 : decode prog_1_method_5_code 29 = .ok (.iload_n 1, 1) := by decide +kernel
theorem d_Desk_word_30 : decode prog_1_method_5_code 30 = .ok (.aaload, 1) := by decide +kernel
theorem d_Desk_word_31 : decode prog_1_method_5_code 31 = .ok (.bipush 32, 2) := by decide +kernel
theorem d_Desk_word_33 : decode prog_1_method_5_code 33 = .ok (.iload_n 2, 1) := by decide +kernel
theorem d_Desk_word_34 : decode prog_1_method_5_code 34 = .ok (.imul, 1) := by decide +kernel
theorem d_Desk_word_35 : decode prog_1_method_5_code 35 = .ok (.bipush 16, 2) := by decide +kernel
theorem d_Desk_word_37 : decode prog_1_method_5_code 37 = .ok (.invokestatic 164, 3) := by decide +kernel
theorem d_Desk_word_40 : decode prog_1_method_5_code 40 = .ok (.lstore_n 3, 1) := by decide +kernel
theorem d_Desk_word_41 : decode prog_1_method_5_code 41 = .ok (.aload_n 0, 1) := by decide +kernel
theorem d_Desk_word_42 : decode prog_1_method_5_code 42 = .ok (.getfield 13, 3) := by decide +kernel
theorem d_Desk_word_45 : decode prog_1_method_5_code 45 = .ok (.iload_n 1, 1) := by decide +kernel
theorem d_Desk_word_46 : decode prog_1_method_5_code 46 = .ok (.aaload, 1) := by decide +kernel
theorem d_Desk_word_47 : decode prog_1_method_5_code 47 = .ok (.bipush 32, 2) := by decide +kernel
theorem d_Desk_word_49 : decode prog_1_method_5_code 49 = .ok (.iload_n 2, 1) := by decide +kernel
theorem d_Desk_word_50 : decode prog_1_method_5_code 50 = .ok (.imul, 1) := by decide +kernel
theorem d_Desk_word_51 : decode prog_1_method_5_code 51 = .ok (.bipush 16, 2) := by decide +kernel
theorem d_Desk_word_53 : decode prog_1_method_5_code 53 = .ok (.iadd, 1) := by decide +kernel
theorem d_Desk_word_54 : decode prog_1_method_5_code 54 = .ok (.bipush 16, 2) := by decide +kernel
theorem d_Desk_word_56 : decode prog_1_method_5_code 56 = .ok (.invokestatic 164, 3) := by decide +kernel
theorem d_Desk_word_59 : decode prog_1_method_5_code 59 = .ok (.lstore 5, 2) := by decide +kernel
theorem d_Desk_word_61 : decode prog_1_method_5_code 61 = .ok (.lload 5, 2) := by decide +kernel
theorem d_Desk_word_63 : decode prog_1_method_5_code 63 = .ok (.bipush 16, 2) := by decide +kernel
theorem d_Desk_word_65 : decode prog_1_method_5_code 65 = .ok (.lshl, 1) := by decide +kernel
theorem d_Desk_word_66 : decode prog_1_method_5_code 66 = .ok (.lload_n 3, 1) := by decide +kernel
theorem d_Desk_word_67 : decode prog_1_method_5_code 67 = .ok (.lor, 1) := by decide +kernel
theorem d_Desk_word_68 : decode prog_1_method_5_code 68 = .ok (.lreturn, 1) := by decide +kernel
abbrev y_Desk_reckon : MethodName := ⟨"KateDesk", "reckon", "(IIII)V"⟩
theorem hd_Desk_reckon : y_Desk_reckon.cls ≠ "java/lang/invoke/MethodHandle" ∧ y_Desk_reckon.cls ≠ "java/lang/invoke/VarHandle" ∧ (parseMethodDescriptor y_Desk_reckon.desc).map (fun d => d.parameters.length) = some 4 := by decide +kernel
theorem d_Desk_reckon_0 : decode prog_1_method_6_code 0 = .ok (.iload_n 1, 1) := by decide +kernel
theorem d_Desk_reckon_1 : decode prog_1_method_6_code 1 = .ok (.invokestatic 168, 3) := by decide +kernel
theorem d_Desk_reckon_4 : decode prog_1_method_6_code 4 = .ok (.iload_n 2, 1) := by decide +kernel
theorem d_Desk_reckon_5 : decode prog_1_method_6_code 5 = .ok (.iconst 1, 1) := by decide +kernel
theorem d_Desk_reckon_6 : decode prog_1_method_6_code 6 = .ok (.invokestatic 129, 3) := by decide +kernel
theorem d_Desk_reckon_9 : decode prog_1_method_6_code 9 = .ok (.iload_n 3, 1) := by decide +kernel
theorem d_Desk_reckon_10 : decode prog_1_method_6_code 10 = .ok (.iconst 1, 1) := by decide +kernel
theorem d_Desk_reckon_11 : decode prog_1_method_6_code 11 = .ok (.invokestatic 129, 3) := by decide +kernel
theorem d_Desk_reckon_14 : decode prog_1_method_6_code 14 = .ok (.iload 4, 2) := by decide +kernel
theorem d_Desk_reckon_16 : decode prog_1_method_6_code 16 = .ok (.iconst 1, 1) := by decide +kernel
theorem d_Desk_reckon_17 : decode prog_1_method_6_code 17 = .ok (.invokestatic 129, 3) := by decide +kernel
theorem d_Desk_reckon_20 : decode prog_1_method_6_code 20 = .ok (.iload_n 1, 1) := by decide +kernel
theorem d_Desk_reckon_21 : decode prog_1_method_6_code 21 = .ok (.iconst 3, 1) := by decide +kernel
theorem d_Desk_reckon_22 : decode prog_1_method_6_code 22 = .ok (.if_icmp .ne 26, 3) := by decide +kernel
theorem d_Desk_reckon_25 : decode prog_1_method_6_code 25 = .ok (.aload_n 0, 1) := by decide +kernel
theorem d_Desk_reckon_26 : decode prog_1_method_6_code 26 = .ok (.getfield 13, 3) := by decide +kernel
theorem d_Desk_reckon_29 : decode prog_1_method_6_code 29 = .ok (.iload 4, 2) := by decide +kernel
theorem d_Desk_reckon_31 : decode prog_1_method_6_code 31 = .ok (.aaload, 1) := by decide +kernel
theorem d_Desk_reckon_32 : decode prog_1_method_6_code 32 = .ok (.invokestatic 171, 3) := by decide +kernel
theorem d_Desk_reckon_35 : decode prog_1_method_6_code 35 = .ok (.ifCond .eq 13, 3) := by decide +kernel
theorem d_Desk_reckon_38 : decode prog_1_method_6_code 38 = .ok (.new 175, 3) := by decide +kernel
theorem d_Desk_reckon_41 : decode prog_1_method_6_code 41 = .ok (.dup, 1) := by decide +kernel
theorem d_Desk_reckon_42 : decode prog_1_method_6_code 42 = .ok (.ldc 177, 2) := by decide +kernel
theorem d_Desk_reckon_44 : decode prog_1_method_6_code 44 = .ok (.invokespecial 179, 3) := by decide +kernel
theorem d_Desk_reckon_47 : decode prog_1_method_6_code 47 = .ok (.athrow, 1) := by decide +kernel
theorem d_Desk_reckon_48 : decode prog_1_method_6_code 48 = .ok (.iload_n 1, 1) := by decide +kernel
theorem d_Desk_reckon_49 : decode prog_1_method_6_code 49 = .ok (.ifCond .ne 32, 3) := by decide +kernel
theorem d_Desk_reckon_52 : decode prog_1_method_6_code 52 = .ok (.aload_n 0, 1) := by decide +kernel
theorem d_Desk_reckon_53 : decode prog_1_method_6_code 53 = .ok (.getfield 72, 3) := by decide +kernel
theorem d_Desk_reckon_56 : decode prog_1_method_6_code 56 = .ok (.aload_n 0, 1) := by decide +kernel
theorem d_Desk_reckon_57 : decode prog_1_method_6_code 57 = .ok (.getfield 13, 3) := by decide +kernel
theorem d_Desk_reckon_60 : decode prog_1_method_6_code 60 = .ok (.iload_n 2, 1) := by decide +kernel
theorem d_Desk_reckon_61 : decode prog_1_method_6_code 61 = .ok (.aaload, 1) := by decide +kernel
theorem d_Desk_reckon_62 : decode prog_1_method_6_code 62 = .ok (.aload_n 0, 1) := by decide +kernel
theorem d_Desk_reckon_63 : decode prog_1_method_6_code 63 = .ok (.getfield 13, 3) := by decide +kernel
theorem d_Desk_reckon_66 : decode prog_1_method_6_code 66 = .ok (.iload_n 3, 1) := by decide +kernel
theorem d_Desk_reckon_67 : decode prog_1_method_6_code 67 = .ok (.aaload, 1) := by decide +kernel
theorem d_Desk_reckon_68 : decode prog_1_method_6_code 68 = .ok (.aload_n 0, 1) := by decide +kernel
theorem d_Desk_reckon_69 : decode prog_1_method_6_code 69 = .ok (.getfield 13, 3) := by decide +kernel
theorem d_Desk_reckon_72 : decode prog_1_method_6_code 72 = .ok (.iload 4, 2) := by decide +kernel
theorem d_Desk_reckon_74 : decode prog_1_method_6_code 74 = .ok (.aaload, 1) := by decide +kernel
theorem d_Desk_reckon_75 : decode prog_1_method_6_code 75 = .ok (.invokevirtual 180, 3) := by decide +kernel
theorem d_Desk_reckon_78 : decode prog_1_method_6_code 78 = .ok (.goto 98, 3) := by decide +kernel
theorem d_Desk_reckon_81 : decode prog_1_method_6_code 81 = .ok (.iload_n 1, 1) := by decide +kernel
theorem d_Desk_reckon_82 : decode prog_1_method_6_code 82 = .ok (.iconst 1, 1) := by decide +kernel
theorem d_Desk_reckon_83 : decode prog_1_method_6_code 83 = .ok (.if_icmp .ne 32, 3) := by decide +kernel
theorem d_Desk_reckon_86 : decode prog_1_method_6_code 86 = .ok (.aload_n 0, 1) := by decide +kernel
theorem d_Desk_reckon_87 : decode prog_1_method_6_code 87 = .ok (.getfield 72, 3) := by decide +kernel
theorem d_Desk_reckon_90 : decode prog_1_method_6_code 90 = .ok (.aload_n 0, 1) := by decide +kernel
theorem d_Desk_reckon_91 : decode prog_1_method_6_code 91 = .ok (.getfield 13, 3) := by decide +kernel
theorem d_Desk_reckon_94 : decode prog_1_method_6_code 94 = .ok (.iload_n 2, 1) := by decide +kernel
theorem d_Desk_reckon_95 : decode prog_1_method_6_code 95 = .ok (.aaload, 1) := by decide +kernel
theorem d_Desk_reckon_96 : decode prog_1_method_6_code 96 = .ok (.aload_n 0, 1) := by decide +kernel
theorem d_Desk_reckon_97 : decode prog_1_method_6_code 97 = .ok (.getfield 13, 3) := by decide +kernel
theorem d_Desk_reckon_100 : decode prog_1_method_6_code 100 = .ok (.iload_n 3, 1) := by decide +kernel
theorem d_Desk_reckon_101 : decode prog_1_method_6_code 101 = .ok (.aaload, 1) := by decide +kernel
theorem d_Desk_reckon_102 : decode prog_1_method_6_code 102 = .ok (.aload_n 0, 1) := by decide +kernel
theorem d_Desk_reckon_103 : decode prog_1_method_6_code 103 = .ok (.getfield 13, 3) := by decide +kernel
theorem d_Desk_reckon_106 : decode prog_1_method_6_code 106 = .ok (.iload 4, 2) := by decide +kernel
theorem d_Desk_reckon_108 : decode prog_1_method_6_code 108 = .ok (.aaload, 1) := by decide +kernel
theorem d_Desk_reckon_109 : decode prog_1_method_6_code 109 = .ok (.invokevirtual 184, 3) := by decide +kernel
theorem d_Desk_reckon_112 : decode prog_1_method_6_code 112 = .ok (.goto 64, 3) := by decide +kernel
theorem d_Desk_reckon_115 : decode prog_1_method_6_code 115 = .ok (.aload_n 0, 1) := by decide +kernel
theorem d_Desk_reckon_116 : decode prog_1_method_6_code 116 = .ok (.getfield 72, 3) := by decide +kernel
theorem d_Desk_reckon_119 : decode prog_1_method_6_code 119 = .ok (.aload_n 0, 1) := by decide +kernel
theorem d_Desk_reckon_120 : decode prog_1_method_6_code 120 = .ok (.getfield 55, 3) := by decide +kernel
theorem d_Desk_reckon_123 : decode prog_1_method_6_code 123 = .ok (.aload_n 0, 1) := by decide +kernel
theorem d_Desk_reckon_124 : decode prog_1_method_6_code 124 = .ok (.getfield 13, 3) := by decide +kernel
theorem d_Desk_reckon_127 : decode prog_1_method_6_code 127 = .ok (.iload 4, 2) := by decide +kernel
theorem d_Desk_reckon_129 : decode prog_1_method_6_code 129 = .ok (.aaload, 1) := by decide +kernel
theorem d_Desk_reckon_130 : decode prog_1_method_6_code 130 = .ok (.invokevirtual 187, 3) := by decide +kernel
theorem d_Desk_reckon_133 : decode prog_1_method_6_code 133 = .ok (.iload_n 1, 1) := by decide +kernel
theorem d_Desk_reckon_134 : decode prog_1_method_6_code 134 = .ok (.iconst 3, 1) := by decide +kernel
theorem d_Desk_reckon_135 : decode prog_1_method_6_code 135 = .ok (.if_icmp .ne 18, 3) := by decide +kernel
theorem d_Desk_reckon_138 : decode prog_1_method_6_code 138 = .ok (.aload_n 0, 1) := by decide +kernel
theorem d_Desk_reckon_139 : decode prog_1_method_6_code 139 = .ok (.getfield 72, 3) := by decide +kernel
theorem d_Desk_reckon_142 : decode prog_1_method_6_code 142 = .ok (.aload_n 0, 1) := by decide +kernel
theorem d_Desk_reckon_143 : decode prog_1_method_6_code 143 = .ok (.getfield 55, 3) := by decide +kernel
theorem d_Desk_reckon_146 : decode prog_1_method_6_code 146 = .ok (.aload_n 0, 1) := by decide +kernel
theorem d_Desk_reckon_147 : decode prog_1_method_6_code 147 = .ok (.getfield 55, 3) := by decide +kernel
theorem d_Desk_reckon_150 : decode prog_1_method_6_code 150 = .ok (.invokevirtual 190, 3) := by decide +kernel
theorem d_Desk_reckon_153 : decode prog_1_method_6_code 153 = .ok (.aload_n 0, 1) := by decide +kernel
theorem d_Desk_reckon_154 : decode prog_1_method_6_code 154 = .ok (.getfield 72, 3) := by decide +kernel
theorem d_Desk_reckon_157 : decode prog_1_method_6_code 157 = .ok (.aload_n 0, 1) := by decide +kernel
theorem d_Desk_reckon_158 : decode prog_1_method_6_code 158 = .ok (.getfield 13, 3) := by decide +kernel
theorem d_Desk_reckon_161 : decode prog_1_method_6_code 161 = .ok (.iload_n 2, 1) := by decide +kernel
theorem d_Desk_reckon_162 : decode prog_1_method_6_code 162 = .ok (.aaload, 1) := by decide +kernel
theorem d_Desk_reckon_163 : decode prog_1_method_6_code 163 = .ok (.aload_n 0, 1) := by decide +kernel
theorem d_Desk_reckon_164 : decode prog_1_method_6_code 164 = .ok (.getfield 13, 3) := by decide +kernel
theorem d_Desk_reckon_167 : decode prog_1_method_6_code 167 = .ok (.iload_n 3, 1) := by decide +kernel
theorem d_Desk_reckon_168 : decode prog_1_method_6_code 168 = .ok (.aaload, 1) := by decide +kernel
theorem d_Desk_reckon_169 : decode prog_1_method_6_code 169 = .ok (.aload_n 0, 1) := by decide +kernel
theorem d_Desk_reckon_170 : decode prog_1_method_6_code 170 = .ok (.getfield 55, 3) := by decide +kernel
theorem d_Desk_reckon_173 : decode prog_1_method_6_code 173 = .ok (.invokevirtual 193, 3) := by decide +kernel
theorem d_Desk_reckon_176 : decode prog_1_method_6_code 176 = .ok (.return_, 1) := by decide +kernel
abbrev y_Desk_power : MethodName := ⟨"KateDesk", "power", "(IIJ)V"⟩
theorem hd_Desk_power : y_Desk_power.cls ≠ "java/lang/invoke/MethodHandle" ∧ y_Desk_power.cls ≠ "java/lang/invoke/VarHandle" ∧ (parseMethodDescriptor y_Desk_power.desc).map (fun d => d.parameters.length) = some 3 := by decide +kernel
theorem d_Desk_power_0 : decode prog_1_method_7_code 0 = .ok (.iload_n 1, 1) := by decide +kernel
theorem d_Desk_power_1 : decode prog_1_method_7_code 1 = .ok (.iconst 1, 1) := by decide +kernel
theorem d_Desk_power_2 : decode prog_1_method_7_code 2 = .ok (.invokestatic 129, 3) := by decide +kernel
theorem d_Desk_power_5 : decode prog_1_method_7_code 5 = .ok (.iload_n 2, 1) := by decide +kernel
theorem d_Desk_power_6 : decode prog_1_method_7_code 6 = .ok (.iconst 1, 1) := by decide +kernel
theorem d_Desk_power_7 : decode prog_1_method_7_code 7 = .ok (.invokestatic 129, 3) := by decide +kernel
theorem d_Desk_power_10 : decode prog_1_method_7_code 10 = .ok (.lload_n 3, 1) := by decide +kernel
theorem d_Desk_power_11 : decode prog_1_method_7_code 11 = .ok (.lconst 0, 1) := by decide +kernel
theorem d_Desk_power_12 : decode prog_1_method_7_code 12 = .ok (.lcmp, 1) := by decide +kernel
theorem d_Desk_power_13 : decode prog_1_method_7_code 13 = .ok (.ifCond .ge 13, 3) := by decide +kernel
theorem d_Desk_power_16 : decode prog_1_method_7_code 16 = .ok (.new 112, 3) := by decide +kernel
theorem d_Desk_power_19 : decode prog_1_method_7_code 19 = .ok (.dup, 1) := by decide +kernel
theorem d_Desk_power_20 : decode prog_1_method_7_code 20 = .ok (.ldc 196, 2) := by decide +kernel
theorem d_Desk_power_22 : decode prog_1_method_7_code 22 = .ok (.invokespecial 116, 3) := by decide +kernel
theorem d_Desk_power_25 : decode prog_1_method_7_code 25 = .ok (.athrow, 1) := by decide +kernel
theorem d_Desk_power_26 : decode prog_1_method_7_code 26 = .ok (.aload_n 0, 1) := by decide +kernel
theorem d_Desk_power_27 : decode prog_1_method_7_code 27 = .ok (.getfield 51, 3) := by decide +kernel
theorem d_Desk_power_30 : decode prog_1_method_7_code 30 = .ok (.lload_n 3, 1) := by decide +kernel
theorem d_Desk_power_31 : decode prog_1_method_7_code 31 = .ok (.invokestatic 158, 3) := by decide +kernel
theorem d_Desk_power_34 : decode prog_1_method_7_code 34 = .ok (.aload_n 0, 1) := by decide +kernel
theorem d_Desk_power_35 : decode prog_1_method_7_code 35 = .ok (.getfield 72, 3) := by decide +kernel
theorem d_Desk_power_38 : decode prog_1_method_7_code 38 = .ok (.aload_n 0, 1) := by decide +kernel
theorem d_Desk_power_39 : decode prog_1_method_7_code 39 = .ok (.getfield 55, 3) := by decide +kernel
theorem d_Desk_power_42 : decode prog_1_method_7_code 42 = .ok (.aload_n 0, 1) := by decide +kernel
theorem d_Desk_power_43 : decode prog_1_method_7_code 43 = .ok (.getfield 13, 3) := by decide +kernel
theorem d_Desk_power_46 : decode prog_1_method_7_code 46 = .ok (.iload_n 2, 1) := by decide +kernel
theorem d_Desk_power_47 : decode prog_1_method_7_code 47 = .ok (.aaload, 1) := by decide +kernel
theorem d_Desk_power_48 : decode prog_1_method_7_code 48 = .ok (.invokevirtual 187, 3) := by decide +kernel
theorem d_Desk_power_51 : decode prog_1_method_7_code 51 = .ok (.aload_n 0, 1) := by decide +kernel
theorem d_Desk_power_52 : decode prog_1_method_7_code 52 = .ok (.getfield 72, 3) := by decide +kernel
theorem d_Desk_power_55 : decode prog_1_method_7_code 55 = .ok (.aload_n 0, 1) := by decide +kernel
theorem d_Desk_power_56 : decode prog_1_method_7_code 56 = .ok (.getfield 55, 3) := by decide +kernel
theorem d_Desk_power_59 : decode prog_1_method_7_code 59 = .ok (.aload_n 0, 1) := by decide +kernel
theorem d_Desk_power_60 : decode prog_1_method_7_code 60 = .ok (.getfield 55, 3) := by decide +kernel
theorem d_Desk_power_63 : decode prog_1_method_7_code 63 = .ok (.aload_n 0, 1) := by decide +kernel
theorem d_Desk_power_64 : decode prog_1_method_7_code 64 = .ok (.getfield 51, 3) := by decide +kernel
theorem d_Desk_power_67 : decode prog_1_method_7_code 67 = .ok (.invokevirtual 198, 3) := by decide +kernel
theorem d_Desk_power_70 : decode prog_1_method_7_code 70 = .ok (.aload_n 0, 1) := by decide +kernel
theorem d_Desk_power_71 : decode prog_1_method_7_code 71 = .ok (.getfield 72, 3) := by decide +kernel
theorem d_Desk_power_74 : decode prog_1_method_7_code 74 = .ok (.aload_n 0, 1) := by decide +kernel
theorem d_Desk_power_75 : decode prog_1_method_7_code 75 = .ok (.getfield 13, 3) := by decide +kernel
theorem d_Desk_power_78 : decode prog_1_method_7_code 78 = .ok (.iload_n 1, 1) := by decide +kernel
theorem d_Desk_power_79 : decode prog_1_method_7_code 79 = .ok (.aaload, 1) := by decide +kernel
theorem d_Desk_power_80 : decode prog_1_method_7_code 80 = .ok (.aload_n 0, 1) := by decide +kernel
theorem d_Desk_power_81 : decode prog_1_method_7_code 81 = .ok (.getfield 55, 3) := by decide +kernel
theorem d_Desk_power_84 : decode prog_1_method_7_code 84 = .ok (.invokevirtual 201, 3) := by decide +kernel
theorem d_Desk_power_87 : decode prog_1_method_7_code 87 = .ok (.return_, 1) := by decide +kernel
abbrev y_Desk_unity : MethodName := ⟨"KateDesk", "unity", "(II)V"⟩
theorem hd_Desk_unity : y_Desk_unity.cls ≠ "java/lang/invoke/MethodHandle" ∧ y_Desk_unity.cls ≠ "java/lang/invoke/VarHandle" ∧ (parseMethodDescriptor y_Desk_unity.desc).map (fun d => d.parameters.length) = some 2 := by decide +kernel
theorem d_Desk_unity_0 : decode prog_1_method_8_code 0 = .ok (.iload_n 1, 1) := by decide +kernel
theorem d_Desk_unity_1 : decode prog_1_method_8_code 1 = .ok (.iconst 1, 1) := by decide +kernel
theorem d_Desk_unity_2 : decode prog_1_method_8_code 2 = .ok (.invokestatic 129, 3) := by decide +kernel
theorem d_Desk_unity_5 : decode prog_1_method_8_code 5 = .ok (.iload_n 2, 1) := by decide +kernel
theorem d_Desk_unity_6 : decode prog_1_method_8_code 6 = .ok (.ifCond .lt 9, 3) := by decide +kernel
theorem d_Desk_unity_9 : decode prog_1_method_8_code 9 = .ok (.iload_n 2, 1) := by decide +kernel
theorem d_Desk_unity_10 : decode prog_1_method_8_code 10 = .ok (.bipush 32, 2) := by decide +kernel
theorem d_Desk_unity_12 : decode prog_1_method_8_code 12 = .ok (.if_icmp .le 13, 3) := by decide +kernel
theorem d_Desk_unity_15 : decode prog_1_method_8_code 15 = .ok (.new 112, 3) := by decide +kernel
theorem d_Desk_unity_18 : decode prog_1_method_8_code 18 = .ok (.dup, 1) := by decide +kernel
theorem d_Desk_unity_19 : decode prog_1_method_8_code 19 = .ok (.ldc 204, 2) := by decide +kernel
theorem d_Desk_unity_21 : decode prog_1_method_8_code 21 = .ok (.invokespecial 116, 3) := by decide +kernel
theorem d_Desk_unity_24 : decode prog_1_method_8_code 24 = .ok (.athrow, 1) := by decide +kernel
theorem d_Desk_unity_25 : decode prog_1_method_8_code 25 = .ok (.aload_n 0, 1) := by decide +kernel
theorem d_Desk_unity_26 : decode prog_1_method_8_code 26 = .ok (.getfield 101, 3) := by decide +kernel
theorem d_Desk_unity_29 : decode prog_1_method_8_code 29 = .ok (.aload_n 0, 1) := by decide +kernel
theorem d_Desk_unity_30 : decode prog_1_method_8_code 30 = .ok (.getfield 55, 3) := by decide +kernel
theorem d_Desk_unity_33 : decode prog_1_method_8_code 33 = .ok (.iload_n 2, 1) := by decide +kernel
theorem d_Desk_unity_34 : decode prog_1_method_8_code 34 = .ok (.invokevirtual 206, 3) := by decide +kernel
theorem d_Desk_unity_37 : decode prog_1_method_8_code 37 = .ok (.aload_n 0, 1) := by decide +kernel
theorem d_Desk_unity_38 : decode prog_1_method_8_code 38 = .ok (.getfield 72, 3) := by decide +kernel
theorem d_Desk_unity_41 : decode prog_1_method_8_code 41 = .ok (.aload_n 0, 1) := by decide +kernel
theorem d_Desk_unity_42 : decode prog_1_method_8_code 42 = .ok (.getfield 13, 3) := by decide +kernel
theorem d_Desk_unity_45 : decode prog_1_method_8_code 45 = .ok (.iload_n 1, 1) := by decide +kernel
theorem d_Desk_unity_46 : decode prog_1_method_8_code 46 = .ok (.aaload, 1) := by decide +kernel
theorem d_Desk_unity_47 : decode prog_1_method_8_code 47 = .ok (.aload_n 0, 1) := by decide +kernel
theorem d_Desk_unity_48 : decode prog_1_method_8_code 48 = .ok (.getfield 55, 3) := by decide +kernel
theorem d_Desk_unity_51 : decode prog_1_method_8_code 51 = .ok (.invokevirtual 201, 3) := by decide +kernel
theorem d_Desk_unity_54 : decode prog_1_method_8_code 54 = .ok (.return_, 1) := by decide +kernel
abbrev y_Desk_point : MethodName := ⟨"KateDesk", "point", "(I)I"⟩
theorem hd_Desk_point : y_Desk_point.cls ≠ "java/lang/invoke/MethodHandle" ∧ y_Desk_point.cls ≠ "java/lang/invoke/VarHandle" ∧ (parseMethodDescriptor y_Desk_point.desc).map (fun d => d.parameters.length) = some 1 := by decide +kernel
theorem d_Desk_point_0 : decode prog_1_method_9_code 0 = .ok (.iload_n 1, 1) := by decide +kernel
theorem d_Desk_point_1 : decode prog_1_method_9_code 1 = .ok (.iconst 1, 1) := by decide +kernel
theorem d_Desk_point_2 : decode prog_1_method_9_code 2 = .ok (.invokestatic 210, 3) := by decide +kernel
theorem d_Desk_point_5 : decode prog_1_method_9_code 5 = .ok (.aload_n 0, 1) := by decide +kernel
theorem d_Desk_point_6 : decode prog_1_method_9_code 6 = .ok (.getfield 94, 3) := by decide +kernel
theorem d_Desk_point_9 : decode prog_1_method_9_code 9 = .ok (.aload_n 0, 1) := by decide +kernel
theorem d_Desk_point_10 : decode prog_1_method_9_code 10 = .ok (.getfield 44, 3) := by decide +kernel
theorem d_Desk_point_13 : decode prog_1_method_9_code 13 = .ok (.aload_n 0, 1) := by decide +kernel
theorem d_Desk_point_14 : decode prog_1_method_9_code 14 = .ok (.getfield 34, 3) := by decide +kernel
theorem d_Desk_point_17 : decode prog_1_method_9_code 17 = .ok (.invokevirtual 213, 3) := by decide +kernel
theorem d_Desk_point_20 : decode prog_1_method_9_code 20 = .ok (.istore_n 2, 1) := by decide +kernel
theorem d_Desk_point_21 : decode prog_1_method_9_code 21 = .ok (.aload_n 0, 1) := by decide +kernel
theorem d_Desk_point_22 : decode prog_1_method_9_code 22 = .ok (.getfield 34, 3) := by decide +kernel
theorem d_Desk_point_25 : decode prog_1_method_9_code 25 = .ok (.iconst 0, 1) := by decide +kernel
theorem d_Desk_point_26 : decode prog_1_method_9_code 26 = .ok (.putfield 117, 3) := by decide +kernel
theorem d_Desk_point_29 : decode prog_1_method_9_code 29 = .ok (.iload_n 2, 1) := by decide +kernel
theorem d_Desk_point_30 : decode prog_1_method_9_code 30 = .ok (.ifCond .eq 5, 3) := by decide +kernel
theorem d_Desk_point_33 : decode prog_1_method_9_code 33 = .ok (.iload_n 2, 1) := by decide +kernel
theorem d_Desk_point_34 : decode prog_1_method_9_code 34 = .ok (.ireturn, 1) := by decide +kernel
theorem d_Desk_point_35 : decode prog_1_method_9_code 35 = .ok (.aload_n 0, 1) := by decide +kernel
theorem d_Desk_point_36 : decode prog_1_method_9_code 36 = .ok (.aload_n 0, 1) := by decide +kernel
theorem d_Desk_point_37 : decode prog_1_method_9_code 37 = .ok (.getfield 44, 3) := by decide +kernel
theorem d_Desk_point_40 : decode prog_1_method_9_code 40 = .ok (.invokevirtual 217, 3) := by decide +kernel
theorem d_Desk_point_43 : decode prog_1_method_9_code 43 = .ok (.ifCond .ne 6, 3) := by decide +kernel
theorem d_Desk_point_46 : decode prog_1_method_9_code 46 = .ok (.bipush 6, 2) := by decide +kernel
theorem d_Desk_point_48 : decode prog_1_method_9_code 48 = .ok (.ireturn, 1) := by decide +kernel
theorem d_Desk_point_49 : decode prog_1_method_9_code 49 = .ok (.aload_n 0, 1) := by decide +kernel
theorem d_Desk_point_50 : decode prog_1_method_9_code 50 = .ok (.getfield 20, 3) := by decide +kernel
theorem d_Desk_point_53 : decode prog_1_method_9_code 53 = .ok (.iload_n 1, 1) := by decide +kernel
theorem d_Desk_point_54 : decode prog_1_method_9_code 54 = .ok (.aaload, 1) := by decide +kernel
theorem d_Desk_point_55 : decode prog_1_method_9_code 55 = .ok (.aload_n 0, 1) := by decide +kernel
theorem d_Desk_point_56 : decode prog_1_method_9_code 56 = .ok (.getfield 44, 3) := by decide +kernel
theorem d_Desk_point_59 : decode prog_1_method_9_code 59 = .ok (.invokevirtual 221, 3) := by decide +kernel
theorem d_Desk_point_62 : decode prog_1_method_9_code 62 = .ok (.iconst 0, 1) := by decide +kernel
theorem d_Desk_point_63 : decode prog_1_method_9_code 63 = .ok (.ireturn, 1) := by decide +kernel
abbrev y_Desk_bytes : MethodName := ⟨"KateDesk", "bytes", "(IZ)V"⟩
theorem hd_Desk_bytes : y_Desk_bytes.cls ≠ "java/lang/invoke/MethodHandle" ∧ y_Desk_bytes.cls ≠ "java/lang/invoke/VarHandle" ∧ (parseMethodDescriptor y_Desk_bytes.desc).map (fun d => d.parameters.length) = some 2 := by decide +kernel
theorem d_Desk_bytes_0 : decode prog_1_method_10_code 0 = .ok (.iload_n 1, 1) := by decide +kernel
theorem d_Desk_bytes_1 : decode prog_1_method_10_code 1 = .ok (.iconst 1, 1) := by decide +kernel
theorem d_Desk_bytes_2 : decode prog_1_method_10_code 2 = .ok (.invokestatic 210, 3) := by decide +kernel
theorem d_Desk_bytes_5 : decode prog_1_method_10_code 5 = .ok (.aload_n 0, 1) := by decide +kernel
theorem d_Desk_bytes_6 : decode prog_1_method_10_code 6 = .ok (.getfield 94, 3) := by decide +kernel
theorem d_Desk_bytes_9 : decode prog_1_method_10_code 9 = .ok (.aload_n 0, 1) := by decide +kernel
theorem d_Desk_bytes_10 : decode prog_1_method_10_code 10 = .ok (.getfield 38, 3) := by decide +kernel
theorem d_Desk_bytes_13 : decode prog_1_method_10_code 13 = .ok (.aload_n 0, 1) := by decide +kernel
theorem d_Desk_bytes_14 : decode prog_1_method_10_code 14 = .ok (.getfield 20, 3) := by decide +kernel
theorem d_Desk_bytes_17 : decode prog_1_method_10_code 17 = .ok (.iload_n 1, 1) := by decide +kernel
theorem d_Desk_bytes_18 : decode prog_1_method_10_code 18 = .ok (.aaload, 1) := by decide +kernel
theorem d_Desk_bytes_19 : decode prog_1_method_10_code 19 = .ok (.iload_n 2, 1) := by decide +kernel
theorem d_Desk_bytes_20 : decode prog_1_method_10_code 20 = .ok (.invokevirtual 224, 3) := by decide +kernel
theorem d_Desk_bytes_23 : decode prog_1_method_10_code 23 = .ok (.return_, 1) := by decide +kernel
