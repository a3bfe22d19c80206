theorem okC_n1 {n : Int32} (h : okC n (nI 1) (nI 16)) : n ≤ 0 ∨ ∃ j, n = nI j ∧ 1 ≤ j ∧ j ≤ 32 := by
  obtain ⟨k, e, h1, h2⟩ := okC_nat (by decide) (by decide) h
  exact Or.inr ⟨k, e, by omega, by omega⟩
abbrev y_Model_isNumber : MethodName := ⟨"KateDeskModel", "isNumber", "(I)Z"⟩
theorem hd_Model_isNumber : y_Model_isNumber.cls ≠ "java/lang/invoke/MethodHandle" ∧ y_Model_isNumber.cls ≠ "java/lang/invoke/VarHandle" ∧ (parseMethodDescriptor y_Model_isNumber.desc).map (fun d => d.parameters.length) = some 1 := by decide +kernel
theorem d_Model_isNumber_0 : decode prog_11_method_26_code 0 = .ok (.bipush 13, 2) := by decide +kernel
theorem d_Model_isNumber_2 : decode prog_11_method_26_code 2 = .ok (.istore_n 2, 1) := by decide +kernel
theorem d_Model_isNumber_3 : decode prog_11_method_26_code 3 = .ok (.iload_n 2, 1) := by decide +kernel
theorem d_Model_isNumber_4 : decode prog_11_method_26_code 4 = .ok (.ifCond .lt 63, 3) := by decide +kernel
theorem d_Model_isNumber_7 : decode prog_11_method_26_code 7 = .ok (.aload_n 0, 1) := by decide +kernel
theorem d_Model_isNumber_8 : decode prog_11_method_26_code 8 = .ok (.iload_n 1, 1) := by decide +kernel
theorem d_Model_isNumber_9 : decode prog_11_method_26_code 9 = .ok (.iload_n 2, 1) := by decide +kernel
theorem d_Model_isNumber_10 : decode prog_11_method_26_code 10 = .ok (.invokevirtual 164, 3) := by decide +kernel
theorem d_Model_isNumber_13 : decode prog_11_method_26_code 13 = .ok (.aload_n 0, 1) := by decide +kernel
theorem d_Model_isNumber_14 : decode prog_11_method_26_code 14 = .ok (.getfield 59, 3) := by decide +kernel
theorem d_Model_isNumber_17 : decode prog_11_method_26_code 17 = .ok (.bipush 14, 2) := by decide +kernel
theorem d_Model_isNumber_19 : decode prog_11_method_26_code 19 = .ok (.aload_n 0, 1) := by decide +kernel
theorem d_Model_isNumber_20 : decode prog_11_method_26_code 20 = .ok (.getfield 161, 3) := by decide +kernel
theorem d_Model_isNumber_23 : decode prog_11_method_26_code 23 = .ok (.imul, 1) := by decide +kernel
theorem d_Model_isNumber_24 : decode prog_11_method_26_code 24 = .ok (.iload_n 2, 1) := by decide +kernel
theorem d_Model_isNumber_25 : decode prog_11_method_26_code 25 = .ok (.iadd, 1) := by decide +kernel
theorem d_Model_isNumber_26 : decode prog_11_method_26_code 26 = .ok (.laload, 1) := by decide +kernel
theorem d_Model_isNumber_27 : decode prog_11_method_26_code 27 = .ok (.lcmp, 1) := by decide +kernel
theorem d_Model_isNumber_28 : decode prog_11_method_26_code 28 = .ok (.ifCond .eq 33, 3) := by decide +kernel
theorem d_Model_isNumber_31 : decode prog_11_method_26_code 31 = .ok (.aload_n 0, 1) := by decide +kernel
theorem d_Model_isNumber_32 : decode prog_11_method_26_code 32 = .ok (.iload_n 1, 1) := by decide +kernel
theorem d_Model_isNumber_33 : decode prog_11_method_26_code 33 = .ok (.iload_n 2, 1) := by decide +kernel
theorem d_Model_isNumber_34 : decode prog_11_method_26_code 34 = .ok (.invokevirtual 164, 3) := by decide +kernel
theorem d_Model_isNumber_37 : decode prog_11_method_26_code 37 = .ok (.aload_n 0, 1) := by decide +kernel
theorem d_Model_isNumber_38 : decode prog_11_method_26_code 38 = .ok (.getfield 59, 3) := by decide +kernel
theorem d_Model_isNumber_41 : decode prog_11_method_26_code 41 = .ok (.bipush 14, 2) := by decide +kernel
theorem d_Model_isNumber_43 : decode prog_11_method_26_code 43 = .ok (.aload_n 0, 1) := by decide +kernel
theorem d_Model_isNumber_44 : decode prog_11_method_26_code 44 = .ok (.getfield 161, 3) := by decide +kernel
theorem d_Model_isNumber_47 : decode prog_11_method_26_code 47 = .ok (.imul, 1) := by decide +kernel
theorem d_Model_isNumber_48 : decode prog_11_method_26_code 48 = .ok (.iload_n 2, 1) := by decide +kernel
theorem d_Model_isNumber_49 : decode prog_11_method_26_code 49 = .ok (.iadd, 1) := by decide +kernel
theorem d_Model_isNumber_50 : decode prog_11_method_26_code 50 = .ok (.laload, 1) := by decide +kernel
theorem d_Model_isNumber_51 : decode prog_11_method_26_code 51 = .ok (.lcmp, 1) := by decide +kernel
theorem d_Model_isNumber_52 : decode prog_11_method_26_code 52 = .ok (.ifCond .ge 7, 3) := by decide +kernel
theorem d_Model_isNumber_55 : decode prog_11_method_26_code 55 = .ok (.iconst 1, 1) := by decide +kernel
theorem d_Model_isNumber_56 : decode prog_11_method_26_code 56 = .ok (.goto 4, 3) := by decide +kernel
theorem d_Model_isNumber_59 : decode prog_11_method_26_code 59 = .ok (.iconst 0, 1) := by decide +kernel
theorem d_Model_isNumber_60 : decode prog_11_method_26_code 60 = .ok (.ireturn, 1) := by decide +kernel
theorem d_Model_isNumber_61 : decode prog_11_method_26_code 61 = .ok (.iinc 2 (-1), 3) := by decide +kernel
theorem d_Model_isNumber_64 : decode prog_11_method_26_code 64 = .ok (.goto (-61), 3) := by decide +kernel
theorem d_Model_isNumber_67 : decode prog_11_method_26_code 67 = .ok (.iconst 0, 1) := by decide +kernel
theorem d_Model_isNumber_68 : decode prog_11_method_26_code 68 = .ok (.ireturn, 1) := by decide +kernel
abbrev y_Model_number : MethodName := ⟨"KateDeskModel", "number", "(I)Z"⟩
theorem hd_Model_number : y_Model_number.cls ≠ "java/lang/invoke/MethodHandle" ∧ y_Model_number.cls ≠ "java/lang/invoke/VarHandle" ∧ (parseMethodDescriptor y_Model_number.desc).map (fun d => d.parameters.length) = some 1 := by decide +kernel
theorem d_Model_number_0 : decode prog_11_method_38_code 0 = .ok (.aload_n 0, 1) := by decide +kernel
theorem d_Model_number_1 : decode prog_11_method_38_code 1 = .ok (.iload_n 1, 1) := by decide +kernel
theorem d_Model_number_2 : decode prog_11_method_38_code 2 = .ok (.invokestatic 219, 3) := by decide +kernel
theorem d_Model_number_5 : decode prog_11_method_38_code 5 = .ok (.iconst 1, 1) := by decide +kernel
theorem d_Model_number_6 : decode prog_11_method_38_code 6 = .ok (.invokevirtual 223, 3) := by decide +kernel
theorem d_Model_number_9 : decode prog_11_method_38_code 9 = .ok (.ifCond .eq 5, 3) := by decide +kernel
theorem d_Model_number_12 : decode prog_11_method_38_code 12 = .ok (.iconst 0, 1) := by decide +kernel
theorem d_Model_number_13 : decode prog_11_method_38_code 13 = .ok (.ireturn, 1) := by decide +kernel
theorem d_Model_number_14 : decode prog_11_method_38_code 14 = .ok (.aload_n 0, 1) := by decide +kernel
theorem d_Model_number_15 : decode prog_11_method_38_code 15 = .ok (.getfield 155, 3) := by decide +kernel
theorem d_Model_number_18 : decode prog_11_method_38_code 18 = .ok (.istore_n 2, 1) := by decide +kernel
theorem d_Model_number_19 : decode prog_11_method_38_code 19 = .ok (.aload_n 0, 1) := by decide +kernel
theorem d_Model_number_20 : decode prog_11_method_38_code 20 = .ok (.iconst 0, 1) := by decide +kernel
theorem d_Model_number_21 : decode prog_11_method_38_code 21 = .ok (.putfield 155, 3) := by decide +kernel
theorem d_Model_number_24 : decode prog_11_method_38_code 24 = .ok (.iload_n 2, 1) := by decide +kernel
theorem d_Model_number_25 : decode prog_11_method_38_code 25 = .ok (.bipush 32, 2) := by decide +kernel
theorem d_Model_number_27 : decode prog_11_method_38_code 27 = .ok (.if_icmp .le 5, 3) := by decide +kernel
theorem d_Model_number_30 : decode prog_11_method_38_code 30 = .ok (.iconst 0, 1) := by decide +kernel
theorem d_Model_number_31 : decode prog_11_method_38_code 31 = .ok (.ireturn, 1) := by decide +kernel
theorem d_Model_number_32 : decode prog_11_method_38_code 32 = .ok (.aload_n 0, 1) := by decide +kernel
theorem d_Model_number_33 : decode prog_11_method_38_code 33 = .ok (.iconst 1, 1) := by decide +kernel
theorem d_Model_number_34 : decode prog_11_method_38_code 34 = .ok (.invokevirtual 137, 3) := by decide +kernel
theorem d_Model_number_37 : decode prog_11_method_38_code 37 = .ok (.aload_n 0, 1) := by decide +kernel
theorem d_Model_number_38 : decode prog_11_method_38_code 38 = .ok (.bipush 120, 2) := by decide +kernel
theorem d_Model_number_40 : decode prog_11_method_38_code 40 = .ok (.invokevirtual 200, 3) := by decide +kernel
theorem d_Model_number_43 : decode prog_11_method_38_code 43 = .ok (.iconst 0, 1) := by decide +kernel
theorem d_Model_number_44 : decode prog_11_method_38_code 44 = .ok (.istore_n 3, 1) := by decide +kernel
theorem d_Model_number_45 : decode prog_11_method_38_code 45 = .ok (.iload_n 3, 1) := by decide +kernel
theorem d_Model_number_46 : decode prog_11_method_38_code 46 = .ok (.iload_n 2, 1) := by decide +kernel
theorem d_Model_number_47 : decode prog_11_method_38_code 47 = .ok (.if_icmp .ge 22, 3) := by decide +kernel
theorem d_Model_number_50 : decode prog_11_method_38_code 50 = .ok (.aload_n 0, 1) := by decide +kernel
theorem d_Model_number_51 : decode prog_11_method_38_code 51 = .ok (.bipush 120, 2) := by decide +kernel
theorem d_Model_number_53 : decode prog_11_method_38_code 53 = .ok (.iload_n 3, 1) := by decide +kernel
theorem d_Model_number_54 : decode prog_11_method_38_code 54 = .ok (.aload_n 0, 1) := by decide +kernel
theorem d_Model_number_55 : decode prog_11_method_38_code 55 = .ok (.getfield 127, 3) := by decide +kernel
theorem d_Model_number_58 : decode prog_11_method_38_code 58 = .ok (.iload_n 3, 1) := by decide +kernel
theorem d_Model_number_59 : decode prog_11_method_38_code 59 = .ok (.iaload, 1) := by decide +kernel
theorem d_Model_number_60 : decode prog_11_method_38_code 60 = .ok (.invokevirtual 229, 3) := by decide +kernel
theorem d_Model_number_63 : decode prog_11_method_38_code 63 = .ok (.iinc 3 1, 3) := by decide +kernel
theorem d_Model_number_66 : decode prog_11_method_38_code 66 = .ok (.goto (-21), 3) := by decide +kernel
theorem d_Model_number_69 : decode prog_11_method_38_code 69 = .ok (.aload_n 0, 1) := by decide +kernel
theorem d_Model_number_70 : decode prog_11_method_38_code 70 = .ok (.bipush 120, 2) := by decide +kernel
theorem d_Model_number_72 : decode prog_11_method_38_code 72 = .ok (.invokevirtual 232, 3) := by decide +kernel
theorem d_Model_number_75 : decode prog_11_method_38_code 75 = .ok (.ifCond .ne 5, 3) := by decide +kernel
theorem d_Model_number_78 : decode prog_11_method_38_code 78 = .ok (.iconst 0, 1) := by decide +kernel
theorem d_Model_number_79 : decode prog_11_method_38_code 79 = .ok (.ireturn, 1) := by decide +kernel
theorem d_Model_number_80 : decode prog_11_method_38_code 80 = .ok (.aload_n 0, 1) := by decide +kernel
theorem d_Model_number_81 : decode prog_11_method_38_code 81 = .ok (.iload_n 1, 1) := by decide +kernel
theorem d_Model_number_82 : decode prog_11_method_38_code 82 = .ok (.bipush 120, 2) := by decide +kernel
theorem d_Model_number_84 : decode prog_11_method_38_code 84 = .ok (.invokevirtual 180, 3) := by decide +kernel
theorem d_Model_number_87 : decode prog_11_method_38_code 87 = .ok (.iconst 1, 1) := by decide +kernel
theorem d_Model_number_88 : decode prog_11_method_38_code 88 = .ok (.ireturn, 1) := by decide +kernel
abbrev y_Model_word : MethodName := ⟨"KateDeskModel", "word", "(II)J"⟩
theorem hd_Model_word : y_Model_word.cls ≠ "java/lang/invoke/MethodHandle" ∧ y_Model_word.cls ≠ "java/lang/invoke/VarHandle" ∧ (parseMethodDescriptor y_Model_word.desc).map (fun d => d.parameters.length) = some 2 := by decide +kernel
theorem d_Model_word_0 : decode prog_11_method_40_code 0 = .ok (.aload_n 0, 1) := by decide +kernel
theorem d_Model_word_1 : decode prog_11_method_40_code 1 = .ok (.iload_n 1, 1) := by decide +kernel
theorem d_Model_word_2 : decode prog_11_method_40_code 2 = .ok (.invokestatic 219, 3) := by decide +kernel
theorem d_Model_word_5 : decode prog_11_method_40_code 5 = .ok (.ifCond .ne 13, 3) := by decide +kernel
theorem d_Model_word_8 : decode prog_11_method_40_code 8 = .ok (.iload_n 2, 1) := by decide +kernel
theorem d_Model_word_9 : decode prog_11_method_40_code 9 = .ok (.ifCond .lt 9, 3) := by decide +kernel
theorem d_Model_word_12 : decode prog_11_method_40_code 12 = .ok (.iload_n 2, 1) := by decide +kernel
theorem d_Model_word_13 : decode prog_11_method_40_code 13 = .ok (.bipush 7, 2) := by decide +kernel
theorem d_Model_word_15 : decode prog_11_method_40_code 15 = .ok (.if_icmp .le 7, 3) := by decide +kernel
theorem d_Model_word_18 : decode prog_11_method_40_code 18 = .ok (.iconst 1, 1) := by decide +kernel
theorem d_Model_word_19 : decode prog_11_method_40_code 19 = .ok (.goto 4, 3) := by decide +kernel
theorem d_Model_word_22 : decode prog_11_method_40_code 22 = .ok (.iconst 0, 1) := by decide +kernel
theorem d_Model_word_23 : decode prog_11_method_40_code 23 = .ok (.iconst 1, 1) := by decide +kernel
theorem d_Model_word_24 : decode prog_11_method_40_code 24 = .ok (.invokevirtual 223, 3) := by decide +kernel
theorem d_Model_word_27 : decode prog_11_method_40_code 27 = .ok (.ifCond .eq 5, 3) := by decide +kernel
theorem d_Model_word_30 : decode prog_11_method_40_code 30 = .ok (.lconst 0, 1) := by decide +kernel
theorem d_Model_word_31 : decode prog_11_method_40_code 31 = .ok (.lreturn, 1) := by decide +kernel
theorem d_Model_word_32 : decode prog_11_method_40_code 32 = .ok (.lconst 0, 1) := by decide +kernel
theorem d_Model_word_33 : decode prog_11_method_40_code 33 = .ok (.lstore_n 3, 1) := by decide +kernel
theorem d_Model_word_34 : decode prog_11_method_40_code 34 = .ok (.bipush 31, 2) := by decide +kernel
theorem d_Model_word_36 : decode prog_11_method_40_code 36 = .ok (.istore 5, 2) := by decide +kernel
theorem d_Model_word_38 : decode prog_11_method_40_code 38 = .ok (.iload 5, 2) := by decide +kernel
theorem d_Model_word_40 : decode prog_11_method_40_code 40 = .ok (.ifCond .lt 29, 3) := by decide +kernel
theorem d_Model_word_43 : decode prog_11_method_40_code 43 = .ok (.ldc2_w 238, 3) := by decide +kernel
theorem d_Model_word_46 : decode prog_11_method_40_code 46 = .ok (.lload_n 3, 1) := by decide +kernel
theorem d_Model_word_47 : decode prog_11_method_40_code 47 = .ok (.lmul, 1) := by decide +kernel
theorem d_Model_word_48 : decode prog_11_method_40_code 48 = .ok (.aload_n 0, 1) := by decide +kernel
theorem d_Model_word_49 : decode prog_11_method_40_code 49 = .ok (.iload_n 1, 1) := by decide +kernel
theorem d_Model_word_50 : decode prog_11_method_40_code 50 = .ok (.bipush 32, 2) := by decide +kernel
theorem d_Model_word_52 : decode prog_11_method_40_code 52 = .ok (.iload_n 2, 1) := by decide +kernel
theorem d_Model_word_53 : decode prog_11_method_40_code 53 = .ok (.imul, 1) := by decide +kernel
theorem d_Model_word_54 : decode prog_11_method_40_code 54 = .ok (.iload 5, 2) := by decide +kernel
theorem d_Model_word_56 : decode prog_11_method_40_code 56 = .ok (.iadd, 1) := by decide +kernel
theorem d_Model_word_57 : decode prog_11_method_40_code 57 = .ok (.invokevirtual 187, 3) := by decide +kernel
theorem d_Model_word_60 : decode prog_11_method_40_code 60 = .ok (.i2l, 1) := by decide +kernel
theorem d_Model_word_61 : decode prog_11_method_40_code 61 = .ok (.ladd, 1) := by decide +kernel
theorem d_Model_word_62 : decode prog_11_method_40_code 62 = .ok (.lstore_n 3, 1) := by decide +kernel
theorem d_Model_word_63 : decode prog_11_method_40_code 63 = .ok (.iinc 5 (-1), 3) := by decide +kernel
theorem d_Model_word_66 : decode prog_11_method_40_code 66 = .ok (.goto (-28), 3) := by decide +kernel
theorem d_Model_word_69 : decode prog_11_method_40_code 69 = .ok (.lload_n 3, 1) := by decide +kernel
theorem d_Model_word_70 : decode prog_11_method_40_code 70 = .ok (.lreturn, 1) := by decide +kernel
abbrev y_Model_setup : MethodName := ⟨"KateDeskModel", "setup", "(II)V"⟩
theorem hd_Model_setup : y_Model_setup.cls ≠ "java/lang/invoke/MethodHandle" ∧ y_Model_setup.cls ≠ "java/lang/invoke/VarHandle" ∧ (parseMethodDescriptor y_Model_setup.desc).map (fun d => d.parameters.length) = some 2 := by decide +kernel
theorem d_Model_setup_0 : decode prog_11_method_54_code 0 = .ok (.aload_n 0, 1) := by decide +kernel
theorem d_Model_setup_1 : decode prog_11_method_54_code 1 = .ok (.iload_n 1, 1) := by decide +kernel
theorem d_Model_setup_2 : decode prog_11_method_54_code 2 = .ok (.invokestatic 219, 3) := by decide +kernel
theorem d_Model_setup_5 : decode prog_11_method_54_code 5 = .ok (.ifCond .ne 15, 3) := by decide +kernel
theorem d_Model_setup_8 : decode prog_11_method_54_code 8 = .ok (.iload_n 2, 1) := by decide +kernel
theorem d_Model_setup_9 : decode prog_11_method_54_code 9 = .ok (.i2l, 1) := by decide +kernel
theorem d_Model_setup_10 : decode prog_11_method_54_code 10 = .ok (.lconst 1, 1) := by decide +kernel
theorem d_Model_setup_11 : decode prog_11_method_54_code 11 = .ok (.ldc2_w 292, 3) := by decide +kernel
theorem d_Model_setup_14 : decode prog_11_method_54_code 14 = .ok (.invokestatic 242, 3) := by decide +kernel
theorem d_Model_setup_17 : decode prog_11_method_54_code 17 = .ok (.ifCond .ne 7, 3) := by decide +kernel
theorem d_Model_setup_20 : decode prog_11_method_54_code 20 = .ok (.iconst 1, 1) := by decide +kernel
theorem d_Model_setup_21 : decode prog_11_method_54_code 21 = .ok (.goto 4, 3) := by decide +kernel
theorem d_Model_setup_24 : decode prog_11_method_54_code 24 = .ok (.iconst 0, 1) := by decide +kernel
theorem d_Model_setup_25 : decode prog_11_method_54_code 25 = .ok (.iconst 1, 1) := by decide +kernel
theorem d_Model_setup_26 : decode prog_11_method_54_code 26 = .ok (.invokevirtual 223, 3) := by decide +kernel
theorem d_Model_setup_29 : decode prog_11_method_54_code 29 = .ok (.ifCond .eq 4, 3) := by decide +kernel
theorem d_Model_setup_32 : decode prog_11_method_54_code 32 = .ok (.return_, 1) := by decide +kernel
theorem d_Model_setup_33 : decode prog_11_method_54_code 33 = .ok (.aload_n 0, 1) := by decide +kernel
theorem d_Model_setup_34 : decode prog_11_method_54_code 34 = .ok (.iload_n 2, 1) := by decide +kernel
theorem d_Model_setup_35 : decode prog_11_method_54_code 35 = .ok (.putfield 294, 3) := by decide +kernel
theorem d_Model_setup_38 : decode prog_11_method_54_code 38 = .ok (.aload_n 0, 1) := by decide +kernel
theorem d_Model_setup_39 : decode prog_11_method_54_code 39 = .ok (.sipush 165, 3) := by decide +kernel
theorem d_Model_setup_42 : decode prog_11_method_54_code 42 = .ok (.invokevirtual 141, 3) := by decide +kernel
theorem d_Model_setup_45 : decode prog_11_method_54_code 45 = .ok (.iconst 0, 1) := by decide +kernel
theorem d_Model_setup_46 : decode prog_11_method_54_code 46 = .ok (.istore_n 3, 1) := by decide +kernel
theorem d_Model_setup_47 : decode prog_11_method_54_code 47 = .ok (.iload_n 3, 1) := by decide +kernel
theorem d_Model_setup_48 : decode prog_11_method_54_code 48 = .ok (.iload_n 2, 1) := by decide +kernel
theorem d_Model_setup_49 : decode prog_11_method_54_code 49 = .ok (.if_icmp .ge 45, 3) := by decide +kernel
theorem d_Model_setup_52 : decode prog_11_method_54_code 52 = .ok (.aload_n 0, 1) := by decide +kernel
theorem d_Model_setup_53 : decode prog_11_method_54_code 53 = .ok (.iconst 0, 1) := by decide +kernel
theorem d_Model_setup_54 : decode prog_11_method_54_code 54 = .ok (.invokevirtual 137, 3) := by decide +kernel
theorem d_Model_setup_57 : decode prog_11_method_54_code 57 = .ok (.aload_n 0, 1) := by decide +kernel
theorem d_Model_setup_58 : decode prog_11_method_54_code 58 = .ok (.bipush 68, 2) := by decide +kernel
theorem d_Model_setup_60 : decode prog_11_method_54_code 60 = .ok (.iconst 3, 1) := by decide +kernel
theorem d_Model_setup_61 : decode prog_11_method_54_code 61 = .ok (.iload_n 3, 1) := by decide +kernel
theorem d_Model_setup_62 : decode prog_11_method_54_code 62 = .ok (.imul, 1) := by decide +kernel
theorem d_Model_setup_63 : decode prog_11_method_54_code 63 = .ok (.iadd, 1) := by decide +kernel
theorem d_Model_setup_64 : decode prog_11_method_54_code 64 = .ok (.sipush 165, 3) := by decide +kernel
theorem d_Model_setup_67 : decode prog_11_method_54_code 67 = .ok (.bipush 116, 2) := by decide +kernel
theorem d_Model_setup_69 : decode prog_11_method_54_code 69 = .ok (.invokevirtual 274, 3) := by decide +kernel
theorem d_Model_setup_72 : decode prog_11_method_54_code 72 = .ok (.aload_n 0, 1) := by decide +kernel
theorem d_Model_setup_73 : decode prog_11_method_54_code 73 = .ok (.iconst 1, 1) := by decide +kernel
theorem d_Model_setup_74 : decode prog_11_method_54_code 74 = .ok (.invokevirtual 137, 3) := by decide +kernel
theorem d_Model_setup_77 : decode prog_11_method_54_code 77 = .ok (.aload_n 0, 1) := by decide +kernel
theorem d_Model_setup_78 : decode prog_11_method_54_code 78 = .ok (.sipush 165, 3) := by decide +kernel
theorem d_Model_setup_81 : decode prog_11_method_54_code 81 = .ok (.sipush 165, 3) := by decide +kernel
theorem d_Model_setup_84 : decode prog_11_method_54_code 84 = .ok (.iload_n 1, 1) := by decide +kernel
theorem d_Model_setup_85 : decode prog_11_method_54_code 85 = .ok (.invokevirtual 184, 3) := by decide +kernel
theorem d_Model_setup_88 : decode prog_11_method_54_code 88 = .ok (.iinc 3 1, 3) := by decide +kernel
theorem d_Model_setup_91 : decode prog_11_method_54_code 91 = .ok (.goto (-44), 3) := by decide +kernel
theorem d_Model_setup_94 : decode prog_11_method_54_code 94 = .ok (.return_, 1) := by decide +kernel
abbrev y_Model_open : MethodName := ⟨"KateDeskModel", "open", "(IIII)V"⟩
theorem hd_Model_open : y_Model_open.cls ≠ "java/lang/invoke/MethodHandle" ∧ y_Model_open.cls ≠ "java/lang/invoke/VarHandle" ∧ (parseMethodDescriptor y_Model_open.desc).map (fun d => d.parameters.length) = some 4 := by decide +kernel
theorem d_Model_open_0 : decode prog_11_method_57_code 0 = .ok (.aload_n 0, 1) := by decide +kernel
theorem d_Model_open_1 : decode prog_11_method_57_code 1 = .ok (.iload_n 2, 1) := by decide +kernel
theorem d_Model_open_2 : decode prog_11_method_57_code 2 = .ok (.i2l, 1) := by decide +kernel
theorem d_Model_open_3 : decode prog_11_method_57_code 3 = .ok (.lconst 1, 1) := by decide +kernel
theorem d_Model_open_4 : decode prog_11_method_57_code 4 = .ok (.ldc2_w 292, 3) := by decide +kernel
theorem d_Model_open_7 : decode prog_11_method_57_code 7 = .ok (.invokestatic 242, 3) := by decide +kernel
theorem d_Model_open_10 : decode prog_11_method_57_code 10 = .ok (.ifCond .eq 26, 3) := by decide +kernel
theorem d_Model_open_13 : decode prog_11_method_57_code 13 = .ok (.iload_n 1, 1) := by decide +kernel
theorem d_Model_open_14 : decode prog_11_method_57_code 14 = .ok (.iload_n 2, 1) := by decide +kernel
theorem d_Model_open_15 : decode prog_11_method_57_code 15 = .ok (.invokestatic 283, 3) := by decide +kernel
theorem d_Model_open_18 : decode prog_11_method_57_code 18 = .ok (.ifCond .ne 18, 3) := by decide +kernel
theorem d_Model_open_21 : decode prog_11_method_57_code 21 = .ok (.iload_n 3, 1) := by decide +kernel
theorem d_Model_open_22 : decode prog_11_method_57_code 22 = .ok (.invokestatic 219, 3) := by decide +kernel
theorem d_Model_open_25 : decode prog_11_method_57_code 25 = .ok (.ifCond .ne 11, 3) := by decide +kernel
theorem d_Model_open_28 : decode prog_11_method_57_code 28 = .ok (.iload 4, 2) := by decide +kernel
theorem d_Model_open_30 : decode prog_11_method_57_code 30 = .ok (.invokestatic 219, 3) := by decide +kernel
theorem d_Model_open_33 : decode prog_11_method_57_code 33 = .ok (.ifCond .eq 7, 3) := by decide +kernel
theorem d_Model_open_36 : decode prog_11_method_57_code 36 = .ok (.iconst 1, 1) := by decide +kernel
theorem d_Model_open_37 : decode prog_11_method_57_code 37 = .ok (.goto 4, 3) := by decide +kernel
theorem d_Model_open_40 : decode prog_11_method_57_code 40 = .ok (.iconst 0, 1) := by decide +kernel
theorem d_Model_open_41 : decode prog_11_method_57_code 41 = .ok (.iconst 1, 1) := by decide +kernel
theorem d_Model_open_42 : decode prog_11_method_57_code 42 = .ok (.invokevirtual 223, 3) := by decide +kernel
theorem d_Model_open_45 : decode prog_11_method_57_code 45 = .ok (.ifCond .eq 4, 3) := by decide +kernel
theorem d_Model_open_48 : decode prog_11_method_57_code 48 = .ok (.return_, 1) := by decide +kernel
theorem d_Model_open_49 : decode prog_11_method_57_code 49 = .ok (.aload_n 0, 1) := by decide +kernel
theorem d_Model_open_50 : decode prog_11_method_57_code 50 = .ok (.iconst 1, 1) := by decide +kernel
theorem d_Model_open_51 : decode prog_11_method_57_code 51 = .ok (.invokevirtual 137, 3) := by decide +kernel
theorem d_Model_open_54 : decode prog_11_method_57_code 54 = .ok (.aload_n 0, 1) := by decide +kernel
theorem d_Model_open_55 : decode prog_11_method_57_code 55 = .ok (.sipush 166, 3) := by decide +kernel
theorem d_Model_open_58 : decode prog_11_method_57_code 58 = .ok (.iload_n 3, 1) := by decide +kernel
theorem d_Model_open_59 : decode prog_11_method_57_code 59 = .ok (.invokevirtual 180, 3) := by decide +kernel
theorem d_Model_open_62 : decode prog_11_method_57_code 62 = .ok (.aload_n 0, 1) := by decide +kernel
theorem d_Model_open_63 : decode prog_11_method_57_code 63 = .ok (.sipush 168, 3) := by decide +kernel
theorem d_Model_open_66 : decode prog_11_method_57_code 66 = .ok (.iload_n 1, 1) := by decide +kernel
theorem d_Model_open_67 : decode prog_11_method_57_code 67 = .ok (.iload_n 2, 1) := by decide +kernel
theorem d_Model_open_68 : decode prog_11_method_57_code 68 = .ok (.sipush 166, 3) := by decide +kernel
theorem d_Model_open_71 : decode prog_11_method_57_code 71 = .ok (.invokevirtual 297, 3) := by decide +kernel
theorem d_Model_open_74 : decode prog_11_method_57_code 74 = .ok (.iconst 0, 1) := by decide +kernel
theorem d_Model_open_75 : decode prog_11_method_57_code 75 = .ok (.istore 5, 2) := by decide +kernel
theorem d_Model_open_77 : decode prog_11_method_57_code 77 = .ok (.iload 5, 2) := by decide +kernel
theorem d_Model_open_79 : decode prog_11_method_57_code 79 = .ok (.iload_n 2, 1) := by decide +kernel
theorem d_Model_open_80 : decode prog_11_method_57_code 80 = .ok (.if_icmp .ge 32, 3) := by decide +kernel
theorem d_Model_open_83 : decode prog_11_method_57_code 83 = .ok (.aload_n 0, 1) := by decide +kernel
theorem d_Model_open_84 : decode prog_11_method_57_code 84 = .ok (.iload_n 1, 1) := by decide +kernel
theorem d_Model_open_85 : decode prog_11_method_57_code 85 = .ok (.iload 5, 2) := by decide +kernel
theorem d_Model_open_87 : decode prog_11_method_57_code 87 = .ok (.iadd, 1) := by decide +kernel
theorem d_Model_open_88 : decode prog_11_method_57_code 88 = .ok (.iload_n 1, 1) := by decide +kernel
theorem d_Model_open_89 : decode prog_11_method_57_code 89 = .ok (.iload 5, 2) := by decide +kernel
theorem d_Model_open_91 : decode prog_11_method_57_code 91 = .ok (.iadd, 1) := by decide +kernel
theorem d_Model_open_92 : decode prog_11_method_57_code 92 = .ok (.iconst 1, 1) := by decide +kernel
theorem d_Model_open_93 : decode prog_11_method_57_code 93 = .ok (.iadd, 1) := by decide +kernel
theorem d_Model_open_94 : decode prog_11_method_57_code 94 = .ok (.iload_n 2, 1) := by decide +kernel
theorem d_Model_open_95 : decode prog_11_method_57_code 95 = .ok (.iconst 1, 1) := by decide +kernel
theorem d_Model_open_96 : decode prog_11_method_57_code 96 = .ok (.isub, 1) := by decide +kernel
theorem d_Model_open_97 : decode prog_11_method_57_code 97 = .ok (.iload 5, 2) := by decide +kernel
theorem d_Model_open_99 : decode prog_11_method_57_code 99 = .ok (.isub, 1) := by decide +kernel
theorem d_Model_open_100 : decode prog_11_method_57_code 100 = .ok (.sipush 166, 3) := by decide +kernel
theorem d_Model_open_103 : decode prog_11_method_57_code 103 = .ok (.invokevirtual 297, 3) := by decide +kernel
theorem d_Model_open_106 : decode prog_11_method_57_code 106 = .ok (.iinc 5 1, 3) := by decide +kernel
theorem d_Model_open_109 : decode prog_11_method_57_code 109 = .ok (.goto (-32), 3) := by decide +kernel
theorem d_Model_open_112 : decode prog_11_method_57_code 112 = .ok (.aload_n 0, 1) := by decide +kernel
theorem d_Model_open_113 : decode prog_11_method_57_code 113 = .ok (.iload 4, 2) := by decide +kernel
theorem d_Model_open_115 : decode prog_11_method_57_code 115 = .ok (.sipush 168, 3) := by decide +kernel
theorem d_Model_open_118 : decode prog_11_method_57_code 118 = .ok (.invokevirtual 180, 3) := by decide +kernel
theorem d_Model_open_121 : decode prog_11_method_57_code 121 = .ok (.return_, 1) := by decide +kernel
set_option maxHeartbeats 4000000 in
set_option maxRecDepth 100000 in
theorem c_Model_isNumber (l : Launch) (g : WG) (n0 : Nat → Prop) (mo a : Nat) (th pw td wr : Int32) (fd : Nat → Int64) (ha : a < 170) (hz0 : Z0 fd a) : Ctr l y_Model_isNumber (.code y_Model_isNumber prog_11_method_26_code 3 (some FieldType.boolean)) 1 22 0 0 n0 g [.ref mo, .int (nI a)] (fun H => MS g n0 H mo th pw td wr 1 10 fd) (QI (fun r H H' => r = 1 ∧ H' = H)) := by
  refine ctr_mk l (lv0 := [(0, .ref mo), (1, .int (nI a))]) (by decide) (Nat.le_of_ble_eq_true rfl) rfl ?_
  intro p e s m below meth c ls E hr hlk hnm hl hP
  have hx := E.1
  have hb := E.2.1
  have hK := E.2.2.2.2.2
  have hF : ∀ q ∈ ([] : List Loc), n0 q.base := fun q hq => absurd hq List.not_mem_nil
  have hm := hP
  refine lv_bipush (v := nI 13) hx hb d_Model_isNumber_0 (by decide) ?_
  refine lv_istore_n (lv' := [(2, .int (nI 13)), (0, .ref mo), (1, .int (nI a))]) hx hb d_Model_isNumber_2 rfl hl (by decide) rfl (fun ls hl => ?_)
  refine lv_iload_n hx hb d_Model_isNumber_3 rfl (lv_at hl 0 rfl) ?_
  refine lv_if_lt (tgt := 67) hx hb d_Model_isNumber_4 (by decide) (fun h9 => absurd h9 (by decide)) (fun _ => ?_)
  refine lv_aload_n hx hb d_Model_isNumber_7 rfl (lv_at hl 1 rfl) ?_
  refine lv_iload_n hx hb d_Model_isNumber_8 rfl (lv_at hl 2 rfl) ?_
  refine lv_iload_n hx hb d_Model_isNumber_9 rfl (lv_at hl 0 rfl) ?_
  refine q_cV (rest := []) E (c_Model_limb l g n0 mo a 13 th (nI 1) (nI 10) pw td wr fd (by omega) (by omega)) w_979 w_15 w_976 w_978 (bw_s 18 rfl) hd_Model_limb rfl ⟨by decide, by decide⟩ (OB.recv E.2.2.2.2.2 (by rfl) hm.1) (⟨hm.1, hm.2.2.2.2.1⟩) hF hl.1 rfl (Nat.le_of_ble_eq_true rfl) d_Model_isNumber_10 ⟨by decide, by decide⟩ (ql (fun v13 H1 locs hq hF => ?_))
  obtain ⟨hq, hq9⟩ := hq
  obtain rfl := hq9
  subst hq
  refine lv_topl (fun t9 e9 => ?_)
  obtain rfl : t9 = 0 := e9.trans (hz0 13 (by decide))
  refine lv_aload_n hx hb d_Model_isNumber_13 rfl (lv_at hl 1 rfl) ?_
  refine q_get (C := "KateDeskModel") (T := T_Model) (N := 14) (ci := 8) E hm.1 in_Model rfl 2 (by decide) w_1003 rfl rfl d_Model_isNumber_14 ?_
  refine lv_bipush (v := nI 14) hx hb d_Model_isNumber_17 (by decide) ?_
  refine lv_aload_n hx hb d_Model_isNumber_19 rfl (lv_at hl 1 rfl) ?_
  refine q_get (C := "KateDeskModel") (T := T_Model) (N := 14) (ci := 8) E hm.1 in_Model rfl 6 (by decide) w_1007 rfl rfl d_Model_isNumber_20 ?_
  refine lv_imul hx hb d_Model_isNumber_23 ?_
  refine lv_iload_n hx hb d_Model_isNumber_24 rfl (lv_at hl 0 rfl) ?_
  refine lv_iadd hx hb d_Model_isNumber_25 ?_
  refine q_lald (N := 28) (f := kPr) E hm.2.1 27 (by decide) (by decide) (by decide) d_Model_isNumber_26 ?_
  refine lv_topl (fun t9 e9 => ?_)
  obtain rfl : t9 = 0 := e9.trans (by decide)
  refine W.lcmp hx hb d_Model_isNumber_27 ?_
  refine lv_if_eq (tgt := 61) hx hb d_Model_isNumber_28 (by decide) (fun _ => ?_) (fun h9 => absurd (by decide) h9)
  refine lv_iinc (k := 0) (v := nI 12) (lv' := [(2, .int (nI 12)), (0, .ref mo), (1, .int (nI a))]) hx hb d_Model_isNumber_61 hl rfl (by decide) (by decide) rfl (fun ls hl => ?_)
  refine lv_goto (tgt := 3) hx hb d_Model_isNumber_64 (by decide) ?_
  refine lv_iload_n hx hb d_Model_isNumber_3 rfl (lv_at hl 0 rfl) ?_
  refine lv_if_lt (tgt := 67) hx hb d_Model_isNumber_4 (by decide) (fun h9 => absurd h9 (by decide)) (fun _ => ?_)
  refine lv_aload_n hx hb d_Model_isNumber_7 rfl (lv_at hl 1 rfl) ?_
  refine lv_iload_n hx hb d_Model_isNumber_8 rfl (lv_at hl 2 rfl) ?_
  refine lv_iload_n hx hb d_Model_isNumber_9 rfl (lv_at hl 0 rfl) ?_
  refine q_cV (rest := []) E (c_Model_limb l g n0 mo a 12 th (nI 1) (nI 10) pw td wr fd (by omega) (by omega)) w_979 w_15 w_976 w_978 (bw_s 18 rfl) hd_Model_limb rfl ⟨by decide, by decide⟩ (OB.recv E.2.2.2.2.2 (by rfl) hm.1) (⟨hm.1, hm.2.2.2.2.1⟩) hF hl.1 rfl (Nat.le_of_ble_eq_true rfl) d_Model_isNumber_10 ⟨by decide, by decide⟩ (ql (fun v12 H2 locs hq hF => ?_))
  obtain ⟨hq, hq9⟩ := hq
  obtain rfl := hq9
  subst hq
  refine lv_topl (fun t9 e9 => ?_)
  obtain rfl : t9 = 0 := e9.trans (hz0 12 (by decide))
  refine lv_aload_n hx hb d_Model_isNumber_13 rfl (lv_at hl 1 rfl) ?_
  refine q_get (C := "KateDeskModel") (T := T_Model) (N := 14) (ci := 8) E hm.1 in_Model rfl 2 (by decide) w_1003 rfl rfl d_Model_isNumber_14 ?_
  refine lv_bipush (v := nI 14) hx hb d_Model_isNumber_17 (by decide) ?_
  refine lv_aload_n hx hb d_Model_isNumber_19 rfl (lv_at hl 1 rfl) ?_
  refine q_get (C := "KateDeskModel") (T := T_Model) (N := 14) (ci := 8) E hm.1 in_Model rfl 6 (by decide) w_1007 rfl rfl d_Model_isNumber_20 ?_
  refine lv_imul hx hb d_Model_isNumber_23 ?_
  refine lv_iload_n hx hb d_Model_isNumber_24 rfl (lv_at hl 0 rfl) ?_
  refine lv_iadd hx hb d_Model_isNumber_25 ?_
  refine q_lald (N := 28) (f := kPr) E hm.2.1 26 (by decide) (by decide) (by decide) d_Model_isNumber_26 ?_
  refine lv_topl (fun t9 e9 => ?_)
  obtain rfl : t9 = 0 := e9.trans (by decide)
  refine W.lcmp hx hb d_Model_isNumber_27 ?_
  refine lv_if_eq (tgt := 61) hx hb d_Model_isNumber_28 (by decide) (fun _ => ?_) (fun h9 => absurd (by decide) h9)
  refine lv_iinc (k := 0) (v := nI 11) (lv' := [(2, .int (nI 11)), (0, .ref mo), (1, .int (nI a))]) hx hb d_Model_isNumber_61 hl rfl (by decide) (by decide) rfl (fun ls hl => ?_)
  refine lv_goto (tgt := 3) hx hb d_Model_isNumber_64 (by decide) ?_
  refine lv_iload_n hx hb d_Model_isNumber_3 rfl (lv_at hl 0 rfl) ?_
  refine lv_if_lt (tgt := 67) hx hb d_Model_isNumber_4 (by decide) (fun h9 => absurd h9 (by decide)) (fun _ => ?_)
  refine lv_aload_n hx hb d_Model_isNumber_7 rfl (lv_at hl 1 rfl) ?_
  refine lv_iload_n hx hb d_Model_isNumber_8 rfl (lv_at hl 2 rfl) ?_
  refine lv_iload_n hx hb d_Model_isNumber_9 rfl (lv_at hl 0 rfl) ?_
  refine q_cV (rest := []) E (c_Model_limb l g n0 mo a 11 th (nI 1) (nI 10) pw td wr fd (by omega) (by omega)) w_979 w_15 w_976 w_978 (bw_s 18 rfl) hd_Model_limb rfl ⟨by decide, by decide⟩ (OB.recv E.2.2.2.2.2 (by rfl) hm.1) (⟨hm.1, hm.2.2.2.2.1⟩) hF hl.1 rfl (Nat.le_of_ble_eq_true rfl) d_Model_isNumber_10 ⟨by decide, by decide⟩ (ql (fun v11 H3 locs hq hF => ?_))
  obtain ⟨hq, hq9⟩ := hq
  obtain rfl := hq9
  subst hq
  refine lv_topl (fun t9 e9 => ?_)
  obtain rfl : t9 = 0 := e9.trans (hz0 11 (by decide))
  refine lv_aload_n hx hb d_Model_isNumber_13 rfl (lv_at hl 1 rfl) ?_
  refine q_get (C := "KateDeskModel") (T := T_Model) (N := 14) (ci := 8) E hm.1 in_Model rfl 2 (by decide) w_1003 rfl rfl d_Model_isNumber_14 ?_
  refine lv_bipush (v := nI 14) hx hb d_Model_isNumber_17 (by decide) ?_
  refine lv_aload_n hx hb d_Model_isNumber_19 rfl (lv_at hl 1 rfl) ?_
  refine q_get (C := "KateDeskModel") (T := T_Model) (N := 14) (ci := 8) E hm.1 in_Model rfl 6 (by decide) w_1007 rfl rfl d_Model_isNumber_20 ?_
  refine lv_imul hx hb d_Model_isNumber_23 ?_
  refine lv_iload_n hx hb d_Model_isNumber_24 rfl (lv_at hl 0 rfl) ?_
  refine lv_iadd hx hb d_Model_isNumber_25 ?_
  refine q_lald (N := 28) (f := kPr) E hm.2.1 25 (by decide) (by decide) (by decide) d_Model_isNumber_26 ?_
  refine lv_topl (fun t9 e9 => ?_)
  obtain rfl : t9 = 0 := e9.trans (by decide)
  refine W.lcmp hx hb d_Model_isNumber_27 ?_
  refine lv_if_eq (tgt := 61) hx hb d_Model_isNumber_28 (by decide) (fun _ => ?_) (fun h9 => absurd (by decide) h9)
  refine lv_iinc (k := 0) (v := nI 10) (lv' := [(2, .int (nI 10)), (0, .ref mo), (1, .int (nI a))]) hx hb d_Model_isNumber_61 hl rfl (by decide) (by decide) rfl (fun ls hl => ?_)
  refine lv_goto (tgt := 3) hx hb d_Model_isNumber_64 (by decide) ?_
  refine lv_iload_n hx hb d_Model_isNumber_3 rfl (lv_at hl 0 rfl) ?_
  refine lv_if_lt (tgt := 67) hx hb d_Model_isNumber_4 (by decide) (fun h9 => absurd h9 (by decide)) (fun _ => ?_)
  refine lv_aload_n hx hb d_Model_isNumber_7 rfl (lv_at hl 1 rfl) ?_
  refine lv_iload_n hx hb d_Model_isNumber_8 rfl (lv_at hl 2 rfl) ?_
  refine lv_iload_n hx hb d_Model_isNumber_9 rfl (lv_at hl 0 rfl) ?_
  refine q_cV (rest := []) E (c_Model_limb l g n0 mo a 10 th (nI 1) (nI 10) pw td wr fd (by omega) (by omega)) w_979 w_15 w_976 w_978 (bw_s 18 rfl) hd_Model_limb rfl ⟨by decide, by decide⟩ (OB.recv E.2.2.2.2.2 (by rfl) hm.1) (⟨hm.1, hm.2.2.2.2.1⟩) hF hl.1 rfl (Nat.le_of_ble_eq_true rfl) d_Model_isNumber_10 ⟨by decide, by decide⟩ (ql (fun v10 H4 locs hq hF => ?_))
  obtain ⟨hq, hq9⟩ := hq
  obtain rfl := hq9
  subst hq
  refine lv_topl (fun t9 e9 => ?_)
  obtain rfl : t9 = 0 := e9.trans (hz0 10 (by decide))
  refine lv_aload_n hx hb d_Model_isNumber_13 rfl (lv_at hl 1 rfl) ?_
  refine q_get (C := "KateDeskModel") (T := T_Model) (N := 14) (ci := 8) E hm.1 in_Model rfl 2 (by decide) w_1003 rfl rfl d_Model_isNumber_14 ?_
  refine lv_bipush (v := nI 14) hx hb d_Model_isNumber_17 (by decide) ?_
  refine lv_aload_n hx hb d_Model_isNumber_19 rfl (lv_at hl 1 rfl) ?_
  refine q_get (C := "KateDeskModel") (T := T_Model) (N := 14) (ci := 8) E hm.1 in_Model rfl 6 (by decide) w_1007 rfl rfl d_Model_isNumber_20 ?_
  refine lv_imul hx hb d_Model_isNumber_23 ?_
  refine lv_iload_n hx hb d_Model_isNumber_24 rfl (lv_at hl 0 rfl) ?_
  refine lv_iadd hx hb d_Model_isNumber_25 ?_
  refine q_lald (N := 28) (f := kPr) E hm.2.1 24 (by decide) (by decide) (by decide) d_Model_isNumber_26 ?_
  refine lv_topl (fun t9 e9 => ?_)
  obtain rfl : t9 = 0 := e9.trans (by decide)
  refine W.lcmp hx hb d_Model_isNumber_27 ?_
  refine lv_if_eq (tgt := 61) hx hb d_Model_isNumber_28 (by decide) (fun _ => ?_) (fun h9 => absurd (by decide) h9)
  refine lv_iinc (k := 0) (v := nI 9) (lv' := [(2, .int (nI 9)), (0, .ref mo), (1, .int (nI a))]) hx hb d_Model_isNumber_61 hl rfl (by decide) (by decide) rfl (fun ls hl => ?_)
  refine lv_goto (tgt := 3) hx hb d_Model_isNumber_64 (by decide) ?_
  refine lv_iload_n hx hb d_Model_isNumber_3 rfl (lv_at hl 0 rfl) ?_
  refine lv_if_lt (tgt := 67) hx hb d_Model_isNumber_4 (by decide) (fun h9 => absurd h9 (by decide)) (fun _ => ?_)
  refine lv_aload_n hx hb d_Model_isNumber_7 rfl (lv_at hl 1 rfl) ?_
  refine lv_iload_n hx hb d_Model_isNumber_8 rfl (lv_at hl 2 rfl) ?_
  refine lv_iload_n hx hb d_Model_isNumber_9 rfl (lv_at hl 0 rfl) ?_
  refine q_cV (rest := []) E (c_Model_limb l g n0 mo a 9 th (nI 1) (nI 10) pw td wr fd (by omega) (by omega)) w_979 w_15 w_976 w_978 (bw_s 18 rfl) hd_Model_limb rfl ⟨by decide, by decide⟩ (OB.recv E.2.2.2.2.2 (by rfl) hm.1) (⟨hm.1, hm.2.2.2.2.1⟩) hF hl.1 rfl (Nat.le_of_ble_eq_true rfl) d_Model_isNumber_10 ⟨by decide, by decide⟩ (ql (fun v9 H5 locs hq hF => ?_))
  obtain ⟨hq, hq9⟩ := hq
  obtain rfl := hq9
  subst hq
  refine lv_topl (fun t9 e9 => ?_)
  obtain rfl : t9 = 0 := e9.trans (hz0 9 (by decide))
  refine lv_aload_n hx hb d_Model_isNumber_13 rfl (lv_at hl 1 rfl) ?_
  refine q_get (C := "KateDeskModel") (T := T_Model) (N := 14) (ci := 8) E hm.1 in_Model rfl 2 (by decide) w_1003 rfl rfl d_Model_isNumber_14 ?_
  refine lv_bipush (v := nI 14) hx hb d_Model_isNumber_17 (by decide) ?_
  refine lv_aload_n hx hb d_Model_isNumber_19 rfl (lv_at hl 1 rfl) ?_
  refine q_get (C := "KateDeskModel") (T := T_Model) (N := 14) (ci := 8) E hm.1 in_Model rfl 6 (by decide) w_1007 rfl rfl d_Model_isNumber_20 ?_
  refine lv_imul hx hb d_Model_isNumber_23 ?_
  refine lv_iload_n hx hb d_Model_isNumber_24 rfl (lv_at hl 0 rfl) ?_
  refine lv_iadd hx hb d_Model_isNumber_25 ?_
  refine q_lald (N := 28) (f := kPr) E hm.2.1 23 (by decide) (by decide) (by decide) d_Model_isNumber_26 ?_
  refine lv_topl (fun t9 e9 => ?_)
  obtain rfl : t9 = 7 := e9.trans (by decide)
  refine W.lcmp hx hb d_Model_isNumber_27 ?_
  refine lv_if_eq (tgt := 61) hx hb d_Model_isNumber_28 (by decide) (fun h9 => absurd h9 (by decide)) (fun _ => ?_)
  refine lv_aload_n hx hb d_Model_isNumber_31 rfl (lv_at hl 1 rfl) ?_
  refine lv_iload_n hx hb d_Model_isNumber_32 rfl (lv_at hl 2 rfl) ?_
  refine lv_iload_n hx hb d_Model_isNumber_33 rfl (lv_at hl 0 rfl) ?_
  refine q_cV (rest := []) E (c_Model_limb l g n0 mo a 9 th (nI 1) (nI 10) pw td wr fd (by omega) (by omega)) w_979 w_15 w_976 w_978 (bw_s 18 rfl) hd_Model_limb rfl ⟨by decide, by decide⟩ (OB.recv E.2.2.2.2.2 (by rfl) hm.1) (⟨hm.1, hm.2.2.2.2.1⟩) hF hl.1 rfl (Nat.le_of_ble_eq_true rfl) d_Model_isNumber_34 ⟨by decide, by decide⟩ (ql (fun v9 H6 locs hq hF => ?_))
  obtain ⟨hq, hq9⟩ := hq
  obtain rfl := hq9
  subst hq
  refine lv_topl (fun t9 e9 => ?_)
  obtain rfl : t9 = 0 := e9.trans (hz0 9 (by decide))
  refine lv_aload_n hx hb d_Model_isNumber_37 rfl (lv_at hl 1 rfl) ?_
  refine q_get (C := "KateDeskModel") (T := T_Model) (N := 14) (ci := 8) E hm.1 in_Model rfl 2 (by decide) w_1003 rfl rfl d_Model_isNumber_38 ?_
  refine lv_bipush (v := nI 14) hx hb d_Model_isNumber_41 (by decide) ?_
  refine lv_aload_n hx hb d_Model_isNumber_43 rfl (lv_at hl 1 rfl) ?_
  refine q_get (C := "KateDeskModel") (T := T_Model) (N := 14) (ci := 8) E hm.1 in_Model rfl 6 (by decide) w_1007 rfl rfl d_Model_isNumber_44 ?_
  refine lv_imul hx hb d_Model_isNumber_47 ?_
  refine lv_iload_n hx hb d_Model_isNumber_48 rfl (lv_at hl 0 rfl) ?_
  refine lv_iadd hx hb d_Model_isNumber_49 ?_
  refine q_lald (N := 28) (f := kPr) E hm.2.1 23 (by decide) (by decide) (by decide) d_Model_isNumber_50 ?_
  refine lv_topl (fun t9 e9 => ?_)
  obtain rfl : t9 = 7 := e9.trans (by decide)
  refine W.lcmp hx hb d_Model_isNumber_51 ?_
  refine lv_if_ge (tgt := 59) hx hb d_Model_isNumber_52 (by decide) (fun h9 => absurd h9 (by decide)) (fun _ => ?_)
  refine lv_iconst (v := nI 1) hx hb d_Model_isNumber_55 (by decide) ?_
  refine lv_goto (tgt := 60) hx hb d_Model_isNumber_56 (by decide) ?_
  exact q_zret E hr rfl hlk (⟨_, rfl, rfl, rfl⟩) hF d_Model_isNumber_60
set_option maxHeartbeats 4000000 in
set_option maxRecDepth 100000 in
theorem c_Model_number (l : Launch) (g : WG) (n0 : Nat → Prop) (mo : Nat) (a : Int32) (fd : Nat → Int64) (hmn : n0 mo) (hz : FZ fd) : Ctr l y_Model_number (.code y_Model_number prog_11_method_38_code 4 (some FieldType.boolean)) 2 44 0 0 n0 g [.ref mo, .int a] (fun H => MS g n0 H mo 0 0 0 0 0 14 fd) (QI (fun r H H' => ((okS a (nI 1)) ∧ TH g n0 H' mo 0 ∧ r = 1) ∨ (¬ (okS a (nI 1)) ∧ TH g n0 H' mo 1))) := by
  refine ctr_mk l (lv0 := [(0, .ref mo), (1, .int a)]) (by decide) (Nat.le_of_ble_eq_true rfl) rfl ?_
  intro p e s m below meth c ls E hr hlk hnm hl hP
  have hx := E.1
  have hb := E.2.1
  have hK := E.2.2.2.2.2
  have hF : ∀ q ∈ ([] : List Loc), n0 q.base := fun q hq => absurd hq List.not_mem_nil
  have hm := hP
  have hfr : FRM (MR mo) s.heap s.heap := FRM.rf
  have bad : ∀ (locs : List Loc) (ls : Array Slot), ¬ (okS a (nI 1)) → (∀ q ∈ locs, n0 q.base) → lv_has ls 4 [(0, .ref mo), (1, .int a)] → W p l e { frames := 2, cells := 0, slots := 0, locals := 44 } s m [.ref mo, .int a].toArray below meth c s.heap locs 0 0 (MQ below (QcP (QI (fun r H H' => ((okS a (nI 1)) ∧ TH g n0 H' mo 0 ∧ r = 1) ∨ (¬ (okS a (nI 1)) ∧ TH g n0 H' mo 1)))) [.ref mo, .int a].toArray s 0 0 (fun q => n0 q)) (F0 m 5 ls [.int (nI 1), .ref mo]) := by
    intro  locs   ls hno hF hl
    refine lv_iconst (v := nI 1) hx hb d_Model_number_5 (by decide) ?_
    refine q_cV (rest := []) E (c_Model_fails l g n0 mo 0 0 0 0 0 14 hw0 (nI 1) (nI 1) fd hmn (Or.inl rfl)) w_1056 w_15 w_1053 w_1055 (bw_s 24 rfl) hd_Model_fails rfl ⟨by decide, by decide⟩ (OB.recv E.2.2.2.2.2 (by rfl) hm.1) hm hF hl.1 rfl (Nat.le_of_ble_eq_true rfl) d_Model_number_6 ⟨by decide, by decide⟩ (qi (fun rf H1 locs hq hF => ?_))
    obtain ⟨hrf, hq, hm⟩ := hq
    subst hrf
    have hfr := hfr.tr hq
    rw [if_neg (by decide)] at hm
    refine lv_if_eq (tgt := 14) hx hb d_Model_number_9 (by decide) (fun h9 => absurd h9 (by decide)) (fun _ => ?_)
    refine lv_iconst (v := nI 0) hx hb d_Model_number_12 (by decide) ?_
    exact q_zret E hr rfl hlk (⟨_, rfl, Or.inr ⟨hno, ⟨_, _, _, _, _, _, hw0, hm⟩⟩⟩) hF d_Model_number_13
  have good : ∀ (locs : List Loc) (ls : Array Slot), okS a (nI 1) → (∀ q ∈ locs, n0 q.base) → lv_has ls 4 [(0, .ref mo), (1, .int a)] → W p l e { frames := 2, cells := 0, slots := 0, locals := 44 } s m [.ref mo, .int a].toArray below meth c s.heap locs 0 0 (MQ below (QcP (QI (fun r H H' => ((okS a (nI 1)) ∧ TH g n0 H' mo 0 ∧ r = 1) ∨ (¬ (okS a (nI 1)) ∧ TH g n0 H' mo 1)))) [.ref mo, .int a].toArray s 0 0 (fun q => n0 q)) (F0 m 5 ls [.int (nI 0), .ref mo]) := by
    intro  locs   ls hok hF hl
    refine lv_iconst (v := nI 1) hx hb d_Model_number_5 (by decide) ?_
    refine q_cV (rest := []) E (c_Model_fails l g n0 mo 0 0 0 0 0 14 hw0 (nI 0) (nI 1) fd hmn (Or.inr rfl)) w_1056 w_15 w_1053 w_1055 (bw_s 24 rfl) hd_Model_fails rfl ⟨by decide, by decide⟩ (OB.recv E.2.2.2.2.2 (by rfl) hm.1) hm hF hl.1 rfl (Nat.le_of_ble_eq_true rfl) d_Model_number_6 ⟨by decide, by decide⟩ (qi (fun rf H1 locs hq hF => ?_))
    obtain ⟨hrf, hq, hm⟩ := hq
    subst hrf
    have hfr := hfr.tr hq
    rw [if_pos nI_0] at hm
    refine lv_if_eq (tgt := 14) hx hb d_Model_number_9 (by decide) (fun _ => ?_) (fun h9 => absurd (by decide) h9)
    obtain ⟨k1, e_k1, h_k1⟩ := okS_nat (by decide) (by decide) hok
    rw [e_k1] at hl
    refine lv_aload_n hx hb d_Model_number_14 rfl (lv_at hl 0 rfl) ?_
    refine q_get (C := "KateDeskModel") (T := T_Model) (N := 14) (ci := 8) E hm.1 in_Model rfl 10 (by decide) w_1011 rfl rfl d_Model_number_15 ?_
    refine lv_istore_n (lv' := [(2, .int 0), (0, .ref mo), (1, .int (nI k1))]) hx hb d_Model_number_18 rfl hl (by decide) rfl (fun ls hl => ?_)
    refine lv_aload_n hx hb d_Model_number_19 rfl (lv_at hl 1 rfl) ?_
    refine lv_iconst (v := nI 0) hx hb d_Model_number_20 (by decide) ?_
    refine q_put (C := "KateDeskModel") (T := T_Model) (N := 14) (ci := 8) (ty := .int) E hm.1 in_Model ty_Model tyok_Model nm_Model rfl 10 (by decide) w_1011 rfl rfl (by decide +kernel) rfl rfl (Nat.le_of_ble_eq_true rfl) hmn hF d_Model_number_21 (fun H2 locs hq ho2 hF => ?_)
    have hm := hm.frm hq (by omega) (by omega) (by omega) (by omega) ho2
    have hfr := hfr.tr (hq.mono (fun q h => Or.inl h))
    refine lv_iload_n hx hb d_Model_number_24 rfl (lv_at hl 0 rfl) ?_
    refine lv_bipush (v := nI 32) hx hb d_Model_number_25 (by decide) ?_
    refine lv_icmp_le (tgt := 32) hx hb d_Model_number_27 (by decide) (fun _ => ?_) (fun h9 => absurd (by decide) h9)
    refine lv_aload_n hx hb d_Model_number_32 rfl (lv_at hl 1 rfl) ?_
    refine lv_iconst (v := nI 1) hx hb d_Model_number_33 (by decide) ?_
    refine q_cV (rest := []) E (c_Model_use l g n0 mo 0 0 0 0 0 14 hw0 1 10 hw1 fd hmn) w_967 w_15 w_964 w_966 (bw_s 15 rfl) hd_Model_use rfl ⟨by decide, by decide⟩ (OB.recv E.2.2.2.2.2 (by rfl) hm.1) hm hF hl.1 rfl (Nat.le_of_ble_eq_true rfl) d_Model_number_34 ⟨by decide, by decide⟩ (qv (fun H3 locs hq hF => ?_))
    obtain ⟨hq, hm⟩ := hq
    have hfr := hfr.tr hq
    refine lv_aload_n hx hb d_Model_number_37 rfl (lv_at hl 1 rfl) ?_
    refine lv_bipush (v := nI 120) hx hb d_Model_number_38 (by decide) ?_
    refine q_cV (rest := []) E (c_Model_zero l g n0 mo 120 0 0 0 0 1 10 hw1  fd (by omega) ) w_1000 w_15 w_997 w_999 (bw_s 23 rfl) hd_Model_zero rfl ⟨by decide, by decide⟩ (OB.recv E.2.2.2.2.2 (by rfl) hm.1) hm hF hl.1 rfl (Nat.le_of_ble_eq_true rfl) d_Model_number_40 ⟨by decide, by decide⟩ (qv (fun H4 locs hq hF => ?_))
    obtain ⟨hq, fd_1, hm, hpv⟩ := hq
    have hfr := hfr.tr hq
    have hpz := hpv
    refine lv_iconst (v := nI 0) hx hb d_Model_number_43 (by decide) ?_
    refine lv_istore_n (lv' := [(3, .int (nI 0)), (2, .int 0), (0, .ref mo), (1, .int (nI k1))]) hx hb d_Model_number_44 rfl hl (by decide) rfl (fun ls hl => ?_)
    refine lv_iload_n hx hb d_Model_number_45 rfl (lv_at hl 0 rfl) ?_
    refine lv_iload_n hx hb d_Model_number_46 rfl (lv_at hl 1 rfl) ?_
    refine lv_icmp_ge (tgt := 69) hx hb d_Model_number_47 (by decide) (fun _ => ?_) (fun h9 => absurd (by decide) h9)
    refine lv_aload_n hx hb d_Model_number_69 rfl (lv_at hl 2 rfl) ?_
    refine lv_bipush (v := nI 120) hx hb d_Model_number_70 (by decide) ?_
    refine q_cV (rest := []) E (c_Model_isNumber l g n0 mo 120 0 0 0 0 fd_1 (by decide) hpz.2) w_1072 w_15 w_1069 w_1071 (bw_s 26 rfl) hd_Model_isNumber rfl ⟨by decide, by decide⟩ (OB.recv E.2.2.2.2.2 (by rfl) hm.1) hm hF hl.1 rfl (Nat.le_of_ble_eq_true rfl) d_Model_number_72 ⟨by decide, by decide⟩ (qi (fun rn H5 locs hq hF => ?_))
    obtain ⟨hrn, hq⟩ := hq
    subst hrn
    subst hq
    refine lv_if_ne (tgt := 80) hx hb d_Model_number_75 (by decide) (fun _ => ?_) (fun h9 => absurd h9 (by decide))
    refine lv_aload_n hx hb d_Model_number_80 rfl (lv_at hl 2 rfl) ?_
    refine lv_iload_n hx hb d_Model_number_81 rfl (lv_at hl 3 rfl) ?_
    refine lv_bipush (v := nI 120) hx hb d_Model_number_82 (by decide) ?_
    refine q_cV (rest := []) E (c_Model_move l g n0 mo k1 120 0 0 0 0 1 10 hw1  fd_1 (by omega) (by omega) ) w_1076 w_15 w_1073 w_1075 (bw_s 27 rfl) hd_Model_move rfl ⟨by decide, by decide⟩ (OB.recv E.2.2.2.2.2 (by rfl) hm.1) hm hF hl.1 rfl (Nat.le_of_ble_eq_true rfl) d_Model_number_84 ⟨by decide, by decide⟩ (qv (fun H6 locs hq hF => ?_))
    obtain ⟨hq, fd_2, hm, hpv⟩ := hq
    have hfr := hfr.tr hq
    refine lv_iconst (v := nI 1) hx hb d_Model_number_87 (by decide) ?_
    exact q_zret E hr rfl hlk (⟨_, rfl, Or.inl ⟨hok, ⟨_, _, _, _, _, _, hw1, hm⟩, rfl⟩⟩) hF d_Model_number_88
  refine lv_aload_n hx hb d_Model_number_0 rfl (lv_at hl 0 rfl) ?_
  refine lv_iload_n hx hb d_Model_number_1 rfl (lv_at hl 1 rfl) ?_
  refine q_cS (rest := [.ref mo]) E (c_Model_noScalar l g n0 a ) w_1064 w_15 w_1062 w_1063 hd_Model_noScalar rfl ⟨by decide, by decide⟩ trivial hF hl.1 rfl (Nat.le_of_ble_eq_true rfl) d_Model_number_2 ⟨by decide, by decide⟩ (qi (fun r_0 H1 locs hq hF => ?_))
  obtain ⟨h_0, hq⟩ := hq
  subst hq
  rcases h_0 with ⟨rfl, f_0⟩ | ⟨rfl, f_0⟩
  · skip
    have hl : lv_has ls 4 [(0, .ref mo), (1, .int a)] := lv_sub hl [0, 1] rfl
    exact bad _ ls (fun h => (f_0) h) hF hl
  · skip
    have hl : lv_has ls 4 [(0, .ref mo), (1, .int a)] := lv_sub hl [0, 1] rfl
    exact good _ ls f_0 hF hl
set_option maxHeartbeats 4000000 in
set_option maxRecDepth 100000 in
theorem c_Model_word (l : Launch) (g : WG) (n0 : Nat → Prop) (mo : Nat) (a : Int32) (kk : Int32) (fd : Nat → Int64) (hmn : n0 mo) (hz : FZ fd) : Ctr l y_Model_word (.code y_Model_word prog_11_method_40_code 6 (some FieldType.long)) 2 44 0 0 n0 g [.ref mo, .int a, .int kk] (fun H => MS g n0 H mo 0 0 0 0 0 14 fd) (QL (fun r H H' => ((okS a (nI 1) ∧ okC kk (nI 0) (nI 7)) ∧ TH g n0 H' mo 0 ∧ r = 0) ∨ (¬ (okS a (nI 1) ∧ okC kk (nI 0) (nI 7)) ∧ TH g n0 H' mo 1))) := by
  refine ctr_mk l (lv0 := [(0, .ref mo), (1, .int a), (2, .int kk)]) (by decide) (Nat.le_of_ble_eq_true rfl) rfl ?_
  intro p e s m below meth c ls E hr hlk hnm hl hP
  have hx := E.1
  have hb := E.2.1
  have hK := E.2.2.2.2.2
  have hF : ∀ q ∈ ([] : List Loc), n0 q.base := fun q hq => absurd hq List.not_mem_nil
  have hm := hP
  have hfr : FRM (MR mo) s.heap s.heap := FRM.rf
  have bad : ∀ (locs : List Loc) (ls : Array Slot), ¬ (okS a (nI 1) ∧ okC kk (nI 0) (nI 7)) → (∀ q ∈ locs, n0 q.base) → lv_has ls 6 [(0, .ref mo), (1, .int a), (2, .int kk)] → W p l e { frames := 2, cells := 0, slots := 0, locals := 44 } s m [.ref mo, .int a, .int kk].toArray below meth c s.heap locs 0 0 (MQ below (QcP (QL (fun r H H' => ((okS a (nI 1) ∧ okC kk (nI 0) (nI 7)) ∧ TH g n0 H' mo 0 ∧ r = 0) ∨ (¬ (okS a (nI 1) ∧ okC kk (nI 0) (nI 7)) ∧ TH g n0 H' mo 1)))) [.ref mo, .int a, .int kk].toArray s 0 0 (fun q => n0 q)) (F0 m 23 ls [.int (nI 1), .ref mo]) := by
    intro  locs   ls hno hF hl
    refine lv_iconst (v := nI 1) hx hb d_Model_word_23 (by decide) ?_
    refine q_cV (rest := []) E (c_Model_fails l g n0 mo 0 0 0 0 0 14 hw0 (nI 1) (nI 1) fd hmn (Or.inl rfl)) w_1056 w_15 w_1053 w_1055 (bw_s 24 rfl) hd_Model_fails rfl ⟨by decide, by decide⟩ (OB.recv E.2.2.2.2.2 (by rfl) hm.1) hm hF hl.1 rfl (Nat.le_of_ble_eq_true rfl) d_Model_word_24 ⟨by decide, by decide⟩ (qi (fun rf H1 locs hq hF => ?_))
    obtain ⟨hrf, hq, hm⟩ := hq
    subst hrf
    have hfr := hfr.tr hq
    rw [if_neg (by decide)] at hm
    refine lv_if_eq (tgt := 32) hx hb d_Model_word_27 (by decide) (fun h9 => absurd h9 (by decide)) (fun _ => ?_)
    refine lv_lconst (v := 0) hx hb d_Model_word_30 (by decide) ?_
    exact q_lret E hr hlk (⟨_, rfl, Or.inr ⟨hno, ⟨_, _, _, _, _, _, hw0, hm⟩⟩⟩) hF d_Model_word_31
  have good : ∀ (locs : List Loc) (ls : Array Slot), okS a (nI 1) ∧ okC kk (nI 0) (nI 7) → (∀ q ∈ locs, n0 q.base) → lv_has ls 6 [(0, .ref mo), (1, .int a), (2, .int kk)] → W p l e { frames := 2, cells := 0, slots := 0, locals := 44 } s m [.ref mo, .int a, .int kk].toArray below meth c s.heap locs 0 0 (MQ below (QcP (QL (fun r H H' => ((okS a (nI 1) ∧ okC kk (nI 0) (nI 7)) ∧ TH g n0 H' mo 0 ∧ r = 0) ∨ (¬ (okS a (nI 1) ∧ okC kk (nI 0) (nI 7)) ∧ TH g n0 H' mo 1)))) [.ref mo, .int a, .int kk].toArray s 0 0 (fun q => n0 q)) (F0 m 23 ls [.int (nI 0), .ref mo]) := by
    intro  locs   ls hok hF hl
    refine lv_iconst (v := nI 1) hx hb d_Model_word_23 (by decide) ?_
    refine q_cV (rest := []) E (c_Model_fails l g n0 mo 0 0 0 0 0 14 hw0 (nI 0) (nI 1) fd hmn (Or.inr rfl)) w_1056 w_15 w_1053 w_1055 (bw_s 24 rfl) hd_Model_fails rfl ⟨by decide, by decide⟩ (OB.recv E.2.2.2.2.2 (by rfl) hm.1) hm hF hl.1 rfl (Nat.le_of_ble_eq_true rfl) d_Model_word_24 ⟨by decide, by decide⟩ (qi (fun rf H1 locs hq hF => ?_))
    obtain ⟨hrf, hq, hm⟩ := hq
    subst hrf
    have hfr := hfr.tr hq
    rw [if_pos nI_0] at hm
    refine lv_if_eq (tgt := 32) hx hb d_Model_word_27 (by decide) (fun _ => ?_) (fun h9 => absurd (by decide) h9)
    obtain ⟨k1, e_k1, h_k1⟩ := okS_nat (by decide) (by decide) hok.1
    rw [e_k1] at hl
    obtain ⟨k2, e_k2, h_k2, h2_k2⟩ := okC_nat (by decide) (by decide) hok.2
    rw [e_k2] at hl
    refine lv_lconst (v := 0) hx hb d_Model_word_32 (by decide) ?_
    refine lv_lstore_n (lv' := [(3, .long 0), (0, .ref mo), (1, .int (nI k1)), (2, .int (nI k2))]) hx hb d_Model_word_33 rfl hl (by decide) rfl (fun ls hl => ?_)
    refine lv_bipush (v := nI 31) hx hb d_Model_word_34 (by decide) ?_
    refine lv_istore (lv' := [(5, .int (nI 31)), (3, .long 0), (0, .ref mo), (1, .int (nI k1)), (2, .int (nI k2))]) hx hb d_Model_word_36 hl (by decide) rfl (fun ls hl => ?_)
    have hl : lv_has ls 6 [(5, .int (nI 31)), (3, .long 0), (0, .ref mo), (1, .int (nI k1)), (2, .int (nI k2))] := lv_sub hl [0, 1, 2, 3, 4] rfl
    have loop : ∀ (k : Nat) (locs : List Loc) (ls : Array Slot) (v : Int32), k ≤ 32 → v = nI k - 1 → (∀ q ∈ locs, n0 q.base) → lv_has ls 6 [(5, .int v), (3, .long 0), (0, .ref mo), (1, .int (nI k1)), (2, .int (nI k2))] → W p l e { frames := 2, cells := 0, slots := 0, locals := 44 } s m [.ref mo, .int a, .int kk].toArray below meth c H1 locs 0 0 (MQ below (QcP (QL (fun r H H' => ((okS a (nI 1) ∧ okC kk (nI 0) (nI 7)) ∧ TH g n0 H' mo 0 ∧ r = 0) ∨ (¬ (okS a (nI 1) ∧ okC kk (nI 0) (nI 7)) ∧ TH g n0 H' mo 1)))) [.ref mo, .int a, .int kk].toArray s 0 0 (fun q => n0 q)) (F0 m 38 ls []) := by
      intro k
      induction k with
      | zero =>
        intro  locs   ls   v hk32 hv0 hF hl
        subst hv0
        refine lv_iload hx hb d_Model_word_38 (lv_at hl 0 rfl) ?_
        refine lv_if_lt (tgt := 69) hx hb d_Model_word_40 (by decide) (fun _ => ?_) (fun h9 => absurd (by decide) h9)
        refine lv_lload_n hx hb d_Model_word_69 rfl (lv_at hl 1 rfl) ?_
        exact q_lret E hr hlk (⟨_, rfl, Or.inl ⟨hok, ⟨_, _, _, _, _, _, hw0, hm⟩, rfl⟩⟩) hF d_Model_word_70
      | succ k ih =>
        intro  locs   ls   v hk32 hv0 hF hl
        rw [nI_pred] at hv0
        subst hv0
        refine lv_iload hx hb d_Model_word_38 (lv_at hl 0 rfl) ?_
        refine lv_if_lt (tgt := 69) hx hb d_Model_word_40 (by decide) (fun h9 => absurd h9 (nI_pos (by omega))) (fun _ => ?_)
        refine lv_ldc2 (v := 2) hx hb E.2.2.2.1 (E.2.2.2.2.1 _ w_1089) d_Model_word_43 ?_
        refine lv_lload_n hx hb d_Model_word_46 rfl (lv_at hl 1 rfl) ?_
        refine lv_lmul hx hb d_Model_word_47 ?_
        refine lv_aload_n hx hb d_Model_word_48 rfl (lv_at hl 2 rfl) ?_
        refine lv_iload_n hx hb d_Model_word_49 rfl (lv_at hl 3 rfl) ?_
        refine lv_bipush (v := nI 32) hx hb d_Model_word_50 (by decide) ?_
        refine lv_iload_n hx hb d_Model_word_52 rfl (lv_at hl 4 rfl) ?_
        refine lv_imul hx hb d_Model_word_53 ?_
        refine lv_topi (fun t9 e9 => ?_)
        obtain rfl : t9 = nI (32 * k2) := e9.trans (pk_mul _ _)
        refine lv_iload hx hb d_Model_word_54 (lv_at hl 0 rfl) ?_
        refine lv_iadd hx hb d_Model_word_56 ?_
        refine lv_topi (fun t9 e9 => ?_)
        obtain rfl : t9 = nI ((32 * k2) + k) := e9.trans (nI_add _ _)
        refine q_cV (rest := [.long (2 * 0)]) E (c_Model_bit l g n0 mo k1 ((32 * k2) + k) 0 0 0 0 0 14 hw0  fd (by omega) (by omega) ) w_1093 w_15 w_1090 w_1092 (bw_s 29 rfl) hd_Model_bit rfl ⟨by decide, by decide⟩ (OB.recv E.2.2.2.2.2 (by rfl) hm.1) hm hF hl.1 rfl (Nat.le_of_ble_eq_true rfl) d_Model_word_57 ⟨by decide, by decide⟩ (qi (fun rb H1 locs hq hF => ?_))
        obtain ⟨hbit, hq⟩ := hq
        subst hq
        obtain rfl := hbit (hz.1 k1 (by omega))
        refine lv_i2l (v := (0 : Int32).toInt64) hx hb d_Model_word_60 rfl ?_
        refine lv_ladd hx hb d_Model_word_61 ?_
        refine lv_topl (fun t9 e9 => ?_)
        obtain rfl : t9 = 0 := e9.trans (by decide)
        refine lv_lstore_n (lv' := [(3, .long 0), (5, .int (nI k)), (0, .ref mo), (1, .int (nI k1)), (2, .int (nI k2))]) hx hb d_Model_word_62 rfl hl (by decide) rfl (fun ls hl => ?_)
        refine lv_iinc (k := 1) (v := nI k - 1) (lv' := [(5, .int (nI k - 1)), (3, .long 0), (0, .ref mo), (1, .int (nI k1)), (2, .int (nI k2))]) hx hb d_Model_word_63 hl rfl (i_dec _) (by decide) rfl (fun ls hl => ?_)
        refine lv_goto (tgt := 38) hx hb d_Model_word_66 (by decide) ?_
        have hl : lv_has ls 6 [(5, .int (nI k - 1)), (3, .long 0), (0, .ref mo), (1, .int (nI k1)), (2, .int (nI k2))] := lv_sub hl [0, 1, 2, 3, 4] rfl
        exact ih _ ls _ (by omega) rfl hF hl
    exact loop 32 _ ls _ (by decide) rfl hF hl
  refine lv_aload_n hx hb d_Model_word_0 rfl (lv_at hl 0 rfl) ?_
  refine lv_iload_n hx hb d_Model_word_1 rfl (lv_at hl 1 rfl) ?_
  refine q_cS (rest := [.ref mo]) E (c_Model_noScalar l g n0 a ) w_1064 w_15 w_1062 w_1063 hd_Model_noScalar rfl ⟨by decide, by decide⟩ trivial hF hl.1 rfl (Nat.le_of_ble_eq_true rfl) d_Model_word_2 ⟨by decide, by decide⟩ (qi (fun r_0 H1 locs hq hF => ?_))
  obtain ⟨h_0, hq⟩ := hq
  subst hq
  rcases h_0 with ⟨rfl, f_0⟩ | ⟨rfl, f_0⟩
  · skip
    refine lv_if_ne (tgt := 18) hx hb d_Model_word_5 (by decide) (fun _ => ?_) (fun h9 => absurd h9 (by decide))
    refine lv_iconst (v := nI 1) hx hb d_Model_word_18 (by decide) ?_
    refine lv_goto (tgt := 23) hx hb d_Model_word_19 (by decide) ?_
    have hl : lv_has ls 6 [(0, .ref mo), (1, .int a), (2, .int kk)] := lv_sub hl [0, 1, 2] rfl
    exact bad _ ls (fun h => (f_0) h.1) hF hl
  · skip
    refine lv_if_ne (tgt := 18) hx hb d_Model_word_5 (by decide) (fun h9 => absurd (by decide) h9) (fun _ => ?_)
    refine lv_iload_n hx hb d_Model_word_8 rfl (lv_at hl 2 rfl) ?_
    refine lv_if_lt (tgt := 18) hx hb d_Model_word_9 (by decide) (fun g_9 => ?_) (fun g_9 => ?_)
    rotate_left
    · skip
      refine lv_iload_n hx hb d_Model_word_12 rfl (lv_at hl 2 rfl) ?_
      refine lv_bipush (v := nI 7) hx hb d_Model_word_13 (by decide) ?_
      refine lv_icmp_le (tgt := 22) hx hb d_Model_word_15 (by decide) (fun g_15 => ?_) (fun g_15 => ?_)
      rotate_left
      · skip
        refine lv_iconst (v := nI 1) hx hb d_Model_word_18 (by decide) ?_
        refine lv_goto (tgt := 23) hx hb d_Model_word_19 (by decide) ?_
        have hl : lv_has ls 6 [(0, .ref mo), (1, .int a), (2, .int kk)] := lv_sub hl [0, 1, 2] rfl
        exact bad _ ls (fun h => (fun q => g_15 q.2) h.2) hF hl
      refine lv_iconst (v := nI 0) hx hb d_Model_word_22 (by decide) ?_
      have hl : lv_has ls 6 [(0, .ref mo), (1, .int a), (2, .int kk)] := lv_sub hl [0, 1, 2] rfl
      exact good _ ls ⟨f_0, ⟨g_9, g_15⟩⟩ hF hl
    refine lv_iconst (v := nI 1) hx hb d_Model_word_18 (by decide) ?_
    refine lv_goto (tgt := 23) hx hb d_Model_word_19 (by decide) ?_
    have hl : lv_has ls 6 [(0, .ref mo), (1, .int a), (2, .int kk)] := lv_sub hl [0, 1, 2] rfl
    exact bad _ ls (fun h => (fun q => q.1 g_9) h.2) hF hl
set_option maxHeartbeats 4000000 in
set_option maxRecDepth 100000 in
theorem c_Model_setup (l : Launch) (g : WG) (n0 : Nat → Prop) (mo : Nat) (a : Int32) (n : Int32) (fd : Nat → Int64) (hmn : n0 mo) (hz : FZ fd) : Ctr l y_Model_setup (.code y_Model_setup prog_11_method_54_code 4 none) 6 143 0 0 n0 g [.ref mo, .int a, .int n] (fun H => MS g n0 H mo 0 0 0 0 0 14 fd) (QV (fun H H' => ((okS a (nI 1) ∧ okC n (nI 1) (nI 16)) ∧ TH g n0 H' mo 0) ∨ (¬ (okS a (nI 1) ∧ okC n (nI 1) (nI 16)) ∧ TH g n0 H' mo 1))) := by
  refine ctr_mk l (lv0 := [(0, .ref mo), (1, .int a), (2, .int n)]) (by decide) (Nat.le_of_ble_eq_true rfl) rfl ?_
  intro p e s m below meth c ls E hr hlk hnm hl hP
  have hx := E.1
  have hb := E.2.1
  have hK := E.2.2.2.2.2
  have hF : ∀ q ∈ ([] : List Loc), n0 q.base := fun q hq => absurd hq List.not_mem_nil
  have hm := hP
  have hfr : FRM (MR mo) s.heap s.heap := FRM.rf
  have bad : ∀ (locs : List Loc) (ls : Array Slot), ¬ (okS a (nI 1) ∧ okC n (nI 1) (nI 16)) → (∀ q ∈ locs, n0 q.base) → lv_has ls 4 [(0, .ref mo), (1, .int a), (2, .int n)] → W p l e { frames := 6, cells := 0, slots := 0, locals := 143 } s m [.ref mo, .int a, .int n].toArray below meth c s.heap locs 0 0 (MQ below (QcP (QV (fun H H' => ((okS a (nI 1) ∧ okC n (nI 1) (nI 16)) ∧ TH g n0 H' mo 0) ∨ (¬ (okS a (nI 1) ∧ okC n (nI 1) (nI 16)) ∧ TH g n0 H' mo 1)))) [.ref mo, .int a, .int n].toArray s 0 0 (fun q => n0 q)) (F0 m 25 ls [.int (nI 1), .ref mo]) := by
    intro  locs   ls hno hF hl
    refine lv_iconst (v := nI 1) hx hb d_Model_setup_25 (by decide) ?_
    refine q_cV (rest := []) E (c_Model_fails l g n0 mo 0 0 0 0 0 14 hw0 (nI 1) (nI 1) fd hmn (Or.inl rfl)) w_1056 w_15 w_1053 w_1055 (bw_s 24 rfl) hd_Model_fails rfl ⟨by decide, by decide⟩ (OB.recv E.2.2.2.2.2 (by rfl) hm.1) hm hF hl.1 rfl (Nat.le_of_ble_eq_true rfl) d_Model_setup_26 ⟨by decide, by decide⟩ (qi (fun rf H1 locs hq hF => ?_))
    obtain ⟨hrf, hq, hm⟩ := hq
    subst hrf
    have hfr := hfr.tr hq
    rw [if_neg (by decide)] at hm
    refine lv_if_eq (tgt := 33) hx hb d_Model_setup_29 (by decide) (fun h9 => absurd h9 (by decide)) (fun _ => ?_)
    exact q_vret E hr hlk (⟨rfl, Or.inr ⟨hno, ⟨_, _, _, _, _, _, hw0, hm⟩⟩⟩) hF d_Model_setup_32
  have good : ∀ (locs : List Loc) (ls : Array Slot), okS a (nI 1) ∧ okC n (nI 1) (nI 16) → (∀ q ∈ locs, n0 q.base) → lv_has ls 4 [(0, .ref mo), (1, .int a), (2, .int n)] → W p l e { frames := 6, cells := 0, slots := 0, locals := 143 } s m [.ref mo, .int a, .int n].toArray below meth c s.heap locs 0 0 (MQ below (QcP (QV (fun H H' => ((okS a (nI 1) ∧ okC n (nI 1) (nI 16)) ∧ TH g n0 H' mo 0) ∨ (¬ (okS a (nI 1) ∧ okC n (nI 1) (nI 16)) ∧ TH g n0 H' mo 1)))) [.ref mo, .int a, .int n].toArray s 0 0 (fun q => n0 q)) (F0 m 25 ls [.int (nI 0), .ref mo]) := by
    intro  locs   ls hok hF hl
    refine lv_iconst (v := nI 1) hx hb d_Model_setup_25 (by decide) ?_
    refine q_cV (rest := []) E (c_Model_fails l g n0 mo 0 0 0 0 0 14 hw0 (nI 0) (nI 1) fd hmn (Or.inr rfl)) w_1056 w_15 w_1053 w_1055 (bw_s 24 rfl) hd_Model_fails rfl ⟨by decide, by decide⟩ (OB.recv E.2.2.2.2.2 (by rfl) hm.1) hm hF hl.1 rfl (Nat.le_of_ble_eq_true rfl) d_Model_setup_26 ⟨by decide, by decide⟩ (qi (fun rf H1 locs hq hF => ?_))
    obtain ⟨hrf, hq, hm⟩ := hq
    subst hrf
    have hfr := hfr.tr hq
    rw [if_pos nI_0] at hm
    refine lv_if_eq (tgt := 33) hx hb d_Model_setup_29 (by decide) (fun _ => ?_) (fun h9 => absurd (by decide) h9)
    obtain ⟨k1, e_k1, h_k1⟩ := okS_nat (by decide) (by decide) hok.1
    rw [e_k1] at hl
    obtain ⟨k2, e_k2, h_k2, h2_k2⟩ := okC_nat (by decide) (by decide) hok.2
    rw [e_k2] at hl
    refine lv_aload_n hx hb d_Model_setup_33 rfl (lv_at hl 0 rfl) ?_
    refine lv_iload_n hx hb d_Model_setup_34 rfl (lv_at hl 2 rfl) ?_
    refine q_put (C := "KateDeskModel") (T := T_Model) (N := 14) (ci := 8) (ty := .int) E hm.1 in_Model ty_Model tyok_Model nm_Model rfl 8 (by decide) w_1009 rfl rfl (by decide +kernel) rfl rfl (Nat.le_of_ble_eq_true rfl) hmn hF d_Model_setup_35 (fun H2 locs hq ho2 hF => ?_)
    have hm : MS g n0 H2 mo 0 (nI k2) 0 0 0 14 fd := hm.frm hq (by omega) (by omega) (by omega) (by omega) ho2
    have hfr := hfr.tr (hq.mono (fun q h => Or.inl h))
    refine lv_aload_n hx hb d_Model_setup_38 rfl (lv_at hl 0 rfl) ?_
    refine lv_sipush (v := nI 165) hx hb d_Model_setup_39 (by decide) ?_
    refine q_cV (rest := []) E (c_Model_one l g n0 mo 165 0 (nI k2) 0 0 0 14 hw0  fd (by omega) ) w_971 w_15 w_968 w_970 (bw_s 16 rfl) hd_Model_one rfl ⟨by decide, by decide⟩ (OB.recv E.2.2.2.2.2 (by rfl) hm.1) hm hF hl.1 rfl (Nat.le_of_ble_eq_true rfl) d_Model_setup_42 ⟨by decide, by decide⟩ (qv (fun H3 locs hq hF => ?_))
    obtain ⟨hq, fd_1, hm, hpv⟩ := hq
    have hfr := hfr.tr hq
    refine lv_iconst (v := nI 0) hx hb d_Model_setup_45 (by decide) ?_
    refine lv_istore_n (lv' := [(3, .int (nI 0)), (0, .ref mo), (1, .int (nI k1)), (2, .int (nI k2))]) hx hb d_Model_setup_46 rfl hl (by decide) rfl (fun ls hl => ?_)
    have hl : lv_has ls 4 [(3, .int (nI 0)), (0, .ref mo), (1, .int (nI k1)), (2, .int (nI k2))] := lv_sub hl [0, 1, 2, 3] rfl
    have loop : ∀ (k : Nat) (i : Nat) (H : Heap) (locs : List Loc) (ls : Array Slot) (w n9 : Nat) (fd1 : Nat → Int64), i + k = k2 → WH w n9 → FRM (MR mo) s.heap H → MS g n0 H mo 0 (nI k2) 0 0 w n9 fd1 → (∀ q ∈ locs, n0 q.base) → lv_has ls 4 [(3, .int (nI i)), (0, .ref mo), (1, .int (nI k1)), (2, .int (nI k2))] → W p l e { frames := 6, cells := 0, slots := 0, locals := 143 } s m [.ref mo, .int a, .int n].toArray below meth c H locs 0 0 (MQ below (QcP (QV (fun H H' => ((okS a (nI 1) ∧ okC n (nI 1) (nI 16)) ∧ TH g n0 H' mo 0) ∨ (¬ (okS a (nI 1) ∧ okC n (nI 1) (nI 16)) ∧ TH g n0 H' mo 1)))) [.ref mo, .int a, .int n].toArray s 0 0 (fun q => n0 q)) (F0 m 47 ls []) := by
      intro k
      induction k with
      | zero =>
        intro  i   H   locs   ls   w n9   fd1 hi hw hfr hm hF hl
        obtain rfl : i = k2 := by omega
        refine lv_iload_n hx hb d_Model_setup_47 rfl (lv_at hl 0 rfl) ?_
        refine lv_iload_n hx hb d_Model_setup_48 rfl (lv_at hl 3 rfl) ?_
        refine lv_icmp_ge (tgt := 94) hx hb d_Model_setup_49 (by decide) (fun _ => ?_) (fun h9 => absurd (nI_le (Nat.le_refl _) (by omega)) h9)
        exact q_vret E hr hlk (⟨rfl, Or.inl ⟨hok, ⟨_, _, _, _, _, _, hw, hm⟩⟩⟩) hF d_Model_setup_94
      | succ k ih =>
        intro  i   H   locs   ls   w n9   fd1 hi hw hfr hm hF hl
        refine lv_iload_n hx hb d_Model_setup_47 rfl (lv_at hl 0 rfl) ?_
        refine lv_iload_n hx hb d_Model_setup_48 rfl (lv_at hl 3 rfl) ?_
        refine lv_icmp_ge (tgt := 94) hx hb d_Model_setup_49 (by decide) (fun h9 => absurd h9 (nI_ge (by omega) (by omega))) (fun _ => ?_)
        refine lv_aload_n hx hb d_Model_setup_52 rfl (lv_at hl 1 rfl) ?_
        refine lv_iconst (v := nI 0) hx hb d_Model_setup_53 (by decide) ?_
        refine q_cV (rest := []) E (c_Model_use l g n0 mo 0 (nI k2) 0 0 w n9 hw 0 14 hw0 fd1 hmn) w_967 w_15 w_964 w_966 (bw_s 15 rfl) hd_Model_use rfl ⟨by decide, by decide⟩ (OB.recv E.2.2.2.2.2 (by rfl) hm.1) hm hF hl.1 rfl (Nat.le_of_ble_eq_true rfl) d_Model_setup_54 ⟨by decide, by decide⟩ (qv (fun H1 locs hq hF => ?_))
        obtain ⟨hq, hm⟩ := hq
        have hfr := hfr.tr hq
        refine lv_aload_n hx hb d_Model_setup_57 rfl (lv_at hl 1 rfl) ?_
        refine lv_bipush (v := nI 68) hx hb d_Model_setup_58 (by decide) ?_
        refine lv_iconst (v := nI 3) hx hb d_Model_setup_60 (by decide) ?_
        refine lv_iload_n hx hb d_Model_setup_61 rfl (lv_at hl 0 rfl) ?_
        refine lv_imul hx hb d_Model_setup_62 ?_
        refine lv_topi (fun t9 e9 => ?_)
        obtain rfl : t9 = nI (3 * i) := e9.trans (pk_mul _ _)
        refine lv_iadd hx hb d_Model_setup_63 ?_
        refine lv_topi (fun t9 e9 => ?_)
        obtain rfl : t9 = nI (68 + (3 * i)) := e9.trans (nI_add _ _)
        refine lv_sipush (v := nI 165) hx hb d_Model_setup_64 (by decide) ?_
        refine lv_bipush (v := nI 116) hx hb d_Model_setup_67 (by decide) ?_
        refine q_cV (rest := []) E (c_Model_multiple l g n0 mo (68 + (3 * i)) 165 116 0 (nI k2) 0 0 0 14 hw0 fd1 (by omega) (by omega) (by omega)) w_1167 w_15 w_1164 w_1166 (bw_s 40 rfl) hd_Model_multiple rfl ⟨by decide, by decide⟩ (OB.recv E.2.2.2.2.2 (by rfl) hm.1) hm hF hl.1 rfl (Nat.le_of_ble_eq_true rfl) d_Model_setup_69 ⟨by decide, by decide⟩ (qv (fun H2 locs hq hF => ?_))
        obtain ⟨hq, fd_2, hm, hS9, hV9⟩ := hq
        have hfr := hfr.tr hq
        refine lv_aload_n hx hb d_Model_setup_72 rfl (lv_at hl 1 rfl) ?_
        refine lv_iconst (v := nI 1) hx hb d_Model_setup_73 (by decide) ?_
        refine q_cV (rest := []) E (c_Model_use l g n0 mo 0 (nI k2) 0 0 0 14 hw0 1 10 hw1 fd_2 hmn) w_967 w_15 w_964 w_966 (bw_s 15 rfl) hd_Model_use rfl ⟨by decide, by decide⟩ (OB.recv E.2.2.2.2.2 (by rfl) hm.1) hm hF hl.1 rfl (Nat.le_of_ble_eq_true rfl) d_Model_setup_74 ⟨by decide, by decide⟩ (qv (fun H3 locs hq hF => ?_))
        obtain ⟨hq, hm⟩ := hq
        have hfr := hfr.tr hq
        refine lv_aload_n hx hb d_Model_setup_77 rfl (lv_at hl 1 rfl) ?_
        refine lv_sipush (v := nI 165) hx hb d_Model_setup_78 (by decide) ?_
        refine lv_sipush (v := nI 165) hx hb d_Model_setup_81 (by decide) ?_
        refine lv_iload_n hx hb d_Model_setup_84 rfl (lv_at hl 2 rfl) ?_
        refine q_cV (rest := []) E (c_Model_product l g n0 mo 165 165 k1 0 (nI k2) 0 0 1 10 hw1  fd_2 (by omega) (by omega) (by omega) ) w_1113 w_15 w_1110 w_1112 (bw_s 32 rfl) hd_Model_product rfl ⟨by decide, by decide⟩ (OB.recv E.2.2.2.2.2 (by rfl) hm.1) hm hF hl.1 rfl (Nat.le_of_ble_eq_true rfl) d_Model_setup_85 ⟨by decide, by decide⟩ (qv (fun H4 locs hq hF => ?_))
        obtain ⟨hq, fd_3, hm, hpv, hv⟩ := hq
        have hfr := hfr.tr (kjR hq)
        refine lv_iinc (k := 0) (v := nI (i + 1)) (lv' := [(3, .int (nI (i + 1))), (0, .ref mo), (1, .int (nI k1)), (2, .int (nI k2))]) hx hb d_Model_setup_88 hl rfl (i_inc i) (by decide) rfl (fun ls hl => ?_)
        refine lv_goto (tgt := 47) hx hb d_Model_setup_91 (by decide) ?_
        have hl : lv_has ls 4 [(3, .int (nI (i + 1))), (0, .ref mo), (1, .int (nI k1)), (2, .int (nI k2))] := lv_sub hl [0, 1, 2, 3] rfl
        exact ih (i + 1) _ _ ls 1 10 _ (by omega) hw1 hfr hm hF hl
    exact loop k2 0 _ _ ls 0 14 _ (by omega) hw0 hfr hm hF hl
  refine lv_aload_n hx hb d_Model_setup_0 rfl (lv_at hl 0 rfl) ?_
  refine lv_iload_n hx hb d_Model_setup_1 rfl (lv_at hl 1 rfl) ?_
  refine q_cS (rest := [.ref mo]) E (c_Model_noScalar l g n0 a ) w_1064 w_15 w_1062 w_1063 hd_Model_noScalar rfl ⟨by decide, by decide⟩ trivial hF hl.1 rfl (Nat.le_of_ble_eq_true rfl) d_Model_setup_2 ⟨by decide, by decide⟩ (qi (fun r_0 H1 locs hq hF => ?_))
  obtain ⟨h_0, hq⟩ := hq
  subst hq
  rcases h_0 with ⟨rfl, f_0⟩ | ⟨rfl, f_0⟩
  · skip
    refine lv_if_ne (tgt := 20) hx hb d_Model_setup_5 (by decide) (fun _ => ?_) (fun h9 => absurd h9 (by decide))
    refine lv_iconst (v := nI 1) hx hb d_Model_setup_20 (by decide) ?_
    refine lv_goto (tgt := 25) hx hb d_Model_setup_21 (by decide) ?_
    have hl : lv_has ls 4 [(0, .ref mo), (1, .int a), (2, .int n)] := lv_sub hl [0, 1, 2] rfl
    exact bad _ ls (fun h => (f_0) h.1) hF hl
  · skip
    refine lv_if_ne (tgt := 20) hx hb d_Model_setup_5 (by decide) (fun h9 => absurd (by decide) h9) (fun _ => ?_)
    refine lv_iload_n hx hb d_Model_setup_8 rfl (lv_at hl 2 rfl) ?_
    refine lv_i2l (v := n.toInt64) hx hb d_Model_setup_9 rfl ?_
    refine lv_lconst (v := 1) hx hb d_Model_setup_10 (by decide) ?_
    refine lv_ldc2 (v := 16) hx hb E.2.2.2.1 (E.2.2.2.2.1 _ w_1223) d_Model_setup_11 ?_
    refine q_cS (rest := [.ref mo]) E (c_Model_in l g n0 n.toInt64 1 16 ) w_1101 w_15 w_1099 w_1100 hd_Model_in rfl ⟨by decide, by decide⟩ trivial hF hl.1 rfl (Nat.le_of_ble_eq_true rfl) d_Model_setup_14 ⟨by decide, by decide⟩ (qi (fun r_1 H2 locs hq hF => ?_))
    obtain ⟨h_1, hq⟩ := hq
    subst hq
    rcases h_1 with ⟨rfl, f_1⟩ | ⟨rfl, f_1⟩
    · skip
      refine lv_if_ne (tgt := 24) hx hb d_Model_setup_17 (by decide) (fun h9 => absurd (by decide) h9) (fun _ => ?_)
      refine lv_iconst (v := nI 1) hx hb d_Model_setup_20 (by decide) ?_
      refine lv_goto (tgt := 25) hx hb d_Model_setup_21 (by decide) ?_
      have hl : lv_has ls 4 [(0, .ref mo), (1, .int a), (2, .int n)] := lv_sub hl [0, 1, 2] rfl
      exact bad _ ls (fun h => (fun q => f_1 ((in_okC (a := 1) (b := 16) (by decide) (by decide) (by decide) (by decide)).mpr q)) h.2) hF hl
    · skip
      refine lv_if_ne (tgt := 24) hx hb d_Model_setup_17 (by decide) (fun _ => ?_) (fun h9 => absurd h9 (by decide))
      refine lv_iconst (v := nI 0) hx hb d_Model_setup_24 (by decide) ?_
      have hl : lv_has ls 4 [(0, .ref mo), (1, .int a), (2, .int n)] := lv_sub hl [0, 1, 2] rfl
      exact good _ ls ⟨f_0, (in_okC (a := 1) (b := 16) (by decide) (by decide) (by decide) (by decide)).mp f_1⟩ hF hl
set_option maxHeartbeats 4000000 in
set_option maxRecDepth 100000 in
theorem c_Model_open (l : Launch) (g : WG) (n0 : Nat → Prop) (mo : Nat) (a : Int32) (n : Int32) (z0 : Int32) (y0 : Int32) (fd : Nat → Int64) (hmn : n0 mo) (hz : FZ fd) : Ctr l y_Model_open (.code y_Model_open prog_11_method_57_code 6 none) 4 104 0 0 n0 g [.ref mo, .int a, .int n, .int z0, .int y0] (fun H => MS g n0 H mo 0 0 0 0 0 14 fd) (QV (fun H H' => ((okC n (nI 1) (nI 16) ∧ okS a n ∧ okS z0 (nI 1) ∧ okS y0 (nI 1)) ∧ TH g n0 H' mo 0) ∨ (¬ (okC n (nI 1) (nI 16) ∧ okS a n ∧ okS z0 (nI 1) ∧ okS y0 (nI 1)) ∧ TH g n0 H' mo 1))) := by
  refine ctr_mk l (lv0 := [(0, .ref mo), (1, .int a), (2, .int n), (3, .int z0), (4, .int y0)]) (by decide) (Nat.le_of_ble_eq_true rfl) rfl ?_
  intro p e s m below meth c ls E hr hlk hnm hl hP
  have hx := E.1
  have hb := E.2.1
  have hK := E.2.2.2.2.2
  have hF : ∀ q ∈ ([] : List Loc), n0 q.base := fun q hq => absurd hq List.not_mem_nil
  have hm := hP
  have hfr : FRM (MR mo) s.heap s.heap := FRM.rf
  have bad : ∀ (locs : List Loc) (ls : Array Slot), ¬ (okC n (nI 1) (nI 16) ∧ okS a n ∧ okS z0 (nI 1) ∧ okS y0 (nI 1)) → (∀ q ∈ locs, n0 q.base) → lv_has ls 6 [(0, .ref mo), (1, .int a), (2, .int n), (3, .int z0), (4, .int y0)] → W p l e { frames := 4, cells := 0, slots := 0, locals := 104 } s m [.ref mo, .int a, .int n, .int z0, .int y0].toArray below meth c s.heap locs 0 0 (MQ below (QcP (QV (fun H H' => ((okC n (nI 1) (nI 16) ∧ okS a n ∧ okS z0 (nI 1) ∧ okS y0 (nI 1)) ∧ TH g n0 H' mo 0) ∨ (¬ (okC n (nI 1) (nI 16) ∧ okS a n ∧ okS z0 (nI 1) ∧ okS y0 (nI 1)) ∧ TH g n0 H' mo 1)))) [.ref mo, .int a, .int n, .int z0, .int y0].toArray s 0 0 (fun q => n0 q)) (F0 m 41 ls [.int (nI 1), .ref mo]) := by
    intro  locs   ls hno hF hl
    refine lv_iconst (v := nI 1) hx hb d_Model_open_41 (by decide) ?_
    refine q_cV (rest := []) E (c_Model_fails l g n0 mo 0 0 0 0 0 14 hw0 (nI 1) (nI 1) fd hmn (Or.inl rfl)) w_1056 w_15 w_1053 w_1055 (bw_s 24 rfl) hd_Model_fails rfl ⟨by decide, by decide⟩ (OB.recv E.2.2.2.2.2 (by rfl) hm.1) hm hF hl.1 rfl (Nat.le_of_ble_eq_true rfl) d_Model_open_42 ⟨by decide, by decide⟩ (qi (fun rf H1 locs hq hF => ?_))
    obtain ⟨hrf, hq, hm⟩ := hq
    subst hrf
    have hfr := hfr.tr hq
    rw [if_neg (by decide)] at hm
    refine lv_if_eq (tgt := 49) hx hb d_Model_open_45 (by decide) (fun h9 => absurd h9 (by decide)) (fun _ => ?_)
    exact q_vret E hr hlk (⟨rfl, Or.inr ⟨hno, ⟨_, _, _, _, _, _, hw0, hm⟩⟩⟩) hF d_Model_open_48
  have good : ∀ (locs : List Loc) (ls : Array Slot), okC n (nI 1) (nI 16) ∧ okS a n ∧ okS z0 (nI 1) ∧ okS y0 (nI 1) → (∀ q ∈ locs, n0 q.base) → lv_has ls 6 [(0, .ref mo), (1, .int a), (2, .int n), (3, .int z0), (4, .int y0)] → W p l e { frames := 4, cells := 0, slots := 0, locals := 104 } s m [.ref mo, .int a, .int n, .int z0, .int y0].toArray below meth c s.heap locs 0 0 (MQ below (QcP (QV (fun H H' => ((okC n (nI 1) (nI 16) ∧ okS a n ∧ okS z0 (nI 1) ∧ okS y0 (nI 1)) ∧ TH g n0 H' mo 0) ∨ (¬ (okC n (nI 1) (nI 16) ∧ okS a n ∧ okS z0 (nI 1) ∧ okS y0 (nI 1)) ∧ TH g n0 H' mo 1)))) [.ref mo, .int a, .int n, .int z0, .int y0].toArray s 0 0 (fun q => n0 q)) (F0 m 41 ls [.int (nI 0), .ref mo]) := by
    intro  locs   ls hok hF hl
    refine lv_iconst (v := nI 1) hx hb d_Model_open_41 (by decide) ?_
    refine q_cV (rest := []) E (c_Model_fails l g n0 mo 0 0 0 0 0 14 hw0 (nI 0) (nI 1) fd hmn (Or.inr rfl)) w_1056 w_15 w_1053 w_1055 (bw_s 24 rfl) hd_Model_fails rfl ⟨by decide, by decide⟩ (OB.recv E.2.2.2.2.2 (by rfl) hm.1) hm hF hl.1 rfl (Nat.le_of_ble_eq_true rfl) d_Model_open_42 ⟨by decide, by decide⟩ (qi (fun rf H1 locs hq hF => ?_))
    obtain ⟨hrf, hq, hm⟩ := hq
    subst hrf
    have hfr := hfr.tr hq
    rw [if_pos nI_0] at hm
    refine lv_if_eq (tgt := 49) hx hb d_Model_open_45 (by decide) (fun _ => ?_) (fun h9 => absurd (by decide) h9)
    obtain ⟨k2, e_k2, h_k2, h2_k2⟩ := okC_nat (by decide) (by decide) hok.1
    rw [e_k2] at hl
    have hok2 := hok.2.1
    rw [e_k2] at hok2
    obtain ⟨k1, e_k1, h_k1⟩ := okS_nat (by omega) (by omega) hok2
    rw [e_k1] at hl
    obtain ⟨k3, e_k3, h_k3⟩ := okS_nat (by decide) (by decide) hok.2.2.1
    rw [e_k3] at hl
    obtain ⟨k4, e_k4, h_k4⟩ := okS_nat (by decide) (by decide) hok.2.2.2
    rw [e_k4] at hl
    refine lv_aload_n hx hb d_Model_open_49 rfl (lv_at hl 0 rfl) ?_
    refine lv_iconst (v := nI 1) hx hb d_Model_open_50 (by decide) ?_
    refine q_cV (rest := []) E (c_Model_use l g n0 mo 0 0 0 0 0 14 hw0 1 10 hw1 fd hmn) w_967 w_15 w_964 w_966 (bw_s 15 rfl) hd_Model_use rfl ⟨by decide, by decide⟩ (OB.recv E.2.2.2.2.2 (by rfl) hm.1) hm hF hl.1 rfl (Nat.le_of_ble_eq_true rfl) d_Model_open_51 ⟨by decide, by decide⟩ (qv (fun H2 locs hq hF => ?_))
    obtain ⟨hq, hm⟩ := hq
    have hfr := hfr.tr hq
    refine lv_aload_n hx hb d_Model_open_54 rfl (lv_at hl 0 rfl) ?_
    refine lv_sipush (v := nI 166) hx hb d_Model_open_55 (by decide) ?_
    refine lv_iload_n hx hb d_Model_open_58 rfl (lv_at hl 3 rfl) ?_
    refine q_cV (rest := []) E (c_Model_move l g n0 mo 166 k3 0 0 0 0 1 10 hw1  fd (by omega) (by omega) ) w_1076 w_15 w_1073 w_1075 (bw_s 27 rfl) hd_Model_move rfl ⟨by decide, by decide⟩ (OB.recv E.2.2.2.2.2 (by rfl) hm.1) hm hF hl.1 rfl (Nat.le_of_ble_eq_true rfl) d_Model_open_59 ⟨by decide, by decide⟩ (qv (fun H3 locs hq hF => ?_))
    obtain ⟨hq, fd_1, hm, hpv⟩ := hq
    have hfr := hfr.tr hq
    refine lv_aload_n hx hb d_Model_open_62 rfl (lv_at hl 0 rfl) ?_
    refine lv_sipush (v := nI 168) hx hb d_Model_open_63 (by decide) ?_
    refine lv_iload_n hx hb d_Model_open_66 rfl (lv_at hl 1 rfl) ?_
    refine lv_iload_n hx hb d_Model_open_67 rfl (lv_at hl 2 rfl) ?_
    refine lv_sipush (v := nI 166) hx hb d_Model_open_68 (by decide) ?_
    refine q_cV (rest := []) E (c_Model_value l g n0 mo 168 k1 k2 166 0 0 0 0 1 10 hw1 fd_1 (by omega) (by omega) (by omega) (by omega)) w_1235 w_15 w_1232 w_1234 (bw_s 47 rfl) hd_Model_value rfl ⟨by decide, by decide⟩ (OB.recv E.2.2.2.2.2 (by rfl) hm.1) hm hF hl.1 rfl (Nat.le_of_ble_eq_true rfl) d_Model_open_71 ⟨by decide, by decide⟩ (qv (fun H4 locs hq hF => ?_))
    obtain ⟨hq, fd_2, hm, -⟩ := hq
    have hfr := hfr.tr hq
    refine lv_iconst (v := nI 0) hx hb d_Model_open_74 (by decide) ?_
    refine lv_istore (lv' := [(5, .int (nI 0)), (0, .ref mo), (1, .int (nI k1)), (2, .int (nI k2)), (3, .int (nI k3)), (4, .int (nI k4))]) hx hb d_Model_open_75 hl (by decide) rfl (fun ls hl => ?_)
    have hl : lv_has ls 6 [(5, .int (nI 0)), (0, .ref mo), (1, .int (nI k1)), (2, .int (nI k2)), (4, .int (nI k4))] := lv_sub hl [0, 1, 2, 3, 5] rfl
    have loop : ∀ (k : Nat) (i : Nat) (H : Heap) (locs : List Loc) (ls : Array Slot) (fd1 : Nat → Int64), i + k = k2 → FRM (MR mo) s.heap H → MS g n0 H mo 0 0 0 0 1 10 fd1 → (∀ q ∈ locs, n0 q.base) → lv_has ls 6 [(5, .int (nI i)), (0, .ref mo), (1, .int (nI k1)), (2, .int (nI k2)), (4, .int (nI k4))] → W p l e { frames := 4, cells := 0, slots := 0, locals := 104 } s m [.ref mo, .int a, .int n, .int z0, .int y0].toArray below meth c H locs 0 0 (MQ below (QcP (QV (fun H H' => ((okC n (nI 1) (nI 16) ∧ okS a n ∧ okS z0 (nI 1) ∧ okS y0 (nI 1)) ∧ TH g n0 H' mo 0) ∨ (¬ (okC n (nI 1) (nI 16) ∧ okS a n ∧ okS z0 (nI 1) ∧ okS y0 (nI 1)) ∧ TH g n0 H' mo 1)))) [.ref mo, .int a, .int n, .int z0, .int y0].toArray s 0 0 (fun q => n0 q)) (F0 m 77 ls []) := by
      intro k
      induction k with
      | zero =>
        intro  i   H   locs   ls   fd1 hi hfr hm hF hl
        obtain rfl : i = k2 := by omega
        refine lv_iload hx hb d_Model_open_77 (lv_at hl 0 rfl) ?_
        refine lv_iload_n hx hb d_Model_open_79 rfl (lv_at hl 3 rfl) ?_
        refine lv_icmp_ge (tgt := 112) hx hb d_Model_open_80 (by decide) (fun _ => ?_) (fun h9 => absurd (nI_le (Nat.le_refl _) (by omega)) h9)
        refine lv_aload_n hx hb d_Model_open_112 rfl (lv_at hl 1 rfl) ?_
        refine lv_iload hx hb d_Model_open_113 (lv_at hl 4 rfl) ?_
        refine lv_sipush (v := nI 168) hx hb d_Model_open_115 (by decide) ?_
        refine q_cV (rest := []) E (c_Model_move l g n0 mo k4 168 0 0 0 0 1 10 hw1  fd1 (by omega) (by omega) ) w_1076 w_15 w_1073 w_1075 (bw_s 27 rfl) hd_Model_move rfl ⟨by decide, by decide⟩ (OB.recv E.2.2.2.2.2 (by rfl) hm.1) hm hF hl.1 rfl (Nat.le_of_ble_eq_true rfl) d_Model_open_118 ⟨by decide, by decide⟩ (qv (fun H1 locs hq hF => ?_))
        obtain ⟨hq, fd_3, hm, hpv⟩ := hq
        have hfr := hfr.tr hq
        exact q_vret E hr hlk (⟨rfl, Or.inl ⟨hok, ⟨_, _, _, _, _, _, hw1, hm⟩⟩⟩) hF d_Model_open_121
      | succ k ih =>
        intro  i   H   locs   ls   fd1 hi hfr hm hF hl
        refine lv_iload hx hb d_Model_open_77 (lv_at hl 0 rfl) ?_
        refine lv_iload_n hx hb d_Model_open_79 rfl (lv_at hl 3 rfl) ?_
        refine lv_icmp_ge (tgt := 112) hx hb d_Model_open_80 (by decide) (fun h9 => absurd h9 (nI_ge (by omega) (by omega))) (fun _ => ?_)
        refine lv_aload_n hx hb d_Model_open_83 rfl (lv_at hl 1 rfl) ?_
        refine lv_iload_n hx hb d_Model_open_84 rfl (lv_at hl 2 rfl) ?_
        refine lv_iload hx hb d_Model_open_85 (lv_at hl 0 rfl) ?_
        refine lv_iadd hx hb d_Model_open_87 ?_
        refine lv_topi (fun t9 e9 => ?_)
        obtain rfl : t9 = nI (k1 + i) := e9.trans (nI_add _ _)
        refine lv_iload_n hx hb d_Model_open_88 rfl (lv_at hl 2 rfl) ?_
        refine lv_iload hx hb d_Model_open_89 (lv_at hl 0 rfl) ?_
        refine lv_iadd hx hb d_Model_open_91 ?_
        refine lv_topi (fun t9 e9 => ?_)
        obtain rfl : t9 = nI (k1 + i) := e9.trans (nI_add _ _)
        refine lv_iconst (v := nI 1) hx hb d_Model_open_92 (by decide) ?_
        refine lv_iadd hx hb d_Model_open_93 ?_
        refine lv_topi (fun t9 e9 => ?_)
        obtain rfl : t9 = nI ((k1 + i) + 1) := e9.trans (nI_add _ _)
        refine lv_iload_n hx hb d_Model_open_94 rfl (lv_at hl 3 rfl) ?_
        refine lv_iconst (v := nI 1) hx hb d_Model_open_95 (by decide) ?_
        refine lv_isub hx hb d_Model_open_96 ?_
        refine lv_topi (fun t9 e9 => ?_)
        obtain rfl : t9 = nI (k2 - 1) := e9.trans (pk_sub (by omega))
        refine lv_iload hx hb d_Model_open_97 (lv_at hl 0 rfl) ?_
        refine lv_isub hx hb d_Model_open_99 ?_
        refine lv_topi (fun t9 e9 => ?_)
        obtain rfl : t9 = nI ((k2 - 1) - i) := e9.trans (pk_sub (by omega))
        refine lv_sipush (v := nI 166) hx hb d_Model_open_100 (by decide) ?_
        refine q_cV (rest := []) E (c_Model_value l g n0 mo (k1 + i) ((k1 + i) + 1) ((k2 - 1) - i) 166 0 0 0 0 1 10 hw1 fd1 (by omega) (by omega) (by omega) (by omega)) w_1235 w_15 w_1232 w_1234 (bw_s 47 rfl) hd_Model_value rfl ⟨by decide, by decide⟩ (OB.recv E.2.2.2.2.2 (by rfl) hm.1) hm hF hl.1 rfl (Nat.le_of_ble_eq_true rfl) d_Model_open_103 ⟨by decide, by decide⟩ (qv (fun H1 locs hq hF => ?_))
        obtain ⟨hq, fd_4, hm, -⟩ := hq
        have hfr := hfr.tr hq
        refine lv_iinc (k := 0) (v := nI (i + 1)) (lv' := [(5, .int (nI (i + 1))), (0, .ref mo), (1, .int (nI k1)), (2, .int (nI k2)), (4, .int (nI k4))]) hx hb d_Model_open_106 hl rfl (i_inc i) (by decide) rfl (fun ls hl => ?_)
        refine lv_goto (tgt := 77) hx hb d_Model_open_109 (by decide) ?_
        have hl : lv_has ls 6 [(5, .int (nI (i + 1))), (0, .ref mo), (1, .int (nI k1)), (2, .int (nI k2)), (4, .int (nI k4))] := lv_sub hl [0, 1, 2, 3, 4] rfl
        exact ih (i + 1) _ _ ls _ (by omega) hfr hm hF hl
    exact loop k2 0 _ _ ls _ (by omega) hfr hm hF hl
  refine lv_aload_n hx hb d_Model_open_0 rfl (lv_at hl 0 rfl) ?_
  refine lv_iload_n hx hb d_Model_open_1 rfl (lv_at hl 2 rfl) ?_
  refine lv_i2l (v := n.toInt64) hx hb d_Model_open_2 rfl ?_
  refine lv_lconst (v := 1) hx hb d_Model_open_3 (by decide) ?_
  refine lv_ldc2 (v := 16) hx hb E.2.2.2.1 (E.2.2.2.2.1 _ w_1223) d_Model_open_4 ?_
  refine q_cS (rest := [.ref mo]) E (c_Model_in l g n0 n.toInt64 1 16 ) w_1101 w_15 w_1099 w_1100 hd_Model_in rfl ⟨by decide, by decide⟩ trivial hF hl.1 rfl (Nat.le_of_ble_eq_true rfl) d_Model_open_7 ⟨by decide, by decide⟩ (qi (fun r_0 H1 locs hq hF => ?_))
  obtain ⟨h_0, hq⟩ := hq
  subst hq
  rcases h_0 with ⟨rfl, f_0⟩ | ⟨rfl, f_0⟩
  · skip
    refine lv_if_eq (tgt := 36) hx hb d_Model_open_10 (by decide) (fun _ => ?_) (fun h9 => absurd (by decide) h9)
    refine lv_iconst (v := nI 1) hx hb d_Model_open_36 (by decide) ?_
    refine lv_goto (tgt := 41) hx hb d_Model_open_37 (by decide) ?_
    have hl : lv_has ls 6 [(0, .ref mo), (1, .int a), (2, .int n), (3, .int z0), (4, .int y0)] := lv_sub hl [0, 1, 2, 3, 4] rfl
    exact bad _ ls (fun h => (fun q => f_0 ((in_okC (a := 1) (b := 16) (by decide) (by decide) (by decide) (by decide)).mpr q)) h.1) hF hl
  · skip
    refine lv_if_eq (tgt := 36) hx hb d_Model_open_10 (by decide) (fun h9 => absurd h9 (by decide)) (fun _ => ?_)
    refine lv_iload_n hx hb d_Model_open_13 rfl (lv_at hl 1 rfl) ?_
    refine lv_iload_n hx hb d_Model_open_14 rfl (lv_at hl 2 rfl) ?_
    refine q_cS (rest := [.ref mo]) E (c_Model_noScalars l g n0 a n (okC_n1 ((in_okC (a := 1) (b := 16) (by decide) (by decide) (by decide) (by decide)).mp f_0))) w_1206 w_15 w_1204 w_1205 hd_Model_noScalars rfl ⟨by decide, by decide⟩ trivial hF hl.1 rfl (Nat.le_of_ble_eq_true rfl) d_Model_open_15 ⟨by decide, by decide⟩ (qi (fun r_1 H2 locs hq hF => ?_))
    obtain ⟨h_1, hq⟩ := hq
    subst hq
    rcases h_1 with ⟨rfl, f_1⟩ | ⟨rfl, f_1⟩
    · skip
      refine lv_if_ne (tgt := 36) hx hb d_Model_open_18 (by decide) (fun _ => ?_) (fun h9 => absurd h9 (by decide))
      refine lv_iconst (v := nI 1) hx hb d_Model_open_36 (by decide) ?_
      refine lv_goto (tgt := 41) hx hb d_Model_open_37 (by decide) ?_
      have hl : lv_has ls 6 [(0, .ref mo), (1, .int a), (2, .int n), (3, .int z0), (4, .int y0)] := lv_sub hl [0, 1, 2, 3, 4] rfl
      exact bad _ ls (fun h => (f_1) h.2.1) hF hl
    · skip
      refine lv_if_ne (tgt := 36) hx hb d_Model_open_18 (by decide) (fun h9 => absurd (by decide) h9) (fun _ => ?_)
      refine lv_iload_n hx hb d_Model_open_21 rfl (lv_at hl 3 rfl) ?_
      refine q_cS (rest := [.ref mo]) E (c_Model_noScalar l g n0 z0 ) w_1064 w_15 w_1062 w_1063 hd_Model_noScalar rfl ⟨by decide, by decide⟩ trivial hF hl.1 rfl (Nat.le_of_ble_eq_true rfl) d_Model_open_22 ⟨by decide, by decide⟩ (qi (fun r_2 H3 locs hq hF => ?_))
      obtain ⟨h_2, hq⟩ := hq
      subst hq
      rcases h_2 with ⟨rfl, f_2⟩ | ⟨rfl, f_2⟩
      · skip
        refine lv_if_ne (tgt := 36) hx hb d_Model_open_25 (by decide) (fun _ => ?_) (fun h9 => absurd h9 (by decide))
        refine lv_iconst (v := nI 1) hx hb d_Model_open_36 (by decide) ?_
        refine lv_goto (tgt := 41) hx hb d_Model_open_37 (by decide) ?_
        have hl : lv_has ls 6 [(0, .ref mo), (1, .int a), (2, .int n), (3, .int z0), (4, .int y0)] := lv_sub hl [0, 1, 2, 3, 4] rfl
        exact bad _ ls (fun h => (f_2) h.2.2.1) hF hl
      · skip
        refine lv_if_ne (tgt := 36) hx hb d_Model_open_25 (by decide) (fun h9 => absurd (by decide) h9) (fun _ => ?_)
        refine lv_iload hx hb d_Model_open_28 (lv_at hl 4 rfl) ?_
        refine q_cS (rest := [.ref mo]) E (c_Model_noScalar l g n0 y0 ) w_1064 w_15 w_1062 w_1063 hd_Model_noScalar rfl ⟨by decide, by decide⟩ trivial hF hl.1 rfl (Nat.le_of_ble_eq_true rfl) d_Model_open_30 ⟨by decide, by decide⟩ (qi (fun r_3 H4 locs hq hF => ?_))
        obtain ⟨h_3, hq⟩ := hq
        subst hq
        rcases h_3 with ⟨rfl, f_3⟩ | ⟨rfl, f_3⟩
        · skip
          refine lv_if_eq (tgt := 40) hx hb d_Model_open_33 (by decide) (fun h9 => absurd h9 (by decide)) (fun _ => ?_)
          refine lv_iconst (v := nI 1) hx hb d_Model_open_36 (by decide) ?_
          refine lv_goto (tgt := 41) hx hb d_Model_open_37 (by decide) ?_
          have hl : lv_has ls 6 [(0, .ref mo), (1, .int a), (2, .int n), (3, .int z0), (4, .int y0)] := lv_sub hl [0, 1, 2, 3, 4] rfl
          exact bad _ ls (fun h => (f_3) h.2.2.2) hF hl
        · skip
          refine lv_if_eq (tgt := 40) hx hb d_Model_open_33 (by decide) (fun _ => ?_) (fun h9 => absurd (by decide) h9)
          refine lv_iconst (v := nI 0) hx hb d_Model_open_40 (by decide) ?_
          have hl : lv_has ls 6 [(0, .ref mo), (1, .int a), (2, .int n), (3, .int z0), (4, .int y0)] := lv_sub hl [0, 1, 2, 3, 4] rfl
          exact good _ ls ⟨(in_okC (a := 1) (b := 16) (by decide) (by decide) (by decide) (by decide)).mp f_0, f_1, f_2, f_3⟩ hF hl
