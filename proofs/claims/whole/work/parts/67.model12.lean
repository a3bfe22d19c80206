theorem okC_n1 {n : Int32} (h : okC n (nI 1) (nI 16)) : n ≤ 0 ∨ ∃ j, n = nI j ∧ 1 ≤ j ∧ j ≤ 32 := by
  obtain ⟨k, e, h1, h2⟩ := okC_nat (by decide) (by decide) h
  exact Or.inr ⟨k, e, by omega, by omega⟩
abbrev y_Model_isNumber : MethodName := ⟨"KateDeskModel", "isNumber", "(I)Z"⟩
theorem hd_Model_isNumber : y_Model_isNumber.cls ≠ "java/lang/invoke/MethodHandle" ∧ y_Model_isNumber.cls ≠ "java/lang/invoke/VarHandle" ∧ (parseMethodDescriptor y_Model_isNumber.desc).map (fun d => d.parameters.length) = some 1 := by decide +kernel
theorem d_Model_isNumber_0 : decode prog_11_method_26_code 0 = .ok (.bipush 13, 2) := by decide +kernel
theorem d_Model_isNumber_2 : decode prog_11_method_26_code 2 = .ok (.istore_n 2, 1) := by decide +kernel
theorem d_Model_isNumber_3 : decode prog_11_method_26_code 3 = .ok (.iload_n 2, 1) := by decide +kernel
theorem d_Model_isNumber_4 : decode prog_11_method_26_code 4 = .ok (.ifCond .lt 63, 3) := by decide +kernel
theorem d_Model_isNumber_7 : decode prog_11_method_26_code 7 = .ok (.aload_n 0, 1) := by decide +kernel
theorem d_Model_isNumber_8 : decode prog_11_method_26_code 8 = .ok (.iload_n 1, 1) := by decide +kernel
theorem d_Model_isNumber_9 : decode prog_11_method_26_code 9 = .ok (.iload_n 2, 1) := by decide +kernel
theorem d_Model_isNumber_10 : decode prog_11_method_26_code 10 = .ok (.invokevirtual 164, 3) := by decide +kernel
theorem d_Model_isNumber_13 : decode prog_11_method_26_code 13 = .ok (.aload_n 0, 1) := by decide +kernel
theorem d_Model_isNumber_14 : decode prog_11_method_26_code 14 = .ok (.getfield 59, 3) := by decide +kernel
theorem d_Model_isNumber_17 : decode prog_11_method_26_code 17 = .ok (.bipush 14, 2) := by decide +kernel
theorem d_Model_isNumber_19 : decode prog_11_method_26_code 19 = .ok (.aload_n 0, 1) := by decide +kernel
theorem d_Model_isNumber_20 : decode prog_11_method_26_code 20 = .ok (.getfield 161, 3) := by decide +kernel
theorem d_Model_isNumber_23 : decode prog_11_method_26_code 23 = .ok (.imul, 1) := by decide +kernel
theorem d_Model_isNumber_24 : decode prog_11_method_26_code 24 = .ok (.iload_n 2, 1) := by decide +kernel
theorem d_Model_isNumber_25 : decode prog_11_method_26_code 25 = .ok (.iadd, 1) := by decide +kernel
theorem d_Model_isNumber_26 : decode prog_11_method_26_code 26 = .ok (.laload, 1) := by decide +kernel
theorem d_Model_isNumber_27 : decode prog_11_method_26_code 27 = .ok (.lcmp, 1) := by decide +kernel
theorem d_Model_isNumber_28 : decode prog_11_method_26_code 28 = .ok (.ifCond .eq 33, 3) := by decide +kernel
theorem d_Model_isNumber_31 : decode prog_11_method_26_code 31 = .ok (.aload_n 0, 1) := by decide +kernel
theorem d_Model_isNumber_32 : decode prog_11_method_26_code 32 = .ok (.iload_n 1, 1) := by decide +kernel
theorem d_Model_isNumber_33 : decode prog_11_method_26_code 33 = .ok (.iload_n 2, 1) := by decide +kernel
theorem d_Model_isNumber_34 : decode prog_11_method_26_code 34 = .ok (.invokevirtual 164, 3) := by decide +kernel
theorem d_Model_isNumber_37 : decode prog_11_method_26_code 37 = .ok (.aload_n 0, 1) := by decide +kernel
theorem d_Model_isNumber_38 : decode prog_11_method_26_code 38 = .ok (.getfield 59, 3) := by decide +kernel
theorem d_Model_isNumber_41 : decode prog_11_method_26_code 41 = .ok (.bipush 14, 2) := by decide +kernel
theorem d_Model_isNumber_43 : decode prog_11_method_26_code 43 = .ok (.aload_n 0, 1) := by decide +kernel
theorem d_Model_isNumber_44 : decode prog_11_method_26_code 44 = .ok (.getfield 161, 3) := by decide +kernel
theorem d_Model_isNumber_47 : decode prog_11_method_26_code 47 = .ok (.imul, 1) := by decide +kernel
theorem d_Model_isNumber_48 : decode prog_11_method_26_code 48 = .ok (.iload_n 2, 1) := by decide +kernel
theorem d_Model_isNumber_49 : decode prog_11_method_26_code 49 = .ok (.iadd, 1) := by decide +kernel
theorem d_Model_isNumber_50 : decode prog_11_method_26_code 50 = .ok (.laload, 1) := by decide +kernel
theorem d_Model_isNumber_51 : decode prog_11_method_26_code 51 = .ok (.lcmp, 1) := by decide +kernel
theorem d_Model_isNumber_52 : decode prog_11_method_26_code 52 = .ok (.ifCond .ge 7, 3) := by decide +kernel
theorem d_Model_isNumber_55 : decode prog_11_method_26_code 55 = .ok (.iconst 1, 1) := by decide +kernel
theorem d_Model_isNumber_56 : decode prog_11_method_26_code 56 = .ok (.goto 4, 3) := by decide +kernel
theorem d_Model_isNumber_59 : decode prog_11_method_26_code 59 = .ok (.iconst 0, 1) := by decide +kernel
theorem d_Model_isNumber_60 : decode prog_11_method_26_code 60 = .ok (.ireturn, 1) := by decide +kernel
theorem d_Model_isNumber_61 : decode prog_11_method_26_code 61 = .ok (.iinc 2 (-1), 3) := by decide +kernel
theorem d_Model_isNumber_64 : decode prog_11_method_26_code 64 = .ok (.goto (-61), 3) := by decide +kernel
theorem d_Model_isNumber_67 : decode prog_11_method_26_code 67 = .ok (.iconst 0, 1) := by decide +kernel
theorem d_Model_isNumber_68 : decode prog_11_method_26_code 68 = .ok (.ireturn, 1) := by decide +kernel
abbrev y_Model_number : MethodName := ⟨"KateDeskModel", "number", "(I)Z"⟩
theorem hd_Model_number : y_Model_number.cls ≠ "java/lang/invoke/MethodHandle" ∧ y_Model_number.cls ≠ "java/lang/invoke/VarHandle" ∧ (parseMethodDescriptor y_Model_number.desc).map (fun d => d.parameters.length) = some 1 := by decide +kernel
theorem d_Model_number_0 : decode prog_11_method_38_code 0 = .ok (.aload_n 0, 1) := by decide +kernel
theorem d_Model_number_1 : decode prog_11_method_38_code 1 = .ok (.iload_n 1, 1) := by decide +kernel
theorem d_Model_number_2 : decode prog_11_method_38_code 2 = .ok (.invokestatic 219, 3) := by decide +kernel
theorem d_Model_number_5 : decode prog_11_method_38_code 5 = .ok (.iconst 1, 1) := by decide +kernel
theorem d_Model_number_6 : decode prog_11_method_38_code 6 = .ok (.invokevirtual 223, 3) := by decide +kernel
theorem d_Model_number_9 : decode prog_11_method_38_code 9 = .ok (.ifCond .eq 5, 3) := by decide +kernel
theorem d_Model_number_12 : decode prog_11_method_38_code 12 = .ok (.iconst 0, 1) := by decide +kernel
theorem d_Model_number_13 : decode prog_11_method_38_code 13 = .ok (.ireturn, 1) := by decide +kernel
theorem d_Model_number_14 : decode prog_11_method_38_code 14 = .ok (.aload_n 0, 1) := by decide +kernel
theorem d_Model_number_15 : decode prog_11_method_38_code 15 = .ok (.getfield 155, 3) := by decide +kernel
theorem d_Model_number_18 : decode prog_11_method_38_code 18 = .ok (.istore_n 2, 1) := by decide +kernel
theorem d_Model_number_19 : decode prog_11_method_38_code 19 = .ok (.aload_n 0, 1) := by decide +kernel
theorem d_Model_number_20 : decode prog_11_method_38_code 20 = .ok (.iconst 0, 1) := by decide +kernel
theorem d_Model_number_21 : decode prog_11_method_38_code 21 = .ok (.putfield 155, 3) := by decide +kernel
theorem d_Model_number_24 : decode prog_11_method_38_code 24 = .ok (.iload_n 2, 1) := by decide +kernel
theorem d_Model_number_25 : decode prog_11_method_38_code 25 = .ok (.bipush 32, 2) := by decide +kernel
theorem d_Model_number_27 : decode prog_11_method_38_code 27 = .ok (.if_icmp .le 5, 3) := by decide +kernel
theorem d_Model_number_30 : decode prog_11_method_38_code 30 = .ok (.iconst 0, 1) := by decide +kernel
theorem d_Model_number_31 : decode prog_11_method_38_code 31 = .ok (.ireturn, 1) := by decide +kernel
theorem d_Model_number_32 : decode prog_11_method_38_code 32 = .ok (.aload_n 0, 1) := by decide +kernel
theorem d_Model_number_33 : decode prog_11_method_38_code 33 = .ok (.iconst 1, 1) := by decide +kernel
theorem d_Model_number_34 : decode prog_11_method_38_code 34 = .ok (.invokevirtual 137, 3) := by decide +kernel
theorem d_Model_number_37 : decode prog_11_method_38_code 37 = .ok (.aload_n 0, 1) := by decide +kernel
theorem d_Model_number_38 : decode prog_11_method_38_code 38 = .ok (.bipush 120, 2) := by decide +kernel
theorem d_Model_number_40 : decode prog_11_method_38_code 40 = .ok (.invokevirtual 200, 3) := by decide +kernel
theorem d_Model_number_43 : decode prog_11_method_38_code 43 = .ok (.iconst 0, 1) := by decide +kernel
theorem d_Model_number_44 : decode prog_11_method_38_code 44 = .ok (.istore_n 3, 1) := by decide +kernel
theorem d_Model_number_45 : decode prog_11_method_38_code 45 = .ok (.iload_n 3, 1) := by decide +kernel
theorem d_Model_number_46 : decode prog_11_method_38_code 46 = .ok (.iload_n 2, 1) := by decide +kernel
theorem d_Model_number_47 : decode prog_11_method_38_code 47 = .ok (.if_icmp .ge 22, 3) := by decide +kernel
theorem d_Model_number_50 : decode prog_11_method_38_code 50 = .ok (.aload_n 0, 1) := by decide +kernel
theorem d_Model_number_51 : decode prog_11_method_38_code 51 = .ok (.bipush 120, 2) := by decide +kernel
theorem d_Model_number_53 : decode prog_11_method_38_code 53 = .ok (.iload_n 3, 1) := by decide +kernel
theorem d_Model_number_54 : decode prog_11_method_38_code 54 = .ok (.aload_n 0, 1) := by decide +kernel
theorem d_Model_number_55 : decode prog_11_method_38_code 55 = .ok (.getfield 127, 3) := by decide +kernel
theorem d_Model_number_58 : decode prog_11_method_38_code 58 = .ok (.iload_n 3, 1) := by decide +kernel
theorem d_Model_number_59 : decode prog_11_method_38_code 59 = .ok (.iaload, 1) := by decide +kernel
theorem d_Model_number_60 : decode prog_11_method_38_code 60 = .ok (.invokevirtual 229, 3) := by decide +kernel
theorem d_Model_number_63 : decode prog_11_method_38_code 63 = .ok (.iinc 3 1, 3) := by decide +kernel
theorem d_Model_number_66 : decode prog_11_method_38_code 66 = .ok (.goto (-21), 3) := by decide +kernel
theorem d_Model_number_69 : decode prog_11_method_38_code 69 = .ok (.aload_n 0, 1) := by decide +kernel
theorem d_Model_number_70 : decode prog_11_method_38_code 70 = .ok (.bipush 120, 2) := by decide +kernel
theorem d_Model_number_72 : decode prog_11_method_38_code 72 = .ok (.invokevirtual 232, 3) := by decide +kernel
theorem d_Model_number_75 : decode prog_11_method_38_code 75 = .ok (.ifCond .ne 5, 3) := by decide +kernel
theorem d_Model_number_78 : decode prog_11_method_38_code 78 = .ok (.iconst 0, 1) := by decide +kernel
theorem d_Model_number_79 : decode prog_11_method_38_code 79 = .ok (.ireturn, 1) := by decide +kernel
theorem d_Model_number_80 : decode prog_11_method_38_code 80 = .ok (.aload_n 0, 1) := by decide +kernel
theorem d_Model_number_81 : decode prog_11_method_38_code 81 = .ok (.iload_n 1, 1) := by decide +kernel
theorem d_Model_number_82 : decode prog_11_method_38_code 82 = .ok (.bipush 120, 2) := by decide +kernel
theorem d_Model_number_84 : decode prog_11_method_38_code 84 = .ok (.invokevirtual 180, 3) := by decide +kernel
theorem d_Model_number_87 : decode prog_11_method_38_code 87 = .ok (.iconst 1, 1) := by decide +kernel
theorem d_Model_number_88 : decode prog_11_method_38_code 88 = .ok (.ireturn, 1) := by decide +kernel
abbrev y_Model_word : MethodName := ⟨"KateDeskModel", "word", "(II)J"⟩
theorem hd_Model_word : y_Model_word.cls ≠ "java/lang/invoke/MethodHandle" ∧ y_Model_word.cls ≠ "java/lang/invoke/VarHandle" ∧ (parseMethodDescriptor y_Model_word.desc).map (fun d => d.parameters.length) = some 2 := by decide +kernel
theorem d_Model_word_0 : decode prog_11_method_40_code 0 = .ok (.aload_n 0, 1) := by decide +kernel
theorem d_Model_word_1 : decode prog_11_method_40_code 1 = .ok (.iload_n 1, 1) := by decide +kernel
theorem d_Model_word_2 : decode prog_11_method_40_code 2 = .ok (.invokestatic 219, 3) := by decide +kernel
theorem d_Model_word_5 : decode prog_11_method_40_code 5 = .ok (.ifCond .ne 13, 3) := by decide +kernel
theorem d_Model_word_8 : decode prog_11_method_40_code 8 = .ok (.iload_n 2, 1) := by decide +kernel
theorem d_Model_word_9 : decode prog_11_method_40_code 9 = .ok (.ifCond .lt 9, 3) := by decide +kernel
theorem d_Model_word_12 : decode prog_11_method_40_code 12 = .ok (.iload_n 2, 1) := by decide +kernel
theorem d_Model_word_13 : decode prog_11_method_40_code 13 = .ok (.bipush 7, 2) := by decide +kernel
theorem d_Model_word_15 : decode prog_11_method_40_code 15 = .ok (.if_icmp .le 7, 3) := by decide +kernel
theorem d_Model_word_18 : decode prog_11_method_40_code 18 = .ok (.iconst 1, 1) := by decide +kernel
theorem d_Model_word_19 : decode prog_11_method_40_code 19 = .ok (.goto 4, 3) := by decide +kernel
theorem d_Model_word_22 : decode prog_11_method_40_code 22 = .ok (.iconst 0, 1) := by decide +kernel
theorem d_Model_word_23 : decode prog_11_method_40_code 23 = .ok (.iconst 1, 1) := by decide +kernel
theorem d_Model_word_24 : decode prog_11_method_40_code 24 = .ok (.invokevirtual 223, 3) := by decide +kernel
theorem d_Model_word_27 : decode prog_11_method_40_code 27 = .ok (.ifCond .eq 5, 3) := by decide +kernel
theorem d_Model_word_30 : decode prog_11_method_40_code 30 = .ok (.lconst 0, 1) := by decide +kernel
theorem d_Model_word_31 : decode prog_11_method_40_code 31 = .ok (.lreturn, 1) := by decide +kernel
theorem d_Model_word_32 : decode prog_11_method_40_code 32 = .ok (.lconst 0, 1) := by decide +kernel
theorem d_Model_word_33 : decode prog_11_method_40_code 33 = .ok (.lstore_n 3, 1) := by decide +kernel
theorem d_Model_word_34 : decode prog_11_method_40_code 34 = .ok (.bipush 31, 2) := by decide +kernel
theorem d_Model_word_36 : decode prog_11_method_40_code 36 = .ok (.istore 5, 2) := by decide +kernel
theorem d_Model_word_38 : decode prog_11_method_40_code 38 = .ok (.iload 5, 2) := by decide +kernel
theorem d_Model_word_40 : decode prog_11_method_40_code 40 = .ok (.ifCond .lt 29, 3) := by decide +kernel
theorem d_Model_word_43 : decode prog_11_method_40_code 43 = .ok (.ldc2_w 238, 3) := by decide +kernel
theorem d_Model_word_46 : decode prog_11_method_40_code 46 = .ok (.lload_n 3, 1) := by decide +kernel
theorem d_Model_word_47 : decode prog_11_method_40_code 47 = .ok (.lmul, 1) := by decide +kernel
theorem d_Model_word_48 : decode prog_11_method_40_code 48 = .ok (.aload_n 0, 1) := by decide +kernel
theorem d_Model_word_49 : decode prog_11_method_40_code 49 = .ok (.iload_n 1, 1) := by decide +kernel
theorem d_Model_word_50 : decode prog_11_method_40_code 50 = .ok (.bipush 32, 2) := by decide +kernel
theorem d_Model_word_52 : decode prog_11_method_40_code 52 = .ok (.iload_n 2, 1) := by decide +kernel
theorem d_Model_word_53 : decode prog_11_method_40_code 53 = .ok (.imul, 1) := by decide +kernel
theorem d_Model_word_54 : decode prog_11_method_40_code 54 = .ok (.iload 5, 2) := by decide +kernel
theorem d_Model_word_56 : decode prog_11_method_40_code 56 = .ok (.iadd, 1) := by decide +kernel
theorem d_Model_word_57 : decode prog_11_method_40_code 57 = .ok (.invokevirtual 187, 3) := by decide +kernel
theorem d_Model_word_60 : decode prog_11_method_40_code 60 = .ok (.i2l, 1) := by decide +kernel
theorem d_Model_word_61 : decode prog_11_method_40_code 61 = .ok (.ladd, 1) := by decide +kernel
theorem d_Model_word_62 : decode prog_11_method_40_code 62 = .ok (.lstore_n 3, 1) := by decide +kernel
theorem d_Model_word_63 : decode prog_11_method_40_code 63 = .ok (.iinc 5 (-1), 3) := by decide +kernel
theorem d_Model_word_66 : decode prog_11_method_40_code 66 = .ok (.goto (-28), 3) := by decide +kernel
theorem d_Model_word_69 : decode prog_11_method_40_code 69 = .ok (.lload_n 3, 1) := by decide +kernel
theorem d_Model_word_70 : decode prog_11_method_40_code 70 = .ok (.lreturn, 1) := by decide +kernel
abbrev y_Model_setup : MethodName := ⟨"KateDeskModel", "setup", "(II)V"⟩
theorem hd_Model_setup : y_Model_setup.cls ≠ "java/lang/invoke/MethodHandle" ∧ y_Model_setup.cls ≠ "java/lang/invoke/VarHandle" ∧ (parseMethodDescriptor y_Model_setup.desc).map (fun d => d.parameters.length) = some 2 := by decide +kernel
theorem d_Model_setup_0 : decode prog_11_method_54_code 0 = .ok (.aload_n 0, 1) := by decide +kernel
theorem d_Model_setup_1 : decode prog_11_method_54_code 1 = .ok (.iload_n 1, 1) := by decide +kernel
theorem d_Model_setup_2 : decode prog_11_method_54_code 2 = .ok (.invokestatic 219, 3) := by decide +kernel
theorem d_Model_setup_5 : decode prog_11_method_54_code 5 = .ok (.ifCond .ne 15, 3) := by decide +kernel
theorem d_Model_setup_8 : decode prog_11_method_54_code 8 = .ok (.iload_n 2, 1) := by decide +kernel
theorem d_Model_setup_9 : decode prog_11_method_54_code 9 = .ok (.i2l, 1) := by decide +kernel
theorem d_Model_setup_10 : decode prog_11_method_54_code 10 = .ok (.lconst 1, 1) := by decide +kernel
theorem d_Model_setup_11 : decode prog_11_method_54_code 11 = .ok (.ldc2_w 292, 3) := by decide +kernel
theorem d_Model_setup_14 : decode prog_11_method_54_code 14 = .ok (.invokestatic 242, 3) := by decide +kernel
theorem d_Model_setup_17 : decode prog_11_method_54_code 17 = .ok (.ifCond .ne 7, 3) := by decide +kernel
theorem d_Model_setup_20 : decode prog_11_method_54_code 20 = .ok (.iconst 1, 1) := by decide +kernel
theorem d_Model_setup_21 : decode prog_11_method_54_code 21 = .ok (.goto 4, 3) := by decide +kernel
theorem d_Model_setup_24 : decode prog_11_method_54_code 24 = .ok (.iconst 0, 1) := by decide +kernel
theorem d_Model_setup_25 : decode prog_11_method_54_code 25 = .ok (.iconst 1, 1) := by decide +kernel
theorem d_Model_setup_26 : decode prog_11_method_54_code 26 = .ok (.invokevirtual 223, 3) := by decide +kernel
theorem d_Model_setup_29 : decode prog_11_method_54_code 29 = .ok (.ifCond .eq 4, 3) := by decide +kernel
theorem d_Model_setup_32 : decode prog_11_method_54_code 32 = .ok (.return_, 1) := by decide +kernel
theorem d_Model_setup_33 : decode prog_11_method_54_code 33 = .ok (.aload_n 0, 1) := by decide +kernel
theorem d_Model_setup_34 : decode prog_11_method_54_code 34 = .ok (.iload_n 2, 1) := by decide +kernel
theorem d_Model_setup_35 : decode prog_11_method_54_code 35 = .ok (.putfield 294, 3) := by decide +kernel
theorem d_Model_setup_38 : decode prog_11_method_54_code 38 = .ok (.aload_n 0, 1) := by decide +kernel
theorem d_Model_setup_39 : decode prog_11_method_54_code 39 = .ok (.sipush 165, 3) := by decide +kernel
theorem d_Model_setup_42 : decode prog_11_method_54_code 42 = .ok (.invokevirtual 141, 3) := by decide +kernel
theorem d_Model_setup_45 : decode prog_11_method_54_code 45 = .ok (.iconst 0, 1) := by decide +kernel
theorem d_Model_setup_46 : decode prog_11_method_54_code 46 = .ok (.istore_n 3, 1) := by decide +kernel
theorem d_Model_setup_47 : decode prog_11_method_54_code 47 = .ok (.iload_n 3, 1) := by decide +kernel
theorem d_Model_setup_48 : decode prog_11_method_54_code 48 = .ok (.iload_n 2, 1) := by decide +kernel
theorem d_Model_setup_49 : decode prog_11_method_54_code 49 = .ok (.if_icmp .ge 45, 3) := by decide +kernel
theorem d_Model_setup_52 : decode prog_11_method_54_code 52 = .ok (.aload_n 0, 1) := by decide +kernel
theorem d_Model_setup_53 : decode prog_11_method_54_code 53 = .ok (.iconst 0, 1) := by decide +kernel
theorem d_Model_setup_54 : decode prog_11_method_54_code 54 = .ok (.invokevirtual 137, 3) := by decide +kernel
theorem d_Model_setup_57 : decode prog_11_method_54_code 57 = .ok (.aload_n 0, 1) := by decide +kernel
theorem d_Model_setup_58 : decode prog_11_method_54_code 58 = .ok (.bipush 68, 2) := by decide +kernel
theorem d_Model_setup_60 : decode prog_11_method_54_code 60 = .ok (.iconst 3, 1) := by decide +kernel
theorem d_Model_setup_61 : decode prog_11_method_54_code 61 = .ok (.iload_n 3, 1) := by decide +kernel
theorem d_Model_setup_62 : decode prog_11_method_54_code 62 = .ok (.imul, 1) := by decide +kernel
theorem d_Model_setup_63 : decode prog_11_method_54_code 63 = .ok (.iadd, 1) := by decide +kernel
theorem d_Model_setup_64 : decode prog_11_method_54_code 64 = .ok (.sipush 165, 3) := by decide +kernel
theorem d_Model_setup_67 : decode prog_11_method_54_code 67 = .ok (.bipush 116, 2) := by decide +kernel
theorem d_Model_setup_69 : decode prog_11_method_54_code 69 = .ok (.invokevirtual 274, 3) := by decide +kernel
theorem d_Model_setup_72 : decode prog_11_method_54_code 72 = .ok (.aload_n 0, 1) := by decide +kernel
theorem d_Model_setup_73 : decode prog_11_method_54_code 73 = .ok (.iconst 1, 1) := by decide +kernel
theorem d_Model_setup_74 : decode prog_11_method_54_code 74 = .ok (.invokevirtual 137, 3) := by decide +kernel
theorem d_Model_setup_77 : decode prog_11_method_54_code 77 = .ok (.aload_n 0, 1) := by decide +kernel
theorem d_Model_setup_78 : decode prog_11_method_54_code 78 = .ok (.sipush 165, 3) := by decide +kernel
theorem d_Model_setup_81 : decode prog_11_method_54_code 81 = .ok (.sipush 165, 3) := by decide +kernel
theorem d_Model_setup_84 : decode prog_11_method_54_code 84 = .ok (.iload_n 1, 1) := by decide +kernel
theorem d_Model_setup_85 : decode prog_11_method_54_code 85 = .ok (.invokevirtual 184, 3) := by decide +kernel
theorem d_Model_setup_88 : decode prog_11_method_54_code 88 = .ok (.iinc 3 1, 3) := by decide +kernel
theorem d_Model_setup_91 : decode prog_11_method_54_code 91 = .ok (.goto (-44), 3) := by decide +kernel
theorem d_Model_setup_94 : decode prog_11_method_54_code 94 = .ok (.return_, 1) := by decide +kernel
abbrev y_Model_open : MethodName := ⟨"KateDeskModel", "open", "(IIII)V"⟩
theorem hd_Model_open : y_Model_open.cls ≠ "java/lang/invoke/MethodHandle" ∧ y_Model_open.cls ≠ "java/lang/invoke/VarHandle" ∧ (parseMethodDescriptor y_Model_open.desc).map (fun d => d.parameters.length) = some 4 := by decide +kernel
theorem d_Model_open_0 : decode prog_11_method_57_code 0 = .ok (.aload_n 0, 1) := by decide +kernel
theorem d_Model_open_1 : decode prog_11_method_57_code 1 = .ok (.iload_n 2, 1) := by decide +kernel
theorem d_Model_open_2 : decode prog_11_method_57_code 2 = .ok (.i2l, 1) := by decide +kernel
theorem d_Model_open_3 : decode prog_11_method_57_code 3 = .ok (.lconst 1, 1) := by decide +kernel
theorem d_Model_open_4 : decode prog_11_method_57_code 4 = .ok (.ldc2_w 292, 3) := by decide +kernel
theorem d_Model_open_7 : decode prog_11_method_57_code 7 = .ok (.invokestatic 242, 3) := by decide +kernel
theorem d_Model_open_10 : decode prog_11_method_57_code 10 = .ok (.ifCond .eq 26, 3) := by decide +kernel
theorem d_Model_open_13 : decode prog_11_method_57_code 13 = .ok (.iload_n 1, 1) := by decide +kernel
theorem d_Model_open_14 : decode prog_11_method_57_code 14 = .ok (.iload_n 2, 1) := by decide +kernel
theorem d_Model_open_15 : decode prog_11_method_57_code 15 = .ok (.invokestatic 283, 3) := by decide +kernel
theorem d_Model_open_18 : decode prog_11_method_57_code 18 = .ok (.ifCond .ne 18, 3) := by decide +kernel
theorem d_Model_open_21 : decode prog_11_method_57_code 21 = .ok (.iload_n 3, 1) := by decide +kernel
theorem d_Model_open_22 : decode prog_11_method_57_code 22 = .ok (.invokestatic 219, 3) := by decide +kernel
theorem d_Model_open_25 : decode prog_11_method_57_code 25 = .ok (.ifCond .ne 11, 3) := by decide +kernel
theorem d_Model_open_28 : decode prog_11_method_57_code 28 = .ok (.iload 4, 2) := by decide +kernel
theorem d_Model_open_30 : decode prog_11_method_57_code 30 = .ok (.invokestatic 219, 3) := by decide +kernel
theorem d_Model_open_33 : decode prog_11_method_57_code 33 = .ok (.ifCond .eq 7, 3) := by decide +kernel
theorem d_Model_open_36 : decode prog_11_method_57_code 36 = .ok (.iconst 1, 1) := by decide +kernel
theorem d_Model_open_37 : decode prog_11_method_57_code 37 = .ok (.goto 4, 3) := by decide +kernel
theorem d_Model_open_40 : decode prog_11_method_57_code 40 = .ok (.iconst 0, 1) := by decide +kernel
theorem d_Model_open_41 : decode prog_11_method_57_code 41 = .ok (.iconst 1, 1) := by decide +kernel
theorem d_Model_open_42 : decode prog_11_method_57_code 42 = .ok (.invokevirtual 223, 3) := by decide +kernel
theorem d_Model_open_45 : decode prog_11_method_57_code 45 = .ok (.ifCond .eq 4, 3) := by decide +kernel
theorem d_Model_open_48 : decode prog_11_method_57_code 48 = .ok (.return_, 1) := by decide +kernel
theorem d_Model_open_49 : decode prog_11_method_57_code 49 = .ok (.aload_n 0, 1) := by decide +kernel
theorem d_Model_open_50 : decode prog_11_method_57_code 50 = .ok (.iconst 1, 1) := by decide +kernel
theorem d_Model_open_51 : decode prog_11_method_57_code 51 = .ok (.invokevirtual 137, 3) := by decide +kernel
theorem d_Model_open_54 : decode prog_11_method_57_code 54 = .ok (.aload_n 0, 1) := by decide +kernel
theorem d_Model_open_55 : decode prog_11_method_57_code 55 = .ok (.sipush 166, 3) := by decide +kernel
theorem d_Model_open_58 : decode prog_11_method_57_code 58 = .ok (.iload_n 3, 1) := by decide +kernel
theorem d_Model_open_59 : decode prog_11_method_57_code 59 = .ok (.invokevirtual 180, 3) := by decide +kernel
theorem d_Model_open_62 : decode prog_11_method_57_code 62 = .ok (.aload_n 0, 1) := by decide +kernel
theorem d_Model_open_63 : decode prog_11_method_57_code 63 = .ok (.sipush 168, 3) := by decide +kernel
theorem d_Model_open_66 : decode prog_11_method_57_code 66 = .ok (.iload_n 1, 1) := by decide +kernel
theorem d_Model_open_67 : decode prog_11_method_57_code 67 = .ok (.iload_n 2, 1) := by decide +kernel
theorem d_Model_open_68 : decode prog_11_method_57_code 68 = .ok (.sipush 166, 3) := by decide +kernel
theorem d_Model_open_71 : decode prog_11_method_57_code 71 = .ok (.invokevirtual 297, 3) := by decide +kernel
theorem d_Model_open_74 : decode prog_11_method_57_code 74 = .ok (.iconst 0, 1) := by decide +kernel
theorem d_Model_open_75 : decode prog_11_method_57_code 75 = .ok (.istore 5, 2) := by decide +kernel
theorem d_Model_open_77 : decode prog_11_method_57_code 77 = .ok (.iload 5, 2) := by decide +kernel
theorem d_Model_open_79 : decode prog_11_method_57_code 79 = .ok (.iload_n 2, 1) := by decide +kernel
theorem d_Model_open_80 : decode prog_11_method_57_code 80 = .ok (.if_icmp .ge 32, 3) := by decide +kernel
theorem d_Model_open_83 : decode prog_11_method_57_code 83 = .ok (.aload_n 0, 1) := by decide +kernel
theorem d_Model_open_84 : decode prog_11_method_57_code 84 = .ok (.iload_n 1, 1) := by decide +kernel
theorem d_Model_open_85 : decode prog_11_method_57_code 85 = .ok (.iload 5, 2) := by decide +kernel
theorem d_Model_open_87 : decode prog_11_method_57_code 87 = .ok (.iadd, 1) := by decide +kernel
theorem d_Model_open_88 : decode prog_11_method_57_code 88 = .ok (.iload_n 1, 1) := by decide +kernel
theorem d_Model_open_89 : decode prog_11_method_57_code 89 = .ok (.iload 5, 2) := by decide +kernel
theorem d_Model_open_91 : decode prog_11_method_57_code 91 = .ok (.iadd, 1) := by decide +kernel
theorem d_Model_open_92 : decode prog_11_method_57_code 92 = .ok (.iconst 1, 1) := by decide +kernel
theorem d_Model_open_93 : decode prog_11_method_57_code 93 = .ok (.iadd, 1) := by decide +kernel
theorem d_Model_open_94 : decode prog_11_method_57_code 94 = .ok (.iload_n 2, 1) := by decide +kernel
theorem d_Model_open_95 : decode prog_11_method_57_code 95 = .ok (.iconst 1, 1) := by decide +kernel
theorem d_Model_open_96 : decode prog_11_method_57_code 96 = .ok (.isub, 1) := by decide +kernel
theorem d_Model_open_97 : decode prog_11_method_57_code 97 = .ok (.iload 5, 2) := by decide +kernel
theorem d_Model_open_99 : decode prog_11_method_57_code 99 = .ok (.isub, 1) := by decide +kernel
theorem d_Model_open_100 : decode prog_11_method_57_code 100 = .ok (.sipush 166, 3) := by decide +kernel
theorem d_Model_open_103 : decode prog_11_method_57_code 103 = .ok (.invokevirtual 297, 3) := by decide +kernel
theorem d_Model_open_106 : decode prog_11_method_57_code 106 = .ok (.iinc 5 1, 3) := by decide +kernel
theorem d_Model_open_109 : decode prog_11_method_57_code 109 = .ok (.goto (-32), 3) := by decide +kernel
theorem d_Model_open_112 : decode prog_11_method_57_code 112 = .ok (.aload_n 0, 1) := by decide +kernel
theorem d_Model_open_113 : decode prog_11_method_57_code 113 = .ok (.iload 4, 2) := by decide +kernel
theorem d_Model_open_115 : decode prog_11_method_57_code 115 = .ok (.sipush 168, 3) := by decide +kernel
theorem d_Model_open_118 : decode prog_11_method_57_code 118 = .ok (.invokevirtual 180, 3) := by decide +kernel
theorem d_Model_open_121 : decode prog_11_method_57_code 121 = .ok (.return_, 1) := by decide +kernel