abbrev y_Model_multiple : MethodName := ⟨"KateDeskModel", "multiple", "(III)V"⟩
theorem hd_Model_multiple : y_Model_multiple.cls ≠ "java/lang/invoke/MethodHandle" ∧ y_Model_multiple.cls ≠ "java/lang/invoke/VarHandle" ∧ (parseMethodDescriptor y_Model_multiple.desc).map (fun d => d.parameters.length) = some 3 := by decide +kernel
theorem d_Model_multiple_0 : decode prog_11_method_31_code 0 = .ok (.aload_n 0, 1) := by decide +kernel
theorem d_Model_multiple_1 : decode prog_11_method_31_code 1 = .ok (.sipush 136, 3) := by decide +kernel
theorem d_Model_multiple_4 : decode prog_11_method_31_code 4 = .ok (.iload_n 3, 1) := by decide +kernel
theorem d_Model_multiple_5 : decode prog_11_method_31_code 5 = .ok (.invokevirtual 209, 3) := by decide +kernel
theorem d_Model_multiple_8 : decode prog_11_method_31_code 8 = .ok (.aload_n 0, 1) := by decide +kernel
theorem d_Model_multiple_9 : decode prog_11_method_31_code 9 = .ok (.sipush 139, 3) := by decide +kernel
theorem d_Model_multiple_12 : decode prog_11_method_31_code 12 = .ok (.invokevirtual 152, 3) := by decide +kernel
theorem d_Model_multiple_15 : decode prog_11_method_31_code 15 = .ok (.sipush 391, 3) := by decide +kernel
theorem d_Model_multiple_18 : decode prog_11_method_31_code 18 = .ok (.istore 4, 2) := by decide +kernel
theorem d_Model_multiple_20 : decode prog_11_method_31_code 20 = .ok (.iload 4, 2) := by decide +kernel
theorem d_Model_multiple_22 : decode prog_11_method_31_code 22 = .ok (.ifCond .lt 46, 3) := by decide +kernel
theorem d_Model_multiple_25 : decode prog_11_method_31_code 25 = .ok (.aload_n 0, 1) := by decide +kernel
theorem d_Model_multiple_26 : decode prog_11_method_31_code 26 = .ok (.sipush 139, 3) := by decide +kernel
theorem d_Model_multiple_29 : decode prog_11_method_31_code 29 = .ok (.sipush 139, 3) := by decide +kernel
theorem d_Model_multiple_32 : decode prog_11_method_31_code 32 = .ok (.sipush 139, 3) := by decide +kernel
theorem d_Model_multiple_35 : decode prog_11_method_31_code 35 = .ok (.invokevirtual 212, 3) := by decide +kernel
theorem d_Model_multiple_38 : decode prog_11_method_31_code 38 = .ok (.aload_n 0, 1) := by decide +kernel
theorem d_Model_multiple_39 : decode prog_11_method_31_code 39 = .ok (.iload_n 2, 1) := by decide +kernel
theorem d_Model_multiple_40 : decode prog_11_method_31_code 40 = .ok (.iload 4, 2) := by decide +kernel
theorem d_Model_multiple_42 : decode prog_11_method_31_code 42 = .ok (.invokevirtual 187, 3) := by decide +kernel
theorem d_Model_multiple_45 : decode prog_11_method_31_code 45 = .ok (.iconst 1, 1) := by decide +kernel
theorem d_Model_multiple_46 : decode prog_11_method_31_code 46 = .ok (.if_icmp .ne 16, 3) := by decide +kernel
theorem d_Model_multiple_49 : decode prog_11_method_31_code 49 = .ok (.aload_n 0, 1) := by decide +kernel
theorem d_Model_multiple_50 : decode prog_11_method_31_code 50 = .ok (.sipush 139, 3) := by decide +kernel
theorem d_Model_multiple_53 : decode prog_11_method_31_code 53 = .ok (.sipush 139, 3) := by decide +kernel
theorem d_Model_multiple_56 : decode prog_11_method_31_code 56 = .ok (.sipush 136, 3) := by decide +kernel
theorem d_Model_multiple_59 : decode prog_11_method_31_code 59 = .ok (.invokevirtual 212, 3) := by decide +kernel
theorem d_Model_multiple_62 : decode prog_11_method_31_code 62 = .ok (.iinc 4 (-1), 3) := by decide +kernel
theorem d_Model_multiple_65 : decode prog_11_method_31_code 65 = .ok (.goto (-45), 3) := by decide +kernel
theorem d_Model_multiple_68 : decode prog_11_method_31_code 68 = .ok (.aload_n 0, 1) := by decide +kernel
theorem d_Model_multiple_69 : decode prog_11_method_31_code 69 = .ok (.iload_n 1, 1) := by decide +kernel
theorem d_Model_multiple_70 : decode prog_11_method_31_code 70 = .ok (.sipush 139, 3) := by decide +kernel
theorem d_Model_multiple_73 : decode prog_11_method_31_code 73 = .ok (.invokevirtual 209, 3) := by decide +kernel
theorem d_Model_multiple_76 : decode prog_11_method_31_code 76 = .ok (.return_, 1) := by decide +kernel
abbrev y_Model_sums : MethodName := ⟨"KateDeskModel", "sums", "(III)V"⟩
theorem hd_Model_sums : y_Model_sums.cls ≠ "java/lang/invoke/MethodHandle" ∧ y_Model_sums.cls ≠ "java/lang/invoke/VarHandle" ∧ (parseMethodDescriptor y_Model_sums.desc).map (fun d => d.parameters.length) = some 3 := by decide +kernel
theorem d_Model_sums_0 : decode prog_11_method_51_code 0 = .ok (.aload_n 0, 1) := by decide +kernel
theorem d_Model_sums_1 : decode prog_11_method_51_code 1 = .ok (.iconst 0, 1) := by decide +kernel
theorem d_Model_sums_2 : decode prog_11_method_51_code 2 = .ok (.invokevirtual 137, 3) := by decide +kernel
theorem d_Model_sums_5 : decode prog_11_method_51_code 5 = .ok (.aload_n 0, 1) := by decide +kernel
theorem d_Model_sums_6 : decode prog_11_method_51_code 6 = .ok (.sipush 164, 3) := by decide +kernel
theorem d_Model_sums_9 : decode prog_11_method_51_code 9 = .ok (.invokevirtual 152, 3) := by decide +kernel
theorem d_Model_sums_12 : decode prog_11_method_51_code 12 = .ok (.iconst 0, 1) := by decide +kernel
theorem d_Model_sums_13 : decode prog_11_method_51_code 13 = .ok (.istore 4, 2) := by decide +kernel
theorem d_Model_sums_15 : decode prog_11_method_51_code 15 = .ok (.iload 4, 2) := by decide +kernel
theorem d_Model_sums_17 : decode prog_11_method_51_code 17 = .ok (.iload_n 3, 1) := by decide +kernel
theorem d_Model_sums_18 : decode prog_11_method_51_code 18 = .ok (.if_icmp .ge 39, 3) := by decide +kernel
theorem d_Model_sums_21 : decode prog_11_method_51_code 21 = .ok (.aload_n 0, 1) := by decide +kernel
theorem d_Model_sums_22 : decode prog_11_method_51_code 22 = .ok (.sipush 161, 3) := by decide +kernel
theorem d_Model_sums_25 : decode prog_11_method_51_code 25 = .ok (.iload_n 1, 1) := by decide +kernel
theorem d_Model_sums_26 : decode prog_11_method_51_code 26 = .ok (.iload 4, 2) := by decide +kernel
theorem d_Model_sums_28 : decode prog_11_method_51_code 28 = .ok (.iadd, 1) := by decide +kernel
theorem d_Model_sums_29 : decode prog_11_method_51_code 29 = .ok (.iload_n 2, 1) := by decide +kernel
theorem d_Model_sums_30 : decode prog_11_method_51_code 30 = .ok (.iconst 3, 1) := by decide +kernel
theorem d_Model_sums_31 : decode prog_11_method_51_code 31 = .ok (.iload 4, 2) := by decide +kernel
theorem d_Model_sums_33 : decode prog_11_method_51_code 33 = .ok (.imul, 1) := by decide +kernel
theorem d_Model_sums_34 : decode prog_11_method_51_code 34 = .ok (.iadd, 1) := by decide +kernel
theorem d_Model_sums_35 : decode prog_11_method_51_code 35 = .ok (.invokevirtual 274, 3) := by decide +kernel
theorem d_Model_sums_38 : decode prog_11_method_51_code 38 = .ok (.aload_n 0, 1) := by decide +kernel
theorem d_Model_sums_39 : decode prog_11_method_51_code 39 = .ok (.sipush 164, 3) := by decide +kernel
theorem d_Model_sums_42 : decode prog_11_method_51_code 42 = .ok (.sipush 164, 3) := by decide +kernel
theorem d_Model_sums_45 : decode prog_11_method_51_code 45 = .ok (.sipush 161, 3) := by decide +kernel
theorem d_Model_sums_48 : decode prog_11_method_51_code 48 = .ok (.invokevirtual 212, 3) := by decide +kernel
theorem d_Model_sums_51 : decode prog_11_method_51_code 51 = .ok (.iinc 4 1, 3) := by decide +kernel
theorem d_Model_sums_54 : decode prog_11_method_51_code 54 = .ok (.goto (-39), 3) := by decide +kernel
theorem d_Model_sums_57 : decode prog_11_method_51_code 57 = .ok (.return_, 1) := by decide +kernel
abbrev y_Model_value : MethodName := ⟨"KateDeskModel", "value", "(IIII)V"⟩
theorem hd_Model_value : y_Model_value.cls ≠ "java/lang/invoke/MethodHandle" ∧ y_Model_value.cls ≠ "java/lang/invoke/VarHandle" ∧ (parseMethodDescriptor y_Model_value.desc).map (fun d => d.parameters.length) = some 4 := by decide +kernel
theorem d_Model_value_0 : decode prog_11_method_56_code 0 = .ok (.aload_n 0, 1) := by decide +kernel
theorem d_Model_value_1 : decode prog_11_method_56_code 1 = .ok (.sipush 167, 3) := by decide +kernel
theorem d_Model_value_4 : decode prog_11_method_56_code 4 = .ok (.invokevirtual 200, 3) := by decide +kernel
theorem d_Model_value_7 : decode prog_11_method_56_code 7 = .ok (.iload_n 3, 1) := by decide +kernel
theorem d_Model_value_8 : decode prog_11_method_56_code 8 = .ok (.iconst 1, 1) := by decide +kernel
theorem d_Model_value_9 : decode prog_11_method_56_code 9 = .ok (.isub, 1) := by decide +kernel
theorem d_Model_value_10 : decode prog_11_method_56_code 10 = .ok (.istore 5, 2) := by decide +kernel
theorem d_Model_value_12 : decode prog_11_method_56_code 12 = .ok (.iload 5, 2) := by decide +kernel
theorem d_Model_value_14 : decode prog_11_method_56_code 14 = .ok (.ifCond .lt 35, 3) := by decide +kernel
theorem d_Model_value_17 : decode prog_11_method_56_code 17 = .ok (.aload_n 0, 1) := by decide +kernel
theorem d_Model_value_18 : decode prog_11_method_56_code 18 = .ok (.sipush 167, 3) := by decide +kernel
theorem d_Model_value_21 : decode prog_11_method_56_code 21 = .ok (.sipush 167, 3) := by decide +kernel
theorem d_Model_value_24 : decode prog_11_method_56_code 24 = .ok (.iload 4, 2) := by decide +kernel
theorem d_Model_value_26 : decode prog_11_method_56_code 26 = .ok (.invokevirtual 184, 3) := by decide +kernel
theorem d_Model_value_29 : decode prog_11_method_56_code 29 = .ok (.aload_n 0, 1) := by decide +kernel
theorem d_Model_value_30 : decode prog_11_method_56_code 30 = .ok (.sipush 167, 3) := by decide +kernel
theorem d_Model_value_33 : decode prog_11_method_56_code 33 = .ok (.sipush 167, 3) := by decide +kernel
theorem d_Model_value_36 : decode prog_11_method_56_code 36 = .ok (.iload_n 2, 1) := by decide +kernel
theorem d_Model_value_37 : decode prog_11_method_56_code 37 = .ok (.iload 5, 2) := by decide +kernel
theorem d_Model_value_39 : decode prog_11_method_56_code 39 = .ok (.iadd, 1) := by decide +kernel
theorem d_Model_value_40 : decode prog_11_method_56_code 40 = .ok (.invokevirtual 148, 3) := by decide +kernel
theorem d_Model_value_43 : decode prog_11_method_56_code 43 = .ok (.iinc 5 (-1), 3) := by decide +kernel
theorem d_Model_value_46 : decode prog_11_method_56_code 46 = .ok (.goto (-34), 3) := by decide +kernel
theorem d_Model_value_49 : decode prog_11_method_56_code 49 = .ok (.aload_n 0, 1) := by decide +kernel
theorem d_Model_value_50 : decode prog_11_method_56_code 50 = .ok (.iload_n 1, 1) := by decide +kernel
theorem d_Model_value_51 : decode prog_11_method_56_code 51 = .ok (.sipush 167, 3) := by decide +kernel
theorem d_Model_value_54 : decode prog_11_method_56_code 54 = .ok (.invokevirtual 180, 3) := by decide +kernel
theorem d_Model_value_57 : decode prog_11_method_56_code 57 = .ok (.return_, 1) := by decide +kernel
abbrev y_Model_unit : MethodName := ⟨"KateDeskModel", "unit", "(II)V"⟩
theorem hd_Model_unit : y_Model_unit.cls ≠ "java/lang/invoke/MethodHandle" ∧ y_Model_unit.cls ≠ "java/lang/invoke/VarHandle" ∧ (parseMethodDescriptor y_Model_unit.desc).map (fun d => d.parameters.length) = some 2 := by decide +kernel
theorem d_Model_unit_0 : decode prog_11_method_43_code 0 = .ok (.aload_n 0, 1) := by decide +kernel
theorem d_Model_unit_1 : decode prog_11_method_43_code 1 = .ok (.iconst 1, 1) := by decide +kernel
theorem d_Model_unit_2 : decode prog_11_method_43_code 2 = .ok (.invokevirtual 137, 3) := by decide +kernel
theorem d_Model_unit_5 : decode prog_11_method_43_code 5 = .ok (.aload_n 0, 1) := by decide +kernel
theorem d_Model_unit_6 : decode prog_11_method_43_code 6 = .ok (.sipush 145, 3) := by decide +kernel
theorem d_Model_unit_9 : decode prog_11_method_43_code 9 = .ok (.ldc2_w 252, 3) := by decide +kernel
theorem d_Model_unit_12 : decode prog_11_method_43_code 12 = .ok (.invokevirtual 193, 3) := by decide +kernel
theorem d_Model_unit_15 : decode prog_11_method_43_code 15 = .ok (.aload_n 0, 1) := by decide +kernel
theorem d_Model_unit_16 : decode prog_11_method_43_code 16 = .ok (.sipush 145, 3) := by decide +kernel
theorem d_Model_unit_19 : decode prog_11_method_43_code 19 = .ok (.iload_n 2, 1) := by decide +kernel
theorem d_Model_unit_20 : decode prog_11_method_43_code 20 = .ok (.invokevirtual 254, 3) := by decide +kernel
theorem d_Model_unit_23 : decode prog_11_method_43_code 23 = .ok (.aload_n 0, 1) := by decide +kernel
theorem d_Model_unit_24 : decode prog_11_method_43_code 24 = .ok (.sipush 146, 3) := by decide +kernel
theorem d_Model_unit_27 : decode prog_11_method_43_code 27 = .ok (.ldc2_w 57, 3) := by decide +kernel
theorem d_Model_unit_30 : decode prog_11_method_43_code 30 = .ok (.invokevirtual 235, 3) := by decide +kernel
theorem d_Model_unit_33 : decode prog_11_method_43_code 33 = .ok (.aload_n 0, 1) := by decide +kernel
theorem d_Model_unit_34 : decode prog_11_method_43_code 34 = .ok (.iload_n 1, 1) := by decide +kernel
theorem d_Model_unit_35 : decode prog_11_method_43_code 35 = .ok (.sipush 146, 3) := by decide +kernel
theorem d_Model_unit_38 : decode prog_11_method_43_code 38 = .ok (.sipush 145, 3) := by decide +kernel
theorem d_Model_unit_41 : decode prog_11_method_43_code 41 = .ok (.invokevirtual 197, 3) := by decide +kernel
theorem d_Model_unit_44 : decode prog_11_method_43_code 44 = .ok (.return_, 1) := by decide +kernel
abbrev y_Model_alike : MethodName := ⟨"KateDeskModel", "alike", "(II)Z"⟩
theorem hd_Model_alike : y_Model_alike.cls ≠ "java/lang/invoke/MethodHandle" ∧ y_Model_alike.cls ≠ "java/lang/invoke/VarHandle" ∧ (parseMethodDescriptor y_Model_alike.desc).map (fun d => d.parameters.length) = some 2 := by decide +kernel
theorem d_Model_alike_0 : decode prog_11_method_32_code 0 = .ok (.aload_n 0, 1) := by decide +kernel
theorem d_Model_alike_1 : decode prog_11_method_32_code 1 = .ok (.bipush 124, 2) := by decide +kernel
theorem d_Model_alike_3 : decode prog_11_method_32_code 3 = .ok (.iload_n 1, 1) := by decide +kernel
theorem d_Model_alike_4 : decode prog_11_method_32_code 4 = .ok (.iload_n 2, 1) := by decide +kernel
theorem d_Model_alike_5 : decode prog_11_method_32_code 5 = .ok (.iconst 2, 1) := by decide +kernel
theorem d_Model_alike_6 : decode prog_11_method_32_code 6 = .ok (.iadd, 1) := by decide +kernel
theorem d_Model_alike_7 : decode prog_11_method_32_code 7 = .ok (.invokevirtual 184, 3) := by decide +kernel
theorem d_Model_alike_10 : decode prog_11_method_32_code 10 = .ok (.aload_n 0, 1) := by decide +kernel
theorem d_Model_alike_11 : decode prog_11_method_32_code 11 = .ok (.bipush 125, 2) := by decide +kernel
theorem d_Model_alike_13 : decode prog_11_method_32_code 13 = .ok (.iload_n 2, 1) := by decide +kernel
theorem d_Model_alike_14 : decode prog_11_method_32_code 14 = .ok (.iload_n 1, 1) := by decide +kernel
theorem d_Model_alike_15 : decode prog_11_method_32_code 15 = .ok (.iconst 2, 1) := by decide +kernel
theorem d_Model_alike_16 : decode prog_11_method_32_code 16 = .ok (.iadd, 1) := by decide +kernel
theorem d_Model_alike_17 : decode prog_11_method_32_code 17 = .ok (.invokevirtual 184, 3) := by decide +kernel
theorem d_Model_alike_20 : decode prog_11_method_32_code 20 = .ok (.aload_n 0, 1) := by decide +kernel
theorem d_Model_alike_21 : decode prog_11_method_32_code 21 = .ok (.bipush 126, 2) := by decide +kernel
theorem d_Model_alike_23 : decode prog_11_method_32_code 23 = .ok (.iload_n 1, 1) := by decide +kernel
theorem d_Model_alike_24 : decode prog_11_method_32_code 24 = .ok (.iconst 1, 1) := by decide +kernel
theorem d_Model_alike_25 : decode prog_11_method_32_code 25 = .ok (.iadd, 1) := by decide +kernel
theorem d_Model_alike_26 : decode prog_11_method_32_code 26 = .ok (.iload_n 2, 1) := by decide +kernel
theorem d_Model_alike_27 : decode prog_11_method_32_code 27 = .ok (.iconst 2, 1) := by decide +kernel
theorem d_Model_alike_28 : decode prog_11_method_32_code 28 = .ok (.iadd, 1) := by decide +kernel
theorem d_Model_alike_29 : decode prog_11_method_32_code 29 = .ok (.invokevirtual 184, 3) := by decide +kernel
theorem d_Model_alike_32 : decode prog_11_method_32_code 32 = .ok (.aload_n 0, 1) := by decide +kernel
theorem d_Model_alike_33 : decode prog_11_method_32_code 33 = .ok (.bipush 127, 2) := by decide +kernel
theorem d_Model_alike_35 : decode prog_11_method_32_code 35 = .ok (.iload_n 2, 1) := by decide +kernel
theorem d_Model_alike_36 : decode prog_11_method_32_code 36 = .ok (.iconst 1, 1) := by decide +kernel
theorem d_Model_alike_37 : decode prog_11_method_32_code 37 = .ok (.iadd, 1) := by decide +kernel
theorem d_Model_alike_38 : decode prog_11_method_32_code 38 = .ok (.iload_n 1, 1) := by decide +kernel
theorem d_Model_alike_39 : decode prog_11_method_32_code 39 = .ok (.iconst 2, 1) := by decide +kernel
theorem d_Model_alike_40 : decode prog_11_method_32_code 40 = .ok (.iadd, 1) := by decide +kernel
theorem d_Model_alike_41 : decode prog_11_method_32_code 41 = .ok (.invokevirtual 184, 3) := by decide +kernel
theorem d_Model_alike_44 : decode prog_11_method_32_code 44 = .ok (.aload_n 0, 1) := by decide +kernel
theorem d_Model_alike_45 : decode prog_11_method_32_code 45 = .ok (.bipush 124, 2) := by decide +kernel
theorem d_Model_alike_47 : decode prog_11_method_32_code 47 = .ok (.bipush 125, 2) := by decide +kernel
theorem d_Model_alike_49 : decode prog_11_method_32_code 49 = .ok (.invokevirtual 215, 3) := by decide +kernel
theorem d_Model_alike_52 : decode prog_11_method_32_code 52 = .ok (.ifCond .eq 18, 3) := by decide +kernel
theorem d_Model_alike_55 : decode prog_11_method_32_code 55 = .ok (.aload_n 0, 1) := by decide +kernel
theorem d_Model_alike_56 : decode prog_11_method_32_code 56 = .ok (.bipush 126, 2) := by decide +kernel
theorem d_Model_alike_58 : decode prog_11_method_32_code 58 = .ok (.bipush 127, 2) := by decide +kernel
theorem d_Model_alike_60 : decode prog_11_method_32_code 60 = .ok (.invokevirtual 215, 3) := by decide +kernel
theorem d_Model_alike_63 : decode prog_11_method_32_code 63 = .ok (.ifCond .eq 7, 3) := by decide +kernel
theorem d_Model_alike_66 : decode prog_11_method_32_code 66 = .ok (.iconst 1, 1) := by decide +kernel
theorem d_Model_alike_67 : decode prog_11_method_32_code 67 = .ok (.goto 4, 3) := by decide +kernel
theorem d_Model_alike_70 : decode prog_11_method_32_code 70 = .ok (.iconst 0, 1) := by decide +kernel
theorem d_Model_alike_71 : decode prog_11_method_32_code 71 = .ok (.ireturn, 1) := by decide +kernel