abbrev y_Sums_recode : MethodName := ⟨"KateDesk$Sums", "recode", "(I[JII)V"⟩
theorem hd_Sums_recode : y_Sums_recode.cls ≠ "java/lang/invoke/MethodHandle" ∧ y_Sums_recode.cls ≠ "java/lang/invoke/VarHandle" ∧ (parseMethodDescriptor y_Sums_recode.desc).map (fun d => d.parameters.length) = some 4 := by decide +kernel
theorem d_Sums_recode_0 : decode prog_9_method_4_code 0 = .ok (.aload_n 0, 1) := by decide +kernel
theorem d_Sums_recode_1 : decode prog_9_method_4_code 1 = .ok (.getfield 21, 3) := by decide +kernel
theorem d_Sums_recode_4 : decode prog_9_method_4_code 4 = .ok (.iload_n 1, 1) := by decide +kernel
theorem d_Sums_recode_5 : decode prog_9_method_4_code 5 = .ok (.aaload, 1) := by decide +kernel
theorem d_Sums_recode_6 : decode prog_9_method_4_code 6 = .ok (.astore 5, 2) := by decide +kernel
theorem d_Sums_recode_8 : decode prog_9_method_4_code 8 = .ok (.aload 5, 2) := by decide +kernel
theorem d_Sums_recode_10 : decode prog_9_method_4_code 10 = .ok (.iconst 0, 1) := by decide +kernel
theorem d_Sums_recode_11 : decode prog_9_method_4_code 11 = .ok (.invokestatic 63, 3) := by decide +kernel
theorem d_Sums_recode_14 : decode prog_9_method_4_code 14 = .ok (.iconst 0, 1) := by decide +kernel
theorem d_Sums_recode_15 : decode prog_9_method_4_code 15 = .ok (.istore 6, 2) := by decide +kernel
theorem d_Sums_recode_17 : decode prog_9_method_4_code 17 = .ok (.iconst 0, 1) := by decide +kernel
theorem d_Sums_recode_18 : decode prog_9_method_4_code 18 = .ok (.istore 7, 2) := by decide +kernel
theorem d_Sums_recode_20 : decode prog_9_method_4_code 20 = .ok (.iconst 0, 1) := by decide +kernel
theorem d_Sums_recode_21 : decode prog_9_method_4_code 21 = .ok (.istore 8, 2) := by decide +kernel
theorem d_Sums_recode_23 : decode prog_9_method_4_code 23 = .ok (.iload 8, 2) := by decide +kernel
theorem d_Sums_recode_25 : decode prog_9_method_4_code 25 = .ok (.iload 4, 2) := by decide +kernel
theorem d_Sums_recode_27 : decode prog_9_method_4_code 27 = .ok (.if_icmp .gt 72, 3) := by decide +kernel
theorem d_Sums_recode_30 : decode prog_9_method_4_code 30 = .ok (.iload 6, 2) := by decide +kernel
theorem d_Sums_recode_32 : decode prog_9_method_4_code 32 = .ok (.aload_n 2, 1) := by decide +kernel
theorem d_Sums_recode_33 : decode prog_9_method_4_code 33 = .ok (.iload_n 3, 1) := by decide +kernel
theorem d_Sums_recode_34 : decode prog_9_method_4_code 34 = .ok (.iload 8, 2) := by decide +kernel
theorem d_Sums_recode_36 : decode prog_9_method_4_code 36 = .ok (.iadd, 1) := by decide +kernel
theorem d_Sums_recode_37 : decode prog_9_method_4_code 37 = .ok (.iconst 4, 1) := by decide +kernel
theorem d_Sums_recode_38 : decode prog_9_method_4_code 38 = .ok (.iload 4, 2) := by decide +kernel
theorem d_Sums_recode_40 : decode prog_9_method_4_code 40 = .ok (.iload 8, 2) := by decide +kernel
theorem d_Sums_recode_42 : decode prog_9_method_4_code 42 = .ok (.isub, 1) := by decide +kernel
theorem d_Sums_recode_43 : decode prog_9_method_4_code 43 = .ok (.invokestatic 69, 3) := by decide +kernel
theorem d_Sums_recode_46 : decode prog_9_method_4_code 46 = .ok (.invokestatic 75, 3) := by decide +kernel
theorem d_Sums_recode_49 : decode prog_9_method_4_code 49 = .ok (.l2i, 1) := by decide +kernel
theorem d_Sums_recode_50 : decode prog_9_method_4_code 50 = .ok (.iadd, 1) := by decide +kernel
theorem d_Sums_recode_51 : decode prog_9_method_4_code 51 = .ok (.istore 9, 2) := by decide +kernel
theorem d_Sums_recode_53 : decode prog_9_method_4_code 53 = .ok (.iload 8, 2) := by decide +kernel
theorem d_Sums_recode_55 : decode prog_9_method_4_code 55 = .ok (.iload 7, 2) := by decide +kernel
theorem d_Sums_recode_57 : decode prog_9_method_4_code 57 = .ok (.if_icmp .lt 36, 3) := by decide +kernel
theorem d_Sums_recode_60 : decode prog_9_method_4_code 60 = .ok (.iload 9, 2) := by decide +kernel
theorem d_Sums_recode_62 : decode prog_9_method_4_code 62 = .ok (.iconst 1, 1) := by decide +kernel
theorem d_Sums_recode_63 : decode prog_9_method_4_code 63 = .ok (.iand, 1) := by decide +kernel
theorem d_Sums_recode_64 : decode prog_9_method_4_code 64 = .ok (.iconst 1, 1) := by decide +kernel
theorem d_Sums_recode_65 : decode prog_9_method_4_code 65 = .ok (.if_icmp .ne 28, 3) := by decide +kernel
theorem d_Sums_recode_68 : decode prog_9_method_4_code 68 = .ok (.iload 9, 2) := by decide +kernel
theorem d_Sums_recode_70 : decode prog_9_method_4_code 70 = .ok (.iconst 3, 1) := by decide +kernel
theorem d_Sums_recode_71 : decode prog_9_method_4_code 71 = .ok (.ishr, 1) := by decide +kernel
theorem d_Sums_recode_72 : decode prog_9_method_4_code 72 = .ok (.istore 6, 2) := by decide +kernel
theorem d_Sums_recode_74 : decode prog_9_method_4_code 74 = .ok (.aload 5, 2) := by decide +kernel
theorem d_Sums_recode_76 : decode prog_9_method_4_code 76 = .ok (.iload 8, 2) := by decide +kernel
theorem d_Sums_recode_78 : decode prog_9_method_4_code 78 = .ok (.iload 9, 2) := by decide +kernel
theorem d_Sums_recode_80 : decode prog_9_method_4_code 80 = .ok (.iload 6, 2) := by decide +kernel
theorem d_Sums_recode_82 : decode prog_9_method_4_code 82 = .ok (.iconst 4, 1) := by decide +kernel
theorem d_Sums_recode_83 : decode prog_9_method_4_code 83 = .ok (.ishl, 1) := by decide +kernel
theorem d_Sums_recode_84 : decode prog_9_method_4_code 84 = .ok (.isub, 1) := by decide +kernel
theorem d_Sums_recode_85 : decode prog_9_method_4_code 85 = .ok (.i2b, 1) := by decide +kernel
theorem d_Sums_recode_86 : decode prog_9_method_4_code 86 = .ok (.bastore, 1) := by decide +kernel
theorem d_Sums_recode_87 : decode prog_9_method_4_code 87 = .ok (.iload 8, 2) := by decide +kernel
theorem d_Sums_recode_89 : decode prog_9_method_4_code 89 = .ok (.iconst 4, 1) := by decide +kernel
theorem d_Sums_recode_90 : decode prog_9_method_4_code 90 = .ok (.iadd, 1) := by decide +kernel
theorem d_Sums_recode_91 : decode prog_9_method_4_code 91 = .ok (.istore 7, 2) := by decide +kernel
theorem d_Sums_recode_93 : decode prog_9_method_4_code 93 = .ok (.iinc 8 1, 3) := by decide +kernel
theorem d_Sums_recode_96 : decode prog_9_method_4_code 96 = .ok (.goto (-73), 3) := by decide +kernel
theorem d_Sums_recode_99 : decode prog_9_method_4_code 99 = .ok (.return_, 1) := by decide +kernel
abbrev y_Sums_place : MethodName := ⟨"KateDesk$Sums", "place", "(I[JLKateDesk$Point;)V"⟩
theorem hd_Sums_place : y_Sums_place.cls ≠ "java/lang/invoke/MethodHandle" ∧ y_Sums_place.cls ≠ "java/lang/invoke/VarHandle" ∧ (parseMethodDescriptor y_Sums_place.desc).map (fun d => d.parameters.length) = some 3 := by decide +kernel
theorem d_Sums_place_0 : decode prog_9_method_2_code 0 = .ok (.aload_n 0, 1) := by decide +kernel
theorem d_Sums_place_1 : decode prog_9_method_2_code 1 = .ok (.iload_n 1, 1) := by decide +kernel
theorem d_Sums_place_2 : decode prog_9_method_2_code 2 = .ok (.aload_n 2, 1) := by decide +kernel
theorem d_Sums_place_3 : decode prog_9_method_2_code 3 = .ok (.iconst 0, 1) := by decide +kernel
theorem d_Sums_place_4 : decode prog_9_method_2_code 4 = .ok (.sipush 256, 3) := by decide +kernel
theorem d_Sums_place_7 : decode prog_9_method_2_code 7 = .ok (.invokevirtual 35, 3) := by decide +kernel
theorem d_Sums_place_10 : decode prog_9_method_2_code 10 = .ok (.aload_n 2, 1) := by decide +kernel
theorem d_Sums_place_11 : decode prog_9_method_2_code 11 = .ok (.invokestatic 39, 3) := by decide +kernel
theorem d_Sums_place_14 : decode prog_9_method_2_code 14 = .ok (.ifCond .ne 9, 3) := by decide +kernel
theorem d_Sums_place_17 : decode prog_9_method_2_code 17 = .ok (.aload_n 0, 1) := by decide +kernel
theorem d_Sums_place_18 : decode prog_9_method_2_code 18 = .ok (.iload_n 1, 1) := by decide +kernel
theorem d_Sums_place_19 : decode prog_9_method_2_code 19 = .ok (.aload_n 3, 1) := by decide +kernel
theorem d_Sums_place_20 : decode prog_9_method_2_code 20 = .ok (.invokevirtual 45, 3) := by decide +kernel
theorem d_Sums_place_23 : decode prog_9_method_2_code 23 = .ok (.return_, 1) := by decide +kernel
abbrev y_Sums_tabulate : MethodName := ⟨"KateDesk$Sums", "tabulate", "(ILKateDesk$Point;)V"⟩
theorem hd_Sums_tabulate : y_Sums_tabulate.cls ≠ "java/lang/invoke/MethodHandle" ∧ y_Sums_tabulate.cls ≠ "java/lang/invoke/VarHandle" ∧ (parseMethodDescriptor y_Sums_tabulate.desc).map (fun d => d.parameters.length) = some 2 := by decide +kernel
theorem d_Sums_tabulate_0 : decode prog_9_method_3_code 0 = .ok (.iload_n 1, 1) := by decide +kernel
theorem d_Sums_tabulate_1 : decode prog_9_method_3_code 1 = .ok (.iconst 4, 1) := by decide +kernel
theorem d_Sums_tabulate_2 : decode prog_9_method_3_code 2 = .ok (.imul, 1) := by decide +kernel
theorem d_Sums_tabulate_3 : decode prog_9_method_3_code 3 = .ok (.istore_n 3, 1) := by decide +kernel
theorem d_Sums_tabulate_4 : decode prog_9_method_3_code 4 = .ok (.aload_n 0, 1) := by decide +kernel
theorem d_Sums_tabulate_5 : decode prog_9_method_3_code 5 = .ok (.getfield 15, 3) := by decide +kernel
theorem d_Sums_tabulate_8 : decode prog_9_method_3_code 8 = .ok (.iload_n 3, 1) := by decide +kernel
theorem d_Sums_tabulate_9 : decode prog_9_method_3_code 9 = .ok (.aaload, 1) := by decide +kernel
theorem d_Sums_tabulate_10 : decode prog_9_method_3_code 10 = .ok (.aload_n 2, 1) := by decide +kernel
theorem d_Sums_tabulate_11 : decode prog_9_method_3_code 11 = .ok (.invokevirtual 49, 3) := by decide +kernel
theorem d_Sums_tabulate_14 : decode prog_9_method_3_code 14 = .ok (.aload_n 0, 1) := by decide +kernel
theorem d_Sums_tabulate_15 : decode prog_9_method_3_code 15 = .ok (.getfield 31, 3) := by decide +kernel
theorem d_Sums_tabulate_18 : decode prog_9_method_3_code 18 = .ok (.aload_n 0, 1) := by decide +kernel
theorem d_Sums_tabulate_19 : decode prog_9_method_3_code 19 = .ok (.getfield 27, 3) := by decide +kernel
theorem d_Sums_tabulate_22 : decode prog_9_method_3_code 22 = .ok (.aload_n 2, 1) := by decide +kernel
theorem d_Sums_tabulate_23 : decode prog_9_method_3_code 23 = .ok (.invokevirtual 53, 3) := by decide +kernel
theorem d_Sums_tabulate_26 : decode prog_9_method_3_code 26 = .ok (.iload_n 3, 1) := by decide +kernel
theorem d_Sums_tabulate_27 : decode prog_9_method_3_code 27 = .ok (.iconst 1, 1) := by decide +kernel
theorem d_Sums_tabulate_28 : decode prog_9_method_3_code 28 = .ok (.iadd, 1) := by decide +kernel
theorem d_Sums_tabulate_29 : decode prog_9_method_3_code 29 = .ok (.istore 4, 2) := by decide +kernel
theorem d_Sums_tabulate_31 : decode prog_9_method_3_code 31 = .ok (.iload 4, 2) := by decide +kernel
theorem d_Sums_tabulate_33 : decode prog_9_method_3_code 33 = .ok (.iload_n 3, 1) := by decide +kernel
theorem d_Sums_tabulate_34 : decode prog_9_method_3_code 34 = .ok (.iconst 4, 1) := by decide +kernel
theorem d_Sums_tabulate_35 : decode prog_9_method_3_code 35 = .ok (.iadd, 1) := by decide +kernel
theorem d_Sums_tabulate_36 : decode prog_9_method_3_code 36 = .ok (.if_icmp .ge 37, 3) := by decide +kernel
theorem d_Sums_tabulate_39 : decode prog_9_method_3_code 39 = .ok (.aload_n 0, 1) := by decide +kernel
theorem d_Sums_tabulate_40 : decode prog_9_method_3_code 40 = .ok (.getfield 31, 3) := by decide +kernel
theorem d_Sums_tabulate_43 : decode prog_9_method_3_code 43 = .ok (.aload_n 0, 1) := by decide +kernel
theorem d_Sums_tabulate_44 : decode prog_9_method_3_code 44 = .ok (.getfield 15, 3) := by decide +kernel
theorem d_Sums_tabulate_47 : decode prog_9_method_3_code 47 = .ok (.iload 4, 2) := by decide +kernel
theorem d_Sums_tabulate_49 : decode prog_9_method_3_code 49 = .ok (.aaload, 1) := by decide +kernel
theorem d_Sums_tabulate_50 : decode prog_9_method_3_code 50 = .ok (.aload_n 0, 1) := by decide +kernel
theorem d_Sums_tabulate_51 : decode prog_9_method_3_code 51 = .ok (.getfield 15, 3) := by decide +kernel
theorem d_Sums_tabulate_54 : decode prog_9_method_3_code 54 = .ok (.iload 4, 2) := by decide +kernel
theorem d_Sums_tabulate_56 : decode prog_9_method_3_code 56 = .ok (.iconst 1, 1) := by decide +kernel
theorem d_Sums_tabulate_57 : decode prog_9_method_3_code 57 = .ok (.isub, 1) := by decide +kernel
theorem d_Sums_tabulate_58 : decode prog_9_method_3_code 58 = .ok (.aaload, 1) := by decide +kernel
theorem d_Sums_tabulate_59 : decode prog_9_method_3_code 59 = .ok (.aload_n 0, 1) := by decide +kernel
theorem d_Sums_tabulate_60 : decode prog_9_method_3_code 60 = .ok (.getfield 27, 3) := by decide +kernel
theorem d_Sums_tabulate_63 : decode prog_9_method_3_code 63 = .ok (.iconst 0, 1) := by decide +kernel
theorem d_Sums_tabulate_64 : decode prog_9_method_3_code 64 = .ok (.invokevirtual 59, 3) := by decide +kernel
theorem d_Sums_tabulate_67 : decode prog_9_method_3_code 67 = .ok (.iinc 4 1, 3) := by decide +kernel
theorem d_Sums_tabulate_70 : decode prog_9_method_3_code 70 = .ok (.goto (-39), 3) := by decide +kernel
theorem d_Sums_tabulate_73 : decode prog_9_method_3_code 73 = .ok (.return_, 1) := by decide +kernel
abbrev y_Sums_total : MethodName := ⟨"KateDesk$Sums", "total", "(LKateDesk$Point;I)V"⟩
theorem hd_Sums_total : y_Sums_total.cls ≠ "java/lang/invoke/MethodHandle" ∧ y_Sums_total.cls ≠ "java/lang/invoke/VarHandle" ∧ (parseMethodDescriptor y_Sums_total.desc).map (fun d => d.parameters.length) = some 2 := by decide +kernel
theorem d_Sums_total_0 : decode prog_9_method_5_code 0 = .ok (.aload_n 0, 1) := by decide +kernel
theorem d_Sums_total_1 : decode prog_9_method_5_code 1 = .ok (.getfield 27, 3) := by decide +kernel
theorem d_Sums_total_4 : decode prog_9_method_5_code 4 = .ok (.invokevirtual 79, 3) := by decide +kernel
theorem d_Sums_total_7 : decode prog_9_method_5_code 7 = .ok (.iconst 0, 1) := by decide +kernel
theorem d_Sums_total_8 : decode prog_9_method_5_code 8 = .ok (.istore_n 3, 1) := by decide +kernel
theorem d_Sums_total_9 : decode prog_9_method_5_code 9 = .ok (.sipush 256, 3) := by decide +kernel
theorem d_Sums_total_12 : decode prog_9_method_5_code 12 = .ok (.istore 4, 2) := by decide +kernel
theorem d_Sums_total_14 : decode prog_9_method_5_code 14 = .ok (.iload 4, 2) := by decide +kernel
theorem d_Sums_total_16 : decode prog_9_method_5_code 16 = .ok (.ifCond .lt 104, 3) := by decide +kernel
theorem d_Sums_total_19 : decode prog_9_method_5_code 19 = .ok (.iload_n 3, 1) := by decide +kernel
theorem d_Sums_total_20 : decode prog_9_method_5_code 20 = .ok (.ifCond .eq 18, 3) := by decide +kernel
theorem d_Sums_total_23 : decode prog_9_method_5_code 23 = .ok (.aload_n 0, 1) := by decide +kernel
theorem d_Sums_total_24 : decode prog_9_method_5_code 24 = .ok (.getfield 31, 3) := by decide +kernel
theorem d_Sums_total_27 : decode prog_9_method_5_code 27 = .ok (.aload_n 0, 1) := by decide +kernel
theorem d_Sums_total_28 : decode prog_9_method_5_code 28 = .ok (.getfield 27, 3) := by decide +kernel
theorem d_Sums_total_31 : decode prog_9_method_5_code 31 = .ok (.aload_n 0, 1) := by decide +kernel
theorem d_Sums_total_32 : decode prog_9_method_5_code 32 = .ok (.getfield 27, 3) := by decide +kernel
theorem d_Sums_total_35 : decode prog_9_method_5_code 35 = .ok (.invokevirtual 53, 3) := by decide +kernel
theorem d_Sums_total_38 : decode prog_9_method_5_code 38 = .ok (.iconst 0, 1) := by decide +kernel
theorem d_Sums_total_39 : decode prog_9_method_5_code 39 = .ok (.istore 5, 2) := by decide +kernel
theorem d_Sums_total_41 : decode prog_9_method_5_code 41 = .ok (.iload 5, 2) := by decide +kernel
theorem d_Sums_total_43 : decode prog_9_method_5_code 43 = .ok (.iload_n 2, 1) := by decide +kernel
theorem d_Sums_total_44 : decode prog_9_method_5_code 44 = .ok (.if_icmp .ge 70, 3) := by decide +kernel
theorem d_Sums_total_47 : decode prog_9_method_5_code 47 = .ok (.aload_n 0, 1) := by decide +kernel
theorem d_Sums_total_48 : decode prog_9_method_5_code 48 = .ok (.getfield 21, 3) := by decide +kernel
theorem d_Sums_total_51 : decode prog_9_method_5_code 51 = .ok (.iload 5, 2) := by decide +kernel
theorem d_Sums_total_53 : decode prog_9_method_5_code 53 = .ok (.aaload, 1) := by decide +kernel
theorem d_Sums_total_54 : decode prog_9_method_5_code 54 = .ok (.iload 4, 2) := by decide +kernel
theorem d_Sums_total_56 : decode prog_9_method_5_code 56 = .ok (.baload, 1) := by decide +kernel
theorem d_Sums_total_57 : decode prog_9_method_5_code 57 = .ok (.istore 6, 2) := by decide +kernel
theorem d_Sums_total_59 : decode prog_9_method_5_code 59 = .ok (.iload 6, 2) := by decide +kernel
theorem d_Sums_total_61 : decode prog_9_method_5_code 61 = .ok (.ifCond .eq 47, 3) := by decide +kernel
theorem d_Sums_total_64 : decode prog_9_method_5_code 64 = .ok (.aload_n 0, 1) := by decide +kernel
theorem d_Sums_total_65 : decode prog_9_method_5_code 65 = .ok (.getfield 31, 3) := by decide +kernel
theorem d_Sums_total_68 : decode prog_9_method_5_code 68 = .ok (.aload_n 0, 1) := by decide +kernel
theorem d_Sums_total_69 : decode prog_9_method_5_code 69 = .ok (.getfield 27, 3) := by decide +kernel
theorem d_Sums_total_72 : decode prog_9_method_5_code 72 = .ok (.aload_n 0, 1) := by decide +kernel
theorem d_Sums_total_73 : decode prog_9_method_5_code 73 = .ok (.getfield 27, 3) := by decide +kernel
theorem d_Sums_total_76 : decode prog_9_method_5_code 76 = .ok (.aload_n 0, 1) := by decide +kernel
theorem d_Sums_total_77 : decode prog_9_method_5_code 77 = .ok (.getfield 15, 3) := by decide +kernel
theorem d_Sums_total_80 : decode prog_9_method_5_code 80 = .ok (.iload 5, 2) := by decide +kernel
theorem d_Sums_total_82 : decode prog_9_method_5_code 82 = .ok (.iconst 4, 1) := by decide +kernel
theorem d_Sums_total_83 : decode prog_9_method_5_code 83 = .ok (.imul, 1) := by decide +kernel
theorem d_Sums_total_84 : decode prog_9_method_5_code 84 = .ok (.iload 6, 2) := by decide +kernel
theorem d_Sums_total_86 : decode prog_9_method_5_code 86 = .ok (.invokestatic 82, 3) := by decide +kernel
theorem d_Sums_total_89 : decode prog_9_method_5_code 89 = .ok (.iconst 2, 1) := by decide +kernel
theorem d_Sums_total_90 : decode prog_9_method_5_code 90 = .ok (.idiv, 1) := by decide +kernel
theorem d_Sums_total_91 : decode prog_9_method_5_code 91 = .ok (.iadd, 1) := by decide +kernel
theorem d_Sums_total_92 : decode prog_9_method_5_code 92 = .ok (.aaload, 1) := by decide +kernel
theorem d_Sums_total_93 : decode prog_9_method_5_code 93 = .ok (.iload 6, 2) := by decide +kernel
theorem d_Sums_total_95 : decode prog_9_method_5_code 95 = .ok (.ifCond .ge 7, 3) := by decide +kernel
theorem d_Sums_total_98 : decode prog_9_method_5_code 98 = .ok (.iconst 1, 1) := by decide +kernel
theorem d_Sums_total_99 : decode prog_9_method_5_code 99 = .ok (.goto 4, 3) := by decide +kernel
theorem d_Sums_total_102 : decode prog_9_method_5_code 102 = .ok (.iconst 0, 1) := by decide +kernel
theorem d_Sums_total_103 : decode prog_9_method_5_code 103 = .ok (.invokevirtual 59, 3) := by decide +kernel
theorem d_Sums_total_106 : decode prog_9_method_5_code 106 = .ok (.iconst 1, 1) := by decide +kernel
theorem d_Sums_total_107 : decode prog_9_method_5_code 107 = .ok (.istore_n 3, 1) := by decide +kernel
theorem d_Sums_total_108 : decode prog_9_method_5_code 108 = .ok (.iinc 5 1, 3) := by decide +kernel
theorem d_Sums_total_111 : decode prog_9_method_5_code 111 = .ok (.goto (-70), 3) := by decide +kernel
theorem d_Sums_total_114 : decode prog_9_method_5_code 114 = .ok (.iinc 4 (-1), 3) := by decide +kernel
theorem d_Sums_total_117 : decode prog_9_method_5_code 117 = .ok (.goto (-103), 3) := by decide +kernel
theorem d_Sums_total_120 : decode prog_9_method_5_code 120 = .ok (.aload_n 1, 1) := by decide +kernel
theorem d_Sums_total_121 : decode prog_9_method_5_code 121 = .ok (.aload_n 0, 1) := by decide +kernel
theorem d_Sums_total_122 : decode prog_9_method_5_code 122 = .ok (.getfield 27, 3) := by decide +kernel
theorem d_Sums_total_125 : decode prog_9_method_5_code 125 = .ok (.invokevirtual 49, 3) := by decide +kernel
theorem d_Sums_total_128 : decode prog_9_method_5_code 128 = .ok (.return_, 1) := by decide +kernel
set_option maxHeartbeats 4000000 in
set_option maxRecDepth 100000 in
/-- of 0: a row of 0 -/
theorem z_Sums_recode (l : Launch) (g : WG) (n0 : Nat → Prop) (o cu od dg sm s1 s2 s3 : Nat) (fo : Nat) (F : Nat → Nat) (mi : Int64) (X : Nat → Nat) (O O1 O2 O3 DG : Nat → Nat) (t a cnt : Nat) (from0 : Int32) (ht : t < 16) (hc : cnt < 257) : Ctr l y_Sums_recode (.code y_Sums_recode prog_9_method_4_code 10 none) 1 26 0 0 n0 g [.ref o, .int (nI t), .ref a, .int from0, .int (nI cnt)] (fun H => SU g n0 H o cu od dg sm s1 s2 s3 fo F mi X O O1 O2 O3 DG ∧ AJ g H a 14 (fun _ => 0)) (QV (fun H H' => KJ g (fun q => q = DG t) H H' ∧ AB g H' (DG t) 257 (fun _ => 0))) := by
  refine ctr_mk l (lv0 := [(0, .ref o), (1, .int (nI t)), (2, .ref a), (3, .int from0), (4, .int (nI cnt))]) (by decide) (Nat.le_of_ble_eq_true rfl) rfl ?_
  intro p e s m below meth c ls E hr hlk hnm hl hP
  have hx := E.1
  have hb := E.2.1
  have hK := E.2.2.2.2.2
  have hF : ∀ q ∈ ([] : List Loc), n0 q.base := fun q hq => absurd hq List.not_mem_nil
  obtain ⟨hsu, hA⟩ := hP
  refine lv_aload_n hx hb d_Sums_recode_0 rfl (lv_at hl 0 rfl) ?_
  refine q_get (C := "KateDesk$Sums") (T := T_Sums) (N := 4) (ci := 4) E hsu.1 in_Sums rfl 2 (by decide) w_249 rfl rfl d_Sums_recode_1 ?_
  refine lv_iload_n hx hb d_Sums_recode_4 rfl (lv_at hl 1 rfl) ?_
  refine q_aald (t := 5) E rfl rfl hsu.2.2.2.2.2.1 t rfl ht (by decide) d_Sums_recode_5 ?_
  refine lv_astore (lv' := [(5, .ref (DG t)), (0, .ref o), (1, .int (nI t)), (2, .ref a), (3, .int from0), (4, .int (nI cnt))]) hx hb d_Sums_recode_6 hl (by decide) rfl (fun ls hl => ?_)
  refine lv_aload hx hb d_Sums_recode_8 (lv_at hl 0 rfl) ?_
  refine lv_iconst (v := nI 0) hx hb d_Sums_recode_10 (by decide) ?_
  obtain ⟨hd0, f0, hf0⟩ := hsu.2.2.2.2.2.2 t ht
  refine q_cS (rest := []) E (c_Arrays_fill0 l g n0 (DG t) 257 (nI 0) f0 (by decide)) w_684 w_21 w_682 w_683 hd_Arrays_fill0 rfl ⟨by decide, by decide⟩ (⟨hd0, hf0⟩) hF hl.1 rfl (Nat.le_of_ble_eq_true rfl) d_Sums_recode_11 ⟨by decide, by decide⟩ (qv (fun H1 locs hq hF => ?_))
  have hk := hq.1
  have hz : AB g H1 (DG t) 257 (fun _ => 0) := hq.2
  have hA : AJ g H1 a 14 (fun _ => 0) := hk.ajo (aj_ne hA hK.jb hf0) hA
  refine lv_iconst (v := nI 0) hx hb d_Sums_recode_14 (by decide) ?_
  refine lv_istore (lv' := [(6, .int (nI 0)), (5, .ref (DG t)), (0, .ref o), (1, .int (nI t)), (2, .ref a), (3, .int from0), (4, .int (nI cnt))]) hx hb d_Sums_recode_15 hl (by decide) rfl (fun ls hl => ?_)
  refine lv_iconst (v := nI 0) hx hb d_Sums_recode_17 (by decide) ?_
  refine lv_istore (lv' := [(7, .int (nI 0)), (6, .int (nI 0)), (5, .ref (DG t)), (0, .ref o), (1, .int (nI t)), (2, .ref a), (3, .int from0), (4, .int (nI cnt))]) hx hb d_Sums_recode_18 hl (by decide) rfl (fun ls hl => ?_)
  refine lv_iconst (v := nI 0) hx hb d_Sums_recode_20 (by decide) ?_
  refine lv_istore (lv' := [(8, .int (nI 0)), (7, .int (nI 0)), (6, .int (nI 0)), (5, .ref (DG t)), (0, .ref o), (1, .int (nI t)), (2, .ref a), (3, .int from0), (4, .int (nI cnt))]) hx hb d_Sums_recode_21 hl (by decide) rfl (fun ls hl => ?_)
  have hl : lv_has ls 10 [(8, .int (nI 0)), (6, .int (nI 0)), (7, .int (nI 0)), (0, .ref o), (2, .ref a), (3, .int from0), (4, .int (nI cnt)), (5, .ref (DG t))] := lv_sub hl [0, 2, 1, 4, 6, 7, 8, 3] rfl
  have loop : ∀ (k : Nat) (i : Nat) (locs : List Loc) (ls : Array Slot), i + k = cnt + 1 → (∀ q ∈ locs, n0 q.base) → lv_has ls 10 [(8, .int (nI i)), (6, .int (nI 0)), (7, .int (nI 0)), (0, .ref o), (2, .ref a), (3, .int from0), (4, .int (nI cnt)), (5, .ref (DG t))] → W p l e { frames := 1, cells := 0, slots := 0, locals := 26 } s m [.ref o, .int (nI t), .ref a, .int from0, .int (nI cnt)].toArray below meth c H1 locs 0 0 (MQ below (QcP (QV (fun H H' => KJ g (fun q => q = DG t) H H' ∧ AB g H' (DG t) 257 (fun _ => 0)))) [.ref o, .int (nI t), .ref a, .int from0, .int (nI cnt)].toArray s 0 0 (fun q => n0 q)) (F0 m 23 ls []) := by
    intro k
    induction k with
    | zero =>
      intro  i   locs   ls hi hF hl
      obtain rfl : i = cnt + 1 := by omega
      refine lv_iload hx hb d_Sums_recode_23 (lv_at hl 0 rfl) ?_
      refine lv_iload hx hb d_Sums_recode_25 (lv_at hl 6 rfl) ?_
      refine lv_icmp_gt (tgt := 99) hx hb d_Sums_recode_27 (by decide) (fun _ => ?_) (fun h9 => absurd (nI_lt (by omega) (by omega)) h9)
      exact q_vret E hr hlk (⟨rfl, hk, hz⟩) hF d_Sums_recode_99
    | succ k ih =>
      intro  i   locs   ls hi hF hl
      refine lv_iload hx hb d_Sums_recode_23 (lv_at hl 0 rfl) ?_
      refine lv_iload hx hb d_Sums_recode_25 (lv_at hl 6 rfl) ?_
      refine lv_icmp_gt (tgt := 99) hx hb d_Sums_recode_27 (by decide) (fun h9 => absurd h9 (nI_nlt (by omega) (by omega))) (fun _ => ?_)
      refine lv_iload hx hb d_Sums_recode_30 (lv_at hl 1 rfl) ?_
      refine lv_aload_n hx hb d_Sums_recode_32 rfl (lv_at hl 4 rfl) ?_
      refine lv_iload_n hx hb d_Sums_recode_33 rfl (lv_at hl 5 rfl) ?_
      refine lv_iload hx hb d_Sums_recode_34 (lv_at hl 0 rfl) ?_
      refine lv_iadd hx hb d_Sums_recode_36 ?_
      refine lv_iconst (v := nI 4) hx hb d_Sums_recode_37 (by decide) ?_
      refine lv_iload hx hb d_Sums_recode_38 (lv_at hl 6 rfl) ?_
      refine lv_iload hx hb d_Sums_recode_40 (lv_at hl 0 rfl) ?_
      refine lv_isub hx hb d_Sums_recode_42 ?_
      refine va_mmin E.1 E.2.1 (E.2.2.1.trans hl.1.symm) E.2.2.2.1 (E.2.2.2.2.1 _ w_685) (E.2.2.2.2.1 _ w_686) (E.2.2.2.2.1 _ w_23) (E.2.2.2.2.1 _ w_687) (by decide) (Nat.le_of_ble_eq_true rfl) (Nat.le_of_ble_eq_true rfl) (Nat.le_of_ble_eq_true rfl) d_Sums_recode_43 ?_
      refine lv_topi (fun r1 _ => ?_)
      refine q_cS (rest := [.int (nI 0)]) E (z_Limbs_bits l g n0 a _ _) w_271 w_5 w_688 w_270 hd_Limbs_bits rfl ⟨by decide, by decide⟩ hA hF hl.1 rfl (Nat.le_of_ble_eq_true rfl) d_Sums_recode_46 ⟨by decide, by decide⟩ (ql (fun r2 H1 locs hq hF => ?_))
      obtain ⟨rfl, hq⟩ := hq
      obtain rfl := hq
      refine lv_l2i (v := (0 : Int64).toInt32) hx hb d_Sums_recode_49 rfl ?_
      refine lv_iadd hx hb d_Sums_recode_50 ?_
      refine lv_topi (fun t9 e9 => ?_)
      obtain rfl : t9 = nI 0 := e9.trans (by decide)
      refine lv_istore (lv' := [(9, .int (nI 0)), (8, .int (nI i)), (6, .int (nI 0)), (7, .int (nI 0)), (0, .ref o), (2, .ref a), (3, .int from0), (4, .int (nI cnt)), (5, .ref (DG t))]) hx hb d_Sums_recode_51 hl (by decide) rfl (fun ls hl => ?_)
      refine lv_iload hx hb d_Sums_recode_53 (lv_at hl 1 rfl) ?_
      refine lv_iload hx hb d_Sums_recode_55 (lv_at hl 3 rfl) ?_
      refine lv_icmp_lt (tgt := 93) hx hb d_Sums_recode_57 (by decide) (fun h => ?_) (fun h => ?_)
      rotate_left
      · skip
        refine lv_iload hx hb d_Sums_recode_60 (lv_at hl 0 rfl) ?_
        refine lv_iconst (v := nI 1) hx hb d_Sums_recode_62 (by decide) ?_
        refine lv_iand hx hb d_Sums_recode_63 ?_
        refine lv_iconst (v := nI 1) hx hb d_Sums_recode_64 (by decide) ?_
        refine lv_icmp_ne (tgt := 93) hx hb d_Sums_recode_65 (by decide) (fun _ => ?_) (fun h9 => absurd h9 (by decide))
        refine lv_iinc (k := 1) (v := nI (i + 1)) (lv' := [(8, .int (nI (i + 1))), (9, .int (nI 0)), (6, .int (nI 0)), (7, .int (nI 0)), (0, .ref o), (2, .ref a), (3, .int from0), (4, .int (nI cnt)), (5, .ref (DG t))]) hx hb d_Sums_recode_93 hl rfl (i_inc i) (by decide) rfl (fun ls hl => ?_)
        refine lv_goto (tgt := 23) hx hb d_Sums_recode_96 (by decide) ?_
        have hl : lv_has ls 10 [(8, .int (nI (i + 1))), (6, .int (nI 0)), (7, .int (nI 0)), (0, .ref o), (2, .ref a), (3, .int from0), (4, .int (nI cnt)), (5, .ref (DG t))] := lv_sub hl [0, 2, 3, 4, 5, 6, 7, 8] rfl
        exact ih (i + 1) _ ls (by omega) hF hl
      refine lv_iinc (k := 1) (v := nI (i + 1)) (lv' := [(8, .int (nI (i + 1))), (9, .int (nI 0)), (6, .int (nI 0)), (7, .int (nI 0)), (0, .ref o), (2, .ref a), (3, .int from0), (4, .int (nI cnt)), (5, .ref (DG t))]) hx hb d_Sums_recode_93 hl rfl (i_inc i) (by decide) rfl (fun ls hl => ?_)
      refine lv_goto (tgt := 23) hx hb d_Sums_recode_96 (by decide) ?_
      have hl : lv_has ls 10 [(8, .int (nI (i + 1))), (6, .int (nI 0)), (7, .int (nI 0)), (0, .ref o), (2, .ref a), (3, .int from0), (4, .int (nI cnt)), (5, .ref (DG t))] := lv_sub hl [0, 2, 3, 4, 5, 6, 7, 8] rfl
      exact ih (i + 1) _ ls (by omega) hF hl
  exact loop (cnt + 1) 0 _ ls (by omega) hF hl
set_option maxHeartbeats 4000000 in
set_option maxRecDepth 100000 in
/-- of 0: a row of 0, no table -/
theorem z_Sums_place (l : Launch) (g : WG) (n0 : Nat → Prop) (o cu od dg sm s1 s2 s3 : Nat) (fo : Nat) (F : Nat → Nat) (mi : Int64) (X : Nat → Nat) (O O1 O2 O3 DG : Nat → Nat) (t a b : Nat) (ht : t < 16) : Ctr l y_Sums_place (.code y_Sums_place prog_9_method_2_code 4 none) 2 55 0 0 n0 g [.ref o, .int (nI t), .ref a, .ref b] (fun H => SU g n0 H o cu od dg sm s1 s2 s3 fo F mi X O O1 O2 O3 DG ∧ AJ g H a 14 (fun _ => 0)) (QV (fun H H' => KJ g (fun q => q = DG t) H H' ∧ AB g H' (DG t) 257 (fun _ => 0))) := by
  refine ctr_mk l (lv0 := [(0, .ref o), (1, .int (nI t)), (2, .ref a), (3, .ref b)]) (by decide) (Nat.le_of_ble_eq_true rfl) rfl ?_
  intro p e s m below meth c ls E hr hlk hnm hl hP
  have hx := E.1
  have hb := E.2.1
  have hK := E.2.2.2.2.2
  have hF : ∀ q ∈ ([] : List Loc), n0 q.base := fun q hq => absurd hq List.not_mem_nil
  obtain ⟨hsu, hA⟩ := hP
  refine lv_aload_n hx hb d_Sums_place_0 rfl (lv_at hl 0 rfl) ?_
  refine lv_iload_n hx hb d_Sums_place_1 rfl (lv_at hl 1 rfl) ?_
  refine lv_aload_n hx hb d_Sums_place_2 rfl (lv_at hl 2 rfl) ?_
  refine lv_iconst (v := nI 0) hx hb d_Sums_place_3 (by decide) ?_
  refine lv_sipush (v := nI 256) hx hb d_Sums_place_4 (by decide) ?_
  refine q_cV (rest := []) E (z_Sums_recode l g n0 o cu od dg sm s1 s2 s3 fo F mi X O O1 O2 O3 DG t a 256 _ ht (by decide)) w_681 w_12 w_678 w_679 w_680 hd_Sums_recode rfl ⟨by decide, by decide⟩ (OB.recv E.2.2.2.2.2 (by rfl) hsu.1) (⟨hsu, hA⟩) hF hl.1 rfl (Nat.le_of_ble_eq_true rfl) d_Sums_place_7 ⟨by decide, by decide⟩ (qv (fun H1 locs hq hF => ?_))
  have hA := hq.1.ajo (aj_ne hA hK.jb (hsu.2.2.2.2.2.2 t ht).2.choose_spec) hA
  have hq9 := hq
  refine lv_aload_n hx hb d_Sums_place_10 rfl (lv_at hl 2 rfl) ?_
  refine q_cS (rest := []) E (z_Limbs_isZero l g n0 a) w_548 w_5 w_689 w_547 hd_Limbs_isZero rfl ⟨by decide, by decide⟩ hA hF hl.1 rfl (Nat.le_of_ble_eq_true rfl) d_Sums_place_11 ⟨by decide, by decide⟩ (qi (fun r H2 locs hq hF => ?_))
  obtain ⟨rfl, hq⟩ := hq
  obtain rfl := hq
  refine lv_if_ne (tgt := 23) hx hb d_Sums_place_14 (by decide) (fun _ => ?_) (fun h9 => absurd h9 (by decide))
  exact q_vret E hr hlk (⟨rfl, hq9⟩) hF d_Sums_place_23
set_option maxHeartbeats 4000000 in
set_option maxRecDepth 100000 in
/-- all digits 0: nothing -/
theorem z_Sums_total (l : Launch) (g : WG) (n0 : Nat → Prop) (o cu od dg sm s1 s2 s3 : Nat) (fo : Nat) (F : Nat → Nat) (mi : Int64) (X : Nat → Nat) (O O1 O2 O3 DG : Nat → Nat) (n : Nat) (t t1 t2 t3 : Nat) (hn : n ≤ 16) (hs : s3 ≠ s2) (hs1 : s3 ≠ t1) (hs2 : s3 ≠ t2) : Ctr l y_Sums_total (.code y_Sums_total prog_9_method_5_code 7 none) 3 102 0 0 n0 g [.ref o, .ref t, .int (nI n)] (fun H => SU g n0 H o cu od dg sm s1 s2 s3 fo F mi X O O1 O2 O3 DG ∧ PT g n0 H t t1 t2 t3 ∧ ∀ k, k < n → AB g H (DG k) 257 (fun _ => 0)) (QV (fun H H' => KJ g (fun q => q = s1 ∨ q = s2 ∨ q = s3 ∨ q = t1 ∨ q = t2 ∨ q = t3) H H' ∧ AJ g H' t3 14 (fun _ => 0))) := by
  refine ctr_mk l (lv0 := [(0, .ref o), (1, .ref t), (2, .int (nI n))]) (by decide) (Nat.le_of_ble_eq_true rfl) rfl ?_
  intro p e s m below meth c ls E hr hlk hnm hl hP
  have hx := E.1
  have hb := E.2.1
  have hK := E.2.2.2.2.2
  have hF : ∀ q ∈ ([] : List Loc), n0 q.base := fun q hq => absurd hq List.not_mem_nil
  obtain ⟨hsu, h_t, hdz⟩ := hP
  have hk : KJ g (fun q => q = s1 ∨ q = s2 ∨ q = s3 ∨ q = t1 ∨ q = t2 ∨ q = t3) s.heap s.heap := KJ.rf
  refine lv_aload_n hx hb d_Sums_total_0 rfl (lv_at hl 0 rfl) ?_
  refine q_get (C := "KateDesk$Sums") (T := T_Sums) (N := 4) (ci := 4) E ((hk.su hK hsu).1) in_Sums rfl 3 (by decide) w_250 rfl rfl d_Sums_total_1 ?_
  refine q_cV (rest := []) E (c_Point_becomeNothing l g n0 sm s1 s2 s3 hs) w_635 w_2 w_721 w_633 w_634 hd_Point_becomeNothing rfl ⟨by decide, by decide⟩ (OB.recv E.2.2.2.2.2 (by rfl) hsu.2.2.1.1) hsu.2.2.1 hF hl.1 rfl (Nat.le_of_ble_eq_true rfl) d_Sums_total_4 ⟨by decide, by decide⟩ (qv (fun H1 locs hq hF => ?_))
  have hz := hq.2
  have hk3 := hq.1
  have hk := hk.tr (hq.1.mono (fun q h => h.elim Or.inl (fun h => h.elim (fun h => Or.inr (Or.inl h)) (fun h => Or.inr (Or.inr (Or.inl h))))))
  have hdz : ∀ k, k < n → AB g H1 (DG k) 257 (fun _ => 0) := fun k hkn => hk3.abo (fun h => h.elim (fun e => aj_ne hsu.2.2.1.2.1.2.choose_spec hK.jb (hdz k hkn) e.symm) (fun h => h.elim (fun e => aj_ne hsu.2.2.1.2.2.1.2.choose_spec hK.jb (hdz k hkn) e.symm) (fun e => aj_ne hsu.2.2.1.2.2.2.2.choose_spec hK.jb (hdz k hkn) e.symm))) (hdz k hkn)
  refine lv_iconst (v := nI 0) hx hb d_Sums_total_7 (by decide) ?_
  refine lv_istore_n (lv' := [(3, .int (nI 0)), (0, .ref o), (1, .ref t), (2, .int (nI n))]) hx hb d_Sums_total_8 rfl hl (by decide) rfl (fun ls hl => ?_)
  refine lv_sipush (v := nI 256) hx hb d_Sums_total_9 (by decide) ?_
  refine lv_istore (lv' := [(4, .int (nI 256)), (3, .int (nI 0)), (0, .ref o), (1, .ref t), (2, .int (nI n))]) hx hb d_Sums_total_12 hl (by decide) rfl (fun ls hl => ?_)
  have hl : lv_has ls 7 [(4, .int (nI 256)), (3, .int (nI 0)), (0, .ref o), (1, .ref t), (2, .int (nI n))] := lv_sub hl [0, 1, 2, 3, 4] rfl
  have loop : ∀ (k : Nat) (ls : Array Slot) (x : Int32), k ≤ 257 → x = nI k - 1 → lv_has ls 7 [(4, .int x), (3, .int (nI 0)), (0, .ref o), (1, .ref t), (2, .int (nI n))] → W p l e { frames := 3, cells := 0, slots := 0, locals := 102 } s m [.ref o, .ref t, .int (nI n)].toArray below meth c H1 locs 0 0 (MQ below (QcP (QV (fun H H' => KJ g (fun q => q = s1 ∨ q = s2 ∨ q = s3 ∨ q = t1 ∨ q = t2 ∨ q = t3) H H' ∧ AJ g H' t3 14 (fun _ => 0)))) [.ref o, .ref t, .int (nI n)].toArray s 0 0 (fun q => n0 q)) (F0 m 14 ls []) := by
    intro k
    induction k with
    | zero =>
      intro  ls   x hk0 hxx hl
      subst hxx
      refine lv_iload hx hb d_Sums_total_14 (lv_at hl 0 rfl) ?_
      refine lv_if_lt (tgt := 120) hx hb d_Sums_total_16 (by decide) (fun _ => ?_) (fun h9 => absurd (by decide) h9)
      refine lv_aload_n hx hb d_Sums_total_120 rfl (lv_at hl 3 rfl) ?_
      refine lv_aload_n hx hb d_Sums_total_121 rfl (lv_at hl 2 rfl) ?_
      refine q_get (C := "KateDesk$Sums") (T := T_Sums) (N := 4) (ci := 4) E ((hk.su hK hsu).1) in_Sums rfl 3 (by decide) w_250 rfl rfl d_Sums_total_122 ?_
      refine q_cV (rest := []) E (c_Point_copy l g n0 t t1 t2 t3 sm s1 s2 s3) w_697 w_2 w_694 w_695 w_696 hd_Point_copy rfl ⟨by decide, by decide⟩ (OB.recv E.2.2.2.2.2 (by rfl) ((hk.pt hK h_t).1)) (⟨hk.pt hK h_t, (hk.su hK hsu).2.2.1⟩) hF hl.1 rfl (Nat.le_of_ble_eq_true rfl) d_Sums_total_125 ⟨by decide, by decide⟩ (qv (fun H1 locs hq hF => ?_))
      have hk := hk.tr (hq.1.mono (fun q h => h.elim (fun h => Or.inr (Or.inr (Or.inr (Or.inl h)))) (fun h => h.elim (fun h => Or.inr (Or.inr (Or.inr (Or.inr (Or.inl h))))) (fun h => Or.inr (Or.inr (Or.inr (Or.inr (Or.inr h))))))))
      exact q_vret E hr hlk (⟨rfl, hk, hq.2 _ hs1 hs2 hz⟩) hF d_Sums_total_128
    | succ k ih =>
      intro  ls   x hk0 hxx hl
      rw [nI_pred] at hxx
      subst hxx
      refine lv_iload hx hb d_Sums_total_14 (lv_at hl 0 rfl) ?_
      refine lv_if_lt (tgt := 120) hx hb d_Sums_total_16 (by decide) (fun h9 => absurd h9 (nI_pos (by omega))) (fun _ => ?_)
      refine lv_iload_n hx hb d_Sums_total_19 rfl (lv_at hl 1 rfl) ?_
      refine lv_if_eq (tgt := 38) hx hb d_Sums_total_20 (by decide) (fun _ => ?_) (fun h9 => absurd (by decide) h9)
      refine lv_iconst (v := nI 0) hx hb d_Sums_total_38 (by decide) ?_
      refine lv_istore (lv' := [(5, .int (nI 0)), (4, .int (nI k)), (3, .int (nI 0)), (0, .ref o), (1, .ref t), (2, .int (nI n))]) hx hb d_Sums_total_39 hl (by decide) rfl (fun ls hl => ?_)
      have hl : lv_has ls 7 [(5, .int (nI 0)), (4, .int (nI k)), (3, .int (nI 0)), (0, .ref o), (1, .ref t), (2, .int (nI n))] := lv_sub hl [0, 1, 2, 3, 4, 5] rfl
      have inner : ∀ (k2 : Nat) (i : Nat) (ls : Array Slot), i + k2 = n → lv_has ls 7 [(5, .int (nI i)), (4, .int (nI k)), (3, .int (nI 0)), (0, .ref o), (1, .ref t), (2, .int (nI n))] → W p l e { frames := 3, cells := 0, slots := 0, locals := 102 } s m [.ref o, .ref t, .int (nI n)].toArray below meth c H1 locs 0 0 (MQ below (QcP (QV (fun H H' => KJ g (fun q => q = s1 ∨ q = s2 ∨ q = s3 ∨ q = t1 ∨ q = t2 ∨ q = t3) H H' ∧ AJ g H' t3 14 (fun _ => 0)))) [.ref o, .ref t, .int (nI n)].toArray s 0 0 (fun q => n0 q)) (F0 m 41 ls []) := by
        intro k2
        induction k2 with
        | zero =>
          intro  i   ls hi hl
          obtain rfl : i = n := by omega
          refine lv_iload hx hb d_Sums_total_41 (lv_at hl 0 rfl) ?_
          refine lv_iload_n hx hb d_Sums_total_43 rfl (lv_at hl 5 rfl) ?_
          refine lv_icmp_ge (tgt := 114) hx hb d_Sums_total_44 (by decide) (fun _ => ?_) (fun h9 => absurd (nI_le (Nat.le_refl _) (by omega)) h9)
          refine lv_iinc (k := 1) (v := nI k - 1) (lv' := [(4, .int (nI k - 1)), (5, .int (nI i)), (3, .int (nI 0)), (0, .ref o), (1, .ref t), (2, .int (nI i))]) hx hb d_Sums_total_114 hl rfl (i_dec (nI k)) (by decide) rfl (fun ls hl => ?_)
          refine lv_goto (tgt := 14) hx hb d_Sums_total_117 (by decide) ?_
          have hl : lv_has ls 7 [(4, .int (nI k - 1)), (3, .int (nI 0)), (0, .ref o), (1, .ref t), (2, .int (nI i))] := lv_sub hl [0, 2, 3, 4, 5] rfl
          exact ih ls _ (by omega) rfl hl
        | succ k2 ih2 =>
          intro  i   ls hi hl
          refine lv_iload hx hb d_Sums_total_41 (lv_at hl 0 rfl) ?_
          refine lv_iload_n hx hb d_Sums_total_43 rfl (lv_at hl 5 rfl) ?_
          refine lv_icmp_ge (tgt := 114) hx hb d_Sums_total_44 (by decide) (fun h9 => absurd h9 (nI_ge (by omega) (by omega))) (fun _ => ?_)
          refine lv_aload_n hx hb d_Sums_total_47 rfl (lv_at hl 3 rfl) ?_
          refine q_get (C := "KateDesk$Sums") (T := T_Sums) (N := 4) (ci := 4) E ((hk.su hK hsu).1) in_Sums rfl 2 (by decide) w_249 rfl rfl d_Sums_total_48 ?_
          refine lv_iload hx hb d_Sums_total_51 (lv_at hl 0 rfl) ?_
          refine q_aald (t := 5) E rfl rfl ((hk.su hK hsu).2.2.2.2.2.1) i rfl (by omega) (by decide) d_Sums_total_53 ?_
          refine lv_iload hx hb d_Sums_total_54 (lv_at hl 1 rfl) ?_
          refine q_bald E (hdz i (by omega)) k rfl (by omega) (by decide) d_Sums_total_56 ?_
          refine lv_istore (lv' := [(6, .int 0), (5, .int (nI i)), (4, .int (nI k)), (3, .int (nI 0)), (0, .ref o), (1, .ref t), (2, .int (nI n))]) hx hb d_Sums_total_57 hl (by decide) rfl (fun ls hl => ?_)
          refine lv_iload hx hb d_Sums_total_59 (lv_at hl 0 rfl) ?_
          refine lv_if_eq (tgt := 108) hx hb d_Sums_total_61 (by decide) (fun _ => ?_) (fun h9 => absurd (by decide) h9)
          refine lv_iinc (k := 1) (v := nI (i + 1)) (lv' := [(5, .int (nI (i + 1))), (6, .int 0), (4, .int (nI k)), (3, .int (nI 0)), (0, .ref o), (1, .ref t), (2, .int (nI n))]) hx hb d_Sums_total_108 hl rfl (i_inc i) (by decide) rfl (fun ls hl => ?_)
          refine lv_goto (tgt := 41) hx hb d_Sums_total_111 (by decide) ?_
          have hl : lv_has ls 7 [(5, .int (nI (i + 1))), (4, .int (nI k)), (3, .int (nI 0)), (0, .ref o), (1, .ref t), (2, .int (nI n))] := lv_sub hl [0, 2, 3, 4, 5, 6] rfl
          exact ih2 (i + 1) ls (by omega) hl
      exact inner n 0 ls (by omega) hl
  exact loop 257 ls _ (by decide) (by decide) hl
