abbrev y_Polys_evaluate : MethodName := ⟨"KateDesk$Polynomials", "evaluate", "([[JII)V"⟩
theorem hd_Polys_evaluate : y_Polys_evaluate.cls ≠ "java/lang/invoke/MethodHandle" ∧ y_Polys_evaluate.cls ≠ "java/lang/invoke/VarHandle" ∧ (parseMethodDescriptor y_Polys_evaluate.desc).map (fun d => d.parameters.length) = some 3 := by decide +kernel
theorem d_Polys_evaluate_0 : decode prog_7_method_6_code 0 = .ok (.aload_n 0, 1) := by decide +kernel
theorem d_Polys_evaluate_1 : decode prog_7_method_6_code 1 = .ok (.aload_n 1, 1) := by decide +kernel
theorem d_Polys_evaluate_2 : decode prog_7_method_6_code 2 = .ok (.iload_n 2, 1) := by decide +kernel
theorem d_Polys_evaluate_3 : decode prog_7_method_6_code 3 = .ok (.iload_n 3, 1) := by decide +kernel
theorem d_Polys_evaluate_4 : decode prog_7_method_6_code 4 = .ok (.invokevirtual 78, 3) := by decide +kernel
theorem d_Polys_evaluate_7 : decode prog_7_method_6_code 7 = .ok (.iconst 0, 1) := by decide +kernel
theorem d_Polys_evaluate_8 : decode prog_7_method_6_code 8 = .ok (.istore 4, 2) := by decide +kernel
theorem d_Polys_evaluate_10 : decode prog_7_method_6_code 10 = .ok (.iload 4, 2) := by decide +kernel
theorem d_Polys_evaluate_12 : decode prog_7_method_6_code 12 = .ok (.iconst 1, 1) := by decide +kernel
theorem d_Polys_evaluate_13 : decode prog_7_method_6_code 13 = .ok (.iload_n 3, 1) := by decide +kernel
theorem d_Polys_evaluate_14 : decode prog_7_method_6_code 14 = .ok (.ishl, 1) := by decide +kernel
theorem d_Polys_evaluate_15 : decode prog_7_method_6_code 15 = .ok (.if_icmp .ge 25, 3) := by decide +kernel
theorem d_Polys_evaluate_18 : decode prog_7_method_6_code 18 = .ok (.aload_n 1, 1) := by decide +kernel
theorem d_Polys_evaluate_19 : decode prog_7_method_6_code 19 = .ok (.iload_n 2, 1) := by decide +kernel
theorem d_Polys_evaluate_20 : decode prog_7_method_6_code 20 = .ok (.iload 4, 2) := by decide +kernel
theorem d_Polys_evaluate_22 : decode prog_7_method_6_code 22 = .ok (.iadd, 1) := by decide +kernel
theorem d_Polys_evaluate_23 : decode prog_7_method_6_code 23 = .ok (.aaload, 1) := by decide +kernel
theorem d_Polys_evaluate_24 : decode prog_7_method_6_code 24 = .ok (.aload_n 0, 1) := by decide +kernel
theorem d_Polys_evaluate_25 : decode prog_7_method_6_code 25 = .ok (.getfield 35, 3) := by decide +kernel
theorem d_Polys_evaluate_28 : decode prog_7_method_6_code 28 = .ok (.iload 4, 2) := by decide +kernel
theorem d_Polys_evaluate_30 : decode prog_7_method_6_code 30 = .ok (.aaload, 1) := by decide +kernel
theorem d_Polys_evaluate_31 : decode prog_7_method_6_code 31 = .ok (.invokestatic 75, 3) := by decide +kernel
theorem d_Polys_evaluate_34 : decode prog_7_method_6_code 34 = .ok (.iinc 4 1, 3) := by decide +kernel
theorem d_Polys_evaluate_37 : decode prog_7_method_6_code 37 = .ok (.goto (-27), 3) := by decide +kernel
theorem d_Polys_evaluate_40 : decode prog_7_method_6_code 40 = .ok (.return_, 1) := by decide +kernel
abbrev y_Polys_interpolate : MethodName := ⟨"KateDesk$Polynomials", "interpolate", "([[JII)V"⟩
theorem hd_Polys_interpolate : y_Polys_interpolate.cls ≠ "java/lang/invoke/MethodHandle" ∧ y_Polys_interpolate.cls ≠ "java/lang/invoke/VarHandle" ∧ (parseMethodDescriptor y_Polys_interpolate.desc).map (fun d => d.parameters.length) = some 3 := by decide +kernel
theorem d_Polys_interpolate_0 : decode prog_7_method_7_code 0 = .ok (.iconst 1, 1) := by decide +kernel
theorem d_Polys_interpolate_1 : decode prog_7_method_7_code 1 = .ok (.iload_n 3, 1) := by decide +kernel
theorem d_Polys_interpolate_2 : decode prog_7_method_7_code 2 = .ok (.ishl, 1) := by decide +kernel
theorem d_Polys_interpolate_3 : decode prog_7_method_7_code 3 = .ok (.istore 4, 2) := by decide +kernel
theorem d_Polys_interpolate_5 : decode prog_7_method_7_code 5 = .ok (.aload_n 0, 1) := by decide +kernel
theorem d_Polys_interpolate_6 : decode prog_7_method_7_code 6 = .ok (.aload_n 1, 1) := by decide +kernel
theorem d_Polys_interpolate_7 : decode prog_7_method_7_code 7 = .ok (.iload_n 2, 1) := by decide +kernel
theorem d_Polys_interpolate_8 : decode prog_7_method_7_code 8 = .ok (.iload_n 3, 1) := by decide +kernel
theorem d_Polys_interpolate_9 : decode prog_7_method_7_code 9 = .ok (.invokevirtual 78, 3) := by decide +kernel
theorem d_Polys_interpolate_12 : decode prog_7_method_7_code 12 = .ok (.aload_n 0, 1) := by decide +kernel
theorem d_Polys_interpolate_13 : decode prog_7_method_7_code 13 = .ok (.iload_n 3, 1) := by decide +kernel
theorem d_Polys_interpolate_14 : decode prog_7_method_7_code 14 = .ok (.invokevirtual 82, 3) := by decide +kernel
theorem d_Polys_interpolate_17 : decode prog_7_method_7_code 17 = .ok (.iconst 0, 1) := by decide +kernel
theorem d_Polys_interpolate_18 : decode prog_7_method_7_code 18 = .ok (.istore 5, 2) := by decide +kernel
theorem d_Polys_interpolate_20 : decode prog_7_method_7_code 20 = .ok (.iload 5, 2) := by decide +kernel
theorem d_Polys_interpolate_22 : decode prog_7_method_7_code 22 = .ok (.iload 4, 2) := by decide +kernel
theorem d_Polys_interpolate_24 : decode prog_7_method_7_code 24 = .ok (.if_icmp .ge 41, 3) := by decide +kernel
theorem d_Polys_interpolate_27 : decode prog_7_method_7_code 27 = .ok (.aload_n 0, 1) := by decide +kernel
theorem d_Polys_interpolate_28 : decode prog_7_method_7_code 28 = .ok (.getfield 38, 3) := by decide +kernel
theorem d_Polys_interpolate_31 : decode prog_7_method_7_code 31 = .ok (.aload_n 1, 1) := by decide +kernel
theorem d_Polys_interpolate_32 : decode prog_7_method_7_code 32 = .ok (.iload_n 2, 1) := by decide +kernel
theorem d_Polys_interpolate_33 : decode prog_7_method_7_code 33 = .ok (.iload 5, 2) := by decide +kernel
theorem d_Polys_interpolate_35 : decode prog_7_method_7_code 35 = .ok (.iadd, 1) := by decide +kernel
theorem d_Polys_interpolate_36 : decode prog_7_method_7_code 36 = .ok (.aaload, 1) := by decide +kernel
theorem d_Polys_interpolate_37 : decode prog_7_method_7_code 37 = .ok (.aload_n 0, 1) := by decide +kernel
theorem d_Polys_interpolate_38 : decode prog_7_method_7_code 38 = .ok (.getfield 35, 3) := by decide +kernel
theorem d_Polys_interpolate_41 : decode prog_7_method_7_code 41 = .ok (.iload 4, 2) := by decide +kernel
theorem d_Polys_interpolate_43 : decode prog_7_method_7_code 43 = .ok (.iload 5, 2) := by decide +kernel
theorem d_Polys_interpolate_45 : decode prog_7_method_7_code 45 = .ok (.isub, 1) := by decide +kernel
theorem d_Polys_interpolate_46 : decode prog_7_method_7_code 46 = .ok (.iload 4, 2) := by decide +kernel
theorem d_Polys_interpolate_48 : decode prog_7_method_7_code 48 = .ok (.iconst 1, 1) := by decide +kernel
theorem d_Polys_interpolate_49 : decode prog_7_method_7_code 49 = .ok (.isub, 1) := by decide +kernel
theorem d_Polys_interpolate_50 : decode prog_7_method_7_code 50 = .ok (.iand, 1) := by decide +kernel
theorem d_Polys_interpolate_51 : decode prog_7_method_7_code 51 = .ok (.aaload, 1) := by decide +kernel
theorem d_Polys_interpolate_52 : decode prog_7_method_7_code 52 = .ok (.aload_n 0, 1) := by decide +kernel
theorem d_Polys_interpolate_53 : decode prog_7_method_7_code 53 = .ok (.getfield 27, 3) := by decide +kernel
theorem d_Polys_interpolate_56 : decode prog_7_method_7_code 56 = .ok (.invokevirtual 69, 3) := by decide +kernel
theorem d_Polys_interpolate_59 : decode prog_7_method_7_code 59 = .ok (.iinc 5 1, 3) := by decide +kernel
theorem d_Polys_interpolate_62 : decode prog_7_method_7_code 62 = .ok (.goto (-42), 3) := by decide +kernel
theorem d_Polys_interpolate_65 : decode prog_7_method_7_code 65 = .ok (.return_, 1) := by decide +kernel
abbrev y_Polys_basis : MethodName := ⟨"KateDesk$Polynomials", "basis", "([JII[J)V"⟩
theorem hd_Polys_basis : y_Polys_basis.cls ≠ "java/lang/invoke/MethodHandle" ∧ y_Polys_basis.cls ≠ "java/lang/invoke/VarHandle" ∧ (parseMethodDescriptor y_Polys_basis.desc).map (fun d => d.parameters.length) = some 4 := by decide +kernel
theorem d_Polys_basis_0 : decode prog_7_method_9_code 0 = .ok (.iconst 1, 1) := by decide +kernel
theorem d_Polys_basis_1 : decode prog_7_method_9_code 1 = .ok (.iload_n 2, 1) := by decide +kernel
theorem d_Polys_basis_2 : decode prog_7_method_9_code 2 = .ok (.ishl, 1) := by decide +kernel
theorem d_Polys_basis_3 : decode prog_7_method_9_code 3 = .ok (.istore 5, 2) := by decide +kernel
theorem d_Polys_basis_5 : decode prog_7_method_9_code 5 = .ok (.aload_n 0, 1) := by decide +kernel
theorem d_Polys_basis_6 : decode prog_7_method_9_code 6 = .ok (.aload_n 0, 1) := by decide +kernel
theorem d_Polys_basis_7 : decode prog_7_method_9_code 7 = .ok (.getfield 21, 3) := by decide +kernel
theorem d_Polys_basis_10 : decode prog_7_method_9_code 10 = .ok (.iload_n 2, 1) := by decide +kernel
theorem d_Polys_basis_11 : decode prog_7_method_9_code 11 = .ok (.invokevirtual 85, 3) := by decide +kernel
theorem d_Polys_basis_14 : decode prog_7_method_9_code 14 = .ok (.aload_n 0, 1) := by decide +kernel
theorem d_Polys_basis_15 : decode prog_7_method_9_code 15 = .ok (.getfield 24, 3) := by decide +kernel
theorem d_Polys_basis_18 : decode prog_7_method_9_code 18 = .ok (.aload 4, 2) := by decide +kernel
theorem d_Polys_basis_20 : decode prog_7_method_9_code 20 = .ok (.invokestatic 75, 3) := by decide +kernel
theorem d_Polys_basis_23 : decode prog_7_method_9_code 23 = .ok (.iload_n 3, 1) := by decide +kernel
theorem d_Polys_basis_24 : decode prog_7_method_9_code 24 = .ok (.istore 6, 2) := by decide +kernel
theorem d_Polys_basis_26 : decode prog_7_method_9_code 26 = .ok (.iload 6, 2) := by decide +kernel
theorem d_Polys_basis_28 : decode prog_7_method_9_code 28 = .ok (.iload 5, 2) := by decide +kernel
theorem d_Polys_basis_30 : decode prog_7_method_9_code 30 = .ok (.if_icmp .ge 28, 3) := by decide +kernel
theorem d_Polys_basis_33 : decode prog_7_method_9_code 33 = .ok (.aload_n 0, 1) := by decide +kernel
theorem d_Polys_basis_34 : decode prog_7_method_9_code 34 = .ok (.getfield 38, 3) := by decide +kernel
theorem d_Polys_basis_37 : decode prog_7_method_9_code 37 = .ok (.aload_n 0, 1) := by decide +kernel
theorem d_Polys_basis_38 : decode prog_7_method_9_code 38 = .ok (.getfield 24, 3) := by decide +kernel
theorem d_Polys_basis_41 : decode prog_7_method_9_code 41 = .ok (.aload_n 0, 1) := by decide +kernel
theorem d_Polys_basis_42 : decode prog_7_method_9_code 42 = .ok (.getfield 24, 3) := by decide +kernel
theorem d_Polys_basis_45 : decode prog_7_method_9_code 45 = .ok (.aload_n 0, 1) := by decide +kernel
theorem d_Polys_basis_46 : decode prog_7_method_9_code 46 = .ok (.getfield 21, 3) := by decide +kernel
theorem d_Polys_basis_49 : decode prog_7_method_9_code 49 = .ok (.invokevirtual 69, 3) := by decide +kernel
theorem d_Polys_basis_52 : decode prog_7_method_9_code 52 = .ok (.iinc 6 1, 3) := by decide +kernel
theorem d_Polys_basis_55 : decode prog_7_method_9_code 55 = .ok (.goto (-29), 3) := by decide +kernel
theorem d_Polys_basis_58 : decode prog_7_method_9_code 58 = .ok (.aload_n 0, 1) := by decide +kernel
theorem d_Polys_basis_59 : decode prog_7_method_9_code 59 = .ok (.iload_n 2, 1) := by decide +kernel
theorem d_Polys_basis_60 : decode prog_7_method_9_code 60 = .ok (.invokevirtual 82, 3) := by decide +kernel
theorem d_Polys_basis_63 : decode prog_7_method_9_code 63 = .ok (.aload_n 1, 1) := by decide +kernel
theorem d_Polys_basis_64 : decode prog_7_method_9_code 64 = .ok (.invokestatic 65, 3) := by decide +kernel
theorem d_Polys_basis_67 : decode prog_7_method_9_code 67 = .ok (.iconst 0, 1) := by decide +kernel
theorem d_Polys_basis_68 : decode prog_7_method_9_code 68 = .ok (.istore 6, 2) := by decide +kernel
theorem d_Polys_basis_70 : decode prog_7_method_9_code 70 = .ok (.iload 6, 2) := by decide +kernel
theorem d_Polys_basis_72 : decode prog_7_method_9_code 72 = .ok (.iload 5, 2) := by decide +kernel
theorem d_Polys_basis_74 : decode prog_7_method_9_code 74 = .ok (.if_icmp .ge 35, 3) := by decide +kernel
theorem d_Polys_basis_77 : decode prog_7_method_9_code 77 = .ok (.aload_n 0, 1) := by decide +kernel
theorem d_Polys_basis_78 : decode prog_7_method_9_code 78 = .ok (.getfield 38, 3) := by decide +kernel
theorem d_Polys_basis_81 : decode prog_7_method_9_code 81 = .ok (.aload_n 1, 1) := by decide +kernel
theorem d_Polys_basis_82 : decode prog_7_method_9_code 82 = .ok (.aload_n 1, 1) := by decide +kernel
theorem d_Polys_basis_83 : decode prog_7_method_9_code 83 = .ok (.aload_n 0, 1) := by decide +kernel
theorem d_Polys_basis_84 : decode prog_7_method_9_code 84 = .ok (.getfield 24, 3) := by decide +kernel
theorem d_Polys_basis_87 : decode prog_7_method_9_code 87 = .ok (.invokevirtual 69, 3) := by decide +kernel
theorem d_Polys_basis_90 : decode prog_7_method_9_code 90 = .ok (.aload_n 0, 1) := by decide +kernel
theorem d_Polys_basis_91 : decode prog_7_method_9_code 91 = .ok (.getfield 38, 3) := by decide +kernel
theorem d_Polys_basis_94 : decode prog_7_method_9_code 94 = .ok (.aload_n 1, 1) := by decide +kernel
theorem d_Polys_basis_95 : decode prog_7_method_9_code 95 = .ok (.aload_n 1, 1) := by decide +kernel
theorem d_Polys_basis_96 : decode prog_7_method_9_code 96 = .ok (.aload_n 0, 1) := by decide +kernel
theorem d_Polys_basis_97 : decode prog_7_method_9_code 97 = .ok (.getfield 15, 3) := by decide +kernel
theorem d_Polys_basis_100 : decode prog_7_method_9_code 100 = .ok (.invokevirtual 72, 3) := by decide +kernel
theorem d_Polys_basis_103 : decode prog_7_method_9_code 103 = .ok (.iinc 6 1, 3) := by decide +kernel
theorem d_Polys_basis_106 : decode prog_7_method_9_code 106 = .ok (.goto (-36), 3) := by decide +kernel
theorem d_Polys_basis_109 : decode prog_7_method_9_code 109 = .ok (.aload_n 0, 1) := by decide +kernel
theorem d_Polys_basis_110 : decode prog_7_method_9_code 110 = .ok (.getfield 38, 3) := by decide +kernel
theorem d_Polys_basis_113 : decode prog_7_method_9_code 113 = .ok (.aload_n 1, 1) := by decide +kernel
theorem d_Polys_basis_114 : decode prog_7_method_9_code 114 = .ok (.aload_n 1, 1) := by decide +kernel
theorem d_Polys_basis_115 : decode prog_7_method_9_code 115 = .ok (.aload_n 0, 1) := by decide +kernel
theorem d_Polys_basis_116 : decode prog_7_method_9_code 116 = .ok (.getfield 27, 3) := by decide +kernel
theorem d_Polys_basis_119 : decode prog_7_method_9_code 119 = .ok (.invokevirtual 69, 3) := by decide +kernel
theorem d_Polys_basis_122 : decode prog_7_method_9_code 122 = .ok (.return_, 1) := by decide +kernel