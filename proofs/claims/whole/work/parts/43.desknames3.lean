abbrev y_Desk_spreadGenerator : MethodName := ⟨"KateDesk", "spreadGenerator", "()V"⟩
theorem hd_Desk_spreadGenerator : y_Desk_spreadGenerator.cls ≠ "java/lang/invoke/MethodHandle" ∧ y_Desk_spreadGenerator.cls ≠ "java/lang/invoke/VarHandle" ∧ (parseMethodDescriptor y_Desk_spreadGenerator.desc).map (fun d => d.parameters.length) = some 0 := by decide +kernel
theorem d_Desk_spreadGenerator_0 : decode prog_1_method_30_code 0 = .ok (.aload_n 0, 1) := by decide +kernel
theorem d_Desk_spreadGenerator_1 : decode prog_1_method_30_code 1 = .ok (.getfield 44, 3) := by decide +kernel
theorem d_Desk_spreadGenerator_4 : decode prog_1_method_30_code 4 = .ok (.aload_n 0, 1) := by decide +kernel
theorem d_Desk_spreadGenerator_5 : decode prog_1_method_30_code 5 = .ok (.getfield 109, 3) := by decide +kernel
theorem d_Desk_spreadGenerator_8 : decode prog_1_method_30_code 8 = .ok (.invokevirtual 221, 3) := by decide +kernel
theorem d_Desk_spreadGenerator_11 : decode prog_1_method_30_code 11 = .ok (.iconst 0, 1) := by decide +kernel
theorem d_Desk_spreadGenerator_12 : decode prog_1_method_30_code 12 = .ok (.istore_n 1, 1) := by decide +kernel
theorem d_Desk_spreadGenerator_13 : decode prog_1_method_30_code 13 = .ok (.iload_n 1, 1) := by decide +kernel
theorem d_Desk_spreadGenerator_14 : decode prog_1_method_30_code 14 = .ok (.iconst 4, 1) := by decide +kernel
theorem d_Desk_spreadGenerator_15 : decode prog_1_method_30_code 15 = .ok (.if_icmp .ge 55, 3) := by decide +kernel
theorem d_Desk_spreadGenerator_18 : decode prog_1_method_30_code 18 = .ok (.aload_n 0, 1) := by decide +kernel
theorem d_Desk_spreadGenerator_19 : decode prog_1_method_30_code 19 = .ok (.getfield 85, 3) := by decide +kernel
theorem d_Desk_spreadGenerator_22 : decode prog_1_method_30_code 22 = .ok (.iload_n 1, 1) := by decide +kernel
theorem d_Desk_spreadGenerator_23 : decode prog_1_method_30_code 23 = .ok (.aload_n 0, 1) := by decide +kernel
theorem d_Desk_spreadGenerator_24 : decode prog_1_method_30_code 24 = .ok (.getfield 44, 3) := by decide +kernel
theorem d_Desk_spreadGenerator_27 : decode prog_1_method_30_code 27 = .ok (.invokevirtual 313, 3) := by decide +kernel
theorem d_Desk_spreadGenerator_30 : decode prog_1_method_30_code 30 = .ok (.iconst 0, 1) := by decide +kernel
theorem d_Desk_spreadGenerator_31 : decode prog_1_method_30_code 31 = .ok (.istore_n 2, 1) := by decide +kernel
theorem d_Desk_spreadGenerator_32 : decode prog_1_method_30_code 32 = .ok (.iload_n 2, 1) := by decide +kernel
theorem d_Desk_spreadGenerator_33 : decode prog_1_method_30_code 33 = .ok (.bipush 64, 2) := by decide +kernel
theorem d_Desk_spreadGenerator_35 : decode prog_1_method_30_code 35 = .ok (.if_icmp .ge 29, 3) := by decide +kernel
theorem d_Desk_spreadGenerator_38 : decode prog_1_method_30_code 38 = .ok (.iload_n 1, 1) := by decide +kernel
theorem d_Desk_spreadGenerator_39 : decode prog_1_method_30_code 39 = .ok (.iconst 3, 1) := by decide +kernel
theorem d_Desk_spreadGenerator_40 : decode prog_1_method_30_code 40 = .ok (.if_icmp .ge 24, 3) := by decide +kernel
theorem d_Desk_spreadGenerator_43 : decode prog_1_method_30_code 43 = .ok (.aload_n 0, 1) := by decide +kernel
theorem d_Desk_spreadGenerator_44 : decode prog_1_method_30_code 44 = .ok (.getfield 76, 3) := by decide +kernel
theorem d_Desk_spreadGenerator_47 : decode prog_1_method_30_code 47 = .ok (.aload_n 0, 1) := by decide +kernel
theorem d_Desk_spreadGenerator_48 : decode prog_1_method_30_code 48 = .ok (.getfield 44, 3) := by decide +kernel
theorem d_Desk_spreadGenerator_51 : decode prog_1_method_30_code 51 = .ok (.aload_n 0, 1) := by decide +kernel
theorem d_Desk_spreadGenerator_52 : decode prog_1_method_30_code 52 = .ok (.getfield 44, 3) := by decide +kernel
theorem d_Desk_spreadGenerator_55 : decode prog_1_method_30_code 55 = .ok (.invokevirtual 317, 3) := by decide +kernel
theorem d_Desk_spreadGenerator_58 : decode prog_1_method_30_code 58 = .ok (.iinc 2 1, 3) := by decide +kernel
theorem d_Desk_spreadGenerator_61 : decode prog_1_method_30_code 61 = .ok (.goto (-29), 3) := by decide +kernel
theorem d_Desk_spreadGenerator_64 : decode prog_1_method_30_code 64 = .ok (.iinc 1 1, 3) := by decide +kernel
theorem d_Desk_spreadGenerator_67 : decode prog_1_method_30_code 67 = .ok (.goto (-54), 3) := by decide +kernel
theorem d_Desk_spreadGenerator_70 : decode prog_1_method_30_code 70 = .ok (.return_, 1) := by decide +kernel
abbrev y_Desk_timesGenerator : MethodName := ⟨"KateDesk", "timesGenerator", "(LKateDesk$Point;[J)V"⟩
theorem hd_Desk_timesGenerator : y_Desk_timesGenerator.cls ≠ "java/lang/invoke/MethodHandle" ∧ y_Desk_timesGenerator.cls ≠ "java/lang/invoke/VarHandle" ∧ (parseMethodDescriptor y_Desk_timesGenerator.desc).map (fun d => d.parameters.length) = some 2 := by decide +kernel
theorem d_Desk_timesGenerator_0 : decode prog_1_method_31_code 0 = .ok (.iconst 0, 1) := by decide +kernel
theorem d_Desk_timesGenerator_1 : decode prog_1_method_31_code 1 = .ok (.istore_n 3, 1) := by decide +kernel
theorem d_Desk_timesGenerator_2 : decode prog_1_method_31_code 2 = .ok (.iload_n 3, 1) := by decide +kernel
theorem d_Desk_timesGenerator_3 : decode prog_1_method_31_code 3 = .ok (.iconst 4, 1) := by decide +kernel
theorem d_Desk_timesGenerator_4 : decode prog_1_method_31_code 4 = .ok (.if_icmp .ge 24, 3) := by decide +kernel
theorem d_Desk_timesGenerator_7 : decode prog_1_method_31_code 7 = .ok (.aload_n 0, 1) := by decide +kernel
theorem d_Desk_timesGenerator_8 : decode prog_1_method_31_code 8 = .ok (.getfield 85, 3) := by decide +kernel
theorem d_Desk_timesGenerator_11 : decode prog_1_method_31_code 11 = .ok (.iload_n 3, 1) := by decide +kernel
theorem d_Desk_timesGenerator_12 : decode prog_1_method_31_code 12 = .ok (.aload_n 2, 1) := by decide +kernel
theorem d_Desk_timesGenerator_13 : decode prog_1_method_31_code 13 = .ok (.bipush 64, 2) := by decide +kernel
theorem d_Desk_timesGenerator_15 : decode prog_1_method_31_code 15 = .ok (.iload_n 3, 1) := by decide +kernel
theorem d_Desk_timesGenerator_16 : decode prog_1_method_31_code 16 = .ok (.imul, 1) := by decide +kernel
theorem d_Desk_timesGenerator_17 : decode prog_1_method_31_code 17 = .ok (.bipush 64, 2) := by decide +kernel
theorem d_Desk_timesGenerator_19 : decode prog_1_method_31_code 19 = .ok (.invokevirtual 321, 3) := by decide +kernel
theorem d_Desk_timesGenerator_22 : decode prog_1_method_31_code 22 = .ok (.iinc 3 1, 3) := by decide +kernel
theorem d_Desk_timesGenerator_25 : decode prog_1_method_31_code 25 = .ok (.goto (-23), 3) := by decide +kernel
theorem d_Desk_timesGenerator_28 : decode prog_1_method_31_code 28 = .ok (.aload_n 0, 1) := by decide +kernel
theorem d_Desk_timesGenerator_29 : decode prog_1_method_31_code 29 = .ok (.getfield 85, 3) := by decide +kernel
theorem d_Desk_timesGenerator_32 : decode prog_1_method_31_code 32 = .ok (.aload_n 1, 1) := by decide +kernel
theorem d_Desk_timesGenerator_33 : decode prog_1_method_31_code 33 = .ok (.iconst 4, 1) := by decide +kernel
theorem d_Desk_timesGenerator_34 : decode prog_1_method_31_code 34 = .ok (.invokevirtual 243, 3) := by decide +kernel
theorem d_Desk_timesGenerator_37 : decode prog_1_method_31_code 37 = .ok (.return_, 1) := by decide +kernel
abbrev y_Desk_setup : MethodName := ⟨"KateDesk", "setup", "(II)V"⟩
theorem hd_Desk_setup : y_Desk_setup.cls ≠ "java/lang/invoke/MethodHandle" ∧ y_Desk_setup.cls ≠ "java/lang/invoke/VarHandle" ∧ (parseMethodDescriptor y_Desk_setup.desc).map (fun d => d.parameters.length) = some 2 := by decide +kernel
theorem d_Desk_setup_0 : decode prog_1_method_16_code 0 = .ok (.iload_n 1, 1) := by decide +kernel
theorem d_Desk_setup_1 : decode prog_1_method_16_code 1 = .ok (.iconst 1, 1) := by decide +kernel
theorem d_Desk_setup_2 : decode prog_1_method_16_code 2 = .ok (.invokestatic 129, 3) := by decide +kernel
theorem d_Desk_setup_5 : decode prog_1_method_16_code 5 = .ok (.iload_n 2, 1) := by decide +kernel
theorem d_Desk_setup_6 : decode prog_1_method_16_code 6 = .ok (.iconst 1, 1) := by decide +kernel
theorem d_Desk_setup_7 : decode prog_1_method_16_code 7 = .ok (.bipush 16, 2) := by decide +kernel
theorem d_Desk_setup_9 : decode prog_1_method_16_code 9 = .ok (.invokestatic 247, 3) := by decide +kernel
theorem d_Desk_setup_12 : decode prog_1_method_16_code 12 = .ok (.aload_n 0, 1) := by decide +kernel
theorem d_Desk_setup_13 : decode prog_1_method_16_code 13 = .ok (.getfield 24, 3) := by decide +kernel
theorem d_Desk_setup_16 : decode prog_1_method_16_code 16 = .ok (.iconst 0, 1) := by decide +kernel
theorem d_Desk_setup_17 : decode prog_1_method_16_code 17 = .ok (.aaload, 1) := by decide +kernel
theorem d_Desk_setup_18 : decode prog_1_method_16_code 18 = .ok (.aload_n 0, 1) := by decide +kernel
theorem d_Desk_setup_19 : decode prog_1_method_16_code 19 = .ok (.getfield 109, 3) := by decide +kernel
theorem d_Desk_setup_22 : decode prog_1_method_16_code 22 = .ok (.invokevirtual 221, 3) := by decide +kernel
theorem d_Desk_setup_25 : decode prog_1_method_16_code 25 = .ok (.iload_n 2, 1) := by decide +kernel
theorem d_Desk_setup_26 : decode prog_1_method_16_code 26 = .ok (.iconst 1, 1) := by decide +kernel
theorem d_Desk_setup_27 : decode prog_1_method_16_code 27 = .ok (.if_icmp .le 7, 3) := by decide +kernel
theorem d_Desk_setup_30 : decode prog_1_method_16_code 30 = .ok (.aload_n 0, 1) := by decide +kernel
theorem d_Desk_setup_31 : decode prog_1_method_16_code 31 = .ok (.invokevirtual 255, 3) := by decide +kernel
theorem d_Desk_setup_34 : decode prog_1_method_16_code 34 = .ok (.aload_n 0, 1) := by decide +kernel
theorem d_Desk_setup_35 : decode prog_1_method_16_code 35 = .ok (.getfield 72, 3) := by decide +kernel
theorem d_Desk_setup_38 : decode prog_1_method_16_code 38 = .ok (.aload_n 0, 1) := by decide +kernel
theorem d_Desk_setup_39 : decode prog_1_method_16_code 39 = .ok (.getfield 55, 3) := by decide +kernel
theorem d_Desk_setup_42 : decode prog_1_method_16_code 42 = .ok (.aload_n 0, 1) := by decide +kernel
theorem d_Desk_setup_43 : decode prog_1_method_16_code 43 = .ok (.getfield 13, 3) := by decide +kernel
theorem d_Desk_setup_46 : decode prog_1_method_16_code 46 = .ok (.iload_n 1, 1) := by decide +kernel
theorem d_Desk_setup_47 : decode prog_1_method_16_code 47 = .ok (.aaload, 1) := by decide +kernel
theorem d_Desk_setup_48 : decode prog_1_method_16_code 48 = .ok (.invokevirtual 187, 3) := by decide +kernel
theorem d_Desk_setup_51 : decode prog_1_method_16_code 51 = .ok (.aload_n 0, 1) := by decide +kernel
theorem d_Desk_setup_52 : decode prog_1_method_16_code 52 = .ok (.getfield 51, 3) := by decide +kernel
theorem d_Desk_setup_55 : decode prog_1_method_16_code 55 = .ok (.aload_n 0, 1) := by decide +kernel
theorem d_Desk_setup_56 : decode prog_1_method_16_code 56 = .ok (.getfield 13, 3) := by decide +kernel
theorem d_Desk_setup_59 : decode prog_1_method_16_code 59 = .ok (.iload_n 1, 1) := by decide +kernel
theorem d_Desk_setup_60 : decode prog_1_method_16_code 60 = .ok (.aaload, 1) := by decide +kernel
theorem d_Desk_setup_61 : decode prog_1_method_16_code 61 = .ok (.invokestatic 152, 3) := by decide +kernel
theorem d_Desk_setup_64 : decode prog_1_method_16_code 64 = .ok (.iconst 1, 1) := by decide +kernel
theorem d_Desk_setup_65 : decode prog_1_method_16_code 65 = .ok (.istore_n 3, 1) := by decide +kernel
theorem d_Desk_setup_66 : decode prog_1_method_16_code 66 = .ok (.iload_n 3, 1) := by decide +kernel
theorem d_Desk_setup_67 : decode prog_1_method_16_code 67 = .ok (.iload_n 2, 1) := by decide +kernel
theorem d_Desk_setup_68 : decode prog_1_method_16_code 68 = .ok (.if_icmp .ge 42, 3) := by decide +kernel
theorem d_Desk_setup_71 : decode prog_1_method_16_code 71 = .ok (.aload_n 0, 1) := by decide +kernel
theorem d_Desk_setup_72 : decode prog_1_method_16_code 72 = .ok (.aload_n 0, 1) := by decide +kernel
theorem d_Desk_setup_73 : decode prog_1_method_16_code 73 = .ok (.getfield 24, 3) := by decide +kernel
theorem d_Desk_setup_76 : decode prog_1_method_16_code 76 = .ok (.iload_n 3, 1) := by decide +kernel
theorem d_Desk_setup_77 : decode prog_1_method_16_code 77 = .ok (.aaload, 1) := by decide +kernel
theorem d_Desk_setup_78 : decode prog_1_method_16_code 78 = .ok (.aload_n 0, 1) := by decide +kernel
theorem d_Desk_setup_79 : decode prog_1_method_16_code 79 = .ok (.getfield 51, 3) := by decide +kernel
theorem d_Desk_setup_82 : decode prog_1_method_16_code 82 = .ok (.invokevirtual 258, 3) := by decide +kernel
theorem d_Desk_setup_85 : decode prog_1_method_16_code 85 = .ok (.aload_n 0, 1) := by decide +kernel
theorem d_Desk_setup_86 : decode prog_1_method_16_code 86 = .ok (.getfield 72, 3) := by decide +kernel
theorem d_Desk_setup_89 : decode prog_1_method_16_code 89 = .ok (.aload_n 0, 1) := by decide +kernel
theorem d_Desk_setup_90 : decode prog_1_method_16_code 90 = .ok (.getfield 51, 3) := by decide +kernel
theorem d_Desk_setup_93 : decode prog_1_method_16_code 93 = .ok (.aload_n 0, 1) := by decide +kernel
theorem d_Desk_setup_94 : decode prog_1_method_16_code 94 = .ok (.getfield 51, 3) := by decide +kernel
theorem d_Desk_setup_97 : decode prog_1_method_16_code 97 = .ok (.aload_n 0, 1) := by decide +kernel
theorem d_Desk_setup_98 : decode prog_1_method_16_code 98 = .ok (.getfield 55, 3) := by decide +kernel
theorem d_Desk_setup_101 : decode prog_1_method_16_code 101 = .ok (.invokevirtual 193, 3) := by decide +kernel
theorem d_Desk_setup_104 : decode prog_1_method_16_code 104 = .ok (.iinc 3 1, 3) := by decide +kernel
theorem d_Desk_setup_107 : decode prog_1_method_16_code 107 = .ok (.goto (-41), 3) := by decide +kernel
theorem d_Desk_setup_110 : decode prog_1_method_16_code 110 = .ok (.aload_n 0, 1) := by decide +kernel
theorem d_Desk_setup_111 : decode prog_1_method_16_code 111 = .ok (.iload_n 2, 1) := by decide +kernel
theorem d_Desk_setup_112 : decode prog_1_method_16_code 112 = .ok (.putfield 27, 3) := by decide +kernel
theorem d_Desk_setup_115 : decode prog_1_method_16_code 115 = .ok (.return_, 1) := by decide +kernel
abbrev y_Desk_open : MethodName := ⟨"KateDesk", "open", "(IIII)V"⟩
theorem hd_Desk_open : y_Desk_open.cls ≠ "java/lang/invoke/MethodHandle" ∧ y_Desk_open.cls ≠ "java/lang/invoke/VarHandle" ∧ (parseMethodDescriptor y_Desk_open.desc).map (fun d => d.parameters.length) = some 4 := by decide +kernel
theorem d_Desk_open_0 : decode prog_1_method_18_code 0 = .ok (.iload_n 2, 1) := by decide +kernel
theorem d_Desk_open_1 : decode prog_1_method_18_code 1 = .ok (.iconst 1, 1) := by decide +kernel
theorem d_Desk_open_2 : decode prog_1_method_18_code 2 = .ok (.bipush 16, 2) := by decide +kernel
theorem d_Desk_open_4 : decode prog_1_method_18_code 4 = .ok (.invokestatic 247, 3) := by decide +kernel
theorem d_Desk_open_7 : decode prog_1_method_18_code 7 = .ok (.iload_n 1, 1) := by decide +kernel
theorem d_Desk_open_8 : decode prog_1_method_18_code 8 = .ok (.iload_n 2, 1) := by decide +kernel
theorem d_Desk_open_9 : decode prog_1_method_18_code 9 = .ok (.invokestatic 129, 3) := by decide +kernel
theorem d_Desk_open_12 : decode prog_1_method_18_code 12 = .ok (.iload_n 3, 1) := by decide +kernel
theorem d_Desk_open_13 : decode prog_1_method_18_code 13 = .ok (.iconst 1, 1) := by decide +kernel
theorem d_Desk_open_14 : decode prog_1_method_18_code 14 = .ok (.invokestatic 129, 3) := by decide +kernel
theorem d_Desk_open_17 : decode prog_1_method_18_code 17 = .ok (.iload 4, 2) := by decide +kernel
theorem d_Desk_open_19 : decode prog_1_method_18_code 19 = .ok (.iconst 1, 1) := by decide +kernel
theorem d_Desk_open_20 : decode prog_1_method_18_code 20 = .ok (.invokestatic 129, 3) := by decide +kernel
theorem d_Desk_open_23 : decode prog_1_method_18_code 23 = .ok (.aload_n 0, 1) := by decide +kernel
theorem d_Desk_open_24 : decode prog_1_method_18_code 24 = .ok (.getfield 72, 3) := by decide +kernel
theorem d_Desk_open_27 : decode prog_1_method_18_code 27 = .ok (.aload_n 0, 1) := by decide +kernel
theorem d_Desk_open_28 : decode prog_1_method_18_code 28 = .ok (.getfield 55, 3) := by decide +kernel
theorem d_Desk_open_31 : decode prog_1_method_18_code 31 = .ok (.aload_n 0, 1) := by decide +kernel
theorem d_Desk_open_32 : decode prog_1_method_18_code 32 = .ok (.getfield 13, 3) := by decide +kernel
theorem d_Desk_open_35 : decode prog_1_method_18_code 35 = .ok (.iload_n 3, 1) := by decide +kernel
theorem d_Desk_open_36 : decode prog_1_method_18_code 36 = .ok (.aaload, 1) := by decide +kernel
theorem d_Desk_open_37 : decode prog_1_method_18_code 37 = .ok (.invokevirtual 187, 3) := by decide +kernel
theorem d_Desk_open_40 : decode prog_1_method_18_code 40 = .ok (.aload_n 0, 1) := by decide +kernel
theorem d_Desk_open_41 : decode prog_1_method_18_code 41 = .ok (.getfield 101, 3) := by decide +kernel
theorem d_Desk_open_44 : decode prog_1_method_18_code 44 = .ok (.aload_n 0, 1) := by decide +kernel
theorem d_Desk_open_45 : decode prog_1_method_18_code 45 = .ok (.getfield 51, 3) := by decide +kernel
theorem d_Desk_open_48 : decode prog_1_method_18_code 48 = .ok (.aload_n 0, 1) := by decide +kernel
theorem d_Desk_open_49 : decode prog_1_method_18_code 49 = .ok (.getfield 13, 3) := by decide +kernel
theorem d_Desk_open_52 : decode prog_1_method_18_code 52 = .ok (.iload_n 1, 1) := by decide +kernel
theorem d_Desk_open_53 : decode prog_1_method_18_code 53 = .ok (.iload_n 2, 1) := by decide +kernel
theorem d_Desk_open_54 : decode prog_1_method_18_code 54 = .ok (.aload_n 0, 1) := by decide +kernel
theorem d_Desk_open_55 : decode prog_1_method_18_code 55 = .ok (.getfield 55, 3) := by decide +kernel
theorem d_Desk_open_58 : decode prog_1_method_18_code 58 = .ok (.invokevirtual 264, 3) := by decide +kernel
theorem d_Desk_open_61 : decode prog_1_method_18_code 61 = .ok (.aload_n 0, 1) := by decide +kernel
theorem d_Desk_open_62 : decode prog_1_method_18_code 62 = .ok (.getfield 13, 3) := by decide +kernel
theorem d_Desk_open_65 : decode prog_1_method_18_code 65 = .ok (.iload 4, 2) := by decide +kernel
theorem d_Desk_open_67 : decode prog_1_method_18_code 67 = .ok (.aaload, 1) := by decide +kernel
theorem d_Desk_open_68 : decode prog_1_method_18_code 68 = .ok (.aload_n 0, 1) := by decide +kernel
theorem d_Desk_open_69 : decode prog_1_method_18_code 69 = .ok (.getfield 51, 3) := by decide +kernel
theorem d_Desk_open_72 : decode prog_1_method_18_code 72 = .ok (.invokestatic 152, 3) := by decide +kernel
theorem d_Desk_open_75 : decode prog_1_method_18_code 75 = .ok (.return_, 1) := by decide +kernel
abbrev y_Desk_checks : MethodName := ⟨"KateDesk", "checks", "(IIIII)Z"⟩
theorem hd_Desk_checks : y_Desk_checks.cls ≠ "java/lang/invoke/MethodHandle" ∧ y_Desk_checks.cls ≠ "java/lang/invoke/VarHandle" ∧ (parseMethodDescriptor y_Desk_checks.desc).map (fun d => d.parameters.length) = some 5 := by decide +kernel
theorem d_Desk_checks_0 : decode prog_1_method_19_code 0 = .ok (.iload_n 1, 1) := by decide +kernel
theorem d_Desk_checks_1 : decode prog_1_method_19_code 1 = .ok (.iconst 1, 1) := by decide +kernel
theorem d_Desk_checks_2 : decode prog_1_method_19_code 2 = .ok (.invokestatic 210, 3) := by decide +kernel
theorem d_Desk_checks_5 : decode prog_1_method_19_code 5 = .ok (.iload_n 2, 1) := by decide +kernel
theorem d_Desk_checks_6 : decode prog_1_method_19_code 6 = .ok (.iconst 1, 1) := by decide +kernel
theorem d_Desk_checks_7 : decode prog_1_method_19_code 7 = .ok (.invokestatic 210, 3) := by decide +kernel
theorem d_Desk_checks_10 : decode prog_1_method_19_code 10 = .ok (.iload_n 3, 1) := by decide +kernel
theorem d_Desk_checks_11 : decode prog_1_method_19_code 11 = .ok (.iconst 1, 1) := by decide +kernel
theorem d_Desk_checks_12 : decode prog_1_method_19_code 12 = .ok (.invokestatic 129, 3) := by decide +kernel
theorem d_Desk_checks_15 : decode prog_1_method_19_code 15 = .ok (.iload 4, 2) := by decide +kernel
theorem d_Desk_checks_17 : decode prog_1_method_19_code 17 = .ok (.iconst 1, 1) := by decide +kernel
theorem d_Desk_checks_18 : decode prog_1_method_19_code 18 = .ok (.invokestatic 129, 3) := by decide +kernel
theorem d_Desk_checks_21 : decode prog_1_method_19_code 21 = .ok (.iload 5, 2) := by decide +kernel
theorem d_Desk_checks_23 : decode prog_1_method_19_code 23 = .ok (.iconst 1, 1) := by decide +kernel
theorem d_Desk_checks_24 : decode prog_1_method_19_code 24 = .ok (.invokestatic 129, 3) := by decide +kernel
theorem d_Desk_checks_27 : decode prog_1_method_19_code 27 = .ok (.aload_n 0, 1) := by decide +kernel
theorem d_Desk_checks_28 : decode prog_1_method_19_code 28 = .ok (.getfield 72, 3) := by decide +kernel
theorem d_Desk_checks_31 : decode prog_1_method_19_code 31 = .ok (.aload_n 0, 1) := by decide +kernel
theorem d_Desk_checks_32 : decode prog_1_method_19_code 32 = .ok (.getfield 51, 3) := by decide +kernel
theorem d_Desk_checks_35 : decode prog_1_method_19_code 35 = .ok (.aload_n 0, 1) := by decide +kernel
theorem d_Desk_checks_36 : decode prog_1_method_19_code 36 = .ok (.getfield 13, 3) := by decide +kernel
theorem d_Desk_checks_39 : decode prog_1_method_19_code 39 = .ok (.iload 5, 2) := by decide +kernel
theorem d_Desk_checks_41 : decode prog_1_method_19_code 41 = .ok (.aaload, 1) := by decide +kernel
theorem d_Desk_checks_42 : decode prog_1_method_19_code 42 = .ok (.aload_n 0, 1) := by decide +kernel
theorem d_Desk_checks_43 : decode prog_1_method_19_code 43 = .ok (.getfield 13, 3) := by decide +kernel
theorem d_Desk_checks_46 : decode prog_1_method_19_code 46 = .ok (.iload_n 3, 1) := by decide +kernel
theorem d_Desk_checks_47 : decode prog_1_method_19_code 47 = .ok (.aaload, 1) := by decide +kernel
theorem d_Desk_checks_48 : decode prog_1_method_19_code 48 = .ok (.invokevirtual 184, 3) := by decide +kernel
theorem d_Desk_checks_51 : decode prog_1_method_19_code 51 = .ok (.aload_n 0, 1) := by decide +kernel
theorem d_Desk_checks_52 : decode prog_1_method_19_code 52 = .ok (.getfield 85, 3) := by decide +kernel
theorem d_Desk_checks_55 : decode prog_1_method_19_code 55 = .ok (.iconst 0, 1) := by decide +kernel
theorem d_Desk_checks_56 : decode prog_1_method_19_code 56 = .ok (.aload_n 0, 1) := by decide +kernel
theorem d_Desk_checks_57 : decode prog_1_method_19_code 57 = .ok (.getfield 13, 3) := by decide +kernel
theorem d_Desk_checks_60 : decode prog_1_method_19_code 60 = .ok (.iload 4, 2) := by decide +kernel
theorem d_Desk_checks_62 : decode prog_1_method_19_code 62 = .ok (.aaload, 1) := by decide +kernel
theorem d_Desk_checks_63 : decode prog_1_method_19_code 63 = .ok (.aload_n 0, 1) := by decide +kernel
theorem d_Desk_checks_64 : decode prog_1_method_19_code 64 = .ok (.getfield 109, 3) := by decide +kernel
theorem d_Desk_checks_67 : decode prog_1_method_19_code 67 = .ok (.invokevirtual 239, 3) := by decide +kernel
theorem d_Desk_checks_70 : decode prog_1_method_19_code 70 = .ok (.aload_n 0, 1) := by decide +kernel
theorem d_Desk_checks_71 : decode prog_1_method_19_code 71 = .ok (.getfield 85, 3) := by decide +kernel
theorem d_Desk_checks_74 : decode prog_1_method_19_code 74 = .ok (.iconst 1, 1) := by decide +kernel
theorem d_Desk_checks_75 : decode prog_1_method_19_code 75 = .ok (.aload_n 0, 1) := by decide +kernel
theorem d_Desk_checks_76 : decode prog_1_method_19_code 76 = .ok (.getfield 51, 3) := by decide +kernel
theorem d_Desk_checks_79 : decode prog_1_method_19_code 79 = .ok (.aload_n 0, 1) := by decide +kernel
theorem d_Desk_checks_80 : decode prog_1_method_19_code 80 = .ok (.getfield 20, 3) := by decide +kernel
theorem d_Desk_checks_83 : decode prog_1_method_19_code 83 = .ok (.iload_n 2, 1) := by decide +kernel
theorem d_Desk_checks_84 : decode prog_1_method_19_code 84 = .ok (.aaload, 1) := by decide +kernel
theorem d_Desk_checks_85 : decode prog_1_method_19_code 85 = .ok (.invokevirtual 239, 3) := by decide +kernel
theorem d_Desk_checks_88 : decode prog_1_method_19_code 88 = .ok (.aload_n 0, 1) := by decide +kernel
theorem d_Desk_checks_89 : decode prog_1_method_19_code 89 = .ok (.getfield 85, 3) := by decide +kernel
theorem d_Desk_checks_92 : decode prog_1_method_19_code 92 = .ok (.aload_n 0, 1) := by decide +kernel
theorem d_Desk_checks_93 : decode prog_1_method_19_code 93 = .ok (.getfield 48, 3) := by decide +kernel
theorem d_Desk_checks_96 : decode prog_1_method_19_code 96 = .ok (.iconst 2, 1) := by decide +kernel
theorem d_Desk_checks_97 : decode prog_1_method_19_code 97 = .ok (.invokevirtual 243, 3) := by decide +kernel
theorem d_Desk_checks_100 : decode prog_1_method_19_code 100 = .ok (.aload_n 0, 1) := by decide +kernel
theorem d_Desk_checks_101 : decode prog_1_method_19_code 101 = .ok (.getfield 76, 3) := by decide +kernel
theorem d_Desk_checks_104 : decode prog_1_method_19_code 104 = .ok (.aload_n 0, 1) := by decide +kernel
theorem d_Desk_checks_105 : decode prog_1_method_19_code 105 = .ok (.getfield 20, 3) := by decide +kernel
theorem d_Desk_checks_108 : decode prog_1_method_19_code 108 = .ok (.iload_n 1, 1) := by decide +kernel
theorem d_Desk_checks_109 : decode prog_1_method_19_code 109 = .ok (.aaload, 1) := by decide +kernel
theorem d_Desk_checks_110 : decode prog_1_method_19_code 110 = .ok (.aload_n 0, 1) := by decide +kernel
theorem d_Desk_checks_111 : decode prog_1_method_19_code 111 = .ok (.getfield 48, 3) := by decide +kernel
theorem d_Desk_checks_114 : decode prog_1_method_19_code 114 = .ok (.invokevirtual 251, 3) := by decide +kernel
theorem d_Desk_checks_117 : decode prog_1_method_19_code 117 = .ok (.ireturn, 1) := by decide +kernel
abbrev y_Desk_transform : MethodName := ⟨"KateDesk", "transform", "(IIZ)V"⟩
theorem hd_Desk_transform : y_Desk_transform.cls ≠ "java/lang/invoke/MethodHandle" ∧ y_Desk_transform.cls ≠ "java/lang/invoke/VarHandle" ∧ (parseMethodDescriptor y_Desk_transform.desc).map (fun d => d.parameters.length) = some 3 := by decide +kernel
theorem d_Desk_transform_0 : decode prog_1_method_20_code 0 = .ok (.iload_n 2, 1) := by decide +kernel
theorem d_Desk_transform_1 : decode prog_1_method_20_code 1 = .ok (.iconst 0, 1) := by decide +kernel
theorem d_Desk_transform_2 : decode prog_1_method_20_code 2 = .ok (.iconst 4, 1) := by decide +kernel
theorem d_Desk_transform_3 : decode prog_1_method_20_code 3 = .ok (.invokestatic 247, 3) := by decide +kernel
theorem d_Desk_transform_6 : decode prog_1_method_20_code 6 = .ok (.iload_n 1, 1) := by decide +kernel
theorem d_Desk_transform_7 : decode prog_1_method_20_code 7 = .ok (.iconst 1, 1) := by decide +kernel
theorem d_Desk_transform_8 : decode prog_1_method_20_code 8 = .ok (.iload_n 2, 1) := by decide +kernel
theorem d_Desk_transform_9 : decode prog_1_method_20_code 9 = .ok (.ishl, 1) := by decide +kernel
theorem d_Desk_transform_10 : decode prog_1_method_20_code 10 = .ok (.invokestatic 129, 3) := by decide +kernel
theorem d_Desk_transform_13 : decode prog_1_method_20_code 13 = .ok (.iload_n 3, 1) := by decide +kernel
theorem d_Desk_transform_14 : decode prog_1_method_20_code 14 = .ok (.ifCond .eq 19, 3) := by decide +kernel
theorem d_Desk_transform_17 : decode prog_1_method_20_code 17 = .ok (.aload_n 0, 1) := by decide +kernel
theorem d_Desk_transform_18 : decode prog_1_method_20_code 18 = .ok (.getfield 101, 3) := by decide +kernel
theorem d_Desk_transform_21 : decode prog_1_method_20_code 21 = .ok (.aload_n 0, 1) := by decide +kernel
theorem d_Desk_transform_22 : decode prog_1_method_20_code 22 = .ok (.getfield 13, 3) := by decide +kernel
theorem d_Desk_transform_25 : decode prog_1_method_20_code 25 = .ok (.iload_n 1, 1) := by decide +kernel
theorem d_Desk_transform_26 : decode prog_1_method_20_code 26 = .ok (.iload_n 2, 1) := by decide +kernel
theorem d_Desk_transform_27 : decode prog_1_method_20_code 27 = .ok (.invokevirtual 268, 3) := by decide +kernel
theorem d_Desk_transform_30 : decode prog_1_method_20_code 30 = .ok (.goto 16, 3) := by decide +kernel
theorem d_Desk_transform_33 : decode prog_1_method_20_code 33 = .ok (.aload_n 0, 1) := by decide +kernel
theorem d_Desk_transform_34 : decode prog_1_method_20_code 34 = .ok (.getfield 101, 3) := by decide +kernel
theorem d_Desk_transform_37 : decode prog_1_method_20_code 37 = .ok (.aload_n 0, 1) := by decide +kernel
theorem d_Desk_transform_38 : decode prog_1_method_20_code 38 = .ok (.getfield 13, 3) := by decide +kernel
theorem d_Desk_transform_41 : decode prog_1_method_20_code 41 = .ok (.iload_n 1, 1) := by decide +kernel
theorem d_Desk_transform_42 : decode prog_1_method_20_code 42 = .ok (.iload_n 2, 1) := by decide +kernel
theorem d_Desk_transform_43 : decode prog_1_method_20_code 43 = .ok (.invokevirtual 272, 3) := by decide +kernel
theorem d_Desk_transform_46 : decode prog_1_method_20_code 46 = .ok (.return_, 1) := by decide +kernel
abbrev y_Desk_lagrange : MethodName := ⟨"KateDesk", "lagrange", "(IIII)V"⟩
theorem hd_Desk_lagrange : y_Desk_lagrange.cls ≠ "java/lang/invoke/MethodHandle" ∧ y_Desk_lagrange.cls ≠ "java/lang/invoke/VarHandle" ∧ (parseMethodDescriptor y_Desk_lagrange.desc).map (fun d => d.parameters.length) = some 4 := by decide +kernel
theorem d_Desk_lagrange_0 : decode prog_1_method_21_code 0 = .ok (.iload_n 2, 1) := by decide +kernel
theorem d_Desk_lagrange_1 : decode prog_1_method_21_code 1 = .ok (.iconst 0, 1) := by decide +kernel
theorem d_Desk_lagrange_2 : decode prog_1_method_21_code 2 = .ok (.iconst 4, 1) := by decide +kernel
theorem d_Desk_lagrange_3 : decode prog_1_method_21_code 3 = .ok (.invokestatic 247, 3) := by decide +kernel
theorem d_Desk_lagrange_6 : decode prog_1_method_21_code 6 = .ok (.iload_n 3, 1) := by decide +kernel
theorem d_Desk_lagrange_7 : decode prog_1_method_21_code 7 = .ok (.iconst 0, 1) := by decide +kernel
theorem d_Desk_lagrange_8 : decode prog_1_method_21_code 8 = .ok (.iconst 1, 1) := by decide +kernel
theorem d_Desk_lagrange_9 : decode prog_1_method_21_code 9 = .ok (.iload_n 2, 1) := by decide +kernel
theorem d_Desk_lagrange_10 : decode prog_1_method_21_code 10 = .ok (.ishl, 1) := by decide +kernel
theorem d_Desk_lagrange_11 : decode prog_1_method_21_code 11 = .ok (.iconst 1, 1) := by decide +kernel
theorem d_Desk_lagrange_12 : decode prog_1_method_21_code 12 = .ok (.isub, 1) := by decide +kernel
theorem d_Desk_lagrange_13 : decode prog_1_method_21_code 13 = .ok (.invokestatic 247, 3) := by decide +kernel
theorem d_Desk_lagrange_16 : decode prog_1_method_21_code 16 = .ok (.iload_n 1, 1) := by decide +kernel
theorem d_Desk_lagrange_17 : decode prog_1_method_21_code 17 = .ok (.iconst 1, 1) := by decide +kernel
theorem d_Desk_lagrange_18 : decode prog_1_method_21_code 18 = .ok (.invokestatic 129, 3) := by decide +kernel
theorem d_Desk_lagrange_21 : decode prog_1_method_21_code 21 = .ok (.iload 4, 2) := by decide +kernel
theorem d_Desk_lagrange_23 : decode prog_1_method_21_code 23 = .ok (.iconst 1, 1) := by decide +kernel
theorem d_Desk_lagrange_24 : decode prog_1_method_21_code 24 = .ok (.invokestatic 129, 3) := by decide +kernel
theorem d_Desk_lagrange_27 : decode prog_1_method_21_code 27 = .ok (.aload_n 0, 1) := by decide +kernel
theorem d_Desk_lagrange_28 : decode prog_1_method_21_code 28 = .ok (.getfield 72, 3) := by decide +kernel
theorem d_Desk_lagrange_31 : decode prog_1_method_21_code 31 = .ok (.aload_n 0, 1) := by decide +kernel
theorem d_Desk_lagrange_32 : decode prog_1_method_21_code 32 = .ok (.getfield 55, 3) := by decide +kernel
theorem d_Desk_lagrange_35 : decode prog_1_method_21_code 35 = .ok (.aload_n 0, 1) := by decide +kernel
theorem d_Desk_lagrange_36 : decode prog_1_method_21_code 36 = .ok (.getfield 13, 3) := by decide +kernel
theorem d_Desk_lagrange_39 : decode prog_1_method_21_code 39 = .ok (.iload 4, 2) := by decide +kernel
theorem d_Desk_lagrange_41 : decode prog_1_method_21_code 41 = .ok (.aaload, 1) := by decide +kernel
theorem d_Desk_lagrange_42 : decode prog_1_method_21_code 42 = .ok (.invokevirtual 187, 3) := by decide +kernel
theorem d_Desk_lagrange_45 : decode prog_1_method_21_code 45 = .ok (.aload_n 0, 1) := by decide +kernel
theorem d_Desk_lagrange_46 : decode prog_1_method_21_code 46 = .ok (.getfield 101, 3) := by decide +kernel
theorem d_Desk_lagrange_49 : decode prog_1_method_21_code 49 = .ok (.aload_n 0, 1) := by decide +kernel
theorem d_Desk_lagrange_50 : decode prog_1_method_21_code 50 = .ok (.getfield 13, 3) := by decide +kernel
theorem d_Desk_lagrange_53 : decode prog_1_method_21_code 53 = .ok (.iload_n 1, 1) := by decide +kernel
theorem d_Desk_lagrange_54 : decode prog_1_method_21_code 54 = .ok (.aaload, 1) := by decide +kernel
theorem d_Desk_lagrange_55 : decode prog_1_method_21_code 55 = .ok (.iload_n 2, 1) := by decide +kernel
theorem d_Desk_lagrange_56 : decode prog_1_method_21_code 56 = .ok (.iload_n 3, 1) := by decide +kernel
theorem d_Desk_lagrange_57 : decode prog_1_method_21_code 57 = .ok (.aload_n 0, 1) := by decide +kernel
theorem d_Desk_lagrange_58 : decode prog_1_method_21_code 58 = .ok (.getfield 55, 3) := by decide +kernel
theorem d_Desk_lagrange_61 : decode prog_1_method_21_code 61 = .ok (.invokevirtual 275, 3) := by decide +kernel
theorem d_Desk_lagrange_64 : decode prog_1_method_21_code 64 = .ok (.return_, 1) := by decide +kernel
abbrev y_Desk_look : MethodName := ⟨"KateDesk", "look", "(I)I"⟩
theorem hd_Desk_look : y_Desk_look.cls ≠ "java/lang/invoke/MethodHandle" ∧ y_Desk_look.cls ≠ "java/lang/invoke/VarHandle" ∧ (parseMethodDescriptor y_Desk_look.desc).map (fun d => d.parameters.length) = some 1 := by decide +kernel
theorem d_Desk_look_0 : decode prog_1_method_22_code 0 = .ok (.iload_n 1, 1) := by decide +kernel
theorem d_Desk_look_1 : decode prog_1_method_22_code 1 = .ok (.ifCond .ne 8, 3) := by decide +kernel
theorem d_Desk_look_4 : decode prog_1_method_22_code 4 = .ok (.aload_n 0, 1) := by decide +kernel
theorem d_Desk_look_5 : decode prog_1_method_22_code 5 = .ok (.getfield 27, 3) := by decide +kernel
theorem d_Desk_look_8 : decode prog_1_method_22_code 8 = .ok (.ireturn, 1) := by decide +kernel
theorem d_Desk_look_9 : decode prog_1_method_22_code 9 = .ok (.iload_n 1, 1) := by decide +kernel
theorem d_Desk_look_10 : decode prog_1_method_22_code 10 = .ok (.iconst 1, 1) := by decide +kernel
theorem d_Desk_look_11 : decode prog_1_method_22_code 11 = .ok (.if_icmp .ne 11, 3) := by decide +kernel
theorem d_Desk_look_14 : decode prog_1_method_22_code 14 = .ok (.aload_n 0, 1) := by decide +kernel
theorem d_Desk_look_15 : decode prog_1_method_22_code 15 = .ok (.getfield 34, 3) := by decide +kernel
theorem d_Desk_look_18 : decode prog_1_method_22_code 18 = .ok (.getfield 117, 3) := by decide +kernel
theorem d_Desk_look_21 : decode prog_1_method_22_code 21 = .ok (.ireturn, 1) := by decide +kernel
theorem d_Desk_look_22 : decode prog_1_method_22_code 22 = .ok (.iload_n 1, 1) := by decide +kernel
theorem d_Desk_look_23 : decode prog_1_method_22_code 23 = .ok (.iconst 2, 1) := by decide +kernel
theorem d_Desk_look_24 : decode prog_1_method_22_code 24 = .ok (.if_icmp .ne 11, 3) := by decide +kernel
theorem d_Desk_look_27 : decode prog_1_method_22_code 27 = .ok (.aload_n 0, 1) := by decide +kernel
theorem d_Desk_look_28 : decode prog_1_method_22_code 28 = .ok (.getfield 38, 3) := by decide +kernel
theorem d_Desk_look_31 : decode prog_1_method_22_code 31 = .ok (.getfield 117, 3) := by decide +kernel
theorem d_Desk_look_34 : decode prog_1_method_22_code 34 = .ok (.ireturn, 1) := by decide +kernel
theorem d_Desk_look_35 : decode prog_1_method_22_code 35 = .ok (.new 112, 3) := by decide +kernel
theorem d_Desk_look_38 : decode prog_1_method_22_code 38 = .ok (.dup, 1) := by decide +kernel
theorem d_Desk_look_39 : decode prog_1_method_22_code 39 = .ok (.ldc_w 279, 3) := by decide +kernel
theorem d_Desk_look_42 : decode prog_1_method_22_code 42 = .ok (.invokespecial 116, 3) := by decide +kernel
theorem d_Desk_look_45 : decode prog_1_method_22_code 45 = .ok (.athrow, 1) := by decide +kernel
