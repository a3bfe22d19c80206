theorem updL_z {f : Nat → Int64} {i : Nat} (h : ∀ j, j < i → f j = 0) : ∀ j, j < i + 1 → vp_updL f i 0 j = 0 := by
  intro j hj
  by_cases e : j = i
  · simp [vp_updL, e]
  · simp only [vp_updL, e, if_false]; exact h j (by omega)
abbrev y_Field_add : MethodName := ⟨"KateDesk$Field", "add", "([J[J[J)V"⟩
theorem hd_Field_add : y_Field_add.cls ≠ "java/lang/invoke/MethodHandle" ∧ y_Field_add.cls ≠ "java/lang/invoke/VarHandle" ∧ (parseMethodDescriptor y_Field_add.desc).map (fun d => d.parameters.length) = some 3 := by decide +kernel
theorem d_Field_add_0 : decode prog_3_method_4_code 0 = .ok (.lconst 0, 1) := by decide +kernel
theorem d_Field_add_1 : decode prog_3_method_4_code 1 = .ok (.lstore 4, 2) := by decide +kernel
theorem d_Field_add_3 : decode prog_3_method_4_code 3 = .ok (.iconst 0, 1) := by decide +kernel
theorem d_Field_add_4 : decode prog_3_method_4_code 4 = .ok (.istore 6, 2) := by decide +kernel
theorem d_Field_add_6 : decode prog_3_method_4_code 6 = .ok (.iload 6, 2) := by decide +kernel
theorem d_Field_add_8 : decode prog_3_method_4_code 8 = .ok (.bipush 14, 2) := by decide +kernel
theorem d_Field_add_10 : decode prog_3_method_4_code 10 = .ok (.if_icmp .ge 40, 3) := by decide +kernel
theorem d_Field_add_13 : decode prog_3_method_4_code 13 = .ok (.lload 4, 2) := by decide +kernel
theorem d_Field_add_15 : decode prog_3_method_4_code 15 = .ok (.aload_n 2, 1) := by decide +kernel
theorem d_Field_add_16 : decode prog_3_method_4_code 16 = .ok (.iload 6, 2) := by decide +kernel
theorem d_Field_add_18 : decode prog_3_method_4_code 18 = .ok (.laload, 1) := by decide +kernel
theorem d_Field_add_19 : decode prog_3_method_4_code 19 = .ok (.aload_n 3, 1) := by decide +kernel
theorem d_Field_add_20 : decode prog_3_method_4_code 20 = .ok (.iload 6, 2) := by decide +kernel
theorem d_Field_add_22 : decode prog_3_method_4_code 22 = .ok (.laload, 1) := by decide +kernel
theorem d_Field_add_23 : decode prog_3_method_4_code 23 = .ok (.ladd, 1) := by decide +kernel
theorem d_Field_add_24 : decode prog_3_method_4_code 24 = .ok (.ladd, 1) := by decide +kernel
theorem d_Field_add_25 : decode prog_3_method_4_code 25 = .ok (.lstore 4, 2) := by decide +kernel
theorem d_Field_add_27 : decode prog_3_method_4_code 27 = .ok (.aload_n 1, 1) := by decide +kernel
theorem d_Field_add_28 : decode prog_3_method_4_code 28 = .ok (.iload 6, 2) := by decide +kernel
theorem d_Field_add_30 : decode prog_3_method_4_code 30 = .ok (.lload 4, 2) := by decide +kernel
theorem d_Field_add_32 : decode prog_3_method_4_code 32 = .ok (.ldc2_w 59, 3) := by decide +kernel
theorem d_Field_add_35 : decode prog_3_method_4_code 35 = .ok (.land, 1) := by decide +kernel
theorem d_Field_add_36 : decode prog_3_method_4_code 36 = .ok (.lastore, 1) := by decide +kernel
theorem d_Field_add_37 : decode prog_3_method_4_code 37 = .ok (.lload 4, 2) := by decide +kernel
theorem d_Field_add_39 : decode prog_3_method_4_code 39 = .ok (.bipush 28, 2) := by decide +kernel
theorem d_Field_add_41 : decode prog_3_method_4_code 41 = .ok (.lshr, 1) := by decide +kernel
theorem d_Field_add_42 : decode prog_3_method_4_code 42 = .ok (.lstore 4, 2) := by decide +kernel
theorem d_Field_add_44 : decode prog_3_method_4_code 44 = .ok (.iinc 6 1, 3) := by decide +kernel
theorem d_Field_add_47 : decode prog_3_method_4_code 47 = .ok (.goto (-41), 3) := by decide +kernel
theorem d_Field_add_50 : decode prog_3_method_4_code 50 = .ok (.aload_n 0, 1) := by decide +kernel
theorem d_Field_add_51 : decode prog_3_method_4_code 51 = .ok (.aload_n 1, 1) := by decide +kernel
theorem d_Field_add_52 : decode prog_3_method_4_code 52 = .ok (.invokevirtual 64, 3) := by decide +kernel
theorem d_Field_add_55 : decode prog_3_method_4_code 55 = .ok (.return_, 1) := by decide +kernel
abbrev y_Field_subtract : MethodName := ⟨"KateDesk$Field", "subtract", "([J[J[J)V"⟩
theorem hd_Field_subtract : y_Field_subtract.cls ≠ "java/lang/invoke/MethodHandle" ∧ y_Field_subtract.cls ≠ "java/lang/invoke/VarHandle" ∧ (parseMethodDescriptor y_Field_subtract.desc).map (fun d => d.parameters.length) = some 3 := by decide +kernel
theorem d_Field_subtract_0 : decode prog_3_method_5_code 0 = .ok (.lconst 0, 1) := by decide +kernel
theorem d_Field_subtract_1 : decode prog_3_method_5_code 1 = .ok (.lstore 4, 2) := by decide +kernel
theorem d_Field_subtract_3 : decode prog_3_method_5_code 3 = .ok (.iconst 0, 1) := by decide +kernel
theorem d_Field_subtract_4 : decode prog_3_method_5_code 4 = .ok (.istore 6, 2) := by decide +kernel
theorem d_Field_subtract_6 : decode prog_3_method_5_code 6 = .ok (.iload 6, 2) := by decide +kernel
theorem d_Field_subtract_8 : decode prog_3_method_5_code 8 = .ok (.bipush 14, 2) := by decide +kernel
theorem d_Field_subtract_10 : decode prog_3_method_5_code 10 = .ok (.if_icmp .ge 40, 3) := by decide +kernel
theorem d_Field_subtract_13 : decode prog_3_method_5_code 13 = .ok (.lload 4, 2) := by decide +kernel
theorem d_Field_subtract_15 : decode prog_3_method_5_code 15 = .ok (.aload_n 2, 1) := by decide +kernel
theorem d_Field_subtract_16 : decode prog_3_method_5_code 16 = .ok (.iload 6, 2) := by decide +kernel
theorem d_Field_subtract_18 : decode prog_3_method_5_code 18 = .ok (.laload, 1) := by decide +kernel
theorem d_Field_subtract_19 : decode prog_3_method_5_code 19 = .ok (.aload_n 3, 1) := by decide +kernel
theorem d_Field_subtract_20 : decode prog_3_method_5_code 20 = .ok (.iload 6, 2) := by decide +kernel
theorem d_Field_subtract_22 : decode prog_3_method_5_code 22 = .ok (.laload, 1) := by decide +kernel
theorem d_Field_subtract_23 : decode prog_3_method_5_code 23 = .ok (.lsub, 1) := by decide +kernel
theorem d_Field_subtract_24 : decode prog_3_method_5_code 24 = .ok (.ladd, 1) := by decide +kernel
theorem d_Field_subtract_25 : decode prog_3_method_5_code 25 = .ok (.lstore 4, 2) := by decide +kernel
theorem d_Field_subtract_27 : decode prog_3_method_5_code 27 = .ok (.aload_n 1, 1) := by decide +kernel
theorem d_Field_subtract_28 : decode prog_3_method_5_code 28 = .ok (.iload 6, 2) := by decide +kernel
theorem d_Field_subtract_30 : decode prog_3_method_5_code 30 = .ok (.lload 4, 2) := by decide +kernel
theorem d_Field_subtract_32 : decode prog_3_method_5_code 32 = .ok (.ldc2_w 59, 3) := by decide +kernel
theorem d_Field_subtract_35 : decode prog_3_method_5_code 35 = .ok (.land, 1) := by decide +kernel
theorem d_Field_subtract_36 : decode prog_3_method_5_code 36 = .ok (.lastore, 1) := by decide +kernel
theorem d_Field_subtract_37 : decode prog_3_method_5_code 37 = .ok (.lload 4, 2) := by decide +kernel
theorem d_Field_subtract_39 : decode prog_3_method_5_code 39 = .ok (.bipush 28, 2) := by decide +kernel
theorem d_Field_subtract_41 : decode prog_3_method_5_code 41 = .ok (.lshr, 1) := by decide +kernel
theorem d_Field_subtract_42 : decode prog_3_method_5_code 42 = .ok (.lstore 4, 2) := by decide +kernel
theorem d_Field_subtract_44 : decode prog_3_method_5_code 44 = .ok (.iinc 6 1, 3) := by decide +kernel
theorem d_Field_subtract_47 : decode prog_3_method_5_code 47 = .ok (.goto (-41), 3) := by decide +kernel
theorem d_Field_subtract_50 : decode prog_3_method_5_code 50 = .ok (.lload 4, 2) := by decide +kernel
theorem d_Field_subtract_52 : decode prog_3_method_5_code 52 = .ok (.lconst 0, 1) := by decide +kernel
theorem d_Field_subtract_53 : decode prog_3_method_5_code 53 = .ok (.lcmp, 1) := by decide +kernel
theorem d_Field_subtract_54 : decode prog_3_method_5_code 54 = .ok (.ifCond .ne 4, 3) := by decide +kernel
theorem d_Field_subtract_57 : decode prog_3_method_5_code 57 = .ok (.return_, 1) := by decide +kernel
theorem d_Field_subtract_58 : decode prog_3_method_5_code 58 = .ok (.lconst 0, 1) := by decide +kernel
theorem d_Field_subtract_59 : decode prog_3_method_5_code 59 = .ok (.lstore 4, 2) := by decide +kernel
theorem d_Field_subtract_61 : decode prog_3_method_5_code 61 = .ok (.iconst 0, 1) := by decide +kernel
theorem d_Field_subtract_62 : decode prog_3_method_5_code 62 = .ok (.istore 6, 2) := by decide +kernel
theorem d_Field_subtract_64 : decode prog_3_method_5_code 64 = .ok (.iload 6, 2) := by decide +kernel
theorem d_Field_subtract_66 : decode prog_3_method_5_code 66 = .ok (.bipush 14, 2) := by decide +kernel
theorem d_Field_subtract_68 : decode prog_3_method_5_code 68 = .ok (.if_icmp .ge 43, 3) := by decide +kernel
theorem d_Field_subtract_71 : decode prog_3_method_5_code 71 = .ok (.lload 4, 2) := by decide +kernel
theorem d_Field_subtract_73 : decode prog_3_method_5_code 73 = .ok (.aload_n 1, 1) := by decide +kernel
theorem d_Field_subtract_74 : decode prog_3_method_5_code 74 = .ok (.iload 6, 2) := by decide +kernel
theorem d_Field_subtract_76 : decode prog_3_method_5_code 76 = .ok (.laload, 1) := by decide +kernel
theorem d_Field_subtract_77 : decode prog_3_method_5_code 77 = .ok (.aload_n 0, 1) := by decide +kernel
theorem d_Field_subtract_78 : decode prog_3_method_5_code 78 = .ok (.getfield 31, 3) := by decide +kernel
theorem d_Field_subtract_81 : decode prog_3_method_5_code 81 = .ok (.iload 6, 2) := by decide +kernel
theorem d_Field_subtract_83 : decode prog_3_method_5_code 83 = .ok (.laload, 1) := by decide +kernel
theorem d_Field_subtract_84 : decode prog_3_method_5_code 84 = .ok (.ladd, 1) := by decide +kernel
theorem d_Field_subtract_85 : decode prog_3_method_5_code 85 = .ok (.ladd, 1) := by decide +kernel
theorem d_Field_subtract_86 : decode prog_3_method_5_code 86 = .ok (.lstore 4, 2) := by decide +kernel
theorem d_Field_subtract_88 : decode prog_3_method_5_code 88 = .ok (.aload_n 1, 1) := by decide +kernel
theorem d_Field_subtract_89 : decode prog_3_method_5_code 89 = .ok (.iload 6, 2) := by decide +kernel
theorem d_Field_subtract_91 : decode prog_3_method_5_code 91 = .ok (.lload 4, 2) := by decide +kernel
theorem d_Field_subtract_93 : decode prog_3_method_5_code 93 = .ok (.ldc2_w 59, 3) := by decide +kernel
theorem d_Field_subtract_96 : decode prog_3_method_5_code 96 = .ok (.land, 1) := by decide +kernel
theorem d_Field_subtract_97 : decode prog_3_method_5_code 97 = .ok (.lastore, 1) := by decide +kernel
theorem d_Field_subtract_98 : decode prog_3_method_5_code 98 = .ok (.lload 4, 2) := by decide +kernel
theorem d_Field_subtract_100 : decode prog_3_method_5_code 100 = .ok (.bipush 28, 2) := by decide +kernel
theorem d_Field_subtract_102 : decode prog_3_method_5_code 102 = .ok (.lshr, 1) := by decide +kernel
theorem d_Field_subtract_103 : decode prog_3_method_5_code 103 = .ok (.lstore 4, 2) := by decide +kernel
theorem d_Field_subtract_105 : decode prog_3_method_5_code 105 = .ok (.iinc 6 1, 3) := by decide +kernel
theorem d_Field_subtract_108 : decode prog_3_method_5_code 108 = .ok (.goto (-44), 3) := by decide +kernel
theorem d_Field_subtract_111 : decode prog_3_method_5_code 111 = .ok (.return_, 1) := by decide +kernel
abbrev y_Field_negate : MethodName := ⟨"KateDesk$Field", "negate", "([J[J)V"⟩
theorem hd_Field_negate : y_Field_negate.cls ≠ "java/lang/invoke/MethodHandle" ∧ y_Field_negate.cls ≠ "java/lang/invoke/VarHandle" ∧ (parseMethodDescriptor y_Field_negate.desc).map (fun d => d.parameters.length) = some 2 := by decide +kernel
theorem d_Field_negate_0 : decode prog_3_method_6_code 0 = .ok (.aload_n 0, 1) := by decide +kernel
theorem d_Field_negate_1 : decode prog_3_method_6_code 1 = .ok (.getfield 24, 3) := by decide +kernel
theorem d_Field_negate_4 : decode prog_3_method_6_code 4 = .ok (.invokestatic 68, 3) := by decide +kernel
theorem d_Field_negate_7 : decode prog_3_method_6_code 7 = .ok (.aload_n 0, 1) := by decide +kernel
theorem d_Field_negate_8 : decode prog_3_method_6_code 8 = .ok (.aload_n 1, 1) := by decide +kernel
theorem d_Field_negate_9 : decode prog_3_method_6_code 9 = .ok (.aload_n 0, 1) := by decide +kernel
theorem d_Field_negate_10 : decode prog_3_method_6_code 10 = .ok (.getfield 24, 3) := by decide +kernel
theorem d_Field_negate_13 : decode prog_3_method_6_code 13 = .ok (.aload_n 2, 1) := by decide +kernel
theorem d_Field_negate_14 : decode prog_3_method_6_code 14 = .ok (.invokevirtual 54, 3) := by decide +kernel
theorem d_Field_negate_17 : decode prog_3_method_6_code 17 = .ok (.return_, 1) := by decide +kernel
abbrev y_Field_lift : MethodName := ⟨"KateDesk$Field", "lift", "([J[J)V"⟩
theorem hd_Field_lift : y_Field_lift.cls ≠ "java/lang/invoke/MethodHandle" ∧ y_Field_lift.cls ≠ "java/lang/invoke/VarHandle" ∧ (parseMethodDescriptor y_Field_lift.desc).map (fun d => d.parameters.length) = some 2 := by decide +kernel
theorem d_Field_lift_0 : decode prog_3_method_9_code 0 = .ok (.aload_n 0, 1) := by decide +kernel
theorem d_Field_lift_1 : decode prog_3_method_9_code 1 = .ok (.aload_n 1, 1) := by decide +kernel
theorem d_Field_lift_2 : decode prog_3_method_9_code 2 = .ok (.aload_n 2, 1) := by decide +kernel
theorem d_Field_lift_3 : decode prog_3_method_9_code 3 = .ok (.aload_n 0, 1) := by decide +kernel
theorem d_Field_lift_4 : decode prog_3_method_9_code 4 = .ok (.getfield 18, 3) := by decide +kernel
theorem d_Field_lift_7 : decode prog_3_method_9_code 7 = .ok (.invokevirtual 50, 3) := by decide +kernel
theorem d_Field_lift_10 : decode prog_3_method_9_code 10 = .ok (.return_, 1) := by decide +kernel
abbrev y_Field_lower : MethodName := ⟨"KateDesk$Field", "lower", "([J[J)V"⟩
theorem hd_Field_lower : y_Field_lower.cls ≠ "java/lang/invoke/MethodHandle" ∧ y_Field_lower.cls ≠ "java/lang/invoke/VarHandle" ∧ (parseMethodDescriptor y_Field_lower.desc).map (fun d => d.parameters.length) = some 2 := by decide +kernel
theorem d_Field_lower_0 : decode prog_3_method_10_code 0 = .ok (.aload_n 0, 1) := by decide +kernel
theorem d_Field_lower_1 : decode prog_3_method_10_code 1 = .ok (.aload_n 1, 1) := by decide +kernel
theorem d_Field_lower_2 : decode prog_3_method_10_code 2 = .ok (.aload_n 2, 1) := by decide +kernel
theorem d_Field_lower_3 : decode prog_3_method_10_code 3 = .ok (.aload_n 0, 1) := by decide +kernel
theorem d_Field_lower_4 : decode prog_3_method_10_code 4 = .ok (.getfield 15, 3) := by decide +kernel
theorem d_Field_lower_7 : decode prog_3_method_10_code 7 = .ok (.invokevirtual 50, 3) := by decide +kernel
theorem d_Field_lower_10 : decode prog_3_method_10_code 10 = .ok (.return_, 1) := by decide +kernel
abbrev y_Field_raise : MethodName := ⟨"KateDesk$Field", "raise", "([J[J[J)V"⟩
theorem hd_Field_raise : y_Field_raise.cls ≠ "java/lang/invoke/MethodHandle" ∧ y_Field_raise.cls ≠ "java/lang/invoke/VarHandle" ∧ (parseMethodDescriptor y_Field_raise.desc).map (fun d => d.parameters.length) = some 3 := by decide +kernel
theorem d_Field_raise_0 : decode prog_3_method_11_code 0 = .ok (.aload_n 0, 1) := by decide +kernel
theorem d_Field_raise_1 : decode prog_3_method_11_code 1 = .ok (.getfield 24, 3) := by decide +kernel
theorem d_Field_raise_4 : decode prog_3_method_11_code 4 = .ok (.aload_n 2, 1) := by decide +kernel
theorem d_Field_raise_5 : decode prog_3_method_11_code 5 = .ok (.invokestatic 42, 3) := by decide +kernel
theorem d_Field_raise_8 : decode prog_3_method_11_code 8 = .ok (.aload_n 1, 1) := by decide +kernel
theorem d_Field_raise_9 : decode prog_3_method_11_code 9 = .ok (.aload_n 0, 1) := by decide +kernel
theorem d_Field_raise_10 : decode prog_3_method_11_code 10 = .ok (.getfield 9, 3) := by decide +kernel
theorem d_Field_raise_13 : decode prog_3_method_11_code 13 = .ok (.invokestatic 42, 3) := by decide +kernel
theorem d_Field_raise_16 : decode prog_3_method_11_code 16 = .ok (.iconst 0, 1) := by decide +kernel
theorem d_Field_raise_17 : decode prog_3_method_11_code 17 = .ok (.istore 4, 2) := by decide +kernel
theorem d_Field_raise_19 : decode prog_3_method_11_code 19 = .ok (.sipush 391, 3) := by decide +kernel
theorem d_Field_raise_22 : decode prog_3_method_11_code 22 = .ok (.istore 5, 2) := by decide +kernel
theorem d_Field_raise_24 : decode prog_3_method_11_code 24 = .ok (.iload 5, 2) := by decide +kernel
theorem d_Field_raise_26 : decode prog_3_method_11_code 26 = .ok (.ifCond .lt 46, 3) := by decide +kernel
theorem d_Field_raise_29 : decode prog_3_method_11_code 29 = .ok (.iload 4, 2) := by decide +kernel
theorem d_Field_raise_31 : decode prog_3_method_11_code 31 = .ok (.ifCond .eq 10, 3) := by decide +kernel
theorem d_Field_raise_34 : decode prog_3_method_11_code 34 = .ok (.aload_n 0, 1) := by decide +kernel
theorem d_Field_raise_35 : decode prog_3_method_11_code 35 = .ok (.aload_n 1, 1) := by decide +kernel
theorem d_Field_raise_36 : decode prog_3_method_11_code 36 = .ok (.aload_n 1, 1) := by decide +kernel
theorem d_Field_raise_37 : decode prog_3_method_11_code 37 = .ok (.aload_n 1, 1) := by decide +kernel
theorem d_Field_raise_38 : decode prog_3_method_11_code 38 = .ok (.invokevirtual 50, 3) := by decide +kernel
theorem d_Field_raise_41 : decode prog_3_method_11_code 41 = .ok (.aload_n 3, 1) := by decide +kernel
theorem d_Field_raise_42 : decode prog_3_method_11_code 42 = .ok (.iload 5, 2) := by decide +kernel
theorem d_Field_raise_44 : decode prog_3_method_11_code 44 = .ok (.iconst 1, 1) := by decide +kernel
theorem d_Field_raise_45 : decode prog_3_method_11_code 45 = .ok (.invokestatic 71, 3) := by decide +kernel
theorem d_Field_raise_48 : decode prog_3_method_11_code 48 = .ok (.lconst 1, 1) := by decide +kernel
theorem d_Field_raise_49 : decode prog_3_method_11_code 49 = .ok (.lcmp, 1) := by decide +kernel
theorem d_Field_raise_50 : decode prog_3_method_11_code 50 = .ok (.ifCond .ne 16, 3) := by decide +kernel
theorem d_Field_raise_53 : decode prog_3_method_11_code 53 = .ok (.aload_n 0, 1) := by decide +kernel
theorem d_Field_raise_54 : decode prog_3_method_11_code 54 = .ok (.aload_n 1, 1) := by decide +kernel
theorem d_Field_raise_55 : decode prog_3_method_11_code 55 = .ok (.aload_n 1, 1) := by decide +kernel
theorem d_Field_raise_56 : decode prog_3_method_11_code 56 = .ok (.aload_n 0, 1) := by decide +kernel
theorem d_Field_raise_57 : decode prog_3_method_11_code 57 = .ok (.getfield 24, 3) := by decide +kernel
theorem d_Field_raise_60 : decode prog_3_method_11_code 60 = .ok (.invokevirtual 50, 3) := by decide +kernel
theorem d_Field_raise_63 : decode prog_3_method_11_code 63 = .ok (.iconst 1, 1) := by decide +kernel
theorem d_Field_raise_64 : decode prog_3_method_11_code 64 = .ok (.istore 4, 2) := by decide +kernel
theorem d_Field_raise_66 : decode prog_3_method_11_code 66 = .ok (.iinc 5 (-1), 3) := by decide +kernel
theorem d_Field_raise_69 : decode prog_3_method_11_code 69 = .ok (.goto (-45), 3) := by decide +kernel
theorem d_Field_raise_72 : decode prog_3_method_11_code 72 = .ok (.return_, 1) := by decide +kernel
abbrev y_Field_doubled : MethodName := ⟨"KateDesk$Field", "doubled", "([JI)V"⟩
theorem hd_Field_doubled : y_Field_doubled.cls ≠ "java/lang/invoke/MethodHandle" ∧ y_Field_doubled.cls ≠ "java/lang/invoke/VarHandle" ∧ (parseMethodDescriptor y_Field_doubled.desc).map (fun d => d.parameters.length) = some 2 := by decide +kernel
theorem d_Field_doubled_0 : decode prog_3_method_3_code 0 = .ok (.iconst 0, 1) := by decide +kernel
theorem d_Field_doubled_1 : decode prog_3_method_3_code 1 = .ok (.istore_n 3, 1) := by decide +kernel
theorem d_Field_doubled_2 : decode prog_3_method_3_code 2 = .ok (.iload_n 3, 1) := by decide +kernel
theorem d_Field_doubled_3 : decode prog_3_method_3_code 3 = .ok (.iload_n 2, 1) := by decide +kernel
theorem d_Field_doubled_4 : decode prog_3_method_3_code 4 = .ok (.if_icmp .ge 16, 3) := by decide +kernel
theorem d_Field_doubled_7 : decode prog_3_method_3_code 7 = .ok (.aload_n 0, 1) := by decide +kernel
theorem d_Field_doubled_8 : decode prog_3_method_3_code 8 = .ok (.aload_n 1, 1) := by decide +kernel
theorem d_Field_doubled_9 : decode prog_3_method_3_code 9 = .ok (.aload_n 1, 1) := by decide +kernel
theorem d_Field_doubled_10 : decode prog_3_method_3_code 10 = .ok (.aload_n 1, 1) := by decide +kernel
theorem d_Field_doubled_11 : decode prog_3_method_3_code 11 = .ok (.invokevirtual 61, 3) := by decide +kernel
theorem d_Field_doubled_14 : decode prog_3_method_3_code 14 = .ok (.iinc 3 1, 3) := by decide +kernel
theorem d_Field_doubled_17 : decode prog_3_method_3_code 17 = .ok (.goto (-15), 3) := by decide +kernel
theorem d_Field_doubled_20 : decode prog_3_method_3_code 20 = .ok (.return_, 1) := by decide +kernel
abbrev y_Field_minusInverseOf : MethodName := ⟨"KateDesk$Field", "minusInverseOf", "(J)J"⟩
theorem hd_Field_minusInverseOf : y_Field_minusInverseOf.cls ≠ "java/lang/invoke/MethodHandle" ∧ y_Field_minusInverseOf.cls ≠ "java/lang/invoke/VarHandle" ∧ (parseMethodDescriptor y_Field_minusInverseOf.desc).map (fun d => d.parameters.length) = some 1 := by decide +kernel
theorem d_Field_minusInverseOf_0 : decode prog_3_method_2_code 0 = .ok (.lconst 1, 1) := by decide +kernel
theorem d_Field_minusInverseOf_1 : decode prog_3_method_2_code 1 = .ok (.lstore_n 2, 1) := by decide +kernel
theorem d_Field_minusInverseOf_2 : decode prog_3_method_2_code 2 = .ok (.iconst 0, 1) := by decide +kernel
theorem d_Field_minusInverseOf_3 : decode prog_3_method_2_code 3 = .ok (.istore 4, 2) := by decide +kernel
theorem d_Field_minusInverseOf_5 : decode prog_3_method_2_code 5 = .ok (.iload 4, 2) := by decide +kernel
theorem d_Field_minusInverseOf_7 : decode prog_3_method_2_code 7 = .ok (.iconst 5, 1) := by decide +kernel
theorem d_Field_minusInverseOf_8 : decode prog_3_method_2_code 8 = .ok (.if_icmp .ge 19, 3) := by decide +kernel
theorem d_Field_minusInverseOf_11 : decode prog_3_method_2_code 11 = .ok (.lload_n 2, 1) := by decide +kernel
theorem d_Field_minusInverseOf_12 : decode prog_3_method_2_code 12 = .ok (.ldc2_w 57, 3) := by decide +kernel
theorem d_Field_minusInverseOf_15 : decode prog_3_method_2_code 15 = .ok (.lload_n 0, 1) := by decide +kernel
theorem d_Field_minusInverseOf_16 : decode prog_3_method_2_code 16 = .ok (.lload_n 2, 1) := by decide +kernel
theorem d_Field_minusInverseOf_17 : decode prog_3_method_2_code 17 = .ok (.lmul, 1) := by decide +kernel
theorem d_Field_minusInverseOf_18 : decode prog_3_method_2_code 18 = .ok (.lsub, 1) := by decide +kernel
theorem d_Field_minusInverseOf_19 : decode prog_3_method_2_code 19 = .ok (.lmul, 1) := by decide +kernel
theorem d_Field_minusInverseOf_20 : decode prog_3_method_2_code 20 = .ok (.lstore_n 2, 1) := by decide +kernel
theorem d_Field_minusInverseOf_21 : decode prog_3_method_2_code 21 = .ok (.iinc 4 1, 3) := by decide +kernel
theorem d_Field_minusInverseOf_24 : decode prog_3_method_2_code 24 = .ok (.goto (-19), 3) := by decide +kernel
theorem d_Field_minusInverseOf_27 : decode prog_3_method_2_code 27 = .ok (.lload_n 2, 1) := by decide +kernel
theorem d_Field_minusInverseOf_28 : decode prog_3_method_2_code 28 = .ok (.lneg, 1) := by decide +kernel
theorem d_Field_minusInverseOf_29 : decode prog_3_method_2_code 29 = .ok (.ldc2_w 59, 3) := by decide +kernel
theorem d_Field_minusInverseOf_32 : decode prog_3_method_2_code 32 = .ok (.land, 1) := by decide +kernel
theorem d_Field_minusInverseOf_33 : decode prog_3_method_2_code 33 = .ok (.lreturn, 1) := by decide +kernel
set_option maxHeartbeats 4000000 in
set_option maxRecDepth 100000 in
/-- 0 - 0 is 0 -/
theorem z_Field_subtract (l : Launch) (g : WG) (n0 : Nat → Prop) (o t a b : Nat) (hta : a ≠ t) (htb : b ≠ t) : Ctr l y_Field_subtract (.code y_Field_subtract prog_3_method_5_code 7 none) 0 0 0 0 n0 g [.ref o, .ref t, .ref a, .ref b] (fun H => J14 g n0 H t ∧ AJ g H a 14 (fun _ => 0) ∧ AJ g H b 14 (fun _ => 0)) (QV (fun H H' => KJ g (fun q => q = t) H H' ∧ AJ g H' t 14 (fun _ => 0))) := by
  refine ctr_mk l (lv0 := [(0, .ref o), (1, .ref t), (2, .ref a), (3, .ref b)]) (by decide) (Nat.le_of_ble_eq_true rfl) rfl ?_
  intro p e s m below meth c ls E hr hlk hnm hl hP
  have hx := E.1
  have hb := E.2.1
  have hK := E.2.2.2.2.2
  have hF : ∀ q ∈ ([] : List Loc), n0 q.base := fun q hq => absurd hq List.not_mem_nil
  obtain ⟨⟨ht, ft, hft⟩, ha, hb0⟩ := hP
  have loop : ∀ (k : Nat) (i : Nat) (H : Heap) (locs : List Loc) (ls : Array Slot) (f : Nat → Int64), i + k = 14 → KJ g (fun q => q = t) s.heap H → AJ g H t 14 f → (∀ j, j < i → f j = 0) → (∀ q ∈ locs, n0 q.base) → lv_has ls 7 [(6, .int (nI i)), (4, .long 0), (0, .ref o), (1, .ref t), (2, .ref a), (3, .ref b)] → W p l e { frames := 0, cells := 0, slots := 0, locals := 0 } s m [.ref o, .ref t, .ref a, .ref b].toArray below meth c H locs 0 0 (MQ below (QcP (QV (fun H H' => KJ g (fun q => q = t) H H' ∧ AJ g H' t 14 (fun _ => 0)))) [.ref o, .ref t, .ref a, .ref b].toArray s 0 0 (fun q => n0 q)) (F0 m 6 ls []) := by
    intro k
    induction k with
    | zero =>
      intro  i   H   locs   ls   f hi hk hf hv hF hl
      obtain rfl : i = 14 := by omega
      refine lv_iload hx hb d_Field_subtract_6 (lv_at hl 0 rfl) ?_
      refine lv_bipush (v := nI 14) hx hb d_Field_subtract_8 (by decide) ?_
      refine lv_icmp_ge (tgt := 50) hx hb d_Field_subtract_10 (by decide) (fun _ => ?_) (fun h9 => absurd (by decide) h9)
      refine lv_lload hx hb d_Field_subtract_50 (lv_at hl 1 rfl) ?_
      refine lv_lconst (v := 0) hx hb d_Field_subtract_52 (by decide) ?_
      refine W.lcmp hx hb d_Field_subtract_53 ?_
      refine lv_if_ne (tgt := 58) hx hb d_Field_subtract_54 (by decide) (fun h9 => absurd (by decide) h9) (fun _ => ?_)
      exact q_vret E hr hlk (⟨rfl, hk, hf.ext hv⟩) hF d_Field_subtract_57
    | succ k ih =>
      intro  i   H   locs   ls   f hi hk hf hv hF hl
      have hi14 : i < 14 := by omega
      refine lv_iload hx hb d_Field_subtract_6 (lv_at hl 0 rfl) ?_
      refine lv_bipush (v := nI 14) hx hb d_Field_subtract_8 (by decide) ?_
      refine lv_icmp_ge (tgt := 50) hx hb d_Field_subtract_10 (by decide) (fun h9 => absurd h9 (nI_ge hi14 (by decide))) (fun _ => ?_)
      refine lv_lload hx hb d_Field_subtract_13 (lv_at hl 1 rfl) ?_
      refine lv_aload_n hx hb d_Field_subtract_15 rfl (lv_at hl 4 rfl) ?_
      refine lv_iload hx hb d_Field_subtract_16 (lv_at hl 0 rfl) ?_
      refine q_lald (N := 14) (f := (fun _ => 0)) E (hk.ajo hta ha) i rfl hi14 (by decide) d_Field_subtract_18 ?_
      refine lv_aload_n hx hb d_Field_subtract_19 rfl (lv_at hl 5 rfl) ?_
      refine lv_iload hx hb d_Field_subtract_20 (lv_at hl 0 rfl) ?_
      refine q_lald (N := 14) (f := (fun _ => 0)) E (hk.ajo htb hb0) i rfl hi14 (by decide) d_Field_subtract_22 ?_
      refine lv_lsub hx hb d_Field_subtract_23 ?_
      refine lv_ladd hx hb d_Field_subtract_24 ?_
      refine lv_topl (fun t9 e9 => ?_)
      obtain rfl : t9 = 0 := e9.trans (by decide)
      refine lv_lstore (lv' := [(4, .long 0), (6, .int (nI i)), (0, .ref o), (1, .ref t), (2, .ref a), (3, .ref b)]) hx hb d_Field_subtract_25 hl (by decide) rfl (fun ls hl => ?_)
      refine lv_aload_n hx hb d_Field_subtract_27 rfl (lv_at hl 3 rfl) ?_
      refine lv_iload hx hb d_Field_subtract_28 (lv_at hl 1 rfl) ?_
      refine lv_lload hx hb d_Field_subtract_30 (lv_at hl 0 rfl) ?_
      refine lv_ldc2 (v := 268435455) hx hb E.2.2.2.1 (E.2.2.2.2.1 _ w_143) d_Field_subtract_32 ?_
      refine lv_land hx hb d_Field_subtract_35 ?_
      refine lv_topl (fun t9 e9 => ?_)
      obtain rfl : t9 = 0 := e9.trans (by decide)
      refine q_last E hf ht hF i rfl hi14 (by decide) d_Field_subtract_36 (fun H' locs' hq hf' hF => ?_)
      have hk := hk.tr hq
      refine lv_lload hx hb d_Field_subtract_37 (lv_at hl 0 rfl) ?_
      refine lv_bipush (v := nI 28) hx hb d_Field_subtract_39 (by decide) ?_
      refine lv_lshr (v := 0 >>> ((nI 28).toInt64 &&& 63)) hx hb d_Field_subtract_41 rfl ?_
      refine lv_topl (fun t9 e9 => ?_)
      obtain rfl : t9 = 0 := e9.trans (by decide)
      refine lv_lstore (lv' := [(4, .long 0), (6, .int (nI i)), (0, .ref o), (1, .ref t), (2, .ref a), (3, .ref b)]) hx hb d_Field_subtract_42 hl (by decide) rfl (fun ls hl => ?_)
      refine lv_iinc (k := 1) (v := nI (i + 1)) (lv' := [(6, .int (nI (i + 1))), (4, .long 0), (0, .ref o), (1, .ref t), (2, .ref a), (3, .ref b)]) hx hb d_Field_subtract_44 hl rfl (i_inc i) (by decide) rfl (fun ls hl => ?_)
      refine lv_goto (tgt := 6) hx hb d_Field_subtract_47 (by decide) ?_
      have hl : lv_has ls 7 [(6, .int (nI (i + 1))), (4, .long 0), (0, .ref o), (1, .ref t), (2, .ref a), (3, .ref b)] := lv_sub hl [0, 1, 2, 3, 4, 5] rfl
      exact ih (i + 1) H' locs' ls _ (by omega) hk hf' (updL_z hv) hF hl
  refine lv_lconst (v := 0) hx hb d_Field_subtract_0 (by decide) ?_
  refine lv_lstore (lv' := [(4, .long 0), (0, .ref o), (1, .ref t), (2, .ref a), (3, .ref b)]) hx hb d_Field_subtract_1 hl (by decide) rfl (fun ls hl => ?_)
  refine lv_iconst (v := nI 0) hx hb d_Field_subtract_3 (by decide) ?_
  refine lv_istore (lv' := [(6, .int (nI 0)), (4, .long 0), (0, .ref o), (1, .ref t), (2, .ref a), (3, .ref b)]) hx hb d_Field_subtract_4 hl (by decide) rfl (fun ls hl => ?_)
  have hl : lv_has ls 7 [(6, .int (nI 0)), (4, .long 0), (0, .ref o), (1, .ref t), (2, .ref a), (3, .ref b)] := lv_sub hl [0, 1, 2, 3, 4, 5] rfl
  exact loop 14 0 s.heap [] ls ft rfl KJ.rf hft (fun j hj => absurd hj (Nat.not_lt_zero _)) hF hl
set_option maxHeartbeats 4000000 in
set_option maxRecDepth 100000 in
/-- 0 stays -/
theorem z_Field_reduce (l : Launch) (g : WG) (n0 : Nat → Prop) (o n : Nat) (F : Nat → Nat) (mi : Int64) (f : Nat → Int64) (h0 : ∀ i, i < 14 → ¬ f i < 0) (h1 : f 0 ≠ 0) : Ctr l y_Field_reduce (.code y_Field_reduce prog_3_method_7_code 5 none) 0 0 0 0 n0 g [.ref o, .ref n] (fun H => FD g n0 H o F mi ∧ AJ g H n 14 (fun _ => 0) ∧ AJ g H (F 0) 14 f) (QV (fun H H' => H' = H)) := by
  refine ctr_mk l (lv0 := [(0, .ref o), (1, .ref n)]) (by decide) (Nat.le_of_ble_eq_true rfl) rfl ?_
  intro p e s m below meth c ls E hr hlk hnm hl hP
  have hx := E.1
  have hb := E.2.1
  have hK := E.2.2.2.2.2
  have hF : ∀ q ∈ ([] : List Loc), n0 q.base := fun q hq => absurd hq List.not_mem_nil
  obtain ⟨hfd, hn, hf⟩ := hP
  have loop1 : ∀ (k : Nat) (ls : Array Slot) (x : Int32), k ≤ 14 → x = nI k - 1 → k ≠ 0 → lv_has ls 5 [(2, .int x), (0, .ref o), (1, .ref n)] → W p l e { frames := 0, cells := 0, slots := 0, locals := 0 } s m [.ref o, .ref n].toArray below meth c s.heap [] 0 0 (MQ below (QcP (QV (fun H H' => H' = H))) [.ref o, .ref n].toArray s 0 0 (fun q => n0 q)) (F0 m 3 ls []) := by
    intro k
    induction k with
    | zero =>
      intro  ls   x hk14 hxx hne hl
      exact absurd rfl hne
    | succ k ih =>
      intro  ls   x hk14 hxx hne hl
      rw [nI_pred] at hxx
      subst hxx
      refine lv_iload_n hx hb d_Field_reduce_3 rfl (lv_at hl 0 rfl) ?_
      refine lv_if_lt (tgt := 43) hx hb d_Field_reduce_4 (by decide) (fun h9 => absurd h9 (nI_pos (by omega))) (fun _ => ?_)
      refine lv_aload_n hx hb d_Field_reduce_7 rfl (lv_at hl 2 rfl) ?_
      refine lv_iload_n hx hb d_Field_reduce_8 rfl (lv_at hl 0 rfl) ?_
      refine q_lald (N := 14) (f := (fun _ => 0)) E hn k rfl (by omega) (by decide) d_Field_reduce_9 ?_
      refine lv_aload_n hx hb d_Field_reduce_10 rfl (lv_at hl 1 rfl) ?_
      refine q_get (C := "KateDesk$Field") (T := T_Field) (N := 7) (ci := 1) E hfd.1 in_Field rfl 0 (by decide) w_170 rfl rfl d_Field_reduce_11 ?_
      refine lv_iload_n hx hb d_Field_reduce_14 rfl (lv_at hl 0 rfl) ?_
      refine q_lald (N := 14) (f := f) E hf k rfl (by omega) (by decide) d_Field_reduce_15 ?_
      refine W.lcmp hx hb d_Field_reduce_16 ?_
      refine lv_if_ge (tgt := 21) hx hb d_Field_reduce_17 (by decide) (fun hc => ?_) (fun hc => ?_)
      rotate_left
      · skip
        exact q_vret E hr hlk (⟨rfl, rfl⟩) hF d_Field_reduce_20
      have hfk : f k = 0 := by
        by_cases h2 : f k = 0
        · exact h2
        · have := h0 k (by omega)
          rw [Int64.not_lt] at this
          rw [kd_cmp_lt (Int64.lt_of_le_of_ne this (Ne.symm h2))] at hc
          exact absurd hc (by decide)
      refine lv_aload_n hx hb d_Field_reduce_21 rfl (lv_at hl 2 rfl) ?_
      refine lv_iload_n hx hb d_Field_reduce_22 rfl (lv_at hl 0 rfl) ?_
      refine q_lald (N := 14) (f := (fun _ => 0)) E hn k rfl (by omega) (by decide) d_Field_reduce_23 ?_
      refine lv_aload_n hx hb d_Field_reduce_24 rfl (lv_at hl 1 rfl) ?_
      refine q_get (C := "KateDesk$Field") (T := T_Field) (N := 7) (ci := 1) E hfd.1 in_Field rfl 0 (by decide) w_170 rfl rfl d_Field_reduce_25 ?_
      refine lv_iload_n hx hb d_Field_reduce_28 rfl (lv_at hl 0 rfl) ?_
      refine q_lald (N := 14) (f := f) E hf k rfl (by omega) (by decide) d_Field_reduce_29 ?_
      refine W.lcmp hx hb d_Field_reduce_30 ?_
      refine lv_if_le (tgt := 37) hx hb d_Field_reduce_31 (by decide) (fun _ => ?_) (fun h9 => absurd (by rw [hfk]; decide) h9)
      refine lv_iinc (k := 0) (v := nI k - 1) (lv' := [(2, .int (nI k - 1)), (0, .ref o), (1, .ref n)]) hx hb d_Field_reduce_37 hl rfl (i_dec (nI k)) (by decide) rfl (fun ls hl => ?_)
      refine lv_goto (tgt := 3) hx hb d_Field_reduce_40 (by decide) ?_
      exact ih ls _ (by omega) rfl (fun h => h1 (by subst h; exact hfk)) hl
  refine lv_bipush (v := nI 13) hx hb d_Field_reduce_0 (by decide) ?_
  refine lv_istore_n (lv' := [(2, .int (nI 13)), (0, .ref o), (1, .ref n)]) hx hb d_Field_reduce_2 rfl hl (by decide) rfl (fun ls hl => ?_)
  exact loop1 14 ls _ (by decide) (by decide) (by decide) hl