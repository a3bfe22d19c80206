theorem l_ge0 {v : Int64} (h : 0 ≤ lg_cmp v 0) : ¬ v < 0 := fun q => by
  have h1 := Int64.lt_iff_toInt_lt.mp q
  have h2 := cmp_ge0 (x := v) (y := 0) (fun e => Int32.lt_irrefl (Int32.lt_of_le_of_lt h e))
  omega
theorem l_lt0 {v : Int64} (h : ¬ 0 ≤ lg_cmp v 0) : v < 0 := Int64.lt_iff_toInt_lt.mpr (cmp_lt h)
theorem hw0 : WH 0 14 := Or.inl ⟨rfl, rfl⟩
theorem hw1 : WH 1 10 := Or.inr ⟨rfl, rfl⟩
abbrev y_Model_set : MethodName := ⟨"KateDeskModel", "set", "(IJ)V"⟩
theorem hd_Model_set : y_Model_set.cls ≠ "java/lang/invoke/MethodHandle" ∧ y_Model_set.cls ≠ "java/lang/invoke/VarHandle" ∧ (parseMethodDescriptor y_Model_set.desc).map (fun d => d.parameters.length) = some 2 := by decide +kernel
theorem d_Model_set_0 : decode prog_11_method_39_code 0 = .ok (.aload_n 0, 1) := by decide +kernel
theorem d_Model_set_1 : decode prog_11_method_39_code 1 = .ok (.iload_n 1, 1) := by decide +kernel
theorem d_Model_set_2 : decode prog_11_method_39_code 2 = .ok (.invokestatic 219, 3) := by decide +kernel
theorem d_Model_set_5 : decode prog_11_method_39_code 5 = .ok (.ifCond .ne 9, 3) := by decide +kernel
theorem d_Model_set_8 : decode prog_11_method_39_code 8 = .ok (.lload_n 2, 1) := by decide +kernel
theorem d_Model_set_9 : decode prog_11_method_39_code 9 = .ok (.lconst 0, 1) := by decide +kernel
theorem d_Model_set_10 : decode prog_11_method_39_code 10 = .ok (.lcmp, 1) := by decide +kernel
theorem d_Model_set_11 : decode prog_11_method_39_code 11 = .ok (.ifCond .ge 7, 3) := by decide +kernel
theorem d_Model_set_14 : decode prog_11_method_39_code 14 = .ok (.iconst 1, 1) := by decide +kernel
theorem d_Model_set_15 : decode prog_11_method_39_code 15 = .ok (.goto 4, 3) := by decide +kernel
theorem d_Model_set_18 : decode prog_11_method_39_code 18 = .ok (.iconst 0, 1) := by decide +kernel
theorem d_Model_set_19 : decode prog_11_method_39_code 19 = .ok (.iconst 1, 1) := by decide +kernel
theorem d_Model_set_20 : decode prog_11_method_39_code 20 = .ok (.invokevirtual 223, 3) := by decide +kernel
theorem d_Model_set_23 : decode prog_11_method_39_code 23 = .ok (.ifCond .eq 4, 3) := by decide +kernel
theorem d_Model_set_26 : decode prog_11_method_39_code 26 = .ok (.return_, 1) := by decide +kernel
theorem d_Model_set_27 : decode prog_11_method_39_code 27 = .ok (.aload_n 0, 1) := by decide +kernel
theorem d_Model_set_28 : decode prog_11_method_39_code 28 = .ok (.iload_n 1, 1) := by decide +kernel
theorem d_Model_set_29 : decode prog_11_method_39_code 29 = .ok (.lload_n 2, 1) := by decide +kernel
theorem d_Model_set_30 : decode prog_11_method_39_code 30 = .ok (.invokevirtual 235, 3) := by decide +kernel
theorem d_Model_set_33 : decode prog_11_method_39_code 33 = .ok (.return_, 1) := by decide +kernel
abbrev y_Model_power : MethodName := ⟨"KateDeskModel", "power", "(IIJ)V"⟩
theorem hd_Model_power : y_Model_power.cls ≠ "java/lang/invoke/MethodHandle" ∧ y_Model_power.cls ≠ "java/lang/invoke/VarHandle" ∧ (parseMethodDescriptor y_Model_power.desc).map (fun d => d.parameters.length) = some 3 := by decide +kernel
theorem d_Model_power_0 : decode prog_11_method_42_code 0 = .ok (.aload_n 0, 1) := by decide +kernel
theorem d_Model_power_1 : decode prog_11_method_42_code 1 = .ok (.iload_n 1, 1) := by decide +kernel
theorem d_Model_power_2 : decode prog_11_method_42_code 2 = .ok (.invokestatic 219, 3) := by decide +kernel
theorem d_Model_power_5 : decode prog_11_method_42_code 5 = .ok (.ifCond .ne 16, 3) := by decide +kernel
theorem d_Model_power_8 : decode prog_11_method_42_code 8 = .ok (.iload_n 2, 1) := by decide +kernel
theorem d_Model_power_9 : decode prog_11_method_42_code 9 = .ok (.invokestatic 219, 3) := by decide +kernel
theorem d_Model_power_12 : decode prog_11_method_42_code 12 = .ok (.ifCond .ne 9, 3) := by decide +kernel
theorem d_Model_power_15 : decode prog_11_method_42_code 15 = .ok (.lload_n 3, 1) := by decide +kernel
theorem d_Model_power_16 : decode prog_11_method_42_code 16 = .ok (.lconst 0, 1) := by decide +kernel
theorem d_Model_power_17 : decode prog_11_method_42_code 17 = .ok (.lcmp, 1) := by decide +kernel
theorem d_Model_power_18 : decode prog_11_method_42_code 18 = .ok (.ifCond .ge 7, 3) := by decide +kernel
theorem d_Model_power_21 : decode prog_11_method_42_code 21 = .ok (.iconst 1, 1) := by decide +kernel
theorem d_Model_power_22 : decode prog_11_method_42_code 22 = .ok (.goto 4, 3) := by decide +kernel
theorem d_Model_power_25 : decode prog_11_method_42_code 25 = .ok (.iconst 0, 1) := by decide +kernel
theorem d_Model_power_26 : decode prog_11_method_42_code 26 = .ok (.iconst 1, 1) := by decide +kernel
theorem d_Model_power_27 : decode prog_11_method_42_code 27 = .ok (.invokevirtual 223, 3) := by decide +kernel
theorem d_Model_power_30 : decode prog_11_method_42_code 30 = .ok (.ifCond .eq 4, 3) := by decide +kernel
theorem d_Model_power_33 : decode prog_11_method_42_code 33 = .ok (.return_, 1) := by decide +kernel
theorem d_Model_power_34 : decode prog_11_method_42_code 34 = .ok (.aload_n 0, 1) := by decide +kernel
theorem d_Model_power_35 : decode prog_11_method_42_code 35 = .ok (.iconst 1, 1) := by decide +kernel
theorem d_Model_power_36 : decode prog_11_method_42_code 36 = .ok (.invokevirtual 137, 3) := by decide +kernel
theorem d_Model_power_39 : decode prog_11_method_42_code 39 = .ok (.aload_n 0, 1) := by decide +kernel
theorem d_Model_power_40 : decode prog_11_method_42_code 40 = .ok (.sipush 145, 3) := by decide +kernel
theorem d_Model_power_43 : decode prog_11_method_42_code 43 = .ok (.lload_n 3, 1) := by decide +kernel
theorem d_Model_power_44 : decode prog_11_method_42_code 44 = .ok (.invokevirtual 235, 3) := by decide +kernel
theorem d_Model_power_47 : decode prog_11_method_42_code 47 = .ok (.aload_n 0, 1) := by decide +kernel
theorem d_Model_power_48 : decode prog_11_method_42_code 48 = .ok (.iload_n 1, 1) := by decide +kernel
theorem d_Model_power_49 : decode prog_11_method_42_code 49 = .ok (.iload_n 2, 1) := by decide +kernel
theorem d_Model_power_50 : decode prog_11_method_42_code 50 = .ok (.sipush 145, 3) := by decide +kernel
theorem d_Model_power_53 : decode prog_11_method_42_code 53 = .ok (.invokevirtual 197, 3) := by decide +kernel
theorem d_Model_power_56 : decode prog_11_method_42_code 56 = .ok (.return_, 1) := by decide +kernel
abbrev y_Model_unity : MethodName := ⟨"KateDeskModel", "unity", "(II)V"⟩
theorem hd_Model_unity : y_Model_unity.cls ≠ "java/lang/invoke/MethodHandle" ∧ y_Model_unity.cls ≠ "java/lang/invoke/VarHandle" ∧ (parseMethodDescriptor y_Model_unity.desc).map (fun d => d.parameters.length) = some 2 := by decide +kernel
theorem d_Model_unity_0 : decode prog_11_method_44_code 0 = .ok (.aload_n 0, 1) := by decide +kernel
theorem d_Model_unity_1 : decode prog_11_method_44_code 1 = .ok (.iload_n 1, 1) := by decide +kernel
theorem d_Model_unity_2 : decode prog_11_method_44_code 2 = .ok (.invokestatic 219, 3) := by decide +kernel
theorem d_Model_unity_5 : decode prog_11_method_44_code 5 = .ok (.ifCond .ne 15, 3) := by decide +kernel
theorem d_Model_unity_8 : decode prog_11_method_44_code 8 = .ok (.iload_n 2, 1) := by decide +kernel
theorem d_Model_unity_9 : decode prog_11_method_44_code 9 = .ok (.i2l, 1) := by decide +kernel
theorem d_Model_unity_10 : decode prog_11_method_44_code 10 = .ok (.lconst 0, 1) := by decide +kernel
theorem d_Model_unity_11 : decode prog_11_method_44_code 11 = .ok (.ldc2_w 257, 3) := by decide +kernel
theorem d_Model_unity_14 : decode prog_11_method_44_code 14 = .ok (.invokestatic 242, 3) := by decide +kernel
theorem d_Model_unity_17 : decode prog_11_method_44_code 17 = .ok (.ifCond .ne 7, 3) := by decide +kernel
theorem d_Model_unity_20 : decode prog_11_method_44_code 20 = .ok (.iconst 1, 1) := by decide +kernel
theorem d_Model_unity_21 : decode prog_11_method_44_code 21 = .ok (.goto 4, 3) := by decide +kernel
theorem d_Model_unity_24 : decode prog_11_method_44_code 24 = .ok (.iconst 0, 1) := by decide +kernel
theorem d_Model_unity_25 : decode prog_11_method_44_code 25 = .ok (.iconst 1, 1) := by decide +kernel
theorem d_Model_unity_26 : decode prog_11_method_44_code 26 = .ok (.invokevirtual 223, 3) := by decide +kernel
theorem d_Model_unity_29 : decode prog_11_method_44_code 29 = .ok (.ifCond .eq 4, 3) := by decide +kernel
theorem d_Model_unity_32 : decode prog_11_method_44_code 32 = .ok (.return_, 1) := by decide +kernel
theorem d_Model_unity_33 : decode prog_11_method_44_code 33 = .ok (.aload_n 0, 1) := by decide +kernel
theorem d_Model_unity_34 : decode prog_11_method_44_code 34 = .ok (.iload_n 1, 1) := by decide +kernel
theorem d_Model_unity_35 : decode prog_11_method_44_code 35 = .ok (.iload_n 2, 1) := by decide +kernel
theorem d_Model_unity_36 : decode prog_11_method_44_code 36 = .ok (.invokevirtual 259, 3) := by decide +kernel
theorem d_Model_unity_39 : decode prog_11_method_44_code 39 = .ok (.return_, 1) := by decide +kernel
abbrev y_Model_times : MethodName := ⟨"KateDeskModel", "times", "(III)V"⟩
theorem hd_Model_times : y_Model_times.cls ≠ "java/lang/invoke/MethodHandle" ∧ y_Model_times.cls ≠ "java/lang/invoke/VarHandle" ∧ (parseMethodDescriptor y_Model_times.desc).map (fun d => d.parameters.length) = some 3 := by decide +kernel
theorem d_Model_times_0 : decode prog_11_method_50_code 0 = .ok (.aload_n 0, 1) := by decide +kernel
theorem d_Model_times_1 : decode prog_11_method_50_code 1 = .ok (.iload_n 1, 1) := by decide +kernel
theorem d_Model_times_2 : decode prog_11_method_50_code 2 = .ok (.invokestatic 262, 3) := by decide +kernel
theorem d_Model_times_5 : decode prog_11_method_50_code 5 = .ok (.ifCond .ne 17, 3) := by decide +kernel
theorem d_Model_times_8 : decode prog_11_method_50_code 8 = .ok (.iload_n 2, 1) := by decide +kernel
theorem d_Model_times_9 : decode prog_11_method_50_code 9 = .ok (.invokestatic 219, 3) := by decide +kernel
theorem d_Model_times_12 : decode prog_11_method_50_code 12 = .ok (.ifCond .ne 10, 3) := by decide +kernel
theorem d_Model_times_15 : decode prog_11_method_50_code 15 = .ok (.iload_n 3, 1) := by decide +kernel
theorem d_Model_times_16 : decode prog_11_method_50_code 16 = .ok (.invokestatic 262, 3) := by decide +kernel
theorem d_Model_times_19 : decode prog_11_method_50_code 19 = .ok (.ifCond .eq 7, 3) := by decide +kernel
theorem d_Model_times_22 : decode prog_11_method_50_code 22 = .ok (.iconst 1, 1) := by decide +kernel
theorem d_Model_times_23 : decode prog_11_method_50_code 23 = .ok (.goto 4, 3) := by decide +kernel
theorem d_Model_times_26 : decode prog_11_method_50_code 26 = .ok (.iconst 0, 1) := by decide +kernel
theorem d_Model_times_27 : decode prog_11_method_50_code 27 = .ok (.iconst 1, 1) := by decide +kernel
theorem d_Model_times_28 : decode prog_11_method_50_code 28 = .ok (.invokevirtual 223, 3) := by decide +kernel
theorem d_Model_times_31 : decode prog_11_method_50_code 31 = .ok (.ifCond .eq 4, 3) := by decide +kernel
theorem d_Model_times_34 : decode prog_11_method_50_code 34 = .ok (.return_, 1) := by decide +kernel
theorem d_Model_times_35 : decode prog_11_method_50_code 35 = .ok (.aload_n 0, 1) := by decide +kernel
theorem d_Model_times_36 : decode prog_11_method_50_code 36 = .ok (.iconst 0, 1) := by decide +kernel
theorem d_Model_times_37 : decode prog_11_method_50_code 37 = .ok (.invokevirtual 137, 3) := by decide +kernel
theorem d_Model_times_40 : decode prog_11_method_50_code 40 = .ok (.aload_n 0, 1) := by decide +kernel
theorem d_Model_times_41 : decode prog_11_method_50_code 41 = .ok (.iload_n 1, 1) := by decide +kernel
theorem d_Model_times_42 : decode prog_11_method_50_code 42 = .ok (.invokestatic 265, 3) := by decide +kernel
theorem d_Model_times_45 : decode prog_11_method_50_code 45 = .ok (.iload_n 2, 1) := by decide +kernel
theorem d_Model_times_46 : decode prog_11_method_50_code 46 = .ok (.iload_n 3, 1) := by decide +kernel
theorem d_Model_times_47 : decode prog_11_method_50_code 47 = .ok (.invokestatic 265, 3) := by decide +kernel
theorem d_Model_times_50 : decode prog_11_method_50_code 50 = .ok (.invokevirtual 274, 3) := by decide +kernel
theorem d_Model_times_53 : decode prog_11_method_50_code 53 = .ok (.return_, 1) := by decide +kernel