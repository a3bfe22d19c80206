abbrev y_Model_multiple : MethodName := ⟨"KateDeskModel", "multiple", "(III)V"⟩
theorem hd_Model_multiple : y_Model_multiple.cls ≠ "java/lang/invoke/MethodHandle" ∧ y_Model_multiple.cls ≠ "java/lang/invoke/VarHandle" ∧ (parseMethodDescriptor y_Model_multiple.desc).map (fun d => d.parameters.length) = some 3 := by decide +kernel
theorem d_Model_multiple_0 : decode prog_11_method_31_code 0 = .ok (.aload_n 0, 1) := by decide +kernel
theorem d_Model_multiple_1 : decode prog_11_method_31_code 1 = .ok (.sipush 136, 3) := by decide +kernel
theorem d_Model_multiple_4 : decode prog_11_method_31_code 4 = .ok (.iload_n 3, 1) := by decide +kernel
theorem d_Model_multiple_5 : decode prog_11_method_31_code 5 = .ok (.invokevirtual 209, 3) := by decide +kernel
theorem d_Model_multiple_8 : decode prog_11_method_31_code 8 = .ok (.aload_n 0, 1) := by decide +kernel
theorem d_Model_multiple_9 : decode prog_11_method_31_code 9 = .ok (.sipush 139, 3) := by decide +kernel
theorem d_Model_multiple_12 : decode prog_11_method_31_code 12 = .ok (.invokevirtual 152, 3) := by decide +kernel
theorem d_Model_multiple_15 : decode prog_11_method_31_code 15 = .ok (.sipush 391, 3) := by decide +kernel
theorem d_Model_multiple_18 : decode prog_11_method_31_code 18 = .ok (.istore 4, 2) := by decide +kernel
theorem d_Model_multiple_20 : decode prog_11_method_31_code 20 = .ok (.iload 4, 2) := by decide +kernel
theorem d_Model_multiple_22 : decode prog_11_method_31_code 22 = .ok (.ifCond .lt 46, 3) := by decide +kernel
theorem d_Model_multiple_25 : decode prog_11_method_31_code 25 = .ok (.aload_n 0, 1) := by decide +kernel
theorem d_Model_multiple_26 : decode prog_11_method_31_code 26 = .ok (.sipush 139, 3) := by decide +kernel
theorem d_Model_multiple_29 : decode prog_11_method_31_code 29 = .ok (.sipush 139, 3) := by decide +kernel
theorem d_Model_multiple_32 : decode prog_11_method_31_code 32 = .ok (.sipush 139, 3) := by decide +kernel
theorem d_Model_multiple_35 : decode prog_11_method_31_code 35 = .ok (.invokevirtual 212, 3) := by decide +kernel
theorem d_Model_multiple_38 : decode prog_11_method_31_code 38 = .ok (.aload_n 0, 1) := by decide +kernel
theorem d_Model_multiple_39 : decode prog_11_method_31_code 39 = .ok (.iload_n 2, 1) := by decide +kernel
theorem d_Model_multiple_40 : decode prog_11_method_31_code 40 = .ok (.iload 4, 2) := by decide +kernel
theorem d_Model_multiple_42 : decode prog_11_method_31_code 42 = .ok (.invokevirtual 187, 3) := by decide +kernel
theorem d_Model_multiple_45 : decode prog_11_method_31_code 45 = .ok (.iconst 1, 1) := by decide +kernel
theorem d_Model_multiple_46 : decode prog_11_method_31_code 46 = .ok (.if_icmp .ne 16, 3) := by decide +kernel
theorem d_Model_multiple_49 : decode prog_11_method_31_code 49 = .ok (.aload_n 0, 1) := by decide +kernel
theorem d_Model_multiple_50 : decode prog_11_method_31_code 50 = .ok (.sipush 139, 3) := by decide +kernel
theorem d_Model_multiple_53 : decode prog_11_method_31_code 53 = .ok (.sipush 139, 3) := by decide +kernel
theorem d_Model_multiple_56 : decode prog_11_method_31_code 56 = .ok (.sipush 136, 3) := by decide +kernel
theorem d_Model_multiple_59 : decode prog_11_method_31_code 59 = .ok (.invokevirtual 212, 3) := by decide +kernel
theorem d_Model_multiple_62 : decode prog_11_method_31_code 62 = .ok (.iinc 4 (-1), 3) := by decide +kernel
theorem d_Model_multiple_65 : decode prog_11_method_31_code 65 = .ok (.goto (-45), 3) := by decide +kernel
theorem d_Model_multiple_68 : decode prog_11_method_31_code 68 = .ok (.aload_n 0, 1) := by decide +kernel
theorem d_Model_multiple_69 : decode prog_11_method_31_code 69 = .ok (.iload_n 1, 1) := by decide +kernel
theorem d_Model_multiple_70 : decode prog_11_method_31_code 70 = .ok (.sipush 139, 3) := by decide +kernel
theorem d_Model_multiple_73 : decode prog_11_method_31_code 73 = .ok (.invokevirtual 209, 3) := by decide +kernel
theorem d_Model_multiple_76 : decode prog_11_method_31_code 76 = .ok (.return_, 1) := by decide +kernel
abbrev y_Model_sums : MethodName := ⟨"KateDeskModel", "sums", "(III)V"⟩
theorem hd_Model_sums : y_Model_sums.cls ≠ "java/lang/invoke/MethodHandle" ∧ y_Model_sums.cls ≠ "java/lang/invoke/VarHandle" ∧ (parseMethodDescriptor y_Model_sums.desc).map (fun d => d.parameters.length) = some 3 := by decide +kernel
theorem d_Model_sums_0 : decode prog_11_method_51_code 0 = .ok (.aload_n 0, 1) := by decide +kernel
theorem d_Model_sums_1 : decode prog_11_method_51_code 1 = .ok (.iconst 0, 1) := by decide +kernel
theorem d_Model_sums_2 : decode prog_11_method_51_code 2 = .ok (.invokevirtual 137, 3) := by decide +kernel
theorem d_Model_sums_5 : decode prog_11_method_51_code 5 = .ok (.aload_n 0, 1) := by decide +kernel
theorem d_Model_sums_6 : decode prog_11_method_51_code 6 = .ok (.sipush 164, 3) := by decide +kernel
theorem d_Model_sums_9 : decode prog_11_method_51_code 9 = .ok (.invokevirtual 152, 3) := by decide +kernel
theorem d_Model_sums_12 : decode prog_11_method_51_code 12 = .ok (.iconst 0, 1) := by decide +kernel
theorem d_Model_sums_13 : decode prog_11_method_51_code 13 = .ok (.istore 4, 2) := by decide +kernel
theorem d_Model_sums_15 : decode prog_11_method_51_code 15 = .ok (.iload 4, 2) := by decide +kernel
theorem d_Model_sums_17 : decode prog_11_method_51_code 17 = .ok (.iload_n 3, 1) := by decide +kernel
theorem d_Model_sums_18 : decode prog_11_method_51_code 18 = .ok (.if_icmp .ge 39, 3) := by decide +kernel
theorem d_Model_sums_21 : decode prog_11_method_51_code 21 = .ok (.aload_n 0, 1) := by decide +kernel
theorem d_Model_sums_22 : decode prog_11_method_51_code 22 = .ok (.sipush 161, 3) := by decide +kernel
theorem d_Model_sums_25 : decode prog_11_method_51_code 25 = .ok (.iload_n 1, 1) := by decide +kernel
theorem d_Model_sums_26 : decode prog_11_method_51_code 26 = .ok (.iload 4, 2) := by decide +kernel
theorem d_Model_sums_28 : decode prog_11_method_51_code 28 = .ok (.iadd, 1) := by decide +kernel
theorem d_Model_sums_29 : decode prog_11_method_51_code 29 = .ok (.iload_n 2, 1) := by decide +kernel
theorem d_Model_sums_30 : decode prog_11_method_51_code 30 = .ok (.iconst 3, 1) := by decide +kernel
theorem d_Model_sums_31 : decode prog_11_method_51_code 31 = .ok (.iload 4, 2) := by decide +kernel
theorem d_Model_sums_33 : decode prog_11_method_51_code 33 = .ok (.imul, 1) := by decide +kernel
theorem d_Model_sums_34 : decode prog_11_method_51_code 34 = .ok (.iadd, 1) := by decide +kernel
theorem d_Model_sums_35 : decode prog_11_method_51_code 35 = .ok (.invokevirtual 274, 3) := by decide +kernel
theorem d_Model_sums_38 : decode prog_11_method_51_code 38 = .ok (.aload_n 0, 1) := by decide +kernel
theorem d_Model_sums_39 : decode prog_11_method_51_code 39 = .ok (.sipush 164, 3) := by decide +kernel
theorem d_Model_sums_42 : decode prog_11_method_51_code 42 = .ok (.sipush 164, 3) := by decide +kernel
theorem d_Model_sums_45 : decode prog_11_method_51_code 45 = .ok (.sipush 161, 3) := by decide +kernel
theorem d_Model_sums_48 : decode prog_11_method_51_code 48 = .ok (.invokevirtual 212, 3) := by decide +kernel
theorem d_Model_sums_51 : decode prog_11_method_51_code 51 = .ok (.iinc 4 1, 3) := by decide +kernel
theorem d_Model_sums_54 : decode prog_11_method_51_code 54 = .ok (.goto (-39), 3) := by decide +kernel
theorem d_Model_sums_57 : decode prog_11_method_51_code 57 = .ok (.return_, 1) := by decide +kernel
abbrev y_Model_value : MethodName := ⟨"KateDeskModel", "value", "(IIII)V"⟩
theorem hd_Model_value : y_Model_value.cls ≠ "java/lang/invoke/MethodHandle" ∧ y_Model_value.cls ≠ "java/lang/invoke/VarHandle" ∧ (parseMethodDescriptor y_Model_value.desc).map (fun d => d.parameters.length) = some 4 := by decide +kernel
theorem d_Model_value_0 : decode prog_11_method_56_code 0 = .ok (.aload_n 0, 1) := by decide +kernel
theorem d_Model_value_1 : decode prog_11_method_56_code 1 = .ok (.sipush 167, 3) := by decide +kernel
theorem d_Model_value_4 : decode prog_11_method_56_code 4 = .ok (.invokevirtual 200, 3) := by decide +kernel
theorem d_Model_value_7 : decode prog_11_method_56_code 7 = .ok (.iload_n 3, 1) := by decide +kernel
theorem d_Model_value_8 : decode prog_11_method_56_code 8 = .ok (.iconst 1, 1) := by decide +kernel
theorem d_Model_value_9 : decode prog_11_method_56_code 9 = .ok (.isub, 1) := by decide +kernel
theorem d_Model_value_10 : decode prog_11_method_56_code 10 = .ok (.istore 5, 2) := by decide +kernel
theorem d_Model_value_12 : decode prog_11_method_56_code 12 = .ok (.iload 5, 2) := by decide +kernel
theorem d_Model_value_14 : decode prog_11_method_56_code 14 = .ok (.ifCond .lt 35, 3) := by decide +kernel
theorem d_Model_value_17 : decode prog_11_method_56_code 17 = .ok (.aload_n 0, 1) := by decide +kernel
theorem d_Model_value_18 : decode prog_11_method_56_code 18 = .ok (.sipush 167, 3) := by decide +kernel
theorem d_Model_value_21 : decode prog_11_method_56_code 21 = .ok (.sipush 167, 3) := by decide +kernel
theorem d_Model_value_24 : decode prog_11_method_56_code 24 = .ok (.iload 4, 2) := by decide +kernel
theorem d_Model_value_26 : decode prog_11_method_56_code 26 = .ok (.invokevirtual 184, 3) := by decide +kernel
theorem d_Model_value_29 : decode prog_11_method_56_code 29 = .ok (.aload_n 0, 1) := by decide +kernel
theorem d_Model_value_30 : decode prog_11_method_56_code 30 = .ok (.sipush 167, 3) := by decide +kernel
theorem d_Model_value_33 : decode prog_11_method_56_code 33 = .ok (.sipush 167, 3) := by decide +kernel
theorem d_Model_value_36 : decode prog_11_method_56_code 36 = .ok (.iload_n 2, 1) := by decide +kernel
theorem d_Model_value_37 : decode prog_11_method_56_code 37 = .ok (.iload 5, 2) := by decide +kernel
theorem d_Model_value_39 : decode prog_11_method_56_code 39 = .ok (.iadd, 1) := by decide +kernel
theorem d_Model_value_40 : decode prog_11_method_56_code 40 = .ok (.invokevirtual 148, 3) := by decide +kernel
theorem d_Model_value_43 : decode prog_11_method_56_code 43 = .ok (.iinc 5 (-1), 3) := by decide +kernel
theorem d_Model_value_46 : decode prog_11_method_56_code 46 = .ok (.goto (-34), 3) := by decide +kernel
theorem d_Model_value_49 : decode prog_11_method_56_code 49 = .ok (.aload_n 0, 1) := by decide +kernel
theorem d_Model_value_50 : decode prog_11_method_56_code 50 = .ok (.iload_n 1, 1) := by decide +kernel
theorem d_Model_value_51 : decode prog_11_method_56_code 51 = .ok (.sipush 167, 3) := by decide +kernel
theorem d_Model_value_54 : decode prog_11_method_56_code 54 = .ok (.invokevirtual 180, 3) := by decide +kernel
theorem d_Model_value_57 : decode prog_11_method_56_code 57 = .ok (.return_, 1) := by decide +kernel
abbrev y_Model_unit : MethodName := ⟨"KateDeskModel", "unit", "(II)V"⟩
theorem hd_Model_unit : y_Model_unit.cls ≠ "java/lang/invoke/MethodHandle" ∧ y_Model_unit.cls ≠ "java/lang/invoke/VarHandle" ∧ (parseMethodDescriptor y_Model_unit.desc).map (fun d => d.parameters.length) = some 2 := by decide +kernel
theorem d_Model_unit_0 : decode prog_11_method_43_code 0 = .ok (.aload_n 0, 1) := by decide +kernel
theorem d_Model_unit_1 : decode prog_11_method_43_code 1 = .ok (.iconst 1, 1) := by decide +kernel
theorem d_Model_unit_2 : decode prog_11_method_43_code 2 = .ok (.invokevirtual 137, 3) := by decide +kernel
theorem d_Model_unit_5 : decode prog_11_method_43_code 5 = .ok (.aload_n 0, 1) := by decide +kernel
theorem d_Model_unit_6 : decode prog_11_method_43_code 6 = .ok (.sipush 145, 3) := by decide +kernel
theorem d_Model_unit_9 : decode prog_11_method_43_code 9 = .ok (.ldc2_w 252, 3) := by decide +kernel
theorem d_Model_unit_12 : decode prog_11_method_43_code 12 = .ok (.invokevirtual 193, 3) := by decide +kernel
theorem d_Model_unit_15 : decode prog_11_method_43_code 15 = .ok (.aload_n 0, 1) := by decide +kernel
theorem d_Model_unit_16 : decode prog_11_method_43_code 16 = .ok (.sipush 145, 3) := by decide +kernel
theorem d_Model_unit_19 : decode prog_11_method_43_code 19 = .ok (.iload_n 2, 1) := by decide +kernel
theorem d_Model_unit_20 : decode prog_11_method_43_code 20 = .ok (.invokevirtual 254, 3) := by decide +kernel
theorem d_Model_unit_23 : decode prog_11_method_43_code 23 = .ok (.aload_n 0, 1) := by decide +kernel
theorem d_Model_unit_24 : decode prog_11_method_43_code 24 = .ok (.sipush 146, 3) := by decide +kernel
theorem d_Model_unit_27 : decode prog_11_method_43_code 27 = .ok (.ldc2_w 57, 3) := by decide +kernel
theorem d_Model_unit_30 : decode prog_11_method_43_code 30 = .ok (.invokevirtual 235, 3) := by decide +kernel
theorem d_Model_unit_33 : decode prog_11_method_43_code 33 = .ok (.aload_n 0, 1) := by decide +kernel
theorem d_Model_unit_34 : decode prog_11_method_43_code 34 = .ok (.iload_n 1, 1) := by decide +kernel
theorem d_Model_unit_35 : decode prog_11_method_43_code 35 = .ok (.sipush 146, 3) := by decide +kernel
theorem d_Model_unit_38 : decode prog_11_method_43_code 38 = .ok (.sipush 145, 3) := by decide +kernel
theorem d_Model_unit_41 : decode prog_11_method_43_code 41 = .ok (.invokevirtual 197, 3) := by decide +kernel
theorem d_Model_unit_44 : decode prog_11_method_43_code 44 = .ok (.return_, 1) := by decide +kernel
abbrev y_Model_alike : MethodName := ⟨"KateDeskModel", "alike", "(II)Z"⟩
theorem hd_Model_alike : y_Model_alike.cls ≠ "java/lang/invoke/MethodHandle" ∧ y_Model_alike.cls ≠ "java/lang/invoke/VarHandle" ∧ (parseMethodDescriptor y_Model_alike.desc).map (fun d => d.parameters.length) = some 2 := by decide +kernel
theorem d_Model_alike_0 : decode prog_11_method_32_code 0 = .ok (.aload_n 0, 1) := by decide +kernel
theorem d_Model_alike_1 : decode prog_11_method_32_code 1 = .ok (.bipush 124, 2) := by decide +kernel
theorem d_Model_alike_3 : decode prog_11_method_32_code 3 = .ok (.iload_n 1, 1) := by decide +kernel
theorem d_Model_alike_4 : decode prog_11_method_32_code 4 = .ok (.iload_n 2, 1) := by decide +kernel
theorem d_Model_alike_5 : decode prog_11_method_32_code 5 = .ok (.iconst 2, 1) := by decide +kernel
theorem d_Model_alike_6 : decode prog_11_method_32_code 6 = .ok (.iadd, 1) := by decide +kernel
theorem d_Model_alike_7 : decode prog_11_method_32_code 7 = .ok (.invokevirtual 184, 3) := by decide +kernel
theorem d_Model_alike_10 : decode prog_11_method_32_code 10 = .ok (.aload_n 0, 1) := by decide +kernel
theorem d_Model_alike_11 : decode prog_11_method_32_code 11 = .ok (.bipush 125, 2) := by decide +kernel
theorem d_Model_alike_13 : decode prog_11_method_32_code 13 = .ok (.iload_n 2, 1) := by decide +kernel
theorem d_Model_alike_14 : decode prog_11_method_32_code 14 = .ok (.iload_n 1, 1) := by decide +kernel
theorem d_Model_alike_15 : decode prog_11_method_32_code 15 = .ok (.iconst 2, 1) := by decide +kernel
theorem d_Model_alike_16 : decode prog_11_method_32_code 16 = .ok (.iadd, 1) := by decide +kernel
theorem d_Model_alike_17 : decode prog_11_method_32_code 17 = .ok (.invokevirtual 184, 3) := by decide +kernel
theorem d_Model_alike_20 : decode prog_11_method_32_code 20 = .ok (.aload_n 0, 1) := by decide +kernel
theorem d_Model_alike_21 : decode prog_11_method_32_code 21 = .ok (.bipush 126, 2) := by decide +kernel
theorem d_Model_alike_23 : decode prog_11_method_32_code 23 = .ok (.iload_n 1, 1) := by decide +kernel
theorem d_Model_alike_24 : decode prog_11_method_32_code 24 = .ok (.iconst 1, 1) := by decide +kernel
theorem d_Model_alike_25 : decode prog_11_method_32_code 25 = .ok (.iadd, 1) := by decide +kernel
theorem d_Model_alike_26 : decode prog_11_method_32_code 26 = .ok (.iload_n 2, 1) := by decide +kernel
theorem d_Model_alike_27 : decode prog_11_method_32_code 27 = .ok (.iconst 2, 1) := by decide +kernel
theorem d_Model_alike_28 : decode prog_11_method_32_code 28 = .ok (.iadd, 1) := by decide +kernel
theorem d_Model_alike_29 : decode prog_11_method_32_code 29 = .ok (.invokevirtual 184, 3) := by decide +kernel
theorem d_Model_alike_32 : decode prog_11_method_32_code 32 = .ok (.aload_n 0, 1) := by decide +kernel
theorem d_Model_alike_33 : decode prog_11_method_32_code 33 = .ok (.bipush 127, 2) := by decide +kernel
theorem d_Model_alike_35 : decode prog_11_method_32_code 35 = .ok (.iload_n 2, 1) := by decide +kernel
theorem d_Model_alike_36 : decode prog_11_method_32_code 36 = .ok (.iconst 1, 1) := by decide +kernel
theorem d_Model_alike_37 : decode prog_11_method_32_code 37 = .ok (.iadd, 1) := by decide +kernel
theorem d_Model_alike_38 : decode prog_11_method_32_code 38 = .ok (.iload_n 1, 1) := by decide +kernel
theorem d_Model_alike_39 : decode prog_11_method_32_code 39 = .ok (.iconst 2, 1) := by decide +kernel
theorem d_Model_alike_40 : decode prog_11_method_32_code 40 = .ok (.iadd, 1) := by decide +kernel
theorem d_Model_alike_41 : decode prog_11_method_32_code 41 = .ok (.invokevirtual 184, 3) := by decide +kernel
theorem d_Model_alike_44 : decode prog_11_method_32_code 44 = .ok (.aload_n 0, 1) := by decide +kernel
theorem d_Model_alike_45 : decode prog_11_method_32_code 45 = .ok (.bipush 124, 2) := by decide +kernel
theorem d_Model_alike_47 : decode prog_11_method_32_code 47 = .ok (.bipush 125, 2) := by decide +kernel
theorem d_Model_alike_49 : decode prog_11_method_32_code 49 = .ok (.invokevirtual 215, 3) := by decide +kernel
theorem d_Model_alike_52 : decode prog_11_method_32_code 52 = .ok (.ifCond .eq 18, 3) := by decide +kernel
theorem d_Model_alike_55 : decode prog_11_method_32_code 55 = .ok (.aload_n 0, 1) := by decide +kernel
theorem d_Model_alike_56 : decode prog_11_method_32_code 56 = .ok (.bipush 126, 2) := by decide +kernel
theorem d_Model_alike_58 : decode prog_11_method_32_code 58 = .ok (.bipush 127, 2) := by decide +kernel
theorem d_Model_alike_60 : decode prog_11_method_32_code 60 = .ok (.invokevirtual 215, 3) := by decide +kernel
theorem d_Model_alike_63 : decode prog_11_method_32_code 63 = .ok (.ifCond .eq 7, 3) := by decide +kernel
theorem d_Model_alike_66 : decode prog_11_method_32_code 66 = .ok (.iconst 1, 1) := by decide +kernel
theorem d_Model_alike_67 : decode prog_11_method_32_code 67 = .ok (.goto 4, 3) := by decide +kernel
theorem d_Model_alike_70 : decode prog_11_method_32_code 70 = .ok (.iconst 0, 1) := by decide +kernel
theorem d_Model_alike_71 : decode prog_11_method_32_code 71 = .ok (.ireturn, 1) := by decide +kernel
set_option maxHeartbeats 4000000 in
set_option maxRecDepth 100000 in
theorem c_Model_multiple (l : Launch) (g : WG) (n0 : Nat → Prop) (mo r xx qp : Nat) (th pw td wr : Int32) (w n : Nat) (hw : WH w n) (fd : Nat → Int64) (hr1 : r + 2 < 124 ∨ (142 ≤ r ∧ r + 2 < 170)) (hx1 : xx < 124 ∨ (142 ≤ xx ∧ xx < 170)) (hq1 : qp + 2 < 124 ∨ (142 ≤ qp ∧ qp + 2 < 170)) : Ctr l y_Model_multiple (.code y_Model_multiple prog_11_method_31_code 5 none) 5 119 0 0 n0 g [.ref mo, .int (nI r), .int (nI xx), .int (nI qp)] (fun H => MS g n0 H mo th pw td wr w n fd) (QV (fun H H' => FRM (MR mo) H H' ∧ ∃ fd', MS g n0 H' mo th pw td wr w n fd' ∧ SAME fd fd' (fun t => (124 ≤ t ∧ t ≤ 141) ∨ t = r ∨ t = r + 1 ∨ t = r + 2) ∧ (Z0 fd xx → SV fd' r n = 0 ∧ SV fd' (r + 1) n = 1 ∧ SV fd' (r + 2) n = 0))) := by
  refine ctr_mk l (lv0 := [(0, .ref mo), (1, .int (nI r)), (2, .int (nI xx)), (3, .int (nI qp))]) (by decide) (Nat.le_of_ble_eq_true rfl) rfl ?_
  intro p e s m below meth c ls E hr hlk hnm hl hP
  have hx := E.1
  have hb := E.2.1
  have hK := E.2.2.2.2.2
  have hF : ∀ q ∈ ([] : List Loc), n0 q.base := fun q hq => absurd hq List.not_mem_nil
  have hm := hP
  have hDD := hm.2.2.2.2.2.1
  obtain ⟨hpd, hn1, hn14, hw1, hPT, hP1, hT0, hT1⟩ := wh_kP hw
  have hfr : FRM (MR mo) s.heap s.heap := FRM.rf
  have loop : ∀ (k : Nat) (H : Heap) (locs : List Loc) (ls : Array Slot) (v : Int32) (fd1 : Nat → Int64), k ≤ 392 → v = nI k - 1 → FRM (MR mo) s.heap H → MS g n0 H mo th pw td wr w n fd1 → SAME fd fd1 (fun t => 124 ≤ t ∧ t ≤ 141) → (Z0 fd xx → SV fd1 139 n = 0 ∧ SV fd1 140 n = 1 ∧ SV fd1 141 n = 0) → (∀ q ∈ locs, n0 q.base) → lv_has ls 5 [(4, .int v), (0, .ref mo), (1, .int (nI r)), (2, .int (nI xx))] → W p l e { frames := 5, cells := 0, slots := 0, locals := 119 } s m [.ref mo, .int (nI r), .int (nI xx), .int (nI qp)].toArray below meth c H locs 0 0 (MQ below (QcP (QV (fun H H' => FRM (MR mo) H H' ∧ ∃ fd', MS g n0 H' mo th pw td wr w n fd' ∧ SAME fd fd' (fun t => (124 ≤ t ∧ t ≤ 141) ∨ t = r ∨ t = r + 1 ∨ t = r + 2) ∧ (Z0 fd xx → SV fd' r n = 0 ∧ SV fd' (r + 1) n = 1 ∧ SV fd' (r + 2) n = 0)))) [.ref mo, .int (nI r), .int (nI xx), .int (nI qp)].toArray s 0 0 (fun q => n0 q)) (F0 m 20 ls []) := by
    intro k
    induction k with
    | zero =>
      intro  H   locs   ls   v   fd1 hk392 hv0 hfr hm hS hv9 hF hl
      subst hv0
      refine lv_iload hx hb d_Model_multiple_20 (lv_at hl 0 rfl) ?_
      refine lv_if_lt (tgt := 68) hx hb d_Model_multiple_22 (by decide) (fun _ => ?_) (fun h9 => absurd (by decide) h9)
      refine lv_aload_n hx hb d_Model_multiple_68 rfl (lv_at hl 1 rfl) ?_
      refine lv_iload_n hx hb d_Model_multiple_69 rfl (lv_at hl 2 rfl) ?_
      refine lv_sipush (v := nI 139) hx hb d_Model_multiple_70 (by decide) ?_
      refine q_cV (rest := []) E (c_Model_movePoint l g n0 mo r 139 th pw td wr w n hw fd1 (by omega) (by omega) (by omega)) w_1171 w_15 w_1168 w_1170 (bw_s 41 rfl) hd_Model_movePoint rfl ⟨by decide, by decide⟩ (OB.recv E.2.2.2.2.2 (by rfl) hm.1) hm hF hl.1 rfl (Nat.le_of_ble_eq_true rfl) d_Model_multiple_73 ⟨by decide, by decide⟩ (qv (fun H1 locs hq hF => ?_))
      obtain ⟨hq, fd_1, hm, hS9, hcp⟩ := hq
      have hfr := hfr.tr hq
      exact q_vret E hr hlk (⟨rfl, hfr, _, hm, (hS.mono (fun t h => Or.inl h)).tr (hS9.mono (fun t h => Or.inr h)), fun h9 => ⟨((VL_ext (fun k hk1 => hcp 0 k (by decide) (by omega))).trans (hv9 h9).1), ((VL_ext (fun k hk1 => hcp 1 k (by decide) (by omega))).trans (hv9 h9).2.1), ((VL_ext (fun k hk1 => hcp 2 k (by decide) (by omega))).trans (hv9 h9).2.2)⟩⟩) hF d_Model_multiple_76
    | succ k ih =>
      intro  H   locs   ls   v   fd1 hk392 hv0 hfr hm hS hv9 hF hl
      rw [nI_pred] at hv0
      subst hv0
      refine lv_iload hx hb d_Model_multiple_20 (lv_at hl 0 rfl) ?_
      refine lv_if_lt (tgt := 68) hx hb d_Model_multiple_22 (by decide) (fun h9 => absurd h9 (nI_pos (by omega))) (fun _ => ?_)
      refine lv_aload_n hx hb d_Model_multiple_25 rfl (lv_at hl 1 rfl) ?_
      refine lv_sipush (v := nI 139) hx hb d_Model_multiple_26 (by decide) ?_
      refine lv_sipush (v := nI 139) hx hb d_Model_multiple_29 (by decide) ?_
      refine lv_sipush (v := nI 139) hx hb d_Model_multiple_32 (by decide) ?_
      refine q_cV (rest := []) E (c_Model_sum l g n0 mo 139 139 139 th pw td wr w n hw fd1 (by omega) (by omega) (by omega) (Z0 fd xx) (Z0 fd xx) 1 1 (fun h9 => ⟨⟨(hv9 h9).1, (hv9 h9).2.1, (hv9 h9).2.2, (hv9 h9).1, (hv9 h9).2.1, (hv9 h9).2.2⟩, ⟨by decide, hP1⟩, ⟨by decide, hP1⟩, ⟨by decide, hP1⟩⟩) (fun h9 => ⟨h9, by decide⟩)) w_1175 w_15 w_1172 w_1174 (bw_s 42 rfl) hd_Model_sum rfl ⟨by decide, by decide⟩ (OB.recv E.2.2.2.2.2 (by rfl) hm.1) hm hF hl.1 rfl (Nat.le_of_ble_eq_true rfl) d_Model_multiple_35 ⟨by decide, by decide⟩ (qv (fun H1 locs hq hF => ?_))
      obtain ⟨hq, fd_2, hm, hS9, hC9, hD9⟩ := hq
      have hfr := hfr.tr hq
      have hS := hS.tr (hS9.mono (fun t h => by omega))
      have hv9 : Z0 fd xx → SV fd_2 139 n = 0 ∧ SV fd_2 140 n = 1 ∧ SV fd_2 141 n = 0 := fun h9 => ⟨(hC9 h9).1, hD9 h9, (hC9 h9).2⟩
      refine lv_aload_n hx hb d_Model_multiple_38 rfl (lv_at hl 1 rfl) ?_
      refine lv_iload_n hx hb d_Model_multiple_39 rfl (lv_at hl 3 rfl) ?_
      refine lv_iload hx hb d_Model_multiple_40 (lv_at hl 0 rfl) ?_
      refine q_cV (rest := []) E (c_Model_bit l g n0 mo xx k th pw td wr w n hw  fd_2 (by omega) (by omega) ) w_1093 w_15 w_1090 w_1092 (bw_s 29 rfl) hd_Model_bit rfl ⟨by decide, by decide⟩ (OB.recv E.2.2.2.2.2 (by rfl) hm.1) hm hF hl.1 rfl (Nat.le_of_ble_eq_true rfl) d_Model_multiple_42 ⟨by decide, by decide⟩ (qi (fun rb H2 locs hq hF => ?_))
      obtain ⟨hbit, hq⟩ := hq
      subst hq
      refine lv_iconst (v := nI 1) hx hb d_Model_multiple_45 (by decide) ?_
      have hzb : Z0 fd xx → rb = 0 := fun h9 => hbit (hS.z0 (by omega) h9)
      refine lv_icmp_ne (tgt := 62) hx hb d_Model_multiple_46 (by decide) (fun hc => ?_) (fun hc => ?_)
      rotate_left
      · skip
        have hcc : rb = nI 1 := by first | exact hc | exact Classical.not_not.mp hc
        refine lv_aload_n hx hb d_Model_multiple_49 rfl (lv_at hl 1 rfl) ?_
        refine lv_sipush (v := nI 139) hx hb d_Model_multiple_50 (by decide) ?_
        refine lv_sipush (v := nI 139) hx hb d_Model_multiple_53 (by decide) ?_
        refine lv_sipush (v := nI 136) hx hb d_Model_multiple_56 (by decide) ?_
        refine q_cV (rest := []) E (c_Model_sum l g n0 mo 139 139 136 th pw td wr w n hw fd_2 (by omega) (by omega) (by omega) False False 0 0 (fun h => h.elim) (fun h => h.elim)) w_1175 w_15 w_1172 w_1174 (bw_s 42 rfl) hd_Model_sum rfl ⟨by decide, by decide⟩ (OB.recv E.2.2.2.2.2 (by rfl) hm.1) hm hF hl.1 rfl (Nat.le_of_ble_eq_true rfl) d_Model_multiple_59 ⟨by decide, by decide⟩ (qv (fun H3 locs hq hF => ?_))
        obtain ⟨hq, fd_3, hm, hS9, hC9, hD9⟩ := hq
        have hfr := hfr.tr hq
        have hS := hS.tr (hS9.mono (fun t h => by omega))
        refine lv_iinc (k := 0) (v := nI k - 1) (lv' := [(4, .int (nI k - 1)), (0, .ref mo), (1, .int (nI r)), (2, .int (nI xx))]) hx hb d_Model_multiple_62 hl rfl (i_dec _) (by decide) rfl (fun ls hl => ?_)
        refine lv_goto (tgt := 20) hx hb d_Model_multiple_65 (by decide) ?_
        have hl : lv_has ls 5 [(4, .int (nI k - 1)), (0, .ref mo), (1, .int (nI r)), (2, .int (nI xx))] := lv_sub hl [0, 1, 2, 3] rfl
        exact ih _ _ ls _ _ (by omega) rfl hfr hm hS (fun h9 => absurd ((hzb h9).symm.trans hcc) (by decide)) hF hl
      refine lv_iinc (k := 0) (v := nI k - 1) (lv' := [(4, .int (nI k - 1)), (0, .ref mo), (1, .int (nI r)), (2, .int (nI xx))]) hx hb d_Model_multiple_62 hl rfl (i_dec _) (by decide) rfl (fun ls hl => ?_)
      refine lv_goto (tgt := 20) hx hb d_Model_multiple_65 (by decide) ?_
      have hl : lv_has ls 5 [(4, .int (nI k - 1)), (0, .ref mo), (1, .int (nI r)), (2, .int (nI xx))] := lv_sub hl [0, 1, 2, 3] rfl
      exact ih _ _ ls _ _ (by omega) rfl hfr hm hS hv9 hF hl
  refine lv_aload_n hx hb d_Model_multiple_0 rfl (lv_at hl 0 rfl) ?_
  refine lv_sipush (v := nI 136) hx hb d_Model_multiple_1 (by decide) ?_
  refine lv_iload_n hx hb d_Model_multiple_4 rfl (lv_at hl 3 rfl) ?_
  refine q_cV (rest := []) E (c_Model_movePoint l g n0 mo 136 qp th pw td wr w n hw fd (by omega) (by omega) (by omega)) w_1171 w_15 w_1168 w_1170 (bw_s 41 rfl) hd_Model_movePoint rfl ⟨by decide, by decide⟩ (OB.recv E.2.2.2.2.2 (by rfl) hm.1) hm hF hl.1 rfl (Nat.le_of_ble_eq_true rfl) d_Model_multiple_5 ⟨by decide, by decide⟩ (qv (fun H1 locs hq hF => ?_))
  obtain ⟨hq, fd_4, hm, hS9, hcp⟩ := hq
  have hfr := hfr.tr hq
  have hS : SAME fd fd_4 (fun t => 124 ≤ t ∧ t ≤ 141) := hS9.mono (fun t h => by omega)
  refine lv_aload_n hx hb d_Model_multiple_8 rfl (lv_at hl 0 rfl) ?_
  refine lv_sipush (v := nI 139) hx hb d_Model_multiple_9 (by decide) ?_
  refine q_cV (rest := []) E (c_Model_nothing l g n0 mo 139 th pw td wr w n hw fd_4 (by omega)) w_996 w_15 w_993 w_995 (bw_s 22 rfl) hd_Model_nothing rfl ⟨by decide, by decide⟩ (OB.recv E.2.2.2.2.2 (by rfl) hm.1) hm hF hl.1 rfl (Nat.le_of_ble_eq_true rfl) d_Model_multiple_12 ⟨by decide, by decide⟩ (qv (fun H2 locs hq hF => ?_))
  obtain ⟨hq, fd_5, hm, hS9, hz1, hone, hz2⟩ := hq
  have hfr := hfr.tr hq
  refine lv_sipush (v := nI 391) hx hb d_Model_multiple_15 (by decide) ?_
  refine lv_istore (lv' := [(4, .int (nI 391)), (0, .ref mo), (1, .int (nI r)), (2, .int (nI xx)), (3, .int (nI qp))]) hx hb d_Model_multiple_18 hl (by decide) rfl (fun ls hl => ?_)
  have hS := hS.tr (hS9.mono (fun t h => by omega))
  have hl : lv_has ls 5 [(4, .int (nI 391)), (0, .ref mo), (1, .int (nI r)), (2, .int (nI xx))] := lv_sub hl [0, 1, 2, 3] rfl
  exact loop 392 _ _ ls _ _ (by decide) rfl hfr hm hS (fun _ => ⟨hz1.sv hn14, hone n hn1 hn14, hz2.sv hn14⟩) hF hl
set_option maxHeartbeats 4000000 in
set_option maxRecDepth 100000 in
theorem c_Model_sums (l : Launch) (g : WG) (n0 : Nat → Prop) (mo c9 : Nat) (sv pv : Int32) (th pw td wr : Int32) (w n : Nat) (hw : WH w n) (fd : Nat → Int64) (hmn : n0 mo) (hc9 : c9 < 100) (hsv : 0 < c9 → ∃ s1 q1, sv = nI s1 ∧ pv = nI q1 ∧ s1 + c9 ≤ 32 ∧ q1 + 3 * c9 ≤ 124) : Ctr l y_Model_sums (.code y_Model_sums prog_11_method_51_code 5 none) 6 143 0 0 n0 g [.ref mo, .int sv, .int pv, .int (nI c9)] (fun H => MS g n0 H mo th pw td wr w n fd) (QV (fun H H' => FRM (MR mo) H H' ∧ ∃ fd', MS g n0 H' mo th pw td wr 0 14 fd')) := by
  refine ctr_mk l (lv0 := [(0, .ref mo), (1, .int sv), (2, .int pv), (3, .int (nI c9))]) (by decide) (Nat.le_of_ble_eq_true rfl) rfl ?_
  intro p e s m below meth c ls E hr hlk hnm hl hP
  have hx := E.1
  have hb := E.2.1
  have hK := E.2.2.2.2.2
  have hF : ∀ q ∈ ([] : List Loc), n0 q.base := fun q hq => absurd hq List.not_mem_nil
  have hm := hP
  have hDD := hm.2.2.2.2.2.1
  obtain ⟨hpd, hn1, hn14, hw1, hPT, hP1, hT0, hT1⟩ := wh_kP hw
  have hfr : FRM (MR mo) s.heap s.heap := FRM.rf
  have loop : ∀ (k : Nat) (i : Nat) (H : Heap) (locs : List Loc) (ls : Array Slot) (fd1 : Nat → Int64), i + k = c9 → FRM (MR mo) s.heap H → MS g n0 H mo th pw td wr 0 14 fd1 → (∀ q ∈ locs, n0 q.base) → lv_has ls 5 [(4, .int (nI i)), (0, .ref mo), (1, .int sv), (2, .int pv), (3, .int (nI c9))] → W p l e { frames := 6, cells := 0, slots := 0, locals := 143 } s m [.ref mo, .int sv, .int pv, .int (nI c9)].toArray below meth c H locs 0 0 (MQ below (QcP (QV (fun H H' => FRM (MR mo) H H' ∧ ∃ fd', MS g n0 H' mo th pw td wr 0 14 fd'))) [.ref mo, .int sv, .int pv, .int (nI c9)].toArray s 0 0 (fun q => n0 q)) (F0 m 15 ls []) := by
    intro k
    induction k with
    | zero =>
      intro  i   H   locs   ls   fd1 hi hfr hm hF hl
      obtain rfl : c9 = i := by omega
      refine lv_iload hx hb d_Model_sums_15 (lv_at hl 0 rfl) ?_
      refine lv_iload_n hx hb d_Model_sums_17 rfl (lv_at hl 4 rfl) ?_
      refine lv_icmp_ge (tgt := 57) hx hb d_Model_sums_18 (by decide) (fun _ => ?_) (fun h9 => absurd (nI_le (Nat.le_refl _) (by omega)) h9)
      exact q_vret E hr hlk (⟨rfl, hfr, _, hm⟩) hF d_Model_sums_57
    | succ k ih =>
      intro  i   H   locs   ls   fd1 hi hfr hm hF hl
      refine lv_iload hx hb d_Model_sums_15 (lv_at hl 0 rfl) ?_
      refine lv_iload_n hx hb d_Model_sums_17 rfl (lv_at hl 4 rfl) ?_
      refine lv_icmp_ge (tgt := 57) hx hb d_Model_sums_18 (by decide) (fun h9 => absurd h9 (nI_ge (by omega) (by omega))) (fun _ => ?_)
      obtain ⟨s1, q1, es, eq, hs1, hq1⟩ := hsv (by omega)
      rw [es, eq] at hl
      refine lv_aload_n hx hb d_Model_sums_21 rfl (lv_at hl 1 rfl) ?_
      refine lv_sipush (v := nI 161) hx hb d_Model_sums_22 (by decide) ?_
      refine lv_iload_n hx hb d_Model_sums_25 rfl (lv_at hl 2 rfl) ?_
      refine lv_iload hx hb d_Model_sums_26 (lv_at hl 0 rfl) ?_
      refine lv_iadd hx hb d_Model_sums_28 ?_
      refine lv_topi (fun t9 e9 => ?_)
      obtain rfl : t9 = nI (s1 + i) := e9.trans (nI_add _ _)
      refine lv_iload_n hx hb d_Model_sums_29 rfl (lv_at hl 3 rfl) ?_
      refine lv_iconst (v := nI 3) hx hb d_Model_sums_30 (by decide) ?_
      refine lv_iload hx hb d_Model_sums_31 (lv_at hl 0 rfl) ?_
      refine lv_imul hx hb d_Model_sums_33 ?_
      refine lv_topi (fun t9 e9 => ?_)
      obtain rfl : t9 = nI (3 * i) := e9.trans (pk_mul _ _)
      refine lv_iadd hx hb d_Model_sums_34 ?_
      refine lv_topi (fun t9 e9 => ?_)
      obtain rfl : t9 = nI (q1 + (3 * i)) := e9.trans (nI_add _ _)
      refine q_cV (rest := []) E (c_Model_multiple l g n0 mo 161 (s1 + i) (q1 + (3 * i)) th pw td wr 0 14 (Or.inl ⟨rfl, rfl⟩) fd1 (by omega) (by omega) (by omega)) w_1167 w_15 w_1164 w_1166 (bw_s 40 rfl) hd_Model_multiple rfl ⟨by decide, by decide⟩ (OB.recv E.2.2.2.2.2 (by rfl) hm.1) hm hF hl.1 rfl (Nat.le_of_ble_eq_true rfl) d_Model_sums_35 ⟨by decide, by decide⟩ (qv (fun H1 locs hq hF => ?_))
      obtain ⟨hq, fd_1, hm, hS9, hV9⟩ := hq
      have hfr := hfr.tr hq
      refine lv_aload_n hx hb d_Model_sums_38 rfl (lv_at hl 1 rfl) ?_
      refine lv_sipush (v := nI 164) hx hb d_Model_sums_39 (by decide) ?_
      refine lv_sipush (v := nI 164) hx hb d_Model_sums_42 (by decide) ?_
      refine lv_sipush (v := nI 161) hx hb d_Model_sums_45 (by decide) ?_
      refine q_cV (rest := []) E (c_Model_sum l g n0 mo 164 164 161 th pw td wr 0 14 (Or.inl ⟨rfl, rfl⟩) fd_1 (by omega) (by omega) (by omega) False False 0 0 (fun h => h.elim) (fun h => h.elim)) w_1175 w_15 w_1172 w_1174 (bw_s 42 rfl) hd_Model_sum rfl ⟨by decide, by decide⟩ (OB.recv E.2.2.2.2.2 (by rfl) hm.1) hm hF hl.1 rfl (Nat.le_of_ble_eq_true rfl) d_Model_sums_48 ⟨by decide, by decide⟩ (qv (fun H2 locs hq hF => ?_))
      obtain ⟨hq, fd_2, hm, hS9, hC9, hD9⟩ := hq
      have hfr := hfr.tr hq
      refine lv_iinc (k := 0) (v := nI (i + 1)) (lv' := [(4, .int (nI (i + 1))), (0, .ref mo), (1, .int (nI s1)), (2, .int (nI q1)), (3, .int (nI c9))]) hx hb d_Model_sums_51 hl rfl (i_inc i) (by decide) rfl (fun ls hl => ?_)
      refine lv_goto (tgt := 15) hx hb d_Model_sums_54 (by decide) ?_
      have hl : lv_has ls 5 [(4, .int (nI (i + 1))), (0, .ref mo), (1, .int (nI s1)), (2, .int (nI q1)), (3, .int (nI c9))] := lv_sub hl [0, 1, 2, 3, 4] rfl
      rw [← es, ← eq] at hl
      exact ih (i + 1) _ _ ls _ (by omega) hfr hm hF hl
  refine lv_aload_n hx hb d_Model_sums_0 rfl (lv_at hl 0 rfl) ?_
  refine lv_iconst (v := nI 0) hx hb d_Model_sums_1 (by decide) ?_
  refine q_cV (rest := []) E (c_Model_use l g n0 mo th pw td wr w n hw 0 14 (Or.inl ⟨rfl, rfl⟩) fd hmn) w_967 w_15 w_964 w_966 (bw_s 15 rfl) hd_Model_use rfl ⟨by decide, by decide⟩ (OB.recv E.2.2.2.2.2 (by rfl) hm.1) hm hF hl.1 rfl (Nat.le_of_ble_eq_true rfl) d_Model_sums_2 ⟨by decide, by decide⟩ (qv (fun H1 locs hq hF => ?_))
  obtain ⟨hq, hm⟩ := hq
  have hfr := hfr.tr hq
  refine lv_aload_n hx hb d_Model_sums_5 rfl (lv_at hl 0 rfl) ?_
  refine lv_sipush (v := nI 164) hx hb d_Model_sums_6 (by decide) ?_
  refine q_cV (rest := []) E (c_Model_nothing l g n0 mo 164 th pw td wr 0 14 (Or.inl ⟨rfl, rfl⟩) fd (by omega)) w_996 w_15 w_993 w_995 (bw_s 22 rfl) hd_Model_nothing rfl ⟨by decide, by decide⟩ (OB.recv E.2.2.2.2.2 (by rfl) hm.1) hm hF hl.1 rfl (Nat.le_of_ble_eq_true rfl) d_Model_sums_9 ⟨by decide, by decide⟩ (qv (fun H2 locs hq hF => ?_))
  obtain ⟨hq, fd_3, hm, hS9, hz1, hone, hz2⟩ := hq
  have hfr := hfr.tr hq
  refine lv_iconst (v := nI 0) hx hb d_Model_sums_12 (by decide) ?_
  refine lv_istore (lv' := [(4, .int (nI 0)), (0, .ref mo), (1, .int sv), (2, .int pv), (3, .int (nI c9))]) hx hb d_Model_sums_13 hl (by decide) rfl (fun ls hl => ?_)
  have hl : lv_has ls 5 [(4, .int (nI 0)), (0, .ref mo), (1, .int sv), (2, .int pv), (3, .int (nI c9))] := lv_sub hl [0, 1, 2, 3, 4] rfl
  exact loop c9 0 _ _ ls _ (by omega) hfr hm hF hl
set_option maxHeartbeats 4000000 in
set_option maxRecDepth 100000 in
theorem c_Model_value (l : Launch) (g : WG) (n0 : Nat → Prop) (mo r a c9 xx : Nat) (th pw td wr : Int32) (w n : Nat) (hw : WH w n) (fd : Nat → Int64) (hr1 : r < 170) (ha : a + c9 ≤ 170) (hc9 : c9 < 170) (hx1 : xx < 170) : Ctr l y_Model_value (.code y_Model_value prog_11_method_56_code 6 none) 3 79 0 0 n0 g [.ref mo, .int (nI r), .int (nI a), .int (nI c9), .int (nI xx)] (fun H => MS g n0 H mo th pw td wr w n fd) (QV (fun H H' => FRM (MR mo) H H' ∧ ∃ fd', MS g n0 H' mo th pw td wr w n fd' ∧ True)) := by
  refine ctr_mk l (lv0 := [(0, .ref mo), (1, .int (nI r)), (2, .int (nI a)), (3, .int (nI c9)), (4, .int (nI xx))]) (by decide) (Nat.le_of_ble_eq_true rfl) rfl ?_
  intro p e s m below meth c ls E hr hlk hnm hl hP
  have hx := E.1
  have hb := E.2.1
  have hK := E.2.2.2.2.2
  have hF : ∀ q ∈ ([] : List Loc), n0 q.base := fun q hq => absurd hq List.not_mem_nil
  have hm := hP
  have hDD := hm.2.2.2.2.2.1
  obtain ⟨hpd, hn1, hn14, hw1, hPT, hP1, hT0, hT1⟩ := wh_kP hw
  have hfr : FRM (MR mo) s.heap s.heap := FRM.rf
  have loop : ∀ (k : Nat) (H : Heap) (locs : List Loc) (ls : Array Slot) (v : Int32) (fd1 : Nat → Int64), k ≤ c9 → v = nI k - 1 → FRM (MR mo) s.heap H → MS g n0 H mo th pw td wr w n fd1 → (∀ q ∈ locs, n0 q.base) → lv_has ls 6 [(5, .int v), (0, .ref mo), (1, .int (nI r)), (2, .int (nI a)), (4, .int (nI xx))] → W p l e { frames := 3, cells := 0, slots := 0, locals := 79 } s m [.ref mo, .int (nI r), .int (nI a), .int (nI c9), .int (nI xx)].toArray below meth c H locs 0 0 (MQ below (QcP (QV (fun H H' => FRM (MR mo) H H' ∧ ∃ fd', MS g n0 H' mo th pw td wr w n fd' ∧ True))) [.ref mo, .int (nI r), .int (nI a), .int (nI c9), .int (nI xx)].toArray s 0 0 (fun q => n0 q)) (F0 m 12 ls []) := by
    intro k
    induction k with
    | zero =>
      intro  H   locs   ls   v   fd1 hkc hv0 hfr hm hF hl
      subst hv0
      refine lv_iload hx hb d_Model_value_12 (lv_at hl 0 rfl) ?_
      refine lv_if_lt (tgt := 49) hx hb d_Model_value_14 (by decide) (fun _ => ?_) (fun h9 => absurd (by decide) h9)
      refine lv_aload_n hx hb d_Model_value_49 rfl (lv_at hl 1 rfl) ?_
      refine lv_iload_n hx hb d_Model_value_50 rfl (lv_at hl 2 rfl) ?_
      refine lv_sipush (v := nI 167) hx hb d_Model_value_51 (by decide) ?_
      refine q_cV (rest := []) E (c_Model_move l g n0 mo r 167 th pw td wr w n hw  fd1 (by omega) (by omega) ) w_1076 w_15 w_1073 w_1075 (bw_s 27 rfl) hd_Model_move rfl ⟨by decide, by decide⟩ (OB.recv E.2.2.2.2.2 (by rfl) hm.1) hm hF hl.1 rfl (Nat.le_of_ble_eq_true rfl) d_Model_value_54 ⟨by decide, by decide⟩ (qv (fun H1 locs hq hF => ?_))
      obtain ⟨hq, fd_1, hm, hpv⟩ := hq
      have hfr := hfr.tr hq
      exact q_vret E hr hlk (⟨rfl, hfr, _, hm, trivial⟩) hF d_Model_value_57
    | succ k ih =>
      intro  H   locs   ls   v   fd1 hkc hv0 hfr hm hF hl
      rw [nI_pred] at hv0
      subst hv0
      refine lv_iload hx hb d_Model_value_12 (lv_at hl 0 rfl) ?_
      refine lv_if_lt (tgt := 49) hx hb d_Model_value_14 (by decide) (fun h9 => absurd h9 (nI_pos (by omega))) (fun _ => ?_)
      refine lv_aload_n hx hb d_Model_value_17 rfl (lv_at hl 1 rfl) ?_
      refine lv_sipush (v := nI 167) hx hb d_Model_value_18 (by decide) ?_
      refine lv_sipush (v := nI 167) hx hb d_Model_value_21 (by decide) ?_
      refine lv_iload hx hb d_Model_value_24 (lv_at hl 4 rfl) ?_
      refine q_cV (rest := []) E (c_Model_product l g n0 mo 167 167 xx th pw td wr w n hw  fd1 (by omega) (by omega) (by omega) ) w_1113 w_15 w_1110 w_1112 (bw_s 32 rfl) hd_Model_product rfl ⟨by decide, by decide⟩ (OB.recv E.2.2.2.2.2 (by rfl) hm.1) hm hF hl.1 rfl (Nat.le_of_ble_eq_true rfl) d_Model_value_26 ⟨by decide, by decide⟩ (qv (fun H1 locs hq hF => ?_))
      obtain ⟨hq, fd_2, hm, hpv, hv⟩ := hq
      have hfr := hfr.tr (kjR hq)
      refine lv_aload_n hx hb d_Model_value_29 rfl (lv_at hl 1 rfl) ?_
      refine lv_sipush (v := nI 167) hx hb d_Model_value_30 (by decide) ?_
      refine lv_sipush (v := nI 167) hx hb d_Model_value_33 (by decide) ?_
      refine lv_iload_n hx hb d_Model_value_36 rfl (lv_at hl 3 rfl) ?_
      refine lv_iload hx hb d_Model_value_37 (lv_at hl 0 rfl) ?_
      refine lv_iadd hx hb d_Model_value_39 ?_
      refine lv_topi (fun t9 e9 => ?_)
      obtain rfl : t9 = nI (a + k) := e9.trans (nI_add _ _)
      refine q_cV (rest := []) E (c_Model_add l g n0 mo 167 167 (a + k) th pw td wr w n hw  fd_2 (by omega) (by omega) (by omega) ) w_975 w_15 w_972 w_974 (bw_s 17 rfl) hd_Model_add rfl ⟨by decide, by decide⟩ (OB.recv E.2.2.2.2.2 (by rfl) hm.1) hm hF hl.1 rfl (Nat.le_of_ble_eq_true rfl) d_Model_value_40 ⟨by decide, by decide⟩ (qv (fun H2 locs hq hF => ?_))
      obtain ⟨hq, fd_3, hm, hpv, hv⟩ := hq
      have hfr := hfr.tr (kjR hq)
      refine lv_iinc (k := 0) (v := nI k - 1) (lv' := [(5, .int (nI k - 1)), (0, .ref mo), (1, .int (nI r)), (2, .int (nI a)), (4, .int (nI xx))]) hx hb d_Model_value_43 hl rfl (i_dec _) (by decide) rfl (fun ls hl => ?_)
      refine lv_goto (tgt := 12) hx hb d_Model_value_46 (by decide) ?_
      have hl : lv_has ls 6 [(5, .int (nI k - 1)), (0, .ref mo), (1, .int (nI r)), (2, .int (nI a)), (4, .int (nI xx))] := lv_sub hl [0, 1, 2, 3, 4] rfl
      exact ih _ _ ls _ _ (by omega) rfl hfr hm hF hl
  refine lv_aload_n hx hb d_Model_value_0 rfl (lv_at hl 0 rfl) ?_
  refine lv_sipush (v := nI 167) hx hb d_Model_value_1 (by decide) ?_
  refine q_cV (rest := []) E (c_Model_zero l g n0 mo 167 th pw td wr w n hw  fd (by omega) ) w_1000 w_15 w_997 w_999 (bw_s 23 rfl) hd_Model_zero rfl ⟨by decide, by decide⟩ (OB.recv E.2.2.2.2.2 (by rfl) hm.1) hm hF hl.1 rfl (Nat.le_of_ble_eq_true rfl) d_Model_value_4 ⟨by decide, by decide⟩ (qv (fun H1 locs hq hF => ?_))
  obtain ⟨hq, fd_4, hm, hpv⟩ := hq
  have hfr := hfr.tr hq
  refine lv_iload_n hx hb d_Model_value_7 rfl (lv_at hl 3 rfl) ?_
  refine lv_iconst (v := nI 1) hx hb d_Model_value_8 (by decide) ?_
  refine lv_isub hx hb d_Model_value_9 ?_
  refine lv_istore (lv' := [(5, .int ((nI c9) - (nI 1))), (0, .ref mo), (1, .int (nI r)), (2, .int (nI a)), (3, .int (nI c9)), (4, .int (nI xx))]) hx hb d_Model_value_10 hl (by decide) rfl (fun ls hl => ?_)
  have hl : lv_has ls 6 [(5, .int ((nI c9) - (nI 1))), (0, .ref mo), (1, .int (nI r)), (2, .int (nI a)), (4, .int (nI xx))] := lv_sub hl [0, 1, 2, 3, 5] rfl
  exact loop c9 _ _ ls _ _ (Nat.le_refl _) rfl hfr hm hF hl
set_option maxHeartbeats 4000000 in
set_option maxRecDepth 100000 in
theorem c_Model_unit (l : Launch) (g : WG) (n0 : Nat → Prop) (mo r c9 : Nat) (th pw td wr : Int32) (w n : Nat) (hw : WH w n) (fd : Nat → Int64) (hmn : n0 mo) (hr1 : r < 170) (hc9 : c9 < 2147483648) : Ctr l y_Model_unit (.code y_Model_unit prog_11_method_43_code 3 none) 4 103 0 0 n0 g [.ref mo, .int (nI r), .int (nI c9)] (fun H => MS g n0 H mo th pw td wr w n fd) (QV (fun H H' => FRM (MR mo) H H' ∧ ∃ fd', MS g n0 H' mo th pw td wr 1 10 fd')) := by
  refine ctr_mk l (lv0 := [(0, .ref mo), (1, .int (nI r)), (2, .int (nI c9))]) (by decide) (Nat.le_of_ble_eq_true rfl) rfl ?_
  intro p e s m below meth c ls E hr hlk hnm hl hP
  have hx := E.1
  have hb := E.2.1
  have hK := E.2.2.2.2.2
  have hF : ∀ q ∈ ([] : List Loc), n0 q.base := fun q hq => absurd hq List.not_mem_nil
  have hm := hP
  have hDD := hm.2.2.2.2.2.1
  obtain ⟨hpd, hn1, hn14, hw1, hPT, hP1, hT0, hT1⟩ := wh_kP hw
  have hfr : FRM (MR mo) s.heap s.heap := FRM.rf
  refine lv_aload_n hx hb d_Model_unit_0 rfl (lv_at hl 0 rfl) ?_
  refine lv_iconst (v := nI 1) hx hb d_Model_unit_1 (by decide) ?_
  refine q_cV (rest := []) E (c_Model_use l g n0 mo th pw td wr w n hw 1 10 (Or.inr ⟨rfl, rfl⟩) fd hmn) w_967 w_15 w_964 w_966 (bw_s 15 rfl) hd_Model_use rfl ⟨by decide, by decide⟩ (OB.recv E.2.2.2.2.2 (by rfl) hm.1) hm hF hl.1 rfl (Nat.le_of_ble_eq_true rfl) d_Model_unit_2 ⟨by decide, by decide⟩ (qv (fun H1 locs hq hF => ?_))
  obtain ⟨hq, hm⟩ := hq
  have hfr := hfr.tr hq
  refine lv_aload_n hx hb d_Model_unit_5 rfl (lv_at hl 0 rfl) ?_
  refine lv_sipush (v := nI 145) hx hb d_Model_unit_6 (by decide) ?_
  refine lv_ldc2 (v := -1) hx hb E.2.2.2.1 (E.2.2.2.2.1 _ w_1140) d_Model_unit_9 ?_
  refine q_cV (rest := []) E (c_Model_primeAnd l g n0 mo 145 (-1) th pw td wr 1 10 (Or.inr ⟨rfl, rfl⟩) fd (by omega) (by decide)) w_1122 w_15 w_1119 w_1121 (bw_s 34 rfl) hd_Model_primeAnd rfl ⟨by decide, by decide⟩ (OB.recv E.2.2.2.2.2 (by rfl) hm.1) hm hF hl.1 rfl (Nat.le_of_ble_eq_true rfl) d_Model_unit_12 ⟨by decide, by decide⟩ (qv (fun H2 locs hq hF => ?_))
  obtain ⟨hq, fd_1, hm, -⟩ := hq
  have hfr := hfr.tr hq
  refine lv_aload_n hx hb d_Model_unit_15 rfl (lv_at hl 0 rfl) ?_
  refine lv_sipush (v := nI 145) hx hb d_Model_unit_16 (by decide) ?_
  refine lv_iload_n hx hb d_Model_unit_19 rfl (lv_at hl 2 rfl) ?_
  refine q_cV (rest := []) E (c_Model_halves l g n0 mo 145 c9 th pw td wr 1 10 (Or.inr ⟨rfl, rfl⟩)  fd_1 (by omega) (by omega) ) w_1144 w_15 w_1141 w_1143 (bw_s 37 rfl) hd_Model_halves rfl ⟨by decide, by decide⟩ (OB.recv E.2.2.2.2.2 (by rfl) hm.1) hm hF hl.1 rfl (Nat.le_of_ble_eq_true rfl) d_Model_unit_20 ⟨by decide, by decide⟩ (qv (fun H3 locs hq hF => ?_))
  obtain ⟨hq, fd_2, hm, -⟩ := hq
  have hfr := hfr.tr hq
  refine lv_aload_n hx hb d_Model_unit_23 rfl (lv_at hl 0 rfl) ?_
  refine lv_sipush (v := nI 146) hx hb d_Model_unit_24 (by decide) ?_
  refine lv_ldc2 (v := 7) hx hb E.2.2.2.1 (E.2.2.2.2.1 _ w_935) d_Model_unit_27 ?_
  refine q_cV (rest := []) E (c_Model_small l g n0 mo 146 7 th pw td wr 1 10 (Or.inr ⟨rfl, rfl⟩) fd_2 (by omega)) w_1084 w_15 w_1081 w_1083 (bw_s 28 rfl) hd_Model_small rfl ⟨by decide, by decide⟩ (OB.recv E.2.2.2.2.2 (by rfl) hm.1) hm hF hl.1 rfl (Nat.le_of_ble_eq_true rfl) d_Model_unit_30 ⟨by decide, by decide⟩ (qv (fun H4 locs hq hF => ?_))
  obtain ⟨hq, fd_3, hm, -⟩ := hq
  have hfr := hfr.tr hq
  refine lv_aload_n hx hb d_Model_unit_33 rfl (lv_at hl 0 rfl) ?_
  refine lv_iload_n hx hb d_Model_unit_34 rfl (lv_at hl 1 rfl) ?_
  refine lv_sipush (v := nI 146) hx hb d_Model_unit_35 (by decide) ?_
  refine lv_sipush (v := nI 145) hx hb d_Model_unit_38 (by decide) ?_
  refine q_cV (rest := []) E (c_Model_raise l g n0 mo r 146 145 th pw td wr 1 10 (Or.inr ⟨rfl, rfl⟩)  fd_3 (by omega) (by omega) (by omega) ) w_1126 w_15 w_1123 w_1125 (bw_s 35 rfl) hd_Model_raise rfl ⟨by decide, by decide⟩ (OB.recv E.2.2.2.2.2 (by rfl) hm.1) hm hF hl.1 rfl (Nat.le_of_ble_eq_true rfl) d_Model_unit_41 ⟨by decide, by decide⟩ (qv (fun H5 locs hq hF => ?_))
  obtain ⟨hq, fd_4, hm, -⟩ := hq
  have hfr := hfr.tr hq
  exact q_vret E hr hlk (⟨rfl, hfr, _, hm⟩) hF d_Model_unit_44
set_option maxHeartbeats 4000000 in
set_option maxRecDepth 100000 in
theorem c_Model_alike (l : Launch) (g : WG) (n0 : Nat → Prop) (mo a b : Nat) (th pw td wr : Int32) (w n : Nat) (hw : WH w n) (fd : Nat → Int64) (ha : a + 2 < 124 ∨ (128 ≤ a ∧ a + 2 < 170)) (hb1 : b + 2 < 124 ∨ (128 ≤ b ∧ b + 2 < 170)) : Ctr l y_Model_alike (.code y_Model_alike prog_11_method_32_code 3 (some FieldType.boolean)) 3 79 0 0 n0 g [.ref mo, .int (nI a), .int (nI b)] (fun H => MS g n0 H mo th pw td wr w n fd) (QI (fun r H H' => ((r = 1 ∨ r = 0) ∧ (SV fd (a + 2) n = 0 → SV fd (b + 2) n = 0 → r = 1)) ∧ FRM (MR mo) H H' ∧ ∃ fd', MS g n0 H' mo th pw td wr w n fd')) := by
  refine ctr_mk l (lv0 := [(0, .ref mo), (1, .int (nI a)), (2, .int (nI b))]) (by decide) (Nat.le_of_ble_eq_true rfl) rfl ?_
  intro p e s m below meth c ls E hr hlk hnm hl hP
  have hx := E.1
  have hb := E.2.1
  have hK := E.2.2.2.2.2
  have hF : ∀ q ∈ ([] : List Loc), n0 q.base := fun q hq => absurd hq List.not_mem_nil
  have hm := hP
  have hDD := hm.2.2.2.2.2.1
  obtain ⟨hpd, hn1, hn14, hw1, hPT, hP1, hT0, hT1⟩ := wh_kP hw
  have hfr : FRM (MR mo) s.heap s.heap := FRM.rf
  have hpp := pp2 hw
  have r0 : 0 ≤ (0 : Int) ∧ 0 < PP w n := ⟨Int.le_refl _, by omega⟩
  refine lv_aload_n hx hb d_Model_alike_0 rfl (lv_at hl 0 rfl) ?_
  refine lv_bipush (v := nI 124) hx hb d_Model_alike_1 (by decide) ?_
  refine lv_iload_n hx hb d_Model_alike_3 rfl (lv_at hl 1 rfl) ?_
  refine lv_iload_n hx hb d_Model_alike_4 rfl (lv_at hl 2 rfl) ?_
  refine lv_iconst (v := nI 2) hx hb d_Model_alike_5 (by decide) ?_
  refine lv_iadd hx hb d_Model_alike_6 ?_
  refine lv_topi (fun t9 e9 => ?_)
  obtain rfl : t9 = nI (b + 2) := e9.trans (nI_add _ _)
  refine q_cV (rest := []) E (c_Model_product l g n0 mo 124 a (b + 2) th pw td wr w n hw  fd (by omega) (by omega) (by omega) ) w_1113 w_15 w_1110 w_1112 (bw_s 32 rfl) hd_Model_product rfl ⟨by decide, by decide⟩ (OB.recv E.2.2.2.2.2 (by rfl) hm.1) hm hF hl.1 rfl (Nat.le_of_ble_eq_true rfl) d_Model_alike_7 ⟨by decide, by decide⟩ (qv (fun H1 locs hq hF => ?_))
  obtain ⟨hq, fd_1, hm, hpv, hv⟩ := hq
  have hfr := hfr.tr (kjR hq)
  have hp0 := hpv
  have hv0 := hv
  clear hv hpv
  refine lv_aload_n hx hb d_Model_alike_10 rfl (lv_at hl 0 rfl) ?_
  refine lv_bipush (v := nI 125) hx hb d_Model_alike_11 (by decide) ?_
  refine lv_iload_n hx hb d_Model_alike_13 rfl (lv_at hl 2 rfl) ?_
  refine lv_iload_n hx hb d_Model_alike_14 rfl (lv_at hl 1 rfl) ?_
  refine lv_iconst (v := nI 2) hx hb d_Model_alike_15 (by decide) ?_
  refine lv_iadd hx hb d_Model_alike_16 ?_
  refine lv_topi (fun t9 e9 => ?_)
  obtain rfl : t9 = nI (a + 2) := e9.trans (nI_add _ _)
  refine q_cV (rest := []) E (c_Model_product l g n0 mo 125 b (a + 2) th pw td wr w n hw  fd_1 (by omega) (by omega) (by omega) ) w_1113 w_15 w_1110 w_1112 (bw_s 32 rfl) hd_Model_product rfl ⟨by decide, by decide⟩ (OB.recv E.2.2.2.2.2 (by rfl) hm.1) hm hF hl.1 rfl (Nat.le_of_ble_eq_true rfl) d_Model_alike_17 ⟨by decide, by decide⟩ (qv (fun H2 locs hq hF => ?_))
  obtain ⟨hq, fd_2, hm, hpv, hv⟩ := hq
  have hfr := hfr.tr (kjR hq)
  have hp1 := hpv
  have hv1 := hv
  clear hv hpv
  refine lv_aload_n hx hb d_Model_alike_20 rfl (lv_at hl 0 rfl) ?_
  refine lv_bipush (v := nI 126) hx hb d_Model_alike_21 (by decide) ?_
  refine lv_iload_n hx hb d_Model_alike_23 rfl (lv_at hl 1 rfl) ?_
  refine lv_iconst (v := nI 1) hx hb d_Model_alike_24 (by decide) ?_
  refine lv_iadd hx hb d_Model_alike_25 ?_
  refine lv_topi (fun t9 e9 => ?_)
  obtain rfl : t9 = nI (a + 1) := e9.trans (nI_add _ _)
  refine lv_iload_n hx hb d_Model_alike_26 rfl (lv_at hl 2 rfl) ?_
  refine lv_iconst (v := nI 2) hx hb d_Model_alike_27 (by decide) ?_
  refine lv_iadd hx hb d_Model_alike_28 ?_
  refine lv_topi (fun t9 e9 => ?_)
  obtain rfl : t9 = nI (b + 2) := e9.trans (nI_add _ _)
  refine q_cV (rest := []) E (c_Model_product l g n0 mo 126 (a + 1) (b + 2) th pw td wr w n hw  fd_2 (by omega) (by omega) (by omega) ) w_1113 w_15 w_1110 w_1112 (bw_s 32 rfl) hd_Model_product rfl ⟨by decide, by decide⟩ (OB.recv E.2.2.2.2.2 (by rfl) hm.1) hm hF hl.1 rfl (Nat.le_of_ble_eq_true rfl) d_Model_alike_29 ⟨by decide, by decide⟩ (qv (fun H3 locs hq hF => ?_))
  obtain ⟨hq, fd_3, hm, hpv, hv⟩ := hq
  have hfr := hfr.tr (kjR hq)
  have hp2 := hpv
  have hv2 := hv
  clear hv hpv
  refine lv_aload_n hx hb d_Model_alike_32 rfl (lv_at hl 0 rfl) ?_
  refine lv_bipush (v := nI 127) hx hb d_Model_alike_33 (by decide) ?_
  refine lv_iload_n hx hb d_Model_alike_35 rfl (lv_at hl 2 rfl) ?_
  refine lv_iconst (v := nI 1) hx hb d_Model_alike_36 (by decide) ?_
  refine lv_iadd hx hb d_Model_alike_37 ?_
  refine lv_topi (fun t9 e9 => ?_)
  obtain rfl : t9 = nI (b + 1) := e9.trans (nI_add _ _)
  refine lv_iload_n hx hb d_Model_alike_38 rfl (lv_at hl 1 rfl) ?_
  refine lv_iconst (v := nI 2) hx hb d_Model_alike_39 (by decide) ?_
  refine lv_iadd hx hb d_Model_alike_40 ?_
  refine lv_topi (fun t9 e9 => ?_)
  obtain rfl : t9 = nI (a + 2) := e9.trans (nI_add _ _)
  refine q_cV (rest := []) E (c_Model_product l g n0 mo 127 (b + 1) (a + 2) th pw td wr w n hw  fd_3 (by omega) (by omega) (by omega) ) w_1113 w_15 w_1110 w_1112 (bw_s 32 rfl) hd_Model_product rfl ⟨by decide, by decide⟩ (OB.recv E.2.2.2.2.2 (by rfl) hm.1) hm hF hl.1 rfl (Nat.le_of_ble_eq_true rfl) d_Model_alike_41 ⟨by decide, by decide⟩ (qv (fun H4 locs hq hF => ?_))
  obtain ⟨hq, fd_4, hm, hpv, hv⟩ := hq
  have hfr := hfr.tr (kjR hq)
  have hp3 := hpv
  have hv3 := hv
  clear hv hpv
  have hsame : SV fd (a + 2) n = 0 → SV fd (b + 2) n = 0 → Z0 fd_4 124 ∧ Z0 fd_4 125 ∧ Z0 fd_4 126 ∧ Z0 fd_4 127 := by
    intro h1 h2
    have z0 := hp0.z0 hn14 (r_mulR hv0 h2 r0 hpp)
    have a1 := (out_sv hp0.1 (t := a + 2) (by omega) hn14).trans h1
    have b1 := (out_sv hp0.1 (t := b + 2) (by omega) hn14).trans h2
    have z1 := hp1.z0 hn14 (r_mulR hv1 a1 r0 hpp)
    have a2 := (out_sv hp1.1 (t := a + 2) (by omega) hn14).trans a1
    have b2 := (out_sv hp1.1 (t := b + 2) (by omega) hn14).trans b1
    have z2 := hp2.z0 hn14 (r_mulR hv2 b2 r0 hpp)
    have a3 := (out_sv hp2.1 (t := a + 2) (by omega) hn14).trans a2
    have z3 := hp3.z0 hn14 (r_mulR hv3 a3 r0 hpp)
    exact ⟨out_z0 hp3.1 (by decide) (out_z0 hp2.1 (by decide) (out_z0 hp1.1 (by decide) z0)), out_z0 hp3.1 (by decide) (out_z0 hp2.1 (by decide) z1), out_z0 hp3.1 (by decide) z2, z3⟩
  clear hv0 hv1 hv2 hv3
  refine lv_aload_n hx hb d_Model_alike_44 rfl (lv_at hl 0 rfl) ?_
  refine lv_bipush (v := nI 124) hx hb d_Model_alike_45 (by decide) ?_
  refine lv_bipush (v := nI 125) hx hb d_Model_alike_47 (by decide) ?_
  refine q_cV (rest := []) E (c_Model_isSame l g n0 mo 124 125 th pw td wr w n hw fd_4 (by decide) (by decide)) w_1163 w_15 w_1160 w_1162 (bw_s 39 rfl) hd_Model_isSame rfl ⟨by decide, by decide⟩ (OB.recv E.2.2.2.2.2 (by rfl) hm.1) hm hF hl.1 rfl (Nat.le_of_ble_eq_true rfl) d_Model_alike_49 ⟨by decide, by decide⟩ (qi (fun ra H5 locs hq hF => ?_))
  obtain ⟨h_ra, hq⟩ := hq
  subst hq
  refine lv_if_eq (tgt := 70) hx hb d_Model_alike_52 (by decide) (fun hc => ?_) (fun hc => ?_)
  rotate_left
  · skip
    refine lv_aload_n hx hb d_Model_alike_55 rfl (lv_at hl 0 rfl) ?_
    refine lv_bipush (v := nI 126) hx hb d_Model_alike_56 (by decide) ?_
    refine lv_bipush (v := nI 127) hx hb d_Model_alike_58 (by decide) ?_
    refine q_cV (rest := []) E (c_Model_isSame l g n0 mo 126 127 th pw td wr w n hw fd_4 (by decide) (by decide)) w_1163 w_15 w_1160 w_1162 (bw_s 39 rfl) hd_Model_isSame rfl ⟨by decide, by decide⟩ (OB.recv E.2.2.2.2.2 (by rfl) hm.1) hm hF hl.1 rfl (Nat.le_of_ble_eq_true rfl) d_Model_alike_60 ⟨by decide, by decide⟩ (qi (fun rc H6 locs hq hF => ?_))
    obtain ⟨h_rc, hq⟩ := hq
    subst hq
    refine lv_if_eq (tgt := 70) hx hb d_Model_alike_63 (by decide) (fun hd => ?_) (fun hd => ?_)
    rotate_left
    · skip
      refine lv_iconst (v := nI 1) hx hb d_Model_alike_66 (by decide) ?_
      refine lv_goto (tgt := 71) hx hb d_Model_alike_67 (by decide) ?_
      exact q_zret E hr rfl hlk (⟨_, rfl, ⟨Or.inl rfl, fun _ _ => rfl⟩, hfr, _, hm⟩) hF d_Model_alike_71
    refine lv_iconst (v := nI 0) hx hb d_Model_alike_70 (by decide) ?_
    exact q_zret E hr rfl hlk (⟨_, rfl, ⟨Or.inr rfl, fun h1 h2 => absurd ((h_rc.2 (fun k hk1 => ((hsame h1 h2).2.2.1 k hk1).trans ((hsame h1 h2).2.2.2 k hk1).symm)).symm.trans hd) (by decide)⟩, hfr, _, hm⟩) hF d_Model_alike_71
  refine lv_iconst (v := nI 0) hx hb d_Model_alike_70 (by decide) ?_
  exact q_zret E hr rfl hlk (⟨_, rfl, ⟨Or.inr rfl, fun h1 h2 => absurd ((h_ra.2 (fun k hk1 => ((hsame h1 h2).1 k hk1).trans ((hsame h1 h2).2.1 k hk1).symm)).symm.trans hc) (by decide)⟩, hfr, _, hm⟩) hF d_Model_alike_71
