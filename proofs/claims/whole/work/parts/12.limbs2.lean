theorem zsr (x : Int64) : (0 : Int64) >>> x = 0 := by simp
theorem zsl (x : Int64) : (0 : Int64) ||| ((0 : Int64) <<< x) = 0 := by simp
theorem zan (x : Int64) : (0 : Int64) &&& x = 0 := by simp
theorem kd_cmp_lt {x y : Int64} (h : x < y) : lg_cmp x y = -1 := by unfold lg_cmp; rw [if_neg (Int64.not_lt.mpr (Int64.le_of_lt h)), if_neg (fun q => by subst q; exact absurd h (Int64.lt_irrefl))]
abbrev y_Limbs_isZero : MethodName := ⟨"KateDesk$Limbs", "isZero", "([J)Z"⟩
theorem hd_Limbs_isZero : y_Limbs_isZero.cls ≠ "java/lang/invoke/MethodHandle" ∧ y_Limbs_isZero.cls ≠ "java/lang/invoke/VarHandle" ∧ (parseMethodDescriptor y_Limbs_isZero.desc).map (fun d => d.parameters.length) = some 1 := by decide +kernel
theorem d_Limbs_isZero_0 : decode prog_5_method_6_code 0 = .ok (.iconst 0, 1) := by decide +kernel
theorem d_Limbs_isZero_1 : decode prog_5_method_6_code 1 = .ok (.istore_n 1, 1) := by decide +kernel
theorem d_Limbs_isZero_2 : decode prog_5_method_6_code 2 = .ok (.iload_n 1, 1) := by decide +kernel
theorem d_Limbs_isZero_3 : decode prog_5_method_6_code 3 = .ok (.bipush 14, 2) := by decide +kernel
theorem d_Limbs_isZero_5 : decode prog_5_method_6_code 5 = .ok (.if_icmp .ge 19, 3) := by decide +kernel
theorem d_Limbs_isZero_8 : decode prog_5_method_6_code 8 = .ok (.aload_n 0, 1) := by decide +kernel
theorem d_Limbs_isZero_9 : decode prog_5_method_6_code 9 = .ok (.iload_n 1, 1) := by decide +kernel
theorem d_Limbs_isZero_10 : decode prog_5_method_6_code 10 = .ok (.laload, 1) := by decide +kernel
theorem d_Limbs_isZero_11 : decode prog_5_method_6_code 11 = .ok (.lconst 0, 1) := by decide +kernel
theorem d_Limbs_isZero_12 : decode prog_5_method_6_code 12 = .ok (.lcmp, 1) := by decide +kernel
theorem d_Limbs_isZero_13 : decode prog_5_method_6_code 13 = .ok (.ifCond .eq 5, 3) := by decide +kernel
theorem d_Limbs_isZero_16 : decode prog_5_method_6_code 16 = .ok (.iconst 0, 1) := by decide +kernel
theorem d_Limbs_isZero_17 : decode prog_5_method_6_code 17 = .ok (.ireturn, 1) := by decide +kernel
theorem d_Limbs_isZero_18 : decode prog_5_method_6_code 18 = .ok (.iinc 1 1, 3) := by decide +kernel
theorem d_Limbs_isZero_21 : decode prog_5_method_6_code 21 = .ok (.goto (-19), 3) := by decide +kernel
theorem d_Limbs_isZero_24 : decode prog_5_method_6_code 24 = .ok (.iconst 1, 1) := by decide +kernel
theorem d_Limbs_isZero_25 : decode prog_5_method_6_code 25 = .ok (.ireturn, 1) := by decide +kernel
abbrev y_Limbs_equal : MethodName := ⟨"KateDesk$Limbs", "equal", "([J[J)Z"⟩
theorem hd_Limbs_equal : y_Limbs_equal.cls ≠ "java/lang/invoke/MethodHandle" ∧ y_Limbs_equal.cls ≠ "java/lang/invoke/VarHandle" ∧ (parseMethodDescriptor y_Limbs_equal.desc).map (fun d => d.parameters.length) = some 2 := by decide +kernel
theorem d_Limbs_equal_0 : decode prog_5_method_7_code 0 = .ok (.iconst 0, 1) := by decide +kernel
theorem d_Limbs_equal_1 : decode prog_5_method_7_code 1 = .ok (.istore_n 2, 1) := by decide +kernel
theorem d_Limbs_equal_2 : decode prog_5_method_7_code 2 = .ok (.iload_n 2, 1) := by decide +kernel
theorem d_Limbs_equal_3 : decode prog_5_method_7_code 3 = .ok (.bipush 14, 2) := by decide +kernel
theorem d_Limbs_equal_5 : decode prog_5_method_7_code 5 = .ok (.if_icmp .ge 21, 3) := by decide +kernel
theorem d_Limbs_equal_8 : decode prog_5_method_7_code 8 = .ok (.aload_n 0, 1) := by decide +kernel
theorem d_Limbs_equal_9 : decode prog_5_method_7_code 9 = .ok (.iload_n 2, 1) := by decide +kernel
theorem d_Limbs_equal_10 : decode prog_5_method_7_code 10 = .ok (.laload, 1) := by decide +kernel
theorem d_Limbs_equal_11 : decode prog_5_method_7_code 11 = .ok (.aload_n 1, 1) := by decide +kernel
theorem d_Limbs_equal_12 : decode prog_5_method_7_code 12 = .ok (.iload_n 2, 1) := by decide +kernel
theorem d_Limbs_equal_13 : decode prog_5_method_7_code 13 = .ok (.laload, 1) := by decide +kernel
theorem d_Limbs_equal_14 : decode prog_5_method_7_code 14 = .ok (.lcmp, 1) := by decide +kernel
theorem d_Limbs_equal_15 : decode prog_5_method_7_code 15 = .ok (.ifCond .eq 5, 3) := by decide +kernel
theorem d_Limbs_equal_18 : decode prog_5_method_7_code 18 = .ok (.iconst 0, 1) := by decide +kernel
theorem d_Limbs_equal_19 : decode prog_5_method_7_code 19 = .ok (.ireturn, 1) := by decide +kernel
theorem d_Limbs_equal_20 : decode prog_5_method_7_code 20 = .ok (.iinc 2 1, 3) := by decide +kernel
theorem d_Limbs_equal_23 : decode prog_5_method_7_code 23 = .ok (.goto (-21), 3) := by decide +kernel
theorem d_Limbs_equal_26 : decode prog_5_method_7_code 26 = .ok (.iconst 1, 1) := by decide +kernel
theorem d_Limbs_equal_27 : decode prog_5_method_7_code 27 = .ok (.ireturn, 1) := by decide +kernel
abbrev y_Limbs_less : MethodName := ⟨"KateDesk$Limbs", "less", "([J[J)Z"⟩
theorem hd_Limbs_less : y_Limbs_less.cls ≠ "java/lang/invoke/MethodHandle" ∧ y_Limbs_less.cls ≠ "java/lang/invoke/VarHandle" ∧ (parseMethodDescriptor y_Limbs_less.desc).map (fun d => d.parameters.length) = some 2 := by decide +kernel
theorem d_Limbs_less_0 : decode prog_5_method_8_code 0 = .ok (.bipush 13, 2) := by decide +kernel
theorem d_Limbs_less_2 : decode prog_5_method_8_code 2 = .ok (.istore_n 2, 1) := by decide +kernel
theorem d_Limbs_less_3 : decode prog_5_method_8_code 3 = .ok (.iload_n 2, 1) := by decide +kernel
theorem d_Limbs_less_4 : decode prog_5_method_8_code 4 = .ok (.ifCond .lt 35, 3) := by decide +kernel
theorem d_Limbs_less_7 : decode prog_5_method_8_code 7 = .ok (.aload_n 0, 1) := by decide +kernel
theorem d_Limbs_less_8 : decode prog_5_method_8_code 8 = .ok (.iload_n 2, 1) := by decide +kernel
theorem d_Limbs_less_9 : decode prog_5_method_8_code 9 = .ok (.laload, 1) := by decide +kernel
theorem d_Limbs_less_10 : decode prog_5_method_8_code 10 = .ok (.aload_n 1, 1) := by decide +kernel
theorem d_Limbs_less_11 : decode prog_5_method_8_code 11 = .ok (.iload_n 2, 1) := by decide +kernel
theorem d_Limbs_less_12 : decode prog_5_method_8_code 12 = .ok (.laload, 1) := by decide +kernel
theorem d_Limbs_less_13 : decode prog_5_method_8_code 13 = .ok (.lcmp, 1) := by decide +kernel
theorem d_Limbs_less_14 : decode prog_5_method_8_code 14 = .ok (.ifCond .eq 19, 3) := by decide +kernel
theorem d_Limbs_less_17 : decode prog_5_method_8_code 17 = .ok (.aload_n 0, 1) := by decide +kernel
theorem d_Limbs_less_18 : decode prog_5_method_8_code 18 = .ok (.iload_n 2, 1) := by decide +kernel
theorem d_Limbs_less_19 : decode prog_5_method_8_code 19 = .ok (.laload, 1) := by decide +kernel
theorem d_Limbs_less_20 : decode prog_5_method_8_code 20 = .ok (.aload_n 1, 1) := by decide +kernel
theorem d_Limbs_less_21 : decode prog_5_method_8_code 21 = .ok (.iload_n 2, 1) := by decide +kernel
theorem d_Limbs_less_22 : decode prog_5_method_8_code 22 = .ok (.laload, 1) := by decide +kernel
theorem d_Limbs_less_23 : decode prog_5_method_8_code 23 = .ok (.lcmp, 1) := by decide +kernel
theorem d_Limbs_less_24 : decode prog_5_method_8_code 24 = .ok (.ifCond .ge 7, 3) := by decide +kernel
theorem d_Limbs_less_27 : decode prog_5_method_8_code 27 = .ok (.iconst 1, 1) := by decide +kernel
theorem d_Limbs_less_28 : decode prog_5_method_8_code 28 = .ok (.goto 4, 3) := by decide +kernel
theorem d_Limbs_less_31 : decode prog_5_method_8_code 31 = .ok (.iconst 0, 1) := by decide +kernel
theorem d_Limbs_less_32 : decode prog_5_method_8_code 32 = .ok (.ireturn, 1) := by decide +kernel
theorem d_Limbs_less_33 : decode prog_5_method_8_code 33 = .ok (.iinc 2 (-1), 3) := by decide +kernel
theorem d_Limbs_less_36 : decode prog_5_method_8_code 36 = .ok (.goto (-33), 3) := by decide +kernel
theorem d_Limbs_less_39 : decode prog_5_method_8_code 39 = .ok (.iconst 0, 1) := by decide +kernel
theorem d_Limbs_less_40 : decode prog_5_method_8_code 40 = .ok (.ireturn, 1) := by decide +kernel
abbrev y_Limbs_bits : MethodName := ⟨"KateDesk$Limbs", "bits", "([JII)J"⟩
theorem hd_Limbs_bits : y_Limbs_bits.cls ≠ "java/lang/invoke/MethodHandle" ∧ y_Limbs_bits.cls ≠ "java/lang/invoke/VarHandle" ∧ (parseMethodDescriptor y_Limbs_bits.desc).map (fun d => d.parameters.length) = some 3 := by decide +kernel
theorem d_Limbs_bits_0 : decode prog_5_method_9_code 0 = .ok (.iload_n 1, 1) := by decide +kernel
theorem d_Limbs_bits_1 : decode prog_5_method_9_code 1 = .ok (.bipush 28, 2) := by decide +kernel
theorem d_Limbs_bits_3 : decode prog_5_method_9_code 3 = .ok (.idiv, 1) := by decide +kernel
theorem d_Limbs_bits_4 : decode prog_5_method_9_code 4 = .ok (.istore_n 3, 1) := by decide +kernel
theorem d_Limbs_bits_5 : decode prog_5_method_9_code 5 = .ok (.iload_n 1, 1) := by decide +kernel
theorem d_Limbs_bits_6 : decode prog_5_method_9_code 6 = .ok (.bipush 28, 2) := by decide +kernel
theorem d_Limbs_bits_8 : decode prog_5_method_9_code 8 = .ok (.irem, 1) := by decide +kernel
theorem d_Limbs_bits_9 : decode prog_5_method_9_code 9 = .ok (.istore 4, 2) := by decide +kernel
theorem d_Limbs_bits_11 : decode prog_5_method_9_code 11 = .ok (.iload_n 1, 1) := by decide +kernel
theorem d_Limbs_bits_12 : decode prog_5_method_9_code 12 = .ok (.ifCond .lt 9, 3) := by decide +kernel
theorem d_Limbs_bits_15 : decode prog_5_method_9_code 15 = .ok (.iload_n 3, 1) := by decide +kernel
theorem d_Limbs_bits_16 : decode prog_5_method_9_code 16 = .ok (.bipush 14, 2) := by decide +kernel
theorem d_Limbs_bits_18 : decode prog_5_method_9_code 18 = .ok (.if_icmp .lt 5, 3) := by decide +kernel
theorem d_Limbs_bits_21 : decode prog_5_method_9_code 21 = .ok (.lconst 0, 1) := by decide +kernel
theorem d_Limbs_bits_22 : decode prog_5_method_9_code 22 = .ok (.lreturn, 1) := by decide +kernel
theorem d_Limbs_bits_23 : decode prog_5_method_9_code 23 = .ok (.aload_n 0, 1) := by decide +kernel
theorem d_Limbs_bits_24 : decode prog_5_method_9_code 24 = .ok (.iload_n 3, 1) := by decide +kernel
theorem d_Limbs_bits_25 : decode prog_5_method_9_code 25 = .ok (.laload, 1) := by decide +kernel
theorem d_Limbs_bits_26 : decode prog_5_method_9_code 26 = .ok (.iload 4, 2) := by decide +kernel
theorem d_Limbs_bits_28 : decode prog_5_method_9_code 28 = .ok (.lshr, 1) := by decide +kernel
theorem d_Limbs_bits_29 : decode prog_5_method_9_code 29 = .ok (.lstore 5, 2) := by decide +kernel
theorem d_Limbs_bits_31 : decode prog_5_method_9_code 31 = .ok (.iload_n 3, 1) := by decide +kernel
theorem d_Limbs_bits_32 : decode prog_5_method_9_code 32 = .ok (.iconst 1, 1) := by decide +kernel
theorem d_Limbs_bits_33 : decode prog_5_method_9_code 33 = .ok (.iadd, 1) := by decide +kernel
theorem d_Limbs_bits_34 : decode prog_5_method_9_code 34 = .ok (.bipush 14, 2) := by decide +kernel
theorem d_Limbs_bits_36 : decode prog_5_method_9_code 36 = .ok (.if_icmp .ge 19, 3) := by decide +kernel
theorem d_Limbs_bits_39 : decode prog_5_method_9_code 39 = .ok (.lload 5, 2) := by decide +kernel
theorem d_Limbs_bits_41 : decode prog_5_method_9_code 41 = .ok (.aload_n 0, 1) := by decide +kernel
theorem d_Limbs_bits_42 : decode prog_5_method_9_code 42 = .ok (.iload_n 3, 1) := by decide +kernel
theorem d_Limbs_bits_43 : decode prog_5_method_9_code 43 = .ok (.iconst 1, 1) := by decide +kernel
theorem d_Limbs_bits_44 : decode prog_5_method_9_code 44 = .ok (.iadd, 1) := by decide +kernel
theorem d_Limbs_bits_45 : decode prog_5_method_9_code 45 = .ok (.laload, 1) := by decide +kernel
theorem d_Limbs_bits_46 : decode prog_5_method_9_code 46 = .ok (.bipush 28, 2) := by decide +kernel
theorem d_Limbs_bits_48 : decode prog_5_method_9_code 48 = .ok (.iload 4, 2) := by decide +kernel
theorem d_Limbs_bits_50 : decode prog_5_method_9_code 50 = .ok (.isub, 1) := by decide +kernel
theorem d_Limbs_bits_51 : decode prog_5_method_9_code 51 = .ok (.lshl, 1) := by decide +kernel
theorem d_Limbs_bits_52 : decode prog_5_method_9_code 52 = .ok (.lor, 1) := by decide +kernel
theorem d_Limbs_bits_53 : decode prog_5_method_9_code 53 = .ok (.lstore 5, 2) := by decide +kernel
theorem d_Limbs_bits_55 : decode prog_5_method_9_code 55 = .ok (.lload 5, 2) := by decide +kernel
theorem d_Limbs_bits_57 : decode prog_5_method_9_code 57 = .ok (.lconst 1, 1) := by decide +kernel
theorem d_Limbs_bits_58 : decode prog_5_method_9_code 58 = .ok (.iload_n 2, 1) := by decide +kernel
theorem d_Limbs_bits_59 : decode prog_5_method_9_code 59 = .ok (.lshl, 1) := by decide +kernel
theorem d_Limbs_bits_60 : decode prog_5_method_9_code 60 = .ok (.lconst 1, 1) := by decide +kernel
theorem d_Limbs_bits_61 : decode prog_5_method_9_code 61 = .ok (.lsub, 1) := by decide +kernel
theorem d_Limbs_bits_62 : decode prog_5_method_9_code 62 = .ok (.land, 1) := by decide +kernel
theorem d_Limbs_bits_63 : decode prog_5_method_9_code 63 = .ok (.lreturn, 1) := by decide +kernel
abbrev y_Limbs_shiftRight : MethodName := ⟨"KateDesk$Limbs", "shiftRight", "([J[JI)V"⟩
theorem hd_Limbs_shiftRight : y_Limbs_shiftRight.cls ≠ "java/lang/invoke/MethodHandle" ∧ y_Limbs_shiftRight.cls ≠ "java/lang/invoke/VarHandle" ∧ (parseMethodDescriptor y_Limbs_shiftRight.desc).map (fun d => d.parameters.length) = some 3 := by decide +kernel
theorem d_Limbs_shiftRight_0 : decode prog_5_method_11_code 0 = .ok (.iconst 0, 1) := by decide +kernel
theorem d_Limbs_shiftRight_1 : decode prog_5_method_11_code 1 = .ok (.istore_n 3, 1) := by decide +kernel
theorem d_Limbs_shiftRight_2 : decode prog_5_method_11_code 2 = .ok (.iload_n 3, 1) := by decide +kernel
theorem d_Limbs_shiftRight_3 : decode prog_5_method_11_code 3 = .ok (.bipush 14, 2) := by decide +kernel
theorem d_Limbs_shiftRight_5 : decode prog_5_method_11_code 5 = .ok (.if_icmp .ge 24, 3) := by decide +kernel
theorem d_Limbs_shiftRight_8 : decode prog_5_method_11_code 8 = .ok (.aload_n 0, 1) := by decide +kernel
theorem d_Limbs_shiftRight_9 : decode prog_5_method_11_code 9 = .ok (.iload_n 3, 1) := by decide +kernel
theorem d_Limbs_shiftRight_10 : decode prog_5_method_11_code 10 = .ok (.aload_n 1, 1) := by decide +kernel
theorem d_Limbs_shiftRight_11 : decode prog_5_method_11_code 11 = .ok (.bipush 28, 2) := by decide +kernel
theorem d_Limbs_shiftRight_13 : decode prog_5_method_11_code 13 = .ok (.iload_n 3, 1) := by decide +kernel
theorem d_Limbs_shiftRight_14 : decode prog_5_method_11_code 14 = .ok (.imul, 1) := by decide +kernel
theorem d_Limbs_shiftRight_15 : decode prog_5_method_11_code 15 = .ok (.iload_n 2, 1) := by decide +kernel
theorem d_Limbs_shiftRight_16 : decode prog_5_method_11_code 16 = .ok (.iadd, 1) := by decide +kernel
theorem d_Limbs_shiftRight_17 : decode prog_5_method_11_code 17 = .ok (.bipush 28, 2) := by decide +kernel
theorem d_Limbs_shiftRight_19 : decode prog_5_method_11_code 19 = .ok (.invokestatic 37, 3) := by decide +kernel
theorem d_Limbs_shiftRight_22 : decode prog_5_method_11_code 22 = .ok (.lastore, 1) := by decide +kernel
theorem d_Limbs_shiftRight_23 : decode prog_5_method_11_code 23 = .ok (.iinc 3 1, 3) := by decide +kernel
theorem d_Limbs_shiftRight_26 : decode prog_5_method_11_code 26 = .ok (.goto (-24), 3) := by decide +kernel
theorem d_Limbs_shiftRight_29 : decode prog_5_method_11_code 29 = .ok (.return_, 1) := by decide +kernel
abbrev y_Limbs_fromLong : MethodName := ⟨"KateDesk$Limbs", "fromLong", "([JJ)V"⟩
theorem hd_Limbs_fromLong : y_Limbs_fromLong.cls ≠ "java/lang/invoke/MethodHandle" ∧ y_Limbs_fromLong.cls ≠ "java/lang/invoke/VarHandle" ∧ (parseMethodDescriptor y_Limbs_fromLong.desc).map (fun d => d.parameters.length) = some 2 := by decide +kernel
theorem d_Limbs_fromLong_0 : decode prog_5_method_3_code 0 = .ok (.aload_n 0, 1) := by decide +kernel
theorem d_Limbs_fromLong_1 : decode prog_5_method_3_code 1 = .ok (.invokestatic 19, 3) := by decide +kernel
theorem d_Limbs_fromLong_4 : decode prog_5_method_3_code 4 = .ok (.aload_n 0, 1) := by decide +kernel
theorem d_Limbs_fromLong_5 : decode prog_5_method_3_code 5 = .ok (.iconst 0, 1) := by decide +kernel
theorem d_Limbs_fromLong_6 : decode prog_5_method_3_code 6 = .ok (.lload_n 1, 1) := by decide +kernel
theorem d_Limbs_fromLong_7 : decode prog_5_method_3_code 7 = .ok (.ldc2_w 23, 3) := by decide +kernel
theorem d_Limbs_fromLong_10 : decode prog_5_method_3_code 10 = .ok (.land, 1) := by decide +kernel
theorem d_Limbs_fromLong_11 : decode prog_5_method_3_code 11 = .ok (.lastore, 1) := by decide +kernel
theorem d_Limbs_fromLong_12 : decode prog_5_method_3_code 12 = .ok (.aload_n 0, 1) := by decide +kernel
theorem d_Limbs_fromLong_13 : decode prog_5_method_3_code 13 = .ok (.iconst 1, 1) := by decide +kernel
theorem d_Limbs_fromLong_14 : decode prog_5_method_3_code 14 = .ok (.lload_n 1, 1) := by decide +kernel
theorem d_Limbs_fromLong_15 : decode prog_5_method_3_code 15 = .ok (.bipush 28, 2) := by decide +kernel
theorem d_Limbs_fromLong_17 : decode prog_5_method_3_code 17 = .ok (.lshr, 1) := by decide +kernel
theorem d_Limbs_fromLong_18 : decode prog_5_method_3_code 18 = .ok (.ldc2_w 23, 3) := by decide +kernel
theorem d_Limbs_fromLong_21 : decode prog_5_method_3_code 21 = .ok (.land, 1) := by decide +kernel
theorem d_Limbs_fromLong_22 : decode prog_5_method_3_code 22 = .ok (.lastore, 1) := by decide +kernel
theorem d_Limbs_fromLong_23 : decode prog_5_method_3_code 23 = .ok (.aload_n 0, 1) := by decide +kernel
theorem d_Limbs_fromLong_24 : decode prog_5_method_3_code 24 = .ok (.iconst 2, 1) := by decide +kernel
theorem d_Limbs_fromLong_25 : decode prog_5_method_3_code 25 = .ok (.lload_n 1, 1) := by decide +kernel
theorem d_Limbs_fromLong_26 : decode prog_5_method_3_code 26 = .ok (.bipush 56, 2) := by decide +kernel
theorem d_Limbs_fromLong_28 : decode prog_5_method_3_code 28 = .ok (.lshr, 1) := by decide +kernel
theorem d_Limbs_fromLong_29 : decode prog_5_method_3_code 29 = .ok (.lastore, 1) := by decide +kernel
theorem d_Limbs_fromLong_30 : decode prog_5_method_3_code 30 = .ok (.return_, 1) := by decide +kernel
set_option maxHeartbeats 4000000 in
set_option maxRecDepth 100000 in
/-- of a row of zeros: true -/
theorem z_Limbs_isZero (l : Launch) (g : WG) (n0 : Nat → Prop) (a : Nat) : Ctr l y_Limbs_isZero (.code y_Limbs_isZero prog_5_method_6_code 2 (some FieldType.boolean)) 0 0 0 0 n0 g [.ref a] (fun H => AJ g H a 14 (fun _ => 0)) (QI (fun r H H' => r = 1 ∧ H' = H)) := by
  refine ctr_mk l (lv0 := [(0, .ref a)]) (by decide) (Nat.le_of_ble_eq_true rfl) rfl ?_
  intro p e s m below meth c ls E hr hlk hnm hl hP
  have hx := E.1
  have hb := E.2.1
  have hK := E.2.2.2.2.2
  have hF : ∀ q ∈ ([] : List Loc), n0 q.base := fun q hq => absurd hq List.not_mem_nil
  have loop : ∀ (k : Nat) (i : Nat) (ls : Array Slot), i + k = 14 → lv_has ls 2 [(1, .int (nI i)), (0, .ref a)] → W p l e { frames := 0, cells := 0, slots := 0, locals := 0 } s m [.ref a].toArray below meth c s.heap [] 0 0 (MQ below (QcP (QI (fun r H H' => r = 1 ∧ H' = H))) [.ref a].toArray s 0 0 (fun q => n0 q)) (F0 m 2 ls []) := by
    intro k
    induction k with
    | zero =>
      intro  i   ls hi hl
      obtain rfl : i = 14 := by omega
      refine lv_iload_n hx hb d_Limbs_isZero_2 rfl (lv_at hl 0 rfl) ?_
      refine lv_bipush (v := nI 14) hx hb d_Limbs_isZero_3 (by decide) ?_
      refine lv_icmp_ge (tgt := 24) hx hb d_Limbs_isZero_5 (by decide) (fun _ => ?_) (fun h9 => absurd (by decide) h9)
      refine lv_iconst (v := nI 1) hx hb d_Limbs_isZero_24 (by decide) ?_
      exact q_zret E hr rfl hlk (⟨1, rfl, rfl, rfl⟩) hF d_Limbs_isZero_25
    | succ k ih =>
      intro  i   ls hi hl
      have hi14 : i < 14 := by omega
      refine lv_iload_n hx hb d_Limbs_isZero_2 rfl (lv_at hl 0 rfl) ?_
      refine lv_bipush (v := nI 14) hx hb d_Limbs_isZero_3 (by decide) ?_
      refine lv_icmp_ge (tgt := 24) hx hb d_Limbs_isZero_5 (by decide) (fun h9 => absurd h9 (nI_ge hi14 (by decide))) (fun _ => ?_)
      refine lv_aload_n hx hb d_Limbs_isZero_8 rfl (lv_at hl 1 rfl) ?_
      refine lv_iload_n hx hb d_Limbs_isZero_9 rfl (lv_at hl 0 rfl) ?_
      refine q_lald (N := 14) (f := (fun _ => 0)) E hP i rfl hi14 (by decide) d_Limbs_isZero_10 ?_
      refine lv_lconst (v := 0) hx hb d_Limbs_isZero_11 (by decide) ?_
      refine W.lcmp hx hb d_Limbs_isZero_12 ?_
      refine lv_if_eq (tgt := 18) hx hb d_Limbs_isZero_13 (by decide) (fun _ => ?_) (fun h9 => absurd (by decide) h9)
      refine lv_iinc (k := 0) (v := nI (i + 1)) (lv' := [(1, .int (nI (i + 1))), (0, .ref a)]) hx hb d_Limbs_isZero_18 hl rfl (i_inc i) (by decide) rfl (fun ls hl => ?_)
      refine lv_goto (tgt := 2) hx hb d_Limbs_isZero_21 (by decide) ?_
      exact ih (i + 1) ls (by omega) hl
  refine lv_iconst (v := nI 0) hx hb d_Limbs_isZero_0 (by decide) ?_
  refine lv_istore_n (lv' := [(1, .int (nI 0)), (0, .ref a)]) hx hb d_Limbs_isZero_1 rfl hl (by decide) rfl (fun ls hl => ?_)
  exact loop 14 0 ls rfl hl
set_option maxHeartbeats 4000000 in
set_option maxRecDepth 100000 in
/-- of two rows of zeros: true -/
theorem z_Limbs_equal (l : Launch) (g : WG) (n0 : Nat → Prop) (a b : Nat) : Ctr l y_Limbs_equal (.code y_Limbs_equal prog_5_method_7_code 3 (some FieldType.boolean)) 0 0 0 0 n0 g [.ref a, .ref b] (fun H => AJ g H a 14 (fun _ => 0) ∧ AJ g H b 14 (fun _ => 0)) (QI (fun r H H' => r = 1 ∧ H' = H)) := by
  refine ctr_mk l (lv0 := [(0, .ref a), (1, .ref b)]) (by decide) (Nat.le_of_ble_eq_true rfl) rfl ?_
  intro p e s m below meth c ls E hr hlk hnm hl hP
  have hx := E.1
  have hb := E.2.1
  have hK := E.2.2.2.2.2
  have hF : ∀ q ∈ ([] : List Loc), n0 q.base := fun q hq => absurd hq List.not_mem_nil
  have loop : ∀ (k : Nat) (i : Nat) (ls : Array Slot), i + k = 14 → lv_has ls 3 [(2, .int (nI i)), (0, .ref a), (1, .ref b)] → W p l e { frames := 0, cells := 0, slots := 0, locals := 0 } s m [.ref a, .ref b].toArray below meth c s.heap [] 0 0 (MQ below (QcP (QI (fun r H H' => r = 1 ∧ H' = H))) [.ref a, .ref b].toArray s 0 0 (fun q => n0 q)) (F0 m 2 ls []) := by
    intro k
    induction k with
    | zero =>
      intro  i   ls hi hl
      obtain rfl : i = 14 := by omega
      refine lv_iload_n hx hb d_Limbs_equal_2 rfl (lv_at hl 0 rfl) ?_
      refine lv_bipush (v := nI 14) hx hb d_Limbs_equal_3 (by decide) ?_
      refine lv_icmp_ge (tgt := 26) hx hb d_Limbs_equal_5 (by decide) (fun _ => ?_) (fun h9 => absurd (by decide) h9)
      refine lv_iconst (v := nI 1) hx hb d_Limbs_equal_26 (by decide) ?_
      exact q_zret E hr rfl hlk (⟨1, rfl, rfl, rfl⟩) hF d_Limbs_equal_27
    | succ k ih =>
      intro  i   ls hi hl
      have hi14 : i < 14 := by omega
      refine lv_iload_n hx hb d_Limbs_equal_2 rfl (lv_at hl 0 rfl) ?_
      refine lv_bipush (v := nI 14) hx hb d_Limbs_equal_3 (by decide) ?_
      refine lv_icmp_ge (tgt := 26) hx hb d_Limbs_equal_5 (by decide) (fun h9 => absurd h9 (nI_ge hi14 (by decide))) (fun _ => ?_)
      refine lv_aload_n hx hb d_Limbs_equal_8 rfl (lv_at hl 1 rfl) ?_
      refine lv_iload_n hx hb d_Limbs_equal_9 rfl (lv_at hl 0 rfl) ?_
      refine q_lald (N := 14) (f := (fun _ => 0)) E hP.1 i rfl hi14 (by decide) d_Limbs_equal_10 ?_
      refine lv_aload_n hx hb d_Limbs_equal_11 rfl (lv_at hl 2 rfl) ?_
      refine lv_iload_n hx hb d_Limbs_equal_12 rfl (lv_at hl 0 rfl) ?_
      refine q_lald (N := 14) (f := (fun _ => 0)) E hP.2 i rfl hi14 (by decide) d_Limbs_equal_13 ?_
      refine W.lcmp hx hb d_Limbs_equal_14 ?_
      refine lv_if_eq (tgt := 20) hx hb d_Limbs_equal_15 (by decide) (fun _ => ?_) (fun h9 => absurd (by decide) h9)
      refine lv_iinc (k := 0) (v := nI (i + 1)) (lv' := [(2, .int (nI (i + 1))), (0, .ref a), (1, .ref b)]) hx hb d_Limbs_equal_20 hl rfl (i_inc i) (by decide) rfl (fun ls hl => ?_)
      refine lv_goto (tgt := 2) hx hb d_Limbs_equal_23 (by decide) ?_
      exact ih (i + 1) ls (by omega) hl
  refine lv_iconst (v := nI 0) hx hb d_Limbs_equal_0 (by decide) ?_
  refine lv_istore_n (lv' := [(2, .int (nI 0)), (0, .ref a), (1, .ref b)]) hx hb d_Limbs_equal_1 rfl hl (by decide) rfl (fun ls hl => ?_)
  exact loop 14 0 ls rfl hl
set_option maxHeartbeats 4000000 in
set_option maxRecDepth 100000 in
/-- 0 is less than a number that is not 0 -/
theorem z_Limbs_less (l : Launch) (g : WG) (n0 : Nat → Prop) (a b : Nat) (f : Nat → Int64) (h0 : ∀ i, i < 14 → ¬ f i < 0) (h1 : f 0 ≠ 0) : Ctr l y_Limbs_less (.code y_Limbs_less prog_5_method_8_code 3 (some FieldType.boolean)) 0 0 0 0 n0 g [.ref a, .ref b] (fun H => AJ g H a 14 (fun _ => 0) ∧ AJ g H b 14 f) (QI (fun r H H' => r = 1 ∧ H' = H)) := by
  refine ctr_mk l (lv0 := [(0, .ref a), (1, .ref b)]) (by decide) (Nat.le_of_ble_eq_true rfl) rfl ?_
  intro p e s m below meth c ls E hr hlk hnm hl hP
  have hx := E.1
  have hb := E.2.1
  have hK := E.2.2.2.2.2
  have hF : ∀ q ∈ ([] : List Loc), n0 q.base := fun q hq => absurd hq List.not_mem_nil
  have loop : ∀ (k : Nat) (ls : Array Slot) (x : Int32), k ≤ 14 → x = nI k - 1 → k ≠ 0 → lv_has ls 3 [(2, .int x), (0, .ref a), (1, .ref b)] → W p l e { frames := 0, cells := 0, slots := 0, locals := 0 } s m [.ref a, .ref b].toArray below meth c s.heap [] 0 0 (MQ below (QcP (QI (fun r H H' => r = 1 ∧ H' = H))) [.ref a, .ref b].toArray s 0 0 (fun q => n0 q)) (F0 m 3 ls []) := by
    intro k
    induction k with
    | zero =>
      intro  ls   x hk14 hxx hne hl
      exact absurd rfl hne
    | succ k ih =>
      intro  ls   x hk14 hxx hne hl
      rw [nI_pred] at hxx
      subst hxx
      refine lv_iload_n hx hb d_Limbs_less_3 rfl (lv_at hl 0 rfl) ?_
      refine lv_if_lt (tgt := 39) hx hb d_Limbs_less_4 (by decide) (fun h9 => absurd h9 (nI_pos (by omega))) (fun _ => ?_)
      refine lv_aload_n hx hb d_Limbs_less_7 rfl (lv_at hl 1 rfl) ?_
      refine lv_iload_n hx hb d_Limbs_less_8 rfl (lv_at hl 0 rfl) ?_
      refine q_lald (N := 14) (f := (fun _ => 0)) E hP.1 k rfl (by omega) (by decide) d_Limbs_less_9 ?_
      refine lv_aload_n hx hb d_Limbs_less_10 rfl (lv_at hl 2 rfl) ?_
      refine lv_iload_n hx hb d_Limbs_less_11 rfl (lv_at hl 0 rfl) ?_
      refine q_lald (N := 14) (f := f) E hP.2 k rfl (by omega) (by decide) d_Limbs_less_12 ?_
      refine W.lcmp hx hb d_Limbs_less_13 ?_
      refine lv_if_eq (tgt := 33) hx hb d_Limbs_less_14 (by decide) (fun hc => ?_) (fun hc => ?_)
      rotate_left
      · skip
        refine lv_aload_n hx hb d_Limbs_less_17 rfl (lv_at hl 1 rfl) ?_
        refine lv_iload_n hx hb d_Limbs_less_18 rfl (lv_at hl 0 rfl) ?_
        refine q_lald (N := 14) (f := (fun _ => 0)) E hP.1 k rfl (by omega) (by decide) d_Limbs_less_19 ?_
        refine lv_aload_n hx hb d_Limbs_less_20 rfl (lv_at hl 2 rfl) ?_
        refine lv_iload_n hx hb d_Limbs_less_21 rfl (lv_at hl 0 rfl) ?_
        refine q_lald (N := 14) (f := f) E hP.2 k rfl (by omega) (by decide) d_Limbs_less_22 ?_
        refine W.lcmp hx hb d_Limbs_less_23 ?_
        refine lv_if_ge (tgt := 31) hx hb d_Limbs_less_24 (by decide) (fun h9 => absurd h9 (by rw [kd_cmp_lt (by have := h0 k (by omega); have h2 : ¬ f k = 0 := fun h => hc (by rw [h]; rfl); rw [Int64.not_lt] at this; exact Int64.lt_of_le_of_ne this (Ne.symm h2))]; decide)) (fun _ => ?_)
        refine lv_iconst (v := nI 1) hx hb d_Limbs_less_27 (by decide) ?_
        refine lv_goto (tgt := 32) hx hb d_Limbs_less_28 (by decide) ?_
        exact q_zret E hr rfl hlk (⟨1, rfl, rfl, rfl⟩) hF d_Limbs_less_32
      refine lv_iinc (k := 0) (v := nI k - 1) (lv' := [(2, .int (nI k - 1)), (0, .ref a), (1, .ref b)]) hx hb d_Limbs_less_33 hl rfl (i_dec (nI k)) (by decide) rfl (fun ls hl => ?_)
      refine lv_goto (tgt := 3) hx hb d_Limbs_less_36 (by decide) ?_
      have hfk : f k = 0 := by
        by_cases h2 : f k = 0
        · exact h2
        · have := h0 k (by omega)
          rw [Int64.not_lt] at this
          rw [kd_cmp_lt (Int64.lt_of_le_of_ne this (Ne.symm h2))] at hc
          exact absurd hc (by decide)
      exact ih ls _ (by omega) rfl (fun h => h1 (by subst h; exact hfk)) hl
  refine lv_bipush (v := nI 13) hx hb d_Limbs_less_0 (by decide) ?_
  refine lv_istore_n (lv' := [(2, .int (nI 13)), (0, .ref a), (1, .ref b)]) hx hb d_Limbs_less_2 rfl hl (by decide) rfl (fun ls hl => ?_)
  exact loop 14 ls _ (by decide) (by decide) (by decide) hl
set_option maxHeartbeats 4000000 in
set_option maxRecDepth 100000 in
/-- bits of a row -/
theorem z_Limbs_bits (l : Launch) (g : WG) (n0 : Nat → Prop) (a : Nat) (at0 cnt : Int32) : Ctr l y_Limbs_bits (.code y_Limbs_bits prog_5_method_9_code 7 (some FieldType.long)) 0 0 0 0 n0 g [.ref a, .int at0, .int cnt] (fun H => AJ g H a 14 (fun _ => 0)) (QL (fun r H H' => r = 0 ∧ H' = H)) := by
  refine ctr_mk l (lv0 := [(0, .ref a), (1, .int at0), (2, .int cnt)]) (by decide) (Nat.le_of_ble_eq_true rfl) rfl ?_
  intro p e s m below meth c ls E hr hlk hnm hl hP
  have hx := E.1
  have hb := E.2.1
  have hK := E.2.2.2.2.2
  have hF : ∀ q ∈ ([] : List Loc), n0 q.base := fun q hq => absurd hq List.not_mem_nil
  refine lv_iload_n hx hb d_Limbs_bits_0 rfl (lv_at hl 1 rfl) ?_
  refine lv_bipush (v := nI 28) hx hb d_Limbs_bits_1 (by decide) ?_
  refine lv_idiv hx hb d_Limbs_bits_3 (by decide) ?_
  refine lv_topi (fun q1 e1 => ?_)
  refine lv_istore_n (lv' := [(3, .int q1), (0, .ref a), (1, .int at0), (2, .int cnt)]) hx hb d_Limbs_bits_4 rfl hl (by decide) rfl (fun ls hl => ?_)
  refine lv_iload_n hx hb d_Limbs_bits_5 rfl (lv_at hl 2 rfl) ?_
  refine lv_bipush (v := nI 28) hx hb d_Limbs_bits_6 (by decide) ?_
  refine lv_irem hx hb d_Limbs_bits_8 (by decide) ?_
  refine lv_topi (fun q2 _ => ?_)
  refine lv_istore (lv' := [(4, .int q2), (3, .int q1), (0, .ref a), (1, .int at0), (2, .int cnt)]) hx hb d_Limbs_bits_9 hl (by decide) rfl (fun ls hl => ?_)
  refine lv_iload_n hx hb d_Limbs_bits_11 rfl (lv_at hl 3 rfl) ?_
  refine lv_if_lt (tgt := 21) hx hb d_Limbs_bits_12 (by decide) (fun h1 => ?_) (fun h1 => ?_)
  rotate_left
  · skip
    obtain ⟨j, hj, rfl⟩ := nI_of h1
    have e2 : q1 = nI (j / 28) := e1.trans (pk_div hj (by decide) (by decide))
    subst e2
    refine lv_iload_n hx hb d_Limbs_bits_15 rfl (lv_at hl 1 rfl) ?_
    refine lv_bipush (v := nI 14) hx hb d_Limbs_bits_16 (by decide) ?_
    refine lv_icmp_lt (tgt := 23) hx hb d_Limbs_bits_18 (by decide) (fun h2 => ?_) (fun h2 => ?_)
    rotate_left
    · skip
      refine lv_lconst (v := 0) hx hb d_Limbs_bits_21 (by decide) ?_
      exact q_lret E hr hlk (⟨_, rfl, rfl, rfl⟩) hF d_Limbs_bits_22
    have hj2 : j / 28 < 14 := (nI_ltI (by omega) (by decide)).mp h2
    refine lv_aload_n hx hb d_Limbs_bits_23 rfl (lv_at hl 2 rfl) ?_
    refine lv_iload_n hx hb d_Limbs_bits_24 rfl (lv_at hl 1 rfl) ?_
    refine q_lald (N := 14) (f := (fun _ => 0)) E hP (j / 28) rfl hj2 (by decide) d_Limbs_bits_25 ?_
    refine lv_iload hx hb d_Limbs_bits_26 (lv_at hl 0 rfl) ?_
    refine lv_lshr (v := (0 : Int64) >>> (q2.toInt64 &&& 63)) hx hb d_Limbs_bits_28 rfl ?_
    refine lv_topl (fun t9 e9 => ?_)
    obtain rfl : t9 = 0 := e9.trans (zsr _)
    refine lv_lstore (lv' := [(5, .long 0), (4, .int q2), (3, .int (nI (j / 28))), (0, .ref a), (1, .int (nI j)), (2, .int cnt)]) hx hb d_Limbs_bits_29 hl (by decide) rfl (fun ls hl => ?_)
    refine lv_iload_n hx hb d_Limbs_bits_31 rfl (lv_at hl 2 rfl) ?_
    refine lv_iconst (v := nI 1) hx hb d_Limbs_bits_32 (by decide) ?_
    refine lv_iadd hx hb d_Limbs_bits_33 ?_
    refine lv_bipush (v := nI 14) hx hb d_Limbs_bits_34 (by decide) ?_
    refine lv_icmp_ge (tgt := 55) hx hb d_Limbs_bits_36 (by decide) (fun h3 => ?_) (fun h3 => ?_)
    rotate_left
    · skip
      have hj3 : j / 28 + 1 < 14 := by
        rw [show nI (j / 28) + nI 1 = nI (j / 28 + 1) from nI_add _ _] at h3
        by_cases h4 : j / 28 + 1 < 14
        · exact h4
        · exact absurd (nI_le (by omega) (by omega)) h3
      refine lv_lload hx hb d_Limbs_bits_39 (lv_at hl 0 rfl) ?_
      refine lv_aload_n hx hb d_Limbs_bits_41 rfl (lv_at hl 3 rfl) ?_
      refine lv_iload_n hx hb d_Limbs_bits_42 rfl (lv_at hl 2 rfl) ?_
      refine lv_iconst (v := nI 1) hx hb d_Limbs_bits_43 (by decide) ?_
      refine lv_iadd hx hb d_Limbs_bits_44 ?_
      refine q_lald (N := 14) (f := (fun _ => 0)) E hP (j / 28 + 1) (nI_add _ _) hj3 (by decide) d_Limbs_bits_45 ?_
      refine lv_bipush (v := nI 28) hx hb d_Limbs_bits_46 (by decide) ?_
      refine lv_iload hx hb d_Limbs_bits_48 (lv_at hl 1 rfl) ?_
      refine lv_isub hx hb d_Limbs_bits_50 ?_
      refine lv_lshl (v := (0 : Int64) <<< (((nI 28) - q2).toInt64 &&& 63)) hx hb d_Limbs_bits_51 rfl ?_
      refine lv_lor hx hb d_Limbs_bits_52 ?_
      refine lv_topl (fun t9 e9 => ?_)
      obtain rfl : t9 = 0 := e9.trans (zsl _)
      refine lv_lstore (lv' := [(5, .long 0), (4, .int q2), (3, .int (nI (j / 28))), (0, .ref a), (1, .int (nI j)), (2, .int cnt)]) hx hb d_Limbs_bits_53 hl (by decide) rfl (fun ls hl => ?_)
      refine lv_lload hx hb d_Limbs_bits_55 (lv_at hl 0 rfl) ?_
      refine lv_lconst (v := 1) hx hb d_Limbs_bits_57 (by decide) ?_
      refine lv_iload_n hx hb d_Limbs_bits_58 rfl (lv_at hl 5 rfl) ?_
      refine lv_lshl (v := 1 <<< (cnt.toInt64 &&& 63)) hx hb d_Limbs_bits_59 rfl ?_
      refine lv_lconst (v := 1) hx hb d_Limbs_bits_60 (by decide) ?_
      refine lv_lsub hx hb d_Limbs_bits_61 ?_
      refine lv_land hx hb d_Limbs_bits_62 ?_
      refine lv_topl (fun t9 e9 => ?_)
      obtain rfl : t9 = 0 := e9.trans (zan _)
      exact q_lret E hr hlk (⟨_, rfl, rfl, rfl⟩) hF d_Limbs_bits_63
    refine lv_lload hx hb d_Limbs_bits_55 (lv_at hl 0 rfl) ?_
    refine lv_lconst (v := 1) hx hb d_Limbs_bits_57 (by decide) ?_
    refine lv_iload_n hx hb d_Limbs_bits_58 rfl (lv_at hl 5 rfl) ?_
    refine lv_lshl (v := 1 <<< (cnt.toInt64 &&& 63)) hx hb d_Limbs_bits_59 rfl ?_
    refine lv_lconst (v := 1) hx hb d_Limbs_bits_60 (by decide) ?_
    refine lv_lsub hx hb d_Limbs_bits_61 ?_
    refine lv_land hx hb d_Limbs_bits_62 ?_
    refine lv_topl (fun t9 e9 => ?_)
    obtain rfl : t9 = 0 := e9.trans (zan _)
    exact q_lret E hr hlk (⟨_, rfl, rfl, rfl⟩) hF d_Limbs_bits_63
  refine lv_lconst (v := 0) hx hb d_Limbs_bits_21 (by decide) ?_
  exact q_lret E hr hlk (⟨_, rfl, rfl, rfl⟩) hF d_Limbs_bits_22