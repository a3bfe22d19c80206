theorem dg_1sh : ∀ j, j < 28 → dg ((1 : Int64) <<< ((nI j).toInt64 &&& 63)) := by unfold dg; decide
theorem rem28 {x : Nat} (hx : x < 2 ^ 20) : nI x - nI x / nI 28 * nI 28 = nI (x - x / 28 * 28) := by
  rw [pk_div (by omega) (by decide) (by decide), pk_mul, pk_sub (by omega)]
theorem rem48 {x : Nat} (hx : x < 2 ^ 20) : nI x - nI x / nI 48 * nI 48 = nI (x - x / 48 * 48) := by
  rw [pk_div (by omega) (by decide) (by decide), pk_mul, pk_sub (by omega)]
abbrev y_Model_setByte : MethodName := ⟨"KateDeskModel", "setByte", "(III)V"⟩
theorem hd_Model_setByte : y_Model_setByte.cls ≠ "java/lang/invoke/MethodHandle" ∧ y_Model_setByte.cls ≠ "java/lang/invoke/VarHandle" ∧ (parseMethodDescriptor y_Model_setByte.desc).map (fun d => d.parameters.length) = some 3 := by decide +kernel
theorem d_Model_setByte_0 : decode prog_11_method_25_code 0 = .ok (.iconst 0, 1) := by decide +kernel
theorem d_Model_setByte_1 : decode prog_11_method_25_code 1 = .ok (.istore 4, 2) := by decide +kernel
theorem d_Model_setByte_3 : decode prog_11_method_25_code 3 = .ok (.iload 4, 2) := by decide +kernel
theorem d_Model_setByte_5 : decode prog_11_method_25_code 5 = .ok (.bipush 8, 2) := by decide +kernel
theorem d_Model_setByte_7 : decode prog_11_method_25_code 7 = .ok (.if_icmp .ge 54, 3) := by decide +kernel
theorem d_Model_setByte_10 : decode prog_11_method_25_code 10 = .ok (.iload_n 3, 1) := by decide +kernel
theorem d_Model_setByte_11 : decode prog_11_method_25_code 11 = .ok (.iload 4, 2) := by decide +kernel
theorem d_Model_setByte_13 : decode prog_11_method_25_code 13 = .ok (.ishr, 1) := by decide +kernel
theorem d_Model_setByte_14 : decode prog_11_method_25_code 14 = .ok (.iconst 1, 1) := by decide +kernel
theorem d_Model_setByte_15 : decode prog_11_method_25_code 15 = .ok (.iand, 1) := by decide +kernel
theorem d_Model_setByte_16 : decode prog_11_method_25_code 16 = .ok (.iconst 1, 1) := by decide +kernel
theorem d_Model_setByte_17 : decode prog_11_method_25_code 17 = .ok (.if_icmp .ne 38, 3) := by decide +kernel
theorem d_Model_setByte_20 : decode prog_11_method_25_code 20 = .ok (.aload_n 0, 1) := by decide +kernel
theorem d_Model_setByte_21 : decode prog_11_method_25_code 21 = .ok (.getfield 7, 3) := by decide +kernel
theorem d_Model_setByte_24 : decode prog_11_method_25_code 24 = .ok (.bipush 14, 2) := by decide +kernel
theorem d_Model_setByte_26 : decode prog_11_method_25_code 26 = .ok (.iload_n 1, 1) := by decide +kernel
theorem d_Model_setByte_27 : decode prog_11_method_25_code 27 = .ok (.imul, 1) := by decide +kernel
theorem d_Model_setByte_28 : decode prog_11_method_25_code 28 = .ok (.bipush 8, 2) := by decide +kernel
theorem d_Model_setByte_30 : decode prog_11_method_25_code 30 = .ok (.iload_n 2, 1) := by decide +kernel
theorem d_Model_setByte_31 : decode prog_11_method_25_code 31 = .ok (.imul, 1) := by decide +kernel
theorem d_Model_setByte_32 : decode prog_11_method_25_code 32 = .ok (.iload 4, 2) := by decide +kernel
theorem d_Model_setByte_34 : decode prog_11_method_25_code 34 = .ok (.iadd, 1) := by decide +kernel
theorem d_Model_setByte_35 : decode prog_11_method_25_code 35 = .ok (.bipush 28, 2) := by decide +kernel
theorem d_Model_setByte_37 : decode prog_11_method_25_code 37 = .ok (.idiv, 1) := by decide +kernel
theorem d_Model_setByte_38 : decode prog_11_method_25_code 38 = .ok (.iadd, 1) := by decide +kernel
theorem d_Model_setByte_39 : decode prog_11_method_25_code 39 = .ok (.dup2, 1) := by decide +kernel
theorem d_Model_setByte_40 : decode prog_11_method_25_code 40 = .ok (.laload, 1) := by decide +kernel
theorem d_Model_setByte_41 : decode prog_11_method_25_code 41 = .ok (.lconst 1, 1) := by decide +kernel
theorem d_Model_setByte_42 : decode prog_11_method_25_code 42 = .ok (.bipush 8, 2) := by decide +kernel
theorem d_Model_setByte_44 : decode prog_11_method_25_code 44 = .ok (.iload_n 2, 1) := by decide +kernel
theorem d_Model_setByte_45 : decode prog_11_method_25_code 45 = .ok (.imul, 1) := by decide +kernel
theorem d_Model_setByte_46 : decode prog_11_method_25_code 46 = .ok (.iload 4, 2) := by decide +kernel
theorem d_Model_setByte_48 : decode prog_11_method_25_code 48 = .ok (.iadd, 1) := by decide +kernel
theorem d_Model_setByte_49 : decode prog_11_method_25_code 49 = .ok (.bipush 28, 2) := by decide +kernel
theorem d_Model_setByte_51 : decode prog_11_method_25_code 51 = .ok (.irem, 1) := by decide +kernel
theorem d_Model_setByte_52 : decode prog_11_method_25_code 52 = .ok (.lshl, 1) := by decide +kernel
theorem d_Model_setByte_53 : decode prog_11_method_25_code 53 = .ok (.lor, 1) := by decide +kernel
theorem d_Model_setByte_54 : decode prog_11_method_25_code 54 = .ok (.lastore, 1) := by decide +kernel
theorem d_Model_setByte_55 : decode prog_11_method_25_code 55 = .ok (.iinc 4 1, 3) := by decide +kernel
theorem d_Model_setByte_58 : decode prog_11_method_25_code 58 = .ok (.goto (-55), 3) := by decide +kernel
theorem d_Model_setByte_61 : decode prog_11_method_25_code 61 = .ok (.return_, 1) := by decide +kernel
abbrev y_Model_byteOf : MethodName := ⟨"KateDeskModel", "byteOf", "(II)I"⟩
theorem hd_Model_byteOf : y_Model_byteOf.cls ≠ "java/lang/invoke/MethodHandle" ∧ y_Model_byteOf.cls ≠ "java/lang/invoke/VarHandle" ∧ (parseMethodDescriptor y_Model_byteOf.desc).map (fun d => d.parameters.length) = some 2 := by decide +kernel
theorem d_Model_byteOf_0 : decode prog_11_method_24_code 0 = .ok (.iconst 0, 1) := by decide +kernel
theorem d_Model_byteOf_1 : decode prog_11_method_24_code 1 = .ok (.istore_n 3, 1) := by decide +kernel
theorem d_Model_byteOf_2 : decode prog_11_method_24_code 2 = .ok (.bipush 7, 2) := by decide +kernel
theorem d_Model_byteOf_4 : decode prog_11_method_24_code 4 = .ok (.istore 4, 2) := by decide +kernel
theorem d_Model_byteOf_6 : decode prog_11_method_24_code 6 = .ok (.iload 4, 2) := by decide +kernel
theorem d_Model_byteOf_8 : decode prog_11_method_24_code 8 = .ok (.ifCond .lt 26, 3) := by decide +kernel
theorem d_Model_byteOf_11 : decode prog_11_method_24_code 11 = .ok (.iconst 2, 1) := by decide +kernel
theorem d_Model_byteOf_12 : decode prog_11_method_24_code 12 = .ok (.iload_n 3, 1) := by decide +kernel
theorem d_Model_byteOf_13 : decode prog_11_method_24_code 13 = .ok (.imul, 1) := by decide +kernel
theorem d_Model_byteOf_14 : decode prog_11_method_24_code 14 = .ok (.aload_n 0, 1) := by decide +kernel
theorem d_Model_byteOf_15 : decode prog_11_method_24_code 15 = .ok (.iload_n 1, 1) := by decide +kernel
theorem d_Model_byteOf_16 : decode prog_11_method_24_code 16 = .ok (.bipush 8, 2) := by decide +kernel
theorem d_Model_byteOf_18 : decode prog_11_method_24_code 18 = .ok (.iload_n 2, 1) := by decide +kernel
theorem d_Model_byteOf_19 : decode prog_11_method_24_code 19 = .ok (.imul, 1) := by decide +kernel
theorem d_Model_byteOf_20 : decode prog_11_method_24_code 20 = .ok (.iload 4, 2) := by decide +kernel
theorem d_Model_byteOf_22 : decode prog_11_method_24_code 22 = .ok (.iadd, 1) := by decide +kernel
theorem d_Model_byteOf_23 : decode prog_11_method_24_code 23 = .ok (.invokevirtual 187, 3) := by decide +kernel
theorem d_Model_byteOf_26 : decode prog_11_method_24_code 26 = .ok (.iadd, 1) := by decide +kernel
theorem d_Model_byteOf_27 : decode prog_11_method_24_code 27 = .ok (.istore_n 3, 1) := by decide +kernel
theorem d_Model_byteOf_28 : decode prog_11_method_24_code 28 = .ok (.iinc 4 (-1), 3) := by decide +kernel
theorem d_Model_byteOf_31 : decode prog_11_method_24_code 31 = .ok (.goto (-25), 3) := by decide +kernel
theorem d_Model_byteOf_34 : decode prog_11_method_24_code 34 = .ok (.iload_n 3, 1) := by decide +kernel
theorem d_Model_byteOf_35 : decode prog_11_method_24_code 35 = .ok (.ireturn, 1) := by decide +kernel
abbrev y_Model_isGreat : MethodName := ⟨"KateDeskModel", "isGreat", "(I)Z"⟩
theorem hd_Model_isGreat : y_Model_isGreat.cls ≠ "java/lang/invoke/MethodHandle" ∧ y_Model_isGreat.cls ≠ "java/lang/invoke/VarHandle" ∧ (parseMethodDescriptor y_Model_isGreat.desc).map (fun d => d.parameters.length) = some 1 := by decide +kernel
theorem d_Model_isGreat_0 : decode prog_11_method_45_code 0 = .ok (.aload_n 0, 1) := by decide +kernel
theorem d_Model_isGreat_1 : decode prog_11_method_45_code 1 = .ok (.sipush 147, 3) := by decide +kernel
theorem d_Model_isGreat_4 : decode prog_11_method_45_code 4 = .ok (.invokevirtual 200, 3) := by decide +kernel
theorem d_Model_isGreat_7 : decode prog_11_method_45_code 7 = .ok (.aload_n 0, 1) := by decide +kernel
theorem d_Model_isGreat_8 : decode prog_11_method_45_code 8 = .ok (.sipush 147, 3) := by decide +kernel
theorem d_Model_isGreat_11 : decode prog_11_method_45_code 11 = .ok (.sipush 147, 3) := by decide +kernel
theorem d_Model_isGreat_14 : decode prog_11_method_45_code 14 = .ok (.iload_n 1, 1) := by decide +kernel
theorem d_Model_isGreat_15 : decode prog_11_method_45_code 15 = .ok (.invokevirtual 203, 3) := by decide +kernel
theorem d_Model_isGreat_18 : decode prog_11_method_45_code 18 = .ok (.bipush 13, 2) := by decide +kernel
theorem d_Model_isGreat_20 : decode prog_11_method_45_code 20 = .ok (.istore_n 2, 1) := by decide +kernel
theorem d_Model_isGreat_21 : decode prog_11_method_45_code 21 = .ok (.iload_n 2, 1) := by decide +kernel
theorem d_Model_isGreat_22 : decode prog_11_method_45_code 22 = .ok (.ifCond .lt 51, 3) := by decide +kernel
theorem d_Model_isGreat_25 : decode prog_11_method_45_code 25 = .ok (.aload_n 0, 1) := by decide +kernel
theorem d_Model_isGreat_26 : decode prog_11_method_45_code 26 = .ok (.iload_n 1, 1) := by decide +kernel
theorem d_Model_isGreat_27 : decode prog_11_method_45_code 27 = .ok (.iload_n 2, 1) := by decide +kernel
theorem d_Model_isGreat_28 : decode prog_11_method_45_code 28 = .ok (.invokevirtual 164, 3) := by decide +kernel
theorem d_Model_isGreat_31 : decode prog_11_method_45_code 31 = .ok (.aload_n 0, 1) := by decide +kernel
theorem d_Model_isGreat_32 : decode prog_11_method_45_code 32 = .ok (.sipush 147, 3) := by decide +kernel
theorem d_Model_isGreat_35 : decode prog_11_method_45_code 35 = .ok (.iload_n 2, 1) := by decide +kernel
theorem d_Model_isGreat_36 : decode prog_11_method_45_code 36 = .ok (.invokevirtual 164, 3) := by decide +kernel
theorem d_Model_isGreat_39 : decode prog_11_method_45_code 39 = .ok (.lcmp, 1) := by decide +kernel
theorem d_Model_isGreat_40 : decode prog_11_method_45_code 40 = .ok (.ifCond .eq 27, 3) := by decide +kernel
theorem d_Model_isGreat_43 : decode prog_11_method_45_code 43 = .ok (.aload_n 0, 1) := by decide +kernel
theorem d_Model_isGreat_44 : decode prog_11_method_45_code 44 = .ok (.iload_n 1, 1) := by decide +kernel
theorem d_Model_isGreat_45 : decode prog_11_method_45_code 45 = .ok (.iload_n 2, 1) := by decide +kernel
theorem d_Model_isGreat_46 : decode prog_11_method_45_code 46 = .ok (.invokevirtual 164, 3) := by decide +kernel
theorem d_Model_isGreat_49 : decode prog_11_method_45_code 49 = .ok (.aload_n 0, 1) := by decide +kernel
theorem d_Model_isGreat_50 : decode prog_11_method_45_code 50 = .ok (.sipush 147, 3) := by decide +kernel
theorem d_Model_isGreat_53 : decode prog_11_method_45_code 53 = .ok (.iload_n 2, 1) := by decide +kernel
theorem d_Model_isGreat_54 : decode prog_11_method_45_code 54 = .ok (.invokevirtual 164, 3) := by decide +kernel
theorem d_Model_isGreat_57 : decode prog_11_method_45_code 57 = .ok (.lcmp, 1) := by decide +kernel
theorem d_Model_isGreat_58 : decode prog_11_method_45_code 58 = .ok (.ifCond .le 7, 3) := by decide +kernel
theorem d_Model_isGreat_61 : decode prog_11_method_45_code 61 = .ok (.iconst 1, 1) := by decide +kernel
theorem d_Model_isGreat_62 : decode prog_11_method_45_code 62 = .ok (.goto 4, 3) := by decide +kernel
theorem d_Model_isGreat_65 : decode prog_11_method_45_code 65 = .ok (.iconst 0, 1) := by decide +kernel
theorem d_Model_isGreat_66 : decode prog_11_method_45_code 66 = .ok (.ireturn, 1) := by decide +kernel
theorem d_Model_isGreat_67 : decode prog_11_method_45_code 67 = .ok (.iinc 2 (-1), 3) := by decide +kernel
theorem d_Model_isGreat_70 : decode prog_11_method_45_code 70 = .ok (.goto (-49), 3) := by decide +kernel
theorem d_Model_isGreat_73 : decode prog_11_method_45_code 73 = .ok (.iconst 0, 1) := by decide +kernel
theorem d_Model_isGreat_74 : decode prog_11_method_45_code 74 = .ok (.ireturn, 1) := by decide +kernel