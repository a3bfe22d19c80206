theorem dg_1sh : ∀ j, j < 28 → dg ((1 : Int64) <<< ((nI j).toInt64 &&& 63)) := by unfold dg; decide
theorem rem28 {x : Nat} (hx : x < 2 ^ 20) : nI x - nI x / nI 28 * nI 28 = nI (x - x / 28 * 28) := by
  rw [pk_div (by omega) (by decide) (by decide), pk_mul, pk_sub (by omega)]
theorem rem48 {x : Nat} (hx : x < 2 ^ 20) : nI x - nI x / nI 48 * nI 48 = nI (x - x / 48 * 48) := by
  rw [pk_div (by omega) (by decide) (by decide), pk_mul, pk_sub (by omega)]
abbrev y_Model_setByte : MethodName := ⟨"KateDeskModel", "setByte", "(III)V"⟩
theorem hd_Model_setByte : y_Model_setByte.cls ≠ "java/lang/invoke/MethodHandle" ∧ y_Model_setByte.cls ≠ "java/lang/invoke/VarHandle" ∧ (parseMethodDescriptor y_Model_setByte.desc).map (fun d => d.parameters.length) = some 3 := by decide +kernel
theorem d_Model_setByte_0 : decode prog_11_method_25_code 0 = .ok (.iconst 0, 1) := by decide +kernel
theorem d_Model_setByte_1 : decode prog_11_method_25_code 1 = .ok (.istore 4, 2) := by decide +kernel
theorem d_Model_setByte_3 : decode prog_11_method_25_code 3 = .ok (.iload 4, 2) := by decide +kernel
theorem d_Model_setByte_5 : decode prog_11_method_25_code 5 = .ok (.bipush 8, 2) := by decide +kernel
theorem d_Model_setByte_7 : decode prog_11_method_25_code 7 = .ok (.if_icmp .ge 54, 3) := by decide +kernel
theorem d_Model_setByte_10 : decode prog_11_method_25_code 10 = .ok (.iload_n 3, 1) := by decide +kernel
theorem d_Model_setByte_11 : decode prog_11_method_25_code 11 = .ok (.iload 4, 2) := by decide +kernel
theorem d_Model_setByte_13 : decode prog_11_method_25_code 13 = .ok (.ishr, 1) := by decide +kernel
theorem d_Model_setByte_14 : decode prog_11_method_25_code 14 = .ok (.iconst 1, 1) := by decide +kernel
theorem d_Model_setByte_15 : decode prog_11_method_25_code 15 = .ok (.iand, 1) := by decide +kernel
theorem d_Model_setByte_16 : decode prog_11_method_25_code 16 = .ok (.iconst 1, 1) := by decide +kernel
theorem d_Model_setByte_17 : decode prog_11_method_25_code 17 = .ok (.if_icmp .ne 38, 3) := by decide +kernel
theorem d_Model_setByte_20 : decode prog_11_method_25_code 20 = .ok (.aload_n 0, 1) := by decide +kernel
theorem d_Model_setByte_21 : decode prog_11_method_25_code 21 = .ok (.getfield 7, 3) := by decide +kernel
theorem d_Model_setByte_24 : decode prog_11_method_25_code 24 = .ok (.bipush 14, 2) := by decide +kernel
theorem d_Model_setByte_26 : decode prog_11_method_25_code 26 = .ok (.iload_n 1, 1) := by decide +kernel
theorem d_Model_setByte_27 : decode prog_11_method_25_code 27 = .ok (.imul, 1) := by decide +kernel
theorem d_Model_setByte_28 : decode prog_11_method_25_code 28 = .ok (.bipush 8, 2) := by decide +kernel
theorem d_Model_setByte_30 : decode prog_11_method_25_code 30 = .ok (.iload_n 2, 1) := by decide +kernel
theorem d_Model_setByte_31 : decode prog_11_method_25_code 31 = .ok (.imul, 1) := by decide +kernel
theorem d_Model_setByte_32 : decode prog_11_method_25_code 32 = .ok (.iload 4, 2) := by decide +kernel
theorem d_Model_setByte_34 : decode prog_11_method_25_code 34 = .ok (.iadd, 1) := by decide +kernel
theorem d_Model_setByte_35 : decode prog_11_method_25_code 35 = .ok (.bipush 28, 2) := by decide +kernel
theorem d_Model_setByte_37 : decode prog_11_method_25_code 37 = .ok (.idiv, 1) := by decide +kernel
theorem d_Model_setByte_38 : decode prog_11_method_25_code 38 = .ok (.iadd, 1) := by decide +kernel
theorem d_Model_setByte_39 : decode prog_11_method_25_code 39 = .ok (.dup2, 1) := by decide +kernel
theorem d_Model_setByte_40 : decode prog_11_method_25_code 40 = .ok (.laload, 1) := by decide +kernel
theorem d_Model_setByte_41 : decode prog_11_method_25_code 41 = .ok (.lconst 1, 1) := by decide +kernel
theorem d_Model_setByte_42 : decode prog_11_method_25_code 42 = .ok (.bipush 8, 2) := by decide +kernel
theorem d_Model_setByte_44 : decode prog_11_method_25_code 44 = .ok (.iload_n 2, 1) := by decide +kernel
theorem d_Model_setByte_45 : decode prog_11_method_25_code 45 = .ok (.imul, 1) := by decide +kernel
theorem d_Model_setByte_46 : decode prog_11_method_25_code 46 = .ok (.iload 4, 2) := by decide +kernel
theorem d_Model_setByte_48 : decode prog_11_method_25_code 48 = .ok (.iadd, 1) := by decide +kernel
theorem d_Model_setByte_49 : decode prog_11_method_25_code 49 = .ok (.bipush 28, 2) := by decide +kernel
theorem d_Model_setByte_51 : decode prog_11_method_25_code 51 = .ok (.irem, 1) := by decide +kernel
theorem d_Model_setByte_52 : decode prog_11_method_25_code 52 = .ok (.lshl, 1) := by decide +kernel
theorem d_Model_setByte_53 : decode prog_11_method_25_code 53 = .ok (.lor, 1) := by decide +kernel
theorem d_Model_setByte_54 : decode prog_11_method_25_code 54 = .ok (.lastore, 1) := by decide +kernel
theorem d_Model_setByte_55 : decode prog_11_method_25_code 55 = .ok (.iinc 4 1, 3) := by decide +kernel
theorem d_Model_setByte_58 : decode prog_11_method_25_code 58 = .ok (.goto (-55), 3) := by decide +kernel
theorem d_Model_setByte_61 : decode prog_11_method_25_code 61 = .ok (.return_, 1) := by decide +kernel
abbrev y_Model_byteOf : MethodName := ⟨"KateDeskModel", "byteOf", "(II)I"⟩
theorem hd_Model_byteOf : y_Model_byteOf.cls ≠ "java/lang/invoke/MethodHandle" ∧ y_Model_byteOf.cls ≠ "java/lang/invoke/VarHandle" ∧ (parseMethodDescriptor y_Model_byteOf.desc).map (fun d => d.parameters.length) = some 2 := by decide +kernel
theorem d_Model_byteOf_0 : decode prog_11_method_24_code 0 = .ok (.iconst 0, 1) := by decide +kernel
theorem d_Model_byteOf_1 : decode prog_11_method_24_code 1 = .ok (.istore_n 3, 1) := by decide +kernel
theorem d_Model_byteOf_2 : decode prog_11_method_24_code 2 = .ok (.bipush 7, 2) := by decide +kernel
theorem d_Model_byteOf_4 : decode prog_11_method_24_code 4 = .ok (.istore 4, 2) := by decide +kernel
theorem d_Model_byteOf_6 : decode prog_11_method_24_code 6 = .ok (.iload 4, 2) := by decide +kernel
theorem d_Model_byteOf_8 : decode prog_11_method_24_code 8 = .ok (.ifCond .lt 26, 3) := by decide +kernel
theorem d_Model_byteOf_11 : decode prog_11_method_24_code 11 = .ok (.iconst 2, 1) := by decide +kernel
theorem d_Model_byteOf_12 : decode prog_11_method_24_code 12 = .ok (.iload_n 3, 1) := by decide +kernel
theorem d_Model_byteOf_13 : decode prog_11_method_24_code 13 = .ok (.imul, 1) := by decide +kernel
theorem d_Model_byteOf_14 : decode prog_11_method_24_code 14 = .ok (.aload_n 0, 1) := by decide +kernel
theorem d_Model_byteOf_15 : decode prog_11_method_24_code 15 = .ok (.iload_n 1, 1) := by decide +kernel
theorem d_Model_byteOf_16 : decode prog_11_method_24_code 16 = .ok (.bipush 8, 2) := by decide +kernel
theorem d_Model_byteOf_18 : decode prog_11_method_24_code 18 = .ok (.iload_n 2, 1) := by decide +kernel
theorem d_Model_byteOf_19 : decode prog_11_method_24_code 19 = .ok (.imul, 1) := by decide +kernel
theorem d_Model_byteOf_20 : decode prog_11_method_24_code 20 = .ok (.iload 4, 2) := by decide +kernel
theorem d_Model_byteOf_22 : decode prog_11_method_24_code 22 = .ok (.iadd, 1) := by decide +kernel
theorem d_Model_byteOf_23 : decode prog_11_method_24_code 23 = .ok (.invokevirtual 187, 3) := by decide +kernel
theorem d_Model_byteOf_26 : decode prog_11_method_24_code 26 = .ok (.iadd, 1) := by decide +kernel
theorem d_Model_byteOf_27 : decode prog_11_method_24_code 27 = .ok (.istore_n 3, 1) := by decide +kernel
theorem d_Model_byteOf_28 : decode prog_11_method_24_code 28 = .ok (.iinc 4 (-1), 3) := by decide +kernel
theorem d_Model_byteOf_31 : decode prog_11_method_24_code 31 = .ok (.goto (-25), 3) := by decide +kernel
theorem d_Model_byteOf_34 : decode prog_11_method_24_code 34 = .ok (.iload_n 3, 1) := by decide +kernel
theorem d_Model_byteOf_35 : decode prog_11_method_24_code 35 = .ok (.ireturn, 1) := by decide +kernel
abbrev y_Model_isGreat : MethodName := ⟨"KateDeskModel", "isGreat", "(I)Z"⟩
theorem hd_Model_isGreat : y_Model_isGreat.cls ≠ "java/lang/invoke/MethodHandle" ∧ y_Model_isGreat.cls ≠ "java/lang/invoke/VarHandle" ∧ (parseMethodDescriptor y_Model_isGreat.desc).map (fun d => d.parameters.length) = some 1 := by decide +kernel
theorem d_Model_isGreat_0 : decode prog_11_method_45_code 0 = .ok (.aload_n 0, 1) := by decide +kernel
theorem d_Model_isGreat_1 : decode prog_11_method_45_code 1 = .ok (.sipush 147, 3) := by decide +kernel
theorem d_Model_isGreat_4 : decode prog_11_method_45_code 4 = .ok (.invokevirtual 200, 3) := by decide +kernel
theorem d_Model_isGreat_7 : decode prog_11_method_45_code 7 = .ok (.aload_n 0, 1) := by decide +kernel
theorem d_Model_isGreat_8 : decode prog_11_method_45_code 8 = .ok (.sipush 147, 3) := by decide +kernel
theorem d_Model_isGreat_11 : decode prog_11_method_45_code 11 = .ok (.sipush 147, 3) := by decide +kernel
theorem d_Model_isGreat_14 : decode prog_11_method_45_code 14 = .ok (.iload_n 1, 1) := by decide +kernel
theorem d_Model_isGreat_15 : decode prog_11_method_45_code 15 = .ok (.invokevirtual 203, 3) := by decide +kernel
theorem d_Model_isGreat_18 : decode prog_11_method_45_code 18 = .ok (.bipush 13, 2) := by decide +kernel
theorem d_Model_isGreat_20 : decode prog_11_method_45_code 20 = .ok (.istore_n 2, 1) := by decide +kernel
theorem d_Model_isGreat_21 : decode prog_11_method_45_code 21 = .ok (.iload_n 2, 1) := by decide +kernel
theorem d_Model_isGreat_22 : decode prog_11_method_45_code 22 = .ok (.ifCond .lt 51, 3) := by decide +kernel
theorem d_Model_isGreat_25 : decode prog_11_method_45_code 25 = .ok (.aload_n 0, 1) := by decide +kernel
theorem d_Model_isGreat_26 : decode prog_11_method_45_code 26 = .ok (.iload_n 1, 1) := by decide +kernel
theorem d_Model_isGreat_27 : decode prog_11_method_45_code 27 = .ok (.iload_n 2, 1) := by decide +kernel
theorem d_Model_isGreat_28 : decode prog_11_method_45_code 28 = .ok (.invokevirtual 164, 3) := by decide +kernel
theorem d_Model_isGreat_31 : decode prog_11_method_45_code 31 = .ok (.aload_n 0, 1) := by decide +kernel
theorem d_Model_isGreat_32 : decode prog_11_method_45_code 32 = .ok (.sipush 147, 3) := by decide +kernel
theorem d_Model_isGreat_35 : decode prog_11_method_45_code 35 = .ok (.iload_n 2, 1) := by decide +kernel
theorem d_Model_isGreat_36 : decode prog_11_method_45_code 36 = .ok (.invokevirtual 164, 3) := by decide +kernel
theorem d_Model_isGreat_39 : decode prog_11_method_45_code 39 = .ok (.lcmp, 1) := by decide +kernel
theorem d_Model_isGreat_40 : decode prog_11_method_45_code 40 = .ok (.ifCond .eq 27, 3) := by decide +kernel
theorem d_Model_isGreat_43 : decode prog_11_method_45_code 43 = .ok (.aload_n 0, 1) := by decide +kernel
theorem d_Model_isGreat_44 : decode prog_11_method_45_code 44 = .ok (.iload_n 1, 1) := by decide +kernel
theorem d_Model_isGreat_45 : decode prog_11_method_45_code 45 = .ok (.iload_n 2, 1) := by decide +kernel
theorem d_Model_isGreat_46 : decode prog_11_method_45_code 46 = .ok (.invokevirtual 164, 3) := by decide +kernel
theorem d_Model_isGreat_49 : decode prog_11_method_45_code 49 = .ok (.aload_n 0, 1) := by decide +kernel
theorem d_Model_isGreat_50 : decode prog_11_method_45_code 50 = .ok (.sipush 147, 3) := by decide +kernel
theorem d_Model_isGreat_53 : decode prog_11_method_45_code 53 = .ok (.iload_n 2, 1) := by decide +kernel
theorem d_Model_isGreat_54 : decode prog_11_method_45_code 54 = .ok (.invokevirtual 164, 3) := by decide +kernel
theorem d_Model_isGreat_57 : decode prog_11_method_45_code 57 = .ok (.lcmp, 1) := by decide +kernel
theorem d_Model_isGreat_58 : decode prog_11_method_45_code 58 = .ok (.ifCond .le 7, 3) := by decide +kernel
theorem d_Model_isGreat_61 : decode prog_11_method_45_code 61 = .ok (.iconst 1, 1) := by decide +kernel
theorem d_Model_isGreat_62 : decode prog_11_method_45_code 62 = .ok (.goto 4, 3) := by decide +kernel
theorem d_Model_isGreat_65 : decode prog_11_method_45_code 65 = .ok (.iconst 0, 1) := by decide +kernel
theorem d_Model_isGreat_66 : decode prog_11_method_45_code 66 = .ok (.ireturn, 1) := by decide +kernel
theorem d_Model_isGreat_67 : decode prog_11_method_45_code 67 = .ok (.iinc 2 (-1), 3) := by decide +kernel
theorem d_Model_isGreat_70 : decode prog_11_method_45_code 70 = .ok (.goto (-49), 3) := by decide +kernel
theorem d_Model_isGreat_73 : decode prog_11_method_45_code 73 = .ok (.iconst 0, 1) := by decide +kernel
theorem d_Model_isGreat_74 : decode prog_11_method_45_code 74 = .ok (.ireturn, 1) := by decide +kernel
set_option maxHeartbeats 4000000 in
set_option maxRecDepth 100000 in
theorem v_Model_isNumber (l : Launch) (g : WG) (n0 : Nat → Prop) (mo a : Nat) (th pw td wr : Int32) (w n : Nat) (hw : WH w n) (fd : Nat → Int64) (ha : a < 170) : Ctr l y_Model_isNumber (.code y_Model_isNumber prog_11_method_26_code 3 (some FieldType.boolean)) 1 22 0 0 n0 g [.ref mo, .int (nI a)] (fun H => MS g n0 H mo th pw td wr w n fd) (QI (fun r H H' => (r = 0 ∨ r = 1) ∧ H' = H)) := by
  refine ctr_mk l (lv0 := [(0, .ref mo), (1, .int (nI a))]) (by decide) (Nat.le_of_ble_eq_true rfl) rfl ?_
  intro p e s m below meth c ls E hr hlk hnm hl hP
  have hx := E.1
  have hb := E.2.1
  have hK := E.2.2.2.2.2
  have hF : ∀ q ∈ ([] : List Loc), n0 q.base := fun q hq => absurd hq List.not_mem_nil
  have hm := hP
  have hw2 : w ≤ 1 := by rcases hw with h | h <;> omega
  have lp : ∀ (k : Nat) (locs : List Loc) (ls : Array Slot) (v : Int32), k ≤ 14 → v = nI k - 1 → (∀ q ∈ locs, n0 q.base) → lv_has ls 3 [(2, .int v), (0, .ref mo), (1, .int (nI a))] → W p l e { frames := 1, cells := 0, slots := 0, locals := 22 } s m [.ref mo, .int (nI a)].toArray below meth c s.heap locs 0 0 (MQ below (QcP (QI (fun r H H' => (r = 0 ∨ r = 1) ∧ H' = H))) [.ref mo, .int (nI a)].toArray s 0 0 (fun q => n0 q)) (F0 m 3 ls []) := by
    intro k
    induction k with
    | zero =>
      intro  locs   ls   v hk14 hv0 hF hl
      subst hv0
      refine lv_iload_n hx hb d_Model_isNumber_3 rfl (lv_at hl 0 rfl) ?_
      refine lv_if_lt (tgt := 67) hx hb d_Model_isNumber_4 (by decide) (fun _ => ?_) (fun h9 => absurd (by decide) h9)
      refine lv_iconst (v := nI 0) hx hb d_Model_isNumber_67 (by decide) ?_
      exact q_zret E hr rfl hlk (⟨_, rfl, Or.inl rfl, rfl⟩) hF d_Model_isNumber_68
    | succ k ih =>
      intro  locs   ls   v hk14 hv0 hF hl
      rw [nI_pred] at hv0
      subst hv0
      refine lv_iload_n hx hb d_Model_isNumber_3 rfl (lv_at hl 0 rfl) ?_
      refine lv_if_lt (tgt := 67) hx hb d_Model_isNumber_4 (by decide) (fun h9 => absurd h9 (nI_pos (by omega))) (fun _ => ?_)
      refine lv_aload_n hx hb d_Model_isNumber_7 rfl (lv_at hl 1 rfl) ?_
      refine lv_iload_n hx hb d_Model_isNumber_8 rfl (lv_at hl 2 rfl) ?_
      refine lv_iload_n hx hb d_Model_isNumber_9 rfl (lv_at hl 0 rfl) ?_
      refine q_cV (rest := []) E (c_Model_limb l g n0 mo a k th (nI w) (nI n) pw td wr fd (by omega) (by omega)) w_979 w_15 w_976 w_978 (bw_s 18 rfl) hd_Model_limb rfl ⟨by decide, by decide⟩ (OB.recv E.2.2.2.2.2 (by rfl) hm.1) (⟨hm.1, hm.2.2.2.2.1⟩) hF hl.1 rfl (Nat.le_of_ble_eq_true rfl) d_Model_isNumber_10 ⟨by decide, by decide⟩ (ql (fun v1 H1 locs hq hF => ?_))
      obtain ⟨hq, hq9⟩ := hq
      obtain rfl := hq9
      subst hq
      refine lv_aload_n hx hb d_Model_isNumber_13 rfl (lv_at hl 1 rfl) ?_
      refine q_get (C := "KateDeskModel") (T := T_Model) (N := 14) (ci := 8) E hm.1 in_Model rfl 2 (by decide) w_1003 rfl rfl d_Model_isNumber_14 ?_
      refine lv_bipush (v := nI 14) hx hb d_Model_isNumber_17 (by decide) ?_
      refine lv_aload_n hx hb d_Model_isNumber_19 rfl (lv_at hl 1 rfl) ?_
      refine q_get (C := "KateDeskModel") (T := T_Model) (N := 14) (ci := 8) E hm.1 in_Model rfl 6 (by decide) w_1007 rfl rfl d_Model_isNumber_20 ?_
      refine lv_imul hx hb d_Model_isNumber_23 ?_
      refine lv_topi (fun t9 e9 => ?_)
      obtain rfl : t9 = nI (14 * w) := e9.trans (pk_mul _ _)
      refine lv_iload_n hx hb d_Model_isNumber_24 rfl (lv_at hl 0 rfl) ?_
      refine lv_iadd hx hb d_Model_isNumber_25 ?_
      refine lv_topi (fun t9 e9 => ?_)
      obtain rfl : t9 = nI (14 * w + k) := e9.trans (nI_add _ _)
      refine q_lald (N := 28) (f := kPr) E hm.2.1 (14 * w + k) rfl (by omega) (by decide) d_Model_isNumber_26 ?_
      refine W.lcmp hx hb d_Model_isNumber_27 ?_
      refine lv_if_eq (tgt := 61) hx hb d_Model_isNumber_28 (by decide) (fun _ => ?_) (fun _ => ?_)
      rotate_left
      · skip
        refine lv_aload_n hx hb d_Model_isNumber_31 rfl (lv_at hl 1 rfl) ?_
        refine lv_iload_n hx hb d_Model_isNumber_32 rfl (lv_at hl 2 rfl) ?_
        refine lv_iload_n hx hb d_Model_isNumber_33 rfl (lv_at hl 0 rfl) ?_
        refine q_cV (rest := []) E (c_Model_limb l g n0 mo a k th (nI w) (nI n) pw td wr fd (by omega) (by omega)) w_979 w_15 w_976 w_978 (bw_s 18 rfl) hd_Model_limb rfl ⟨by decide, by decide⟩ (OB.recv E.2.2.2.2.2 (by rfl) hm.1) (⟨hm.1, hm.2.2.2.2.1⟩) hF hl.1 rfl (Nat.le_of_ble_eq_true rfl) d_Model_isNumber_34 ⟨by decide, by decide⟩ (ql (fun v2 H2 locs hq hF => ?_))
        obtain ⟨hq, hq9⟩ := hq
        obtain rfl := hq9
        subst hq
        refine lv_aload_n hx hb d_Model_isNumber_37 rfl (lv_at hl 1 rfl) ?_
        refine q_get (C := "KateDeskModel") (T := T_Model) (N := 14) (ci := 8) E hm.1 in_Model rfl 2 (by decide) w_1003 rfl rfl d_Model_isNumber_38 ?_
        refine lv_bipush (v := nI 14) hx hb d_Model_isNumber_41 (by decide) ?_
        refine lv_aload_n hx hb d_Model_isNumber_43 rfl (lv_at hl 1 rfl) ?_
        refine q_get (C := "KateDeskModel") (T := T_Model) (N := 14) (ci := 8) E hm.1 in_Model rfl 6 (by decide) w_1007 rfl rfl d_Model_isNumber_44 ?_
        refine lv_imul hx hb d_Model_isNumber_47 ?_
        refine lv_topi (fun t9 e9 => ?_)
        obtain rfl : t9 = nI (14 * w) := e9.trans (pk_mul _ _)
        refine lv_iload_n hx hb d_Model_isNumber_48 rfl (lv_at hl 0 rfl) ?_
        refine lv_iadd hx hb d_Model_isNumber_49 ?_
        refine lv_topi (fun t9 e9 => ?_)
        obtain rfl : t9 = nI (14 * w + k) := e9.trans (nI_add _ _)
        refine q_lald (N := 28) (f := kPr) E hm.2.1 (14 * w + k) rfl (by omega) (by decide) d_Model_isNumber_50 ?_
        refine W.lcmp hx hb d_Model_isNumber_51 ?_
        refine lv_if_ge (tgt := 59) hx hb d_Model_isNumber_52 (by decide) (fun _ => ?_) (fun _ => ?_)
        rotate_left
        · skip
          refine lv_iconst (v := nI 1) hx hb d_Model_isNumber_55 (by decide) ?_
          refine lv_goto (tgt := 60) hx hb d_Model_isNumber_56 (by decide) ?_
          exact q_zret E hr rfl hlk (⟨_, rfl, Or.inr rfl, rfl⟩) hF d_Model_isNumber_60
        refine lv_iconst (v := nI 0) hx hb d_Model_isNumber_59 (by decide) ?_
        exact q_zret E hr rfl hlk (⟨_, rfl, Or.inl rfl, rfl⟩) hF d_Model_isNumber_60
      refine lv_iinc (k := 0) (v := nI k - 1) (lv' := [(2, .int (nI k - 1)), (0, .ref mo), (1, .int (nI a))]) hx hb d_Model_isNumber_61 hl rfl (i_dec _) (by decide) rfl (fun ls hl => ?_)
      refine lv_goto (tgt := 3) hx hb d_Model_isNumber_64 (by decide) ?_
      have hl : lv_has ls 3 [(2, .int (nI k - 1)), (0, .ref mo), (1, .int (nI a))] := lv_sub hl [0, 1, 2] rfl
      exact ih _ ls _ (by omega) rfl hF hl
  refine lv_bipush (v := nI 13) hx hb d_Model_isNumber_0 (by decide) ?_
  refine lv_istore_n (lv' := [(2, .int (nI 13)), (0, .ref mo), (1, .int (nI a))]) hx hb d_Model_isNumber_2 rfl hl (by decide) rfl (fun ls hl => ?_)
  have hl : lv_has ls 3 [(2, .int (nI 13)), (0, .ref mo), (1, .int (nI a))] := lv_sub hl [0, 1, 2] rfl
  exact lp 14 _ ls _ (by decide) (by decide) hF hl
set_option maxHeartbeats 4000000 in
set_option maxRecDepth 100000 in
theorem c_Model_setByte (l : Launch) (g : WG) (n0 : Nat → Prop) (mo a kb : Nat) (vz : Int32) (th pw td wr : Int32) (w n : Nat) (hw : WH w n) (fd : Nat → Int64) (ha : a < 170) (hkb : kb < 48) : Ctr l y_Model_setByte (.code y_Model_setByte prog_11_method_25_code 5 none) 0 0 0 0 n0 g [.ref mo, .int (nI a), .int (nI kb), .int vz] (fun H => MS g n0 H mo th pw td wr w n fd) (QV (fun H H' => FRM (MR mo) H H' ∧ ∃ fd', MS g n0 H' mo th pw td wr w n fd' ∧ True)) := by
  refine ctr_mk l (lv0 := [(0, .ref mo), (1, .int (nI a)), (2, .int (nI kb)), (3, .int vz)]) (by decide) (Nat.le_of_ble_eq_true rfl) rfl ?_
  intro p e s m below meth c ls E hr hlk hnm hl hP
  have hx := E.1
  have hb := E.2.1
  have hK := E.2.2.2.2.2
  have hF : ∀ q ∈ ([] : List Loc), n0 q.base := fun q hq => absurd hq List.not_mem_nil
  have hm := hP
  have hDD := hm.2.2.2.2.2.1
  obtain ⟨hpd, hn1, hn14, hw1, hPT, hP1, hT0, hT1⟩ := wh_kP hw
  have hfr : FRM (MR mo) s.heap s.heap := FRM.rf
  have loop : ∀ (k : Nat) (i : Nat) (H : Heap) (locs : List Loc) (ls : Array Slot) (fd1 : Nat → Int64), i + k = 8 → FRM (MR mo) s.heap H → MS g n0 H mo th pw td wr w n fd1 → (∀ q ∈ locs, n0 q.base) → lv_has ls 5 [(4, .int (nI i)), (0, .ref mo), (1, .int (nI a)), (2, .int (nI kb)), (3, .int vz)] → W p l e { frames := 0, cells := 0, slots := 0, locals := 0 } s m [.ref mo, .int (nI a), .int (nI kb), .int vz].toArray below meth c H locs 0 0 (MQ below (QcP (QV (fun H H' => FRM (MR mo) H H' ∧ ∃ fd', MS g n0 H' mo th pw td wr w n fd' ∧ True))) [.ref mo, .int (nI a), .int (nI kb), .int vz].toArray s 0 0 (fun q => n0 q)) (F0 m 3 ls []) := by
    intro k
    induction k with
    | zero =>
      intro  i   H   locs   ls   fd1 hi hfr hm hF hl
      obtain rfl : i = 8 := by omega
      refine lv_iload hx hb d_Model_setByte_3 (lv_at hl 0 rfl) ?_
      refine lv_bipush (v := nI 8) hx hb d_Model_setByte_5 (by decide) ?_
      refine lv_icmp_ge (tgt := 61) hx hb d_Model_setByte_7 (by decide) (fun _ => ?_) (fun h9 => absurd (by decide) h9)
      exact q_vret E hr hlk (⟨rfl, hfr, _, hm, trivial⟩) hF d_Model_setByte_61
    | succ k ih =>
      intro  i   H   locs   ls   fd1 hi hfr hm hF hl
      refine lv_iload hx hb d_Model_setByte_3 (lv_at hl 0 rfl) ?_
      refine lv_bipush (v := nI 8) hx hb d_Model_setByte_5 (by decide) ?_
      refine lv_icmp_ge (tgt := 61) hx hb d_Model_setByte_7 (by decide) (fun h9 => absurd h9 (nI_ge (by omega) (by decide))) (fun _ => ?_)
      refine lv_iload_n hx hb d_Model_setByte_10 rfl (lv_at hl 4 rfl) ?_
      refine lv_iload hx hb d_Model_setByte_11 (lv_at hl 0 rfl) ?_
      refine lv_ishr hx hb d_Model_setByte_13 ?_
      refine lv_iconst (v := nI 1) hx hb d_Model_setByte_14 (by decide) ?_
      refine lv_iand hx hb d_Model_setByte_15 ?_
      refine lv_iconst (v := nI 1) hx hb d_Model_setByte_16 (by decide) ?_
      refine lv_icmp_ne (tgt := 55) hx hb d_Model_setByte_17 (by decide) (fun _ => ?_) (fun _ => ?_)
      rotate_left
      · skip
        refine lv_aload_n hx hb d_Model_setByte_20 rfl (lv_at hl 1 rfl) ?_
        refine q_get (C := "KateDeskModel") (T := T_Model) (N := 14) (ci := 8) E hm.1 in_Model rfl 1 (by decide) w_1002 rfl rfl d_Model_setByte_21 ?_
        refine lv_bipush (v := nI 14) hx hb d_Model_setByte_24 (by decide) ?_
        refine lv_iload_n hx hb d_Model_setByte_26 rfl (lv_at hl 2 rfl) ?_
        refine lv_imul hx hb d_Model_setByte_27 ?_
        refine lv_topi (fun t9 e9 => ?_)
        obtain rfl : t9 = nI (14 * a) := e9.trans (pk_mul _ _)
        refine lv_bipush (v := nI 8) hx hb d_Model_setByte_28 (by decide) ?_
        refine lv_iload_n hx hb d_Model_setByte_30 rfl (lv_at hl 3 rfl) ?_
        refine lv_imul hx hb d_Model_setByte_31 ?_
        refine lv_topi (fun t9 e9 => ?_)
        obtain rfl : t9 = nI (8 * kb) := e9.trans (pk_mul _ _)
        refine lv_iload hx hb d_Model_setByte_32 (lv_at hl 0 rfl) ?_
        refine lv_iadd hx hb d_Model_setByte_34 ?_
        refine lv_topi (fun t9 e9 => ?_)
        obtain rfl : t9 = nI ((8 * kb) + i) := e9.trans (nI_add _ _)
        refine lv_bipush (v := nI 28) hx hb d_Model_setByte_35 (by decide) ?_
        refine lv_idiv hx hb d_Model_setByte_37 (by decide) ?_
        refine lv_topi (fun t9 e9 => ?_)
        obtain rfl : t9 = nI ((8 * kb + i) / 28) := e9.trans (pk_div (by omega) (by decide) (by decide))
        refine lv_iadd hx hb d_Model_setByte_38 ?_
        refine lv_topi (fun t9 e9 => ?_)
        obtain rfl : t9 = nI ((14 * a) + ((8 * kb + i) / 28)) := e9.trans (nI_add _ _)
        refine lv_dup2_11 hx hb d_Model_setByte_39 rfl rfl ?_
        refine q_lald (N := 2380) (f := fd1) E hm.2.2.2.2.1 (14 * a + (8 * kb + i) / 28) rfl (by omega) (by decide) d_Model_setByte_40 ?_
        refine lv_lconst (v := 1) hx hb d_Model_setByte_41 (by decide) ?_
        refine lv_bipush (v := nI 8) hx hb d_Model_setByte_42 (by decide) ?_
        refine lv_iload_n hx hb d_Model_setByte_44 rfl (lv_at hl 3 rfl) ?_
        refine lv_imul hx hb d_Model_setByte_45 ?_
        refine lv_topi (fun t9 e9 => ?_)
        obtain rfl : t9 = nI (8 * kb) := e9.trans (pk_mul _ _)
        refine lv_iload hx hb d_Model_setByte_46 (lv_at hl 0 rfl) ?_
        refine lv_iadd hx hb d_Model_setByte_48 ?_
        refine lv_topi (fun t9 e9 => ?_)
        obtain rfl : t9 = nI ((8 * kb) + i) := e9.trans (nI_add _ _)
        refine lv_bipush (v := nI 28) hx hb d_Model_setByte_49 (by decide) ?_
        refine lv_irem hx hb d_Model_setByte_51 (by decide) ?_
        refine lv_topi (fun t9 e9 => ?_)
        obtain rfl : t9 = nI ((8 * kb + i) - (8 * kb + i) / 28 * 28) := e9.trans (rem28 (by omega))
        refine lv_lshl (v := 1 <<< ((nI ((8 * kb + i) - (8 * kb + i) / 28 * 28)).toInt64 &&& 63)) hx hb d_Model_setByte_52 rfl ?_
        refine lv_lor hx hb d_Model_setByte_53 ?_
        have hdv : dg ((fd1 (14 * a + (8 * kb + i) / 28)) ||| (1 <<< ((nI ((8 * kb + i) - (8 * kb + i) / 28 * 28)).toInt64 &&& 63))) := dg_or (hm.2.2.2.2.2.1 _ (by omega)) (dg_1sh _ (by omega))
        refine q_last E hm.2.2.2.2.1 hm.2.2.2.2.2.2.1 hF (14 * a + (8 * kb + i) / 28) rfl (by omega) (by decide) d_Model_setByte_54 (fun H1 locs hq hf2 hF => ?_)
        have hm := hm.step hK (hq.mono (fun q h => Or.inl h)) hf2 ((hm.2.2.2.2.2.1).upd hdv)
        have hfr := hfr.tr (kjR1 hq)
        refine lv_iinc (k := 0) (v := nI (i + 1)) (lv' := [(4, .int (nI (i + 1))), (0, .ref mo), (1, .int (nI a)), (2, .int (nI kb)), (3, .int vz)]) hx hb d_Model_setByte_55 hl rfl (i_inc i) (by decide) rfl (fun ls hl => ?_)
        refine lv_goto (tgt := 3) hx hb d_Model_setByte_58 (by decide) ?_
        have hl : lv_has ls 5 [(4, .int (nI (i + 1))), (0, .ref mo), (1, .int (nI a)), (2, .int (nI kb)), (3, .int vz)] := lv_sub hl [0, 1, 2, 3, 4] rfl
        exact ih (i + 1) _ _ ls _ (by omega) hfr hm hF hl
      refine lv_iinc (k := 0) (v := nI (i + 1)) (lv' := [(4, .int (nI (i + 1))), (0, .ref mo), (1, .int (nI a)), (2, .int (nI kb)), (3, .int vz)]) hx hb d_Model_setByte_55 hl rfl (i_inc i) (by decide) rfl (fun ls hl => ?_)
      refine lv_goto (tgt := 3) hx hb d_Model_setByte_58 (by decide) ?_
      have hl : lv_has ls 5 [(4, .int (nI (i + 1))), (0, .ref mo), (1, .int (nI a)), (2, .int (nI kb)), (3, .int vz)] := lv_sub hl [0, 1, 2, 3, 4] rfl
      exact ih (i + 1) _ _ ls _ (by omega) hfr hm hF hl
  refine lv_iconst (v := nI 0) hx hb d_Model_setByte_0 (by decide) ?_
  refine lv_istore (lv' := [(4, .int (nI 0)), (0, .ref mo), (1, .int (nI a)), (2, .int (nI kb)), (3, .int vz)]) hx hb d_Model_setByte_1 hl (by decide) rfl (fun ls hl => ?_)
  have hl : lv_has ls 5 [(4, .int (nI 0)), (0, .ref mo), (1, .int (nI a)), (2, .int (nI kb)), (3, .int vz)] := lv_sub hl [0, 1, 2, 3, 4] rfl
  exact loop 8 0 _ _ ls _ (by omega) hfr hm hF hl
set_option maxHeartbeats 4000000 in
set_option maxRecDepth 100000 in
theorem c_Model_byteOf (l : Launch) (g : WG) (n0 : Nat → Prop) (mo a kb : Nat) (th pw td wr : Int32) (w n : Nat) (hw : WH w n) (fd : Nat → Int64) (ha : a < 170) (hkb : kb < 48) : Ctr l y_Model_byteOf (.code y_Model_byteOf prog_11_method_24_code 5 (some FieldType.int)) 2 44 0 0 n0 g [.ref mo, .int (nI a), .int (nI kb)] (fun H => MS g n0 H mo th pw td wr w n fd) (QI (fun r H H' => H' = H)) := by
  refine ctr_mk l (lv0 := [(0, .ref mo), (1, .int (nI a)), (2, .int (nI kb))]) (by decide) (Nat.le_of_ble_eq_true rfl) rfl ?_
  intro p e s m below meth c ls E hr hlk hnm hl hP
  have hx := E.1
  have hb := E.2.1
  have hK := E.2.2.2.2.2
  have hF : ∀ q ∈ ([] : List Loc), n0 q.base := fun q hq => absurd hq List.not_mem_nil
  have hm := hP
  have lp : ∀ (k : Nat) (locs : List Loc) (ls : Array Slot) (v y : Int32), k ≤ 8 → v = nI k - 1 → (∀ q ∈ locs, n0 q.base) → lv_has ls 5 [(4, .int v), (3, .int y), (0, .ref mo), (1, .int (nI a)), (2, .int (nI kb))] → W p l e { frames := 2, cells := 0, slots := 0, locals := 44 } s m [.ref mo, .int (nI a), .int (nI kb)].toArray below meth c s.heap locs 0 0 (MQ below (QcP (QI (fun r H H' => H' = H))) [.ref mo, .int (nI a), .int (nI kb)].toArray s 0 0 (fun q => n0 q)) (F0 m 6 ls []) := by
    intro k
    induction k with
    | zero =>
      intro  locs   ls   v y hk8 hv0 hF hl
      subst hv0
      refine lv_iload hx hb d_Model_byteOf_6 (lv_at hl 0 rfl) ?_
      refine lv_if_lt (tgt := 34) hx hb d_Model_byteOf_8 (by decide) (fun _ => ?_) (fun h9 => absurd (by decide) h9)
      refine lv_iload_n hx hb d_Model_byteOf_34 rfl (lv_at hl 1 rfl) ?_
      exact q_iret E hr hlk (⟨_, rfl, rfl⟩) hF d_Model_byteOf_35
    | succ k ih =>
      intro  locs   ls   v y hk8 hv0 hF hl
      rw [nI_pred] at hv0
      subst hv0
      refine lv_iload hx hb d_Model_byteOf_6 (lv_at hl 0 rfl) ?_
      refine lv_if_lt (tgt := 34) hx hb d_Model_byteOf_8 (by decide) (fun h9 => absurd h9 (nI_pos (by omega))) (fun _ => ?_)
      refine lv_iconst (v := nI 2) hx hb d_Model_byteOf_11 (by decide) ?_
      refine lv_iload_n hx hb d_Model_byteOf_12 rfl (lv_at hl 1 rfl) ?_
      refine lv_imul hx hb d_Model_byteOf_13 ?_
      refine lv_topi (fun v1 _ => ?_)
      refine lv_aload_n hx hb d_Model_byteOf_14 rfl (lv_at hl 2 rfl) ?_
      refine lv_iload_n hx hb d_Model_byteOf_15 rfl (lv_at hl 3 rfl) ?_
      refine lv_bipush (v := nI 8) hx hb d_Model_byteOf_16 (by decide) ?_
      refine lv_iload_n hx hb d_Model_byteOf_18 rfl (lv_at hl 4 rfl) ?_
      refine lv_imul hx hb d_Model_byteOf_19 ?_
      refine lv_topi (fun t9 e9 => ?_)
      obtain rfl : t9 = nI (8 * kb) := e9.trans (pk_mul _ _)
      refine lv_iload hx hb d_Model_byteOf_20 (lv_at hl 0 rfl) ?_
      refine lv_iadd hx hb d_Model_byteOf_22 ?_
      refine lv_topi (fun t9 e9 => ?_)
      obtain rfl : t9 = nI ((8 * kb) + k) := e9.trans (nI_add _ _)
      refine q_cV (rest := [.int v1]) E (c_Model_bit l g n0 mo a ((8 * kb) + k) th pw td wr w n hw  fd (by omega) (by omega) ) w_1093 w_15 w_1090 w_1092 (bw_s 29 rfl) hd_Model_bit rfl ⟨by decide, by decide⟩ (OB.recv E.2.2.2.2.2 (by rfl) hm.1) hm hF hl.1 rfl (Nat.le_of_ble_eq_true rfl) d_Model_byteOf_23 ⟨by decide, by decide⟩ (qi (fun rb H1 locs hq hF => ?_))
      obtain ⟨hbit, hq⟩ := hq
      subst hq
      refine lv_iadd hx hb d_Model_byteOf_26 ?_
      refine lv_topi (fun v2 _ => ?_)
      refine lv_istore_n (lv' := [(3, .int v2), (4, .int (nI k)), (0, .ref mo), (1, .int (nI a)), (2, .int (nI kb))]) hx hb d_Model_byteOf_27 rfl hl (by decide) rfl (fun ls hl => ?_)
      refine lv_iinc (k := 1) (v := nI k - 1) (lv' := [(4, .int (nI k - 1)), (3, .int v2), (0, .ref mo), (1, .int (nI a)), (2, .int (nI kb))]) hx hb d_Model_byteOf_28 hl rfl (i_dec _) (by decide) rfl (fun ls hl => ?_)
      refine lv_goto (tgt := 6) hx hb d_Model_byteOf_31 (by decide) ?_
      have hl : lv_has ls 5 [(4, .int (nI k - 1)), (3, .int v2), (0, .ref mo), (1, .int (nI a)), (2, .int (nI kb))] := lv_sub hl [0, 1, 2, 3, 4] rfl
      exact ih _ ls _ _ (by omega) rfl hF hl
  refine lv_iconst (v := nI 0) hx hb d_Model_byteOf_0 (by decide) ?_
  refine lv_istore_n (lv' := [(3, .int (nI 0)), (0, .ref mo), (1, .int (nI a)), (2, .int (nI kb))]) hx hb d_Model_byteOf_1 rfl hl (by decide) rfl (fun ls hl => ?_)
  refine lv_bipush (v := nI 7) hx hb d_Model_byteOf_2 (by decide) ?_
  refine lv_istore (lv' := [(4, .int (nI 7)), (3, .int (nI 0)), (0, .ref mo), (1, .int (nI a)), (2, .int (nI kb))]) hx hb d_Model_byteOf_4 hl (by decide) rfl (fun ls hl => ?_)
  have hl : lv_has ls 5 [(4, .int (nI 7)), (3, .int (nI 0)), (0, .ref mo), (1, .int (nI a)), (2, .int (nI kb))] := lv_sub hl [0, 1, 2, 3, 4] rfl
  exact lp 8 _ ls _ _ (by decide) (by decide) hF hl
set_option maxHeartbeats 4000000 in
set_option maxRecDepth 100000 in
theorem c_Model_isGreat (l : Launch) (g : WG) (n0 : Nat → Prop) (mo a : Nat) (th pw td wr : Int32) (w n : Nat) (hw : WH w n) (fd : Nat → Int64) (ha : a < 170) : Ctr l y_Model_isGreat (.code y_Model_isGreat prog_11_method_45_code 3 (some FieldType.boolean)) 3 75 0 0 n0 g [.ref mo, .int (nI a)] (fun H => MS g n0 H mo th pw td wr w n fd) (QI (fun r H H' => (r = 0 ∨ r = 1) ∧ FRM (MR mo) H H' ∧ ∃ fd', MS g n0 H' mo th pw td wr w n fd')) := by
  refine ctr_mk l (lv0 := [(0, .ref mo), (1, .int (nI a))]) (by decide) (Nat.le_of_ble_eq_true rfl) rfl ?_
  intro p e s m below meth c ls E hr hlk hnm hl hP
  have hx := E.1
  have hb := E.2.1
  have hK := E.2.2.2.2.2
  have hF : ∀ q ∈ ([] : List Loc), n0 q.base := fun q hq => absurd hq List.not_mem_nil
  have hm := hP
  have hDD := hm.2.2.2.2.2.1
  obtain ⟨hpd, hn1, hn14, hw1, hPT, hP1, hT0, hT1⟩ := wh_kP hw
  have hfr : FRM (MR mo) s.heap s.heap := FRM.rf
  have lp : ∀ (k : Nat) (H : Heap) (locs : List Loc) (ls : Array Slot) (v : Int32) (fd1 : Nat → Int64), k ≤ 14 → v = nI k - 1 → FRM (MR mo) s.heap H → MS g n0 H mo th pw td wr w n fd1 → (∀ q ∈ locs, n0 q.base) → lv_has ls 3 [(2, .int v), (0, .ref mo), (1, .int (nI a))] → W p l e { frames := 3, cells := 0, slots := 0, locals := 75 } s m [.ref mo, .int (nI a)].toArray below meth c H locs 0 0 (MQ below (QcP (QI (fun r H H' => (r = 0 ∨ r = 1) ∧ FRM (MR mo) H H' ∧ ∃ fd', MS g n0 H' mo th pw td wr w n fd'))) [.ref mo, .int (nI a)].toArray s 0 0 (fun q => n0 q)) (F0 m 21 ls []) := by
    intro k
    induction k with
    | zero =>
      intro  H   locs   ls   v   fd1 hk14 hv0 hfr hm hF hl
      subst hv0
      refine lv_iload_n hx hb d_Model_isGreat_21 rfl (lv_at hl 0 rfl) ?_
      refine lv_if_lt (tgt := 73) hx hb d_Model_isGreat_22 (by decide) (fun _ => ?_) (fun h9 => absurd (by decide) h9)
      refine lv_iconst (v := nI 0) hx hb d_Model_isGreat_73 (by decide) ?_
      exact q_zret E hr rfl hlk (⟨_, rfl, Or.inl rfl, hfr, _, hm⟩) hF d_Model_isGreat_74
    | succ k ih =>
      intro  H   locs   ls   v   fd1 hk14 hv0 hfr hm hF hl
      rw [nI_pred] at hv0
      subst hv0
      refine lv_iload_n hx hb d_Model_isGreat_21 rfl (lv_at hl 0 rfl) ?_
      refine lv_if_lt (tgt := 73) hx hb d_Model_isGreat_22 (by decide) (fun h9 => absurd h9 (nI_pos (by omega))) (fun _ => ?_)
      refine lv_aload_n hx hb d_Model_isGreat_25 rfl (lv_at hl 1 rfl) ?_
      refine lv_iload_n hx hb d_Model_isGreat_26 rfl (lv_at hl 2 rfl) ?_
      refine lv_iload_n hx hb d_Model_isGreat_27 rfl (lv_at hl 0 rfl) ?_
      refine q_cV (rest := []) E (c_Model_limb l g n0 mo a k th (nI w) (nI n) pw td wr fd1 (by omega) (by omega)) w_979 w_15 w_976 w_978 (bw_s 18 rfl) hd_Model_limb rfl ⟨by decide, by decide⟩ (OB.recv E.2.2.2.2.2 (by rfl) hm.1) (⟨hm.1, hm.2.2.2.2.1⟩) hF hl.1 rfl (Nat.le_of_ble_eq_true rfl) d_Model_isGreat_28 ⟨by decide, by decide⟩ (ql (fun v1 H1 locs hq hF => ?_))
      obtain ⟨hq, hq9⟩ := hq
      obtain rfl := hq9
      subst hq
      refine lv_aload_n hx hb d_Model_isGreat_31 rfl (lv_at hl 1 rfl) ?_
      refine lv_sipush (v := nI 147) hx hb d_Model_isGreat_32 (by decide) ?_
      refine lv_iload_n hx hb d_Model_isGreat_35 rfl (lv_at hl 0 rfl) ?_
      refine q_cV (rest := [.long (fd1 (14 * a + k))]) E (c_Model_limb l g n0 mo 147 k th (nI w) (nI n) pw td wr fd1 (by omega) (by omega)) w_979 w_15 w_976 w_978 (bw_s 18 rfl) hd_Model_limb rfl ⟨by decide, by decide⟩ (OB.recv E.2.2.2.2.2 (by rfl) hm.1) (⟨hm.1, hm.2.2.2.2.1⟩) hF hl.1 rfl (Nat.le_of_ble_eq_true rfl) d_Model_isGreat_36 ⟨by decide, by decide⟩ (ql (fun u1 H2 locs hq hF => ?_))
      obtain ⟨hq, hq9⟩ := hq
      obtain rfl := hq9
      subst hq
      refine W.lcmp hx hb d_Model_isGreat_39 ?_
      refine lv_if_eq (tgt := 67) hx hb d_Model_isGreat_40 (by decide) (fun _ => ?_) (fun _ => ?_)
      rotate_left
      · skip
        refine lv_aload_n hx hb d_Model_isGreat_43 rfl (lv_at hl 1 rfl) ?_
        refine lv_iload_n hx hb d_Model_isGreat_44 rfl (lv_at hl 2 rfl) ?_
        refine lv_iload_n hx hb d_Model_isGreat_45 rfl (lv_at hl 0 rfl) ?_
        refine q_cV (rest := []) E (c_Model_limb l g n0 mo a k th (nI w) (nI n) pw td wr fd1 (by omega) (by omega)) w_979 w_15 w_976 w_978 (bw_s 18 rfl) hd_Model_limb rfl ⟨by decide, by decide⟩ (OB.recv E.2.2.2.2.2 (by rfl) hm.1) (⟨hm.1, hm.2.2.2.2.1⟩) hF hl.1 rfl (Nat.le_of_ble_eq_true rfl) d_Model_isGreat_46 ⟨by decide, by decide⟩ (ql (fun v2 H3 locs hq hF => ?_))
        obtain ⟨hq, hq9⟩ := hq
        obtain rfl := hq9
        subst hq
        refine lv_aload_n hx hb d_Model_isGreat_49 rfl (lv_at hl 1 rfl) ?_
        refine lv_sipush (v := nI 147) hx hb d_Model_isGreat_50 (by decide) ?_
        refine lv_iload_n hx hb d_Model_isGreat_53 rfl (lv_at hl 0 rfl) ?_
        refine q_cV (rest := [.long (fd1 (14 * a + k))]) E (c_Model_limb l g n0 mo 147 k th (nI w) (nI n) pw td wr fd1 (by omega) (by omega)) w_979 w_15 w_976 w_978 (bw_s 18 rfl) hd_Model_limb rfl ⟨by decide, by decide⟩ (OB.recv E.2.2.2.2.2 (by rfl) hm.1) (⟨hm.1, hm.2.2.2.2.1⟩) hF hl.1 rfl (Nat.le_of_ble_eq_true rfl) d_Model_isGreat_54 ⟨by decide, by decide⟩ (ql (fun u2 H4 locs hq hF => ?_))
        obtain ⟨hq, hq9⟩ := hq
        obtain rfl := hq9
        subst hq
        refine W.lcmp hx hb d_Model_isGreat_57 ?_
        refine lv_if_le (tgt := 65) hx hb d_Model_isGreat_58 (by decide) (fun _ => ?_) (fun _ => ?_)
        rotate_left
        · skip
          refine lv_iconst (v := nI 1) hx hb d_Model_isGreat_61 (by decide) ?_
          refine lv_goto (tgt := 66) hx hb d_Model_isGreat_62 (by decide) ?_
          exact q_zret E hr rfl hlk (⟨_, rfl, Or.inr rfl, hfr, _, hm⟩) hF d_Model_isGreat_66
        refine lv_iconst (v := nI 0) hx hb d_Model_isGreat_65 (by decide) ?_
        exact q_zret E hr rfl hlk (⟨_, rfl, Or.inl rfl, hfr, _, hm⟩) hF d_Model_isGreat_66
      refine lv_iinc (k := 0) (v := nI k - 1) (lv' := [(2, .int (nI k - 1)), (0, .ref mo), (1, .int (nI a))]) hx hb d_Model_isGreat_67 hl rfl (i_dec _) (by decide) rfl (fun ls hl => ?_)
      refine lv_goto (tgt := 21) hx hb d_Model_isGreat_70 (by decide) ?_
      have hl : lv_has ls 3 [(2, .int (nI k - 1)), (0, .ref mo), (1, .int (nI a))] := lv_sub hl [0, 1, 2] rfl
      exact ih _ _ ls _ _ (by omega) rfl hfr hm hF hl
  refine lv_aload_n hx hb d_Model_isGreat_0 rfl (lv_at hl 0 rfl) ?_
  refine lv_sipush (v := nI 147) hx hb d_Model_isGreat_1 (by decide) ?_
  refine q_cV (rest := []) E (c_Model_zero l g n0 mo 147 th pw td wr w n hw  fd (by omega) ) w_1000 w_15 w_997 w_999 (bw_s 23 rfl) hd_Model_zero rfl ⟨by decide, by decide⟩ (OB.recv E.2.2.2.2.2 (by rfl) hm.1) hm hF hl.1 rfl (Nat.le_of_ble_eq_true rfl) d_Model_isGreat_4 ⟨by decide, by decide⟩ (qv (fun H1 locs hq hF => ?_))
  obtain ⟨hq, fd_1, hm, hpv⟩ := hq
  have hfr := hfr.tr hq
  refine lv_aload_n hx hb d_Model_isGreat_7 rfl (lv_at hl 0 rfl) ?_
  refine lv_sipush (v := nI 147) hx hb d_Model_isGreat_8 (by decide) ?_
  refine lv_sipush (v := nI 147) hx hb d_Model_isGreat_11 (by decide) ?_
  refine lv_iload_n hx hb d_Model_isGreat_14 rfl (lv_at hl 1 rfl) ?_
  refine q_cV (rest := []) E (c_Model_less l g n0 mo 147 147 a th pw td wr w n hw  fd_1 (by omega) (by omega) (by omega) ) w_1109 w_15 w_1106 w_1108 (bw_s 31 rfl) hd_Model_less rfl ⟨by decide, by decide⟩ (OB.recv E.2.2.2.2.2 (by rfl) hm.1) hm hF hl.1 rfl (Nat.le_of_ble_eq_true rfl) d_Model_isGreat_15 ⟨by decide, by decide⟩ (qv (fun H2 locs hq hF => ?_))
  obtain ⟨hq, fd_2, hm, hpv, hv⟩ := hq
  have hfr := hfr.tr (kjR hq)
  refine lv_bipush (v := nI 13) hx hb d_Model_isGreat_18 (by decide) ?_
  refine lv_istore_n (lv' := [(2, .int (nI 13)), (0, .ref mo), (1, .int (nI a))]) hx hb d_Model_isGreat_20 rfl hl (by decide) rfl (fun ls hl => ?_)
  have hl : lv_has ls 3 [(2, .int (nI 13)), (0, .ref mo), (1, .int (nI a))] := lv_sub hl [0, 1, 2] rfl
  exact lp 14 _ _ ls _ _ (by decide) (by decide) hfr hm hF hl
