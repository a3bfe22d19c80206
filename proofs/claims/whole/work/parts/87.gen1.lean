/-! contracts for any contents -/
theorem l_mask : ∀ k, k ≤ 8 → ((1 : Int64) <<< ((nI k).toInt64 &&& 63)) - 1 = lN (2 ^ k - 1) := by decide
theorem l_and (x : Int64) {k : Nat} (hk : k ≤ 8) : ∃ j, j < 2 ^ k ∧ x &&& (((1 : Int64) <<< ((nI k).toInt64 &&& 63)) - 1) = lN j := by
  refine ⟨x.toBitVec.toNat % 2 ^ k, Nat.mod_lt _ (Nat.two_pow_pos k), ?_⟩
  rw [l_mask k hk]
  apply Int64.toBitVec_inj.mp
  show x.toBitVec &&& BitVec.ofNat 64 (2 ^ k - 1) = BitVec.ofNat 64 (x.toBitVec.toNat % 2 ^ k)
  have h8 : 2 ^ k ≤ 256 := Nat.le_trans (Nat.pow_le_pow_right (by decide) hk) (by decide)
  apply BitVec.eq_of_toNat_eq
  rw [BitVec.toNat_and, BitVec.toNat_ofNat, BitVec.toNat_ofNat, Nat.mod_eq_of_lt (show 2 ^ k - 1 < 2 ^ 64 by omega), Nat.and_two_pow_sub_one_eq_mod, Nat.mod_eq_of_lt (show x.toBitVec.toNat % 2 ^ k < 2 ^ 64 from Nat.lt_of_lt_of_le (Nat.mod_lt _ (Nat.two_pow_pos k)) (by omega))]
theorem KJ.jj {g : WG} {S : Nat → Prop} {n0 : Nat → Prop} {H H' : Heap} (h : KJ g S H H') {a : Nat} (hA : J14 g n0 H a) : J14 g n0 H' a := h.j hA
theorem ob_m : ∀ p, p < 100 → nI 8 * nI p = nI (8 * p) := by decide +kernel
theorem ob_d : ∀ p, p < 100 → nI (8 * p) / nI 28 = nI (8 * p / 28) := by decide +kernel
theorem bool_n {r : Int32} (h : r = 0 ∨ r = 1) : narrow .boolean (.int r) = .int r := by rcases h with rfl | rfl <;> rfl
abbrev y_Limbs_orByte : MethodName := ⟨"KateDesk$Limbs", "orByte", "([JII)V"⟩
theorem hd_Limbs_orByte : y_Limbs_orByte.cls ≠ "java/lang/invoke/MethodHandle" ∧ y_Limbs_orByte.cls ≠ "java/lang/invoke/VarHandle" ∧ (parseMethodDescriptor y_Limbs_orByte.desc).map (fun d => d.parameters.length) = some 3 := by decide +kernel
theorem d_Limbs_orByte_0 : decode prog_5_method_10_code 0 = .ok (.bipush 8, 2) := by decide +kernel
theorem d_Limbs_orByte_2 : decode prog_5_method_10_code 2 = .ok (.iload_n 1, 1) := by decide +kernel
theorem d_Limbs_orByte_3 : decode prog_5_method_10_code 3 = .ok (.imul, 1) := by decide +kernel
theorem d_Limbs_orByte_4 : decode prog_5_method_10_code 4 = .ok (.bipush 28, 2) := by decide +kernel
theorem d_Limbs_orByte_6 : decode prog_5_method_10_code 6 = .ok (.idiv, 1) := by decide +kernel
theorem d_Limbs_orByte_7 : decode prog_5_method_10_code 7 = .ok (.istore_n 3, 1) := by decide +kernel
theorem d_Limbs_orByte_8 : decode prog_5_method_10_code 8 = .ok (.iload_n 1, 1) := by decide +kernel
theorem d_Limbs_orByte_9 : decode prog_5_method_10_code 9 = .ok (.ifCond .lt 9, 3) := by decide +kernel
theorem d_Limbs_orByte_12 : decode prog_5_method_10_code 12 = .ok (.iload_n 3, 1) := by decide +kernel
theorem d_Limbs_orByte_13 : decode prog_5_method_10_code 13 = .ok (.bipush 14, 2) := by decide +kernel
theorem d_Limbs_orByte_15 : decode prog_5_method_10_code 15 = .ok (.if_icmp .lt 4, 3) := by decide +kernel
theorem d_Limbs_orByte_18 : decode prog_5_method_10_code 18 = .ok (.return_, 1) := by decide +kernel
theorem d_Limbs_orByte_19 : decode prog_5_method_10_code 19 = .ok (.iload_n 2, 1) := by decide +kernel
theorem d_Limbs_orByte_20 : decode prog_5_method_10_code 20 = .ok (.i2l, 1) := by decide +kernel
theorem d_Limbs_orByte_21 : decode prog_5_method_10_code 21 = .ok (.bipush 8, 2) := by decide +kernel
theorem d_Limbs_orByte_23 : decode prog_5_method_10_code 23 = .ok (.iload_n 1, 1) := by decide +kernel
theorem d_Limbs_orByte_24 : decode prog_5_method_10_code 24 = .ok (.imul, 1) := by decide +kernel
theorem d_Limbs_orByte_25 : decode prog_5_method_10_code 25 = .ok (.bipush 28, 2) := by decide +kernel
theorem d_Limbs_orByte_27 : decode prog_5_method_10_code 27 = .ok (.irem, 1) := by decide +kernel
theorem d_Limbs_orByte_28 : decode prog_5_method_10_code 28 = .ok (.lshl, 1) := by decide +kernel
theorem d_Limbs_orByte_29 : decode prog_5_method_10_code 29 = .ok (.lstore 4, 2) := by decide +kernel
theorem d_Limbs_orByte_31 : decode prog_5_method_10_code 31 = .ok (.aload_n 0, 1) := by decide +kernel
theorem d_Limbs_orByte_32 : decode prog_5_method_10_code 32 = .ok (.iload_n 3, 1) := by decide +kernel
theorem d_Limbs_orByte_33 : decode prog_5_method_10_code 33 = .ok (.dup2, 1) := by decide +kernel
theorem d_Limbs_orByte_34 : decode prog_5_method_10_code 34 = .ok (.laload, 1) := by decide +kernel
theorem d_Limbs_orByte_35 : decode prog_5_method_10_code 35 = .ok (.lload 4, 2) := by decide +kernel
theorem d_Limbs_orByte_37 : decode prog_5_method_10_code 37 = .ok (.ldc2_w 23, 3) := by decide +kernel
theorem d_Limbs_orByte_40 : decode prog_5_method_10_code 40 = .ok (.land, 1) := by decide +kernel
theorem d_Limbs_orByte_41 : decode prog_5_method_10_code 41 = .ok (.lor, 1) := by decide +kernel
theorem d_Limbs_orByte_42 : decode prog_5_method_10_code 42 = .ok (.lastore, 1) := by decide +kernel
theorem d_Limbs_orByte_43 : decode prog_5_method_10_code 43 = .ok (.iload_n 3, 1) := by decide +kernel
theorem d_Limbs_orByte_44 : decode prog_5_method_10_code 44 = .ok (.iconst 1, 1) := by decide +kernel
theorem d_Limbs_orByte_45 : decode prog_5_method_10_code 45 = .ok (.iadd, 1) := by decide +kernel
theorem d_Limbs_orByte_46 : decode prog_5_method_10_code 46 = .ok (.bipush 14, 2) := by decide +kernel
theorem d_Limbs_orByte_48 : decode prog_5_method_10_code 48 = .ok (.if_icmp .ge 16, 3) := by decide +kernel
theorem d_Limbs_orByte_51 : decode prog_5_method_10_code 51 = .ok (.aload_n 0, 1) := by decide +kernel
theorem d_Limbs_orByte_52 : decode prog_5_method_10_code 52 = .ok (.iload_n 3, 1) := by decide +kernel
theorem d_Limbs_orByte_53 : decode prog_5_method_10_code 53 = .ok (.iconst 1, 1) := by decide +kernel
theorem d_Limbs_orByte_54 : decode prog_5_method_10_code 54 = .ok (.iadd, 1) := by decide +kernel
theorem d_Limbs_orByte_55 : decode prog_5_method_10_code 55 = .ok (.dup2, 1) := by decide +kernel
theorem d_Limbs_orByte_56 : decode prog_5_method_10_code 56 = .ok (.laload, 1) := by decide +kernel
theorem d_Limbs_orByte_57 : decode prog_5_method_10_code 57 = .ok (.lload 4, 2) := by decide +kernel
theorem d_Limbs_orByte_59 : decode prog_5_method_10_code 59 = .ok (.bipush 28, 2) := by decide +kernel
theorem d_Limbs_orByte_61 : decode prog_5_method_10_code 61 = .ok (.lshr, 1) := by decide +kernel
theorem d_Limbs_orByte_62 : decode prog_5_method_10_code 62 = .ok (.lor, 1) := by decide +kernel
theorem d_Limbs_orByte_63 : decode prog_5_method_10_code 63 = .ok (.lastore, 1) := by decide +kernel
theorem d_Limbs_orByte_64 : decode prog_5_method_10_code 64 = .ok (.return_, 1) := by decide +kernel
abbrev y_Row_at : MethodName := ⟨"KateDesk$Row", "at", "(I)I"⟩
theorem hd_Row_at : y_Row_at.cls ≠ "java/lang/invoke/MethodHandle" ∧ y_Row_at.cls ≠ "java/lang/invoke/VarHandle" ∧ (parseMethodDescriptor y_Row_at.desc).map (fun d => d.parameters.length) = some 1 := by decide +kernel
theorem d_Row_at_0 : decode prog_8_method_3_code 0 = .ok (.iload_n 1, 1) := by decide +kernel
theorem d_Row_at_1 : decode prog_8_method_3_code 1 = .ok (.ifCond .lt 24, 3) := by decide +kernel
theorem d_Row_at_4 : decode prog_8_method_3_code 4 = .ok (.iload_n 1, 1) := by decide +kernel
theorem d_Row_at_5 : decode prog_8_method_3_code 5 = .ok (.aload_n 0, 1) := by decide +kernel
theorem d_Row_at_6 : decode prog_8_method_3_code 6 = .ok (.getfield 15, 3) := by decide +kernel
theorem d_Row_at_9 : decode prog_8_method_3_code 9 = .ok (.if_icmp .ge 16, 3) := by decide +kernel
theorem d_Row_at_12 : decode prog_8_method_3_code 12 = .ok (.aload_n 0, 1) := by decide +kernel
theorem d_Row_at_13 : decode prog_8_method_3_code 13 = .ok (.getfield 9, 3) := by decide +kernel
theorem d_Row_at_16 : decode prog_8_method_3_code 16 = .ok (.iload_n 1, 1) := by decide +kernel
theorem d_Row_at_17 : decode prog_8_method_3_code 17 = .ok (.baload, 1) := by decide +kernel
theorem d_Row_at_18 : decode prog_8_method_3_code 18 = .ok (.sipush 255, 3) := by decide +kernel
theorem d_Row_at_21 : decode prog_8_method_3_code 21 = .ok (.iand, 1) := by decide +kernel
theorem d_Row_at_22 : decode prog_8_method_3_code 22 = .ok (.goto 4, 3) := by decide +kernel
theorem d_Row_at_25 : decode prog_8_method_3_code 25 = .ok (.iconst 0, 1) := by decide +kernel
theorem d_Row_at_26 : decode prog_8_method_3_code 26 = .ok (.ireturn, 1) := by decide +kernel
abbrev y_Curve_squareOfY : MethodName := ⟨"KateDesk$Curve", "squareOfY", "([J[J)V"⟩
theorem hd_Curve_squareOfY : y_Curve_squareOfY.cls ≠ "java/lang/invoke/MethodHandle" ∧ y_Curve_squareOfY.cls ≠ "java/lang/invoke/VarHandle" ∧ (parseMethodDescriptor y_Curve_squareOfY.desc).map (fun d => d.parameters.length) = some 2 := by decide +kernel
theorem d_Curve_squareOfY_0 : decode prog_2_method_8_code 0 = .ok (.aload_n 0, 1) := by decide +kernel
theorem d_Curve_squareOfY_1 : decode prog_2_method_8_code 1 = .ok (.getfield 39, 3) := by decide +kernel
theorem d_Curve_squareOfY_4 : decode prog_2_method_8_code 4 = .ok (.aload_n 0, 1) := by decide +kernel
theorem d_Curve_squareOfY_5 : decode prog_2_method_8_code 5 = .ok (.getfield 30, 3) := by decide +kernel
theorem d_Curve_squareOfY_8 : decode prog_2_method_8_code 8 = .ok (.aload_n 2, 1) := by decide +kernel
theorem d_Curve_squareOfY_9 : decode prog_2_method_8_code 9 = .ok (.aload_n 2, 1) := by decide +kernel
theorem d_Curve_squareOfY_10 : decode prog_2_method_8_code 10 = .ok (.invokevirtual 57, 3) := by decide +kernel
theorem d_Curve_squareOfY_13 : decode prog_2_method_8_code 13 = .ok (.aload_n 0, 1) := by decide +kernel
theorem d_Curve_squareOfY_14 : decode prog_2_method_8_code 14 = .ok (.getfield 39, 3) := by decide +kernel
theorem d_Curve_squareOfY_17 : decode prog_2_method_8_code 17 = .ok (.aload_n 0, 1) := by decide +kernel
theorem d_Curve_squareOfY_18 : decode prog_2_method_8_code 18 = .ok (.getfield 30, 3) := by decide +kernel
theorem d_Curve_squareOfY_21 : decode prog_2_method_8_code 21 = .ok (.aload_n 0, 1) := by decide +kernel
theorem d_Curve_squareOfY_22 : decode prog_2_method_8_code 22 = .ok (.getfield 30, 3) := by decide +kernel
theorem d_Curve_squareOfY_25 : decode prog_2_method_8_code 25 = .ok (.aload_n 2, 1) := by decide +kernel
theorem d_Curve_squareOfY_26 : decode prog_2_method_8_code 26 = .ok (.invokevirtual 57, 3) := by decide +kernel
theorem d_Curve_squareOfY_29 : decode prog_2_method_8_code 29 = .ok (.aload_n 0, 1) := by decide +kernel
theorem d_Curve_squareOfY_30 : decode prog_2_method_8_code 30 = .ok (.getfield 39, 3) := by decide +kernel
theorem d_Curve_squareOfY_33 : decode prog_2_method_8_code 33 = .ok (.aload_n 0, 1) := by decide +kernel
theorem d_Curve_squareOfY_34 : decode prog_2_method_8_code 34 = .ok (.getfield 33, 3) := by decide +kernel
theorem d_Curve_squareOfY_37 : decode prog_2_method_8_code 37 = .ok (.aload_n 0, 1) := by decide +kernel
theorem d_Curve_squareOfY_38 : decode prog_2_method_8_code 38 = .ok (.getfield 39, 3) := by decide +kernel
theorem d_Curve_squareOfY_41 : decode prog_2_method_8_code 41 = .ok (.getfield 85, 3) := by decide +kernel
theorem d_Curve_squareOfY_44 : decode prog_2_method_8_code 44 = .ok (.aload_n 0, 1) := by decide +kernel
theorem d_Curve_squareOfY_45 : decode prog_2_method_8_code 45 = .ok (.getfield 39, 3) := by decide +kernel
theorem d_Curve_squareOfY_48 : decode prog_2_method_8_code 48 = .ok (.getfield 85, 3) := by decide +kernel
theorem d_Curve_squareOfY_51 : decode prog_2_method_8_code 51 = .ok (.invokevirtual 68, 3) := by decide +kernel
theorem d_Curve_squareOfY_54 : decode prog_2_method_8_code 54 = .ok (.aload_n 0, 1) := by decide +kernel
theorem d_Curve_squareOfY_55 : decode prog_2_method_8_code 55 = .ok (.getfield 39, 3) := by decide +kernel
theorem d_Curve_squareOfY_58 : decode prog_2_method_8_code 58 = .ok (.aload_n 0, 1) := by decide +kernel
theorem d_Curve_squareOfY_59 : decode prog_2_method_8_code 59 = .ok (.getfield 33, 3) := by decide +kernel
theorem d_Curve_squareOfY_62 : decode prog_2_method_8_code 62 = .ok (.aload_n 0, 1) := by decide +kernel
theorem d_Curve_squareOfY_63 : decode prog_2_method_8_code 63 = .ok (.getfield 33, 3) := by decide +kernel
theorem d_Curve_squareOfY_66 : decode prog_2_method_8_code 66 = .ok (.aload_n 0, 1) := by decide +kernel
theorem d_Curve_squareOfY_67 : decode prog_2_method_8_code 67 = .ok (.getfield 33, 3) := by decide +kernel
theorem d_Curve_squareOfY_70 : decode prog_2_method_8_code 70 = .ok (.invokevirtual 68, 3) := by decide +kernel
theorem d_Curve_squareOfY_73 : decode prog_2_method_8_code 73 = .ok (.aload_n 0, 1) := by decide +kernel
theorem d_Curve_squareOfY_74 : decode prog_2_method_8_code 74 = .ok (.getfield 39, 3) := by decide +kernel
theorem d_Curve_squareOfY_77 : decode prog_2_method_8_code 77 = .ok (.aload_n 1, 1) := by decide +kernel
theorem d_Curve_squareOfY_78 : decode prog_2_method_8_code 78 = .ok (.aload_n 0, 1) := by decide +kernel
theorem d_Curve_squareOfY_79 : decode prog_2_method_8_code 79 = .ok (.getfield 30, 3) := by decide +kernel
theorem d_Curve_squareOfY_82 : decode prog_2_method_8_code 82 = .ok (.aload_n 0, 1) := by decide +kernel
theorem d_Curve_squareOfY_83 : decode prog_2_method_8_code 83 = .ok (.getfield 33, 3) := by decide +kernel
theorem d_Curve_squareOfY_86 : decode prog_2_method_8_code 86 = .ok (.invokevirtual 68, 3) := by decide +kernel
theorem d_Curve_squareOfY_89 : decode prog_2_method_8_code 89 = .ok (.return_, 1) := by decide +kernel
set_option maxHeartbeats 4000000 in
set_option maxRecDepth 100000 in
theorem v_Row_at (l : Launch) (g : WG) (n0 : Nat → Prop) (o ce t : Nat) (i : Int32) (ht : t ≤ 96) : Ctr l y_Row_at (.code y_Row_at prog_8_method_3_code 2 (some FieldType.int)) 0 0 0 0 n0 g [.ref o, .int i] (fun H => OB g H o 3 [.ref ce, .int (nI t)] ∧ ∃ f, AB g H ce 96 f) (QI (fun r H H' => (∃ v : Int32, r = v &&& 255) ∧ H' = H)) := by
  refine ctr_mk l (lv0 := [(0, .ref o), (1, .int i)]) (by decide) (Nat.le_of_ble_eq_true rfl) rfl ?_
  intro p e s m below meth c ls E hr hlk hnm hl hP
  have hx := E.1
  have hb := E.2.1
  have hK := E.2.2.2.2.2
  have hF : ∀ q ∈ ([] : List Loc), n0 q.base := fun q hq => absurd hq List.not_mem_nil
  obtain ⟨ho, f, hf⟩ := hP
  refine lv_iload_n hx hb d_Row_at_0 rfl (lv_at hl 1 rfl) ?_
  refine lv_if_lt (tgt := 25) hx hb d_Row_at_1 (by decide) (fun h1 => ?_) (fun h1 => ?_)
  · skip
    refine lv_iconst (v := nI 0) hx hb d_Row_at_25 (by decide) ?_
    exact q_iret E hr hlk (⟨_, rfl, ⟨0, by decide⟩, rfl⟩) hF d_Row_at_26
  refine lv_iload_n hx hb d_Row_at_4 rfl (lv_at hl 1 rfl) ?_
  refine lv_aload_n hx hb d_Row_at_5 rfl (lv_at hl 0 rfl) ?_
  refine q_get (C := "KateDesk$Row") (T := T_Row) (N := 2) (ci := 3) E ho in_Row rfl 1 (by decide) w_72 rfl rfl d_Row_at_6 ?_
  refine lv_icmp_ge (tgt := 25) hx hb d_Row_at_9 (by decide) (fun h2 => ?_) (fun h2 => ?_)
  · skip
    refine lv_iconst (v := nI 0) hx hb d_Row_at_25 (by decide) ?_
    exact q_iret E hr hlk (⟨_, rfl, ⟨0, by decide⟩, rfl⟩) hF d_Row_at_26
  obtain ⟨j, hj, rfl⟩ := nI_of h1
  have hjt : j < t := Nat.not_le.mp (fun h => h2 (nI_le h (by omega)))
  refine lv_aload_n hx hb d_Row_at_12 rfl (lv_at hl 0 rfl) ?_
  refine q_get (C := "KateDesk$Row") (T := T_Row) (N := 2) (ci := 3) E ho in_Row rfl 0 (by decide) w_71 rfl rfl d_Row_at_13 ?_
  refine lv_iload_n hx hb d_Row_at_16 rfl (lv_at hl 1 rfl) ?_
  refine q_bald E hf j rfl (by omega) (by decide) d_Row_at_17 ?_
  refine lv_sipush (v := nI 255) hx hb d_Row_at_18 (by decide) ?_
  refine lv_iand hx hb d_Row_at_21 ?_
  refine lv_goto (tgt := 26) hx hb d_Row_at_22 (by decide) ?_
  exact q_iret E hr hlk (⟨_, rfl, ⟨f j, rfl⟩, rfl⟩) hF d_Row_at_26
set_option maxHeartbeats 4000000 in
set_option maxRecDepth 100000 in
theorem v_Limbs_orByte (l : Launch) (g : WG) (n0 : Nat → Prop) (a p9 : Nat) (v9 : Int32) (hp9 : p9 < 100) : Ctr l y_Limbs_orByte (.code y_Limbs_orByte prog_5_method_10_code 6 none) 0 0 0 0 n0 g [.ref a, .int (nI p9), .int v9] (fun H => J14 g n0 H a) (QV (fun H H' => KJ g (fun q => q = a) H H')) := by
  refine ctr_mk l (lv0 := [(0, .ref a), (1, .int (nI p9)), (2, .int v9)]) (by decide) (Nat.le_of_ble_eq_true rfl) rfl ?_
  intro p e s m below meth c ls E hr hlk hnm hl hP
  have hx := E.1
  have hb := E.2.1
  have hK := E.2.2.2.2.2
  have hF : ∀ q ∈ ([] : List Loc), n0 q.base := fun q hq => absurd hq List.not_mem_nil
  refine lv_bipush (v := nI 8) hx hb d_Limbs_orByte_0 (by decide) ?_
  refine lv_iload_n hx hb d_Limbs_orByte_2 rfl (lv_at hl 1 rfl) ?_
  refine lv_imul hx hb d_Limbs_orByte_3 ?_
  refine lv_topi (fun t9 e9 => ?_)
  obtain rfl : t9 = nI (8 * p9) := e9.trans (ob_m p9 hp9)
  refine lv_bipush (v := nI 28) hx hb d_Limbs_orByte_4 (by decide) ?_
  refine lv_idiv hx hb d_Limbs_orByte_6 (by decide) ?_
  refine lv_topi (fun t9 e9 => ?_)
  obtain rfl : t9 = nI (8 * p9 / 28) := e9.trans (ob_d p9 hp9)
  refine lv_istore_n (lv' := [(3, .int (nI (8 * p9 / 28))), (0, .ref a), (1, .int (nI p9)), (2, .int v9)]) hx hb d_Limbs_orByte_7 rfl hl (by decide) rfl (fun ls hl => ?_)
  refine lv_iload_n hx hb d_Limbs_orByte_8 rfl (lv_at hl 2 rfl) ?_
  refine lv_if_lt (tgt := 18) hx hb d_Limbs_orByte_9 (by decide) (fun h9 => absurd h9 (nI_pos (by omega))) (fun _ => ?_)
  refine lv_iload_n hx hb d_Limbs_orByte_12 rfl (lv_at hl 0 rfl) ?_
  refine lv_bipush (v := nI 14) hx hb d_Limbs_orByte_13 (by decide) ?_
  refine lv_icmp_lt (tgt := 19) hx hb d_Limbs_orByte_15 (by decide) (fun h1 => ?_) (fun h1 => ?_)
  rotate_left
  · skip
    exact q_vret E hr hlk (⟨rfl, KJ.rf⟩) hF d_Limbs_orByte_18
  have hl14 : 8 * p9 / 28 < 14 := (nI_ltI (by omega) (by decide)).mp h1
  refine lv_iload_n hx hb d_Limbs_orByte_19 rfl (lv_at hl 3 rfl) ?_
  refine lv_i2l (v := v9.toInt64) hx hb d_Limbs_orByte_20 rfl ?_
  refine lv_bipush (v := nI 8) hx hb d_Limbs_orByte_21 (by decide) ?_
  refine lv_iload_n hx hb d_Limbs_orByte_23 rfl (lv_at hl 2 rfl) ?_
  refine lv_imul hx hb d_Limbs_orByte_24 ?_
  refine lv_bipush (v := nI 28) hx hb d_Limbs_orByte_25 (by decide) ?_
  refine lv_irem hx hb d_Limbs_orByte_27 (by decide) ?_
  refine lv_lshl (v := v9.toInt64 <<< ((((nI 8) * (nI p9)) - ((nI 8) * (nI p9)) / (nI 28) * (nI 28)).toInt64 &&& 63)) hx hb d_Limbs_orByte_28 rfl ?_
  refine lv_topl (fun v8 _ => ?_)
  refine lv_lstore (lv' := [(4, .long v8), (3, .int (nI (8 * p9 / 28))), (0, .ref a), (1, .int (nI p9)), (2, .int v9)]) hx hb d_Limbs_orByte_29 hl (by decide) rfl (fun ls hl => ?_)
  refine lv_aload_n hx hb d_Limbs_orByte_31 rfl (lv_at hl 2 rfl) ?_
  refine lv_iload_n hx hb d_Limbs_orByte_32 rfl (lv_at hl 1 rfl) ?_
  refine lv_dup2_11 hx hb d_Limbs_orByte_33 rfl rfl ?_
  refine q_laldS E hP (8 * p9 / 28) rfl hl14 d_Limbs_orByte_34 (fun v1 => ?_)
  refine lv_lload hx hb d_Limbs_orByte_35 (lv_at hl 0 rfl) ?_
  refine lv_ldc2 (v := 268435455) hx hb E.2.2.2.1 (E.2.2.2.2.1 _ w_509) d_Limbs_orByte_37 ?_
  refine lv_land hx hb d_Limbs_orByte_40 ?_
  refine lv_lor hx hb d_Limbs_orByte_41 ?_
  refine lv_topl (fun v7 _ => ?_)
  refine q_lastS E hP hF (8 * p9 / 28) rfl hl14 d_Limbs_orByte_42 (fun H1 locs hq hF => ?_)
  have hk := hq
  refine lv_iload_n hx hb d_Limbs_orByte_43 rfl (lv_at hl 1 rfl) ?_
  refine lv_iconst (v := nI 1) hx hb d_Limbs_orByte_44 (by decide) ?_
  refine lv_iadd hx hb d_Limbs_orByte_45 ?_
  refine lv_topi (fun t9 e9 => ?_)
  obtain rfl : t9 = nI (8 * p9 / 28 + 1) := e9.trans (nI_add _ _)
  refine lv_bipush (v := nI 14) hx hb d_Limbs_orByte_46 (by decide) ?_
  refine lv_icmp_ge (tgt := 64) hx hb d_Limbs_orByte_48 (by decide) (fun h3 => ?_) (fun h3 => ?_)
  rotate_left
  · skip
    have hj3 : 8 * p9 / 28 + 1 < 14 := Nat.not_le.mp (fun h => h3 (nI_le h (by omega)))
    refine lv_aload_n hx hb d_Limbs_orByte_51 rfl (lv_at hl 2 rfl) ?_
    refine lv_iload_n hx hb d_Limbs_orByte_52 rfl (lv_at hl 1 rfl) ?_
    refine lv_iconst (v := nI 1) hx hb d_Limbs_orByte_53 (by decide) ?_
    refine lv_iadd hx hb d_Limbs_orByte_54 ?_
    refine lv_dup2_11 hx hb d_Limbs_orByte_55 rfl rfl ?_
    refine q_laldS E (hk.j hP) (8 * p9 / 28 + 1) (nI_add _ _) hj3 d_Limbs_orByte_56 (fun v2 => ?_)
    refine lv_lload hx hb d_Limbs_orByte_57 (lv_at hl 0 rfl) ?_
    refine lv_bipush (v := nI 28) hx hb d_Limbs_orByte_59 (by decide) ?_
    refine lv_lshr (v := v8 >>> ((nI 28).toInt64 &&& 63)) hx hb d_Limbs_orByte_61 rfl ?_
    refine lv_lor hx hb d_Limbs_orByte_62 ?_
    refine lv_topl (fun v6 _ => ?_)
    refine q_lastS E (hk.j hP) hF (8 * p9 / 28 + 1) (nI_add _ _) hj3 d_Limbs_orByte_63 (fun H2 locs hq hF => ?_)
    exact q_vret E hr hlk (⟨rfl, hk.tr hq⟩) hF d_Limbs_orByte_64
  exact q_vret E hr hlk (⟨rfl, hk⟩) hF d_Limbs_orByte_64