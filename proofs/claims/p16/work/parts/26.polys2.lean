abbrev y_Polys_evaluate : MethodName := ⟨"KateDesk$Polynomials", "evaluate", "([[JII)V"⟩
theorem hd_Polys_evaluate : y_Polys_evaluate.cls ≠ "java/lang/invoke/MethodHandle" ∧ y_Polys_evaluate.cls ≠ "java/lang/invoke/VarHandle" ∧ (parseMethodDescriptor y_Polys_evaluate.desc).map (fun d => d.parameters.length) = some 3 := by decide +kernel
theorem d_Polys_evaluate_0 : decode prog_7_method_6_code 0 = .ok (.aload_n 0, 1) := by decide +kernel
theorem d_Polys_evaluate_1 : decode prog_7_method_6_code 1 = .ok (.aload_n 1, 1) := by decide +kernel
theorem d_Polys_evaluate_2 : decode prog_7_method_6_code 2 = .ok (.iload_n 2, 1) := by decide +kernel
theorem d_Polys_evaluate_3 : decode prog_7_method_6_code 3 = .ok (.iload_n 3, 1) := by decide +kernel
theorem d_Polys_evaluate_4 : decode prog_7_method_6_code 4 = .ok (.invokevirtual 78, 3) := by decide +kernel
theorem d_Polys_evaluate_7 : decode prog_7_method_6_code 7 = .ok (.iconst 0, 1) := by decide +kernel
theorem d_Polys_evaluate_8 : decode prog_7_method_6_code 8 = .ok (.istore 4, 2) := by decide +kernel
theorem d_Polys_evaluate_10 : decode prog_7_method_6_code 10 = .ok (.iload 4, 2) := by decide +kernel
theorem d_Polys_evaluate_12 : decode prog_7_method_6_code 12 = .ok (.iconst 1, 1) := by decide +kernel
theorem d_Polys_evaluate_13 : decode prog_7_method_6_code 13 = .ok (.iload_n 3, 1) := by decide +kernel
theorem d_Polys_evaluate_14 : decode prog_7_method_6_code 14 = .ok (.ishl, 1) := by decide +kernel
theorem d_Polys_evaluate_15 : decode prog_7_method_6_code 15 = .ok (.if_icmp .ge 25, 3) := by decide +kernel
theorem d_Polys_evaluate_18 : decode prog_7_method_6_code 18 = .ok (.aload_n 1, 1) := by decide +kernel
theorem d_Polys_evaluate_19 : decode prog_7_method_6_code 19 = .ok (.iload_n 2, 1) := by decide +kernel
theorem d_Polys_evaluate_20 : decode prog_7_method_6_code 20 = .ok (.iload 4, 2) := by decide +kernel
theorem d_Polys_evaluate_22 : decode prog_7_method_6_code 22 = .ok (.iadd, 1) := by decide +kernel
theorem d_Polys_evaluate_23 : decode prog_7_method_6_code 23 = .ok (.aaload, 1) := by decide +kernel
theorem d_Polys_evaluate_24 : decode prog_7_method_6_code 24 = .ok (.aload_n 0, 1) := by decide +kernel
theorem d_Polys_evaluate_25 : decode prog_7_method_6_code 25 = .ok (.getfield 35, 3) := by decide +kernel
theorem d_Polys_evaluate_28 : decode prog_7_method_6_code 28 = .ok (.iload 4, 2) := by decide +kernel
theorem d_Polys_evaluate_30 : decode prog_7_method_6_code 30 = .ok (.aaload, 1) := by decide +kernel
theorem d_Polys_evaluate_31 : decode prog_7_method_6_code 31 = .ok (.invokestatic 75, 3) := by decide +kernel
theorem d_Polys_evaluate_34 : decode prog_7_method_6_code 34 = .ok (.iinc 4 1, 3) := by decide +kernel
theorem d_Polys_evaluate_37 : decode prog_7_method_6_code 37 = .ok (.goto (-27), 3) := by decide +kernel
theorem d_Polys_evaluate_40 : decode prog_7_method_6_code 40 = .ok (.return_, 1) := by decide +kernel
abbrev y_Polys_interpolate : MethodName := ⟨"KateDesk$Polynomials", "interpolate", "([[JII)V"⟩
theorem hd_Polys_interpolate : y_Polys_interpolate.cls ≠ "java/lang/invoke/MethodHandle" ∧ y_Polys_interpolate.cls ≠ "java/lang/invoke/VarHandle" ∧ (parseMethodDescriptor y_Polys_interpolate.desc).map (fun d => d.parameters.length) = some 3 := by decide +kernel
theorem d_Polys_interpolate_0 : decode prog_7_method_7_code 0 = .ok (.iconst 1, 1) := by decide +kernel
theorem d_Polys_interpolate_1 : decode prog_7_method_7_code 1 = .ok (.iload_n 3, 1) := by decide +kernel
theorem d_Polys_interpolate_2 : decode prog_7_method_7_code 2 = .ok (.ishl, 1) := by decide +kernel
theorem d_Polys_interpolate_3 : decode prog_7_method_7_code 3 = .ok (.istore 4, 2) := by decide +kernel
theorem d_Polys_interpolate_5 : decode prog_7_method_7_code 5 = .ok (.aload_n 0, 1) := by decide +kernel
theorem d_Polys_interpolate_6 : decode prog_7_method_7_code 6 = .ok (.aload_n 1, 1) := by decide +kernel
theorem d_Polys_interpolate_7 : decode prog_7_method_7_code 7 = .ok (.iload_n 2, 1) := by decide +kernel
theorem d_Polys_interpolate_8 : decode prog_7_method_7_code 8 = .ok (.iload_n 3, 1) := by decide +kernel
theorem d_Polys_interpolate_9 : decode prog_7_method_7_code 9 = .ok (.invokevirtual 78, 3) := by decide +kernel
theorem d_Polys_interpolate_12 : decode prog_7_method_7_code 12 = .ok (.aload_n 0, 1) := by decide +kernel
theorem d_Polys_interpolate_13 : decode prog_7_method_7_code 13 = .ok (.iload_n 3, 1) := by decide +kernel
theorem d_Polys_interpolate_14 : decode prog_7_method_7_code 14 = .ok (.invokevirtual 82, 3) := by decide +kernel
theorem d_Polys_interpolate_17 : decode prog_7_method_7_code 17 = .ok (.iconst 0, 1) := by decide +kernel
theorem d_Polys_interpolate_18 : decode prog_7_method_7_code 18 = .ok (.istore 5, 2) := by decide +kernel
theorem d_Polys_interpolate_20 : decode prog_7_method_7_code 20 = .ok (.iload 5, 2) := by decide +kernel
theorem d_Polys_interpolate_22 : decode prog_7_method_7_code 22 = .ok (.iload 4, 2) := by decide +kernel
theorem d_Polys_interpolate_24 : decode prog_7_method_7_code 24 = .ok (.if_icmp .ge 41, 3) := by decide +kernel
theorem d_Polys_interpolate_27 : decode prog_7_method_7_code 27 = .ok (.aload_n 0, 1) := by decide +kernel
theorem d_Polys_interpolate_28 : decode prog_7_method_7_code 28 = .ok (.getfield 38, 3) := by decide +kernel
theorem d_Polys_interpolate_31 : decode prog_7_method_7_code 31 = .ok (.aload_n 1, 1) := by decide +kernel
theorem d_Polys_interpolate_32 : decode prog_7_method_7_code 32 = .ok (.iload_n 2, 1) := by decide +kernel
theorem d_Polys_interpolate_33 : decode prog_7_method_7_code 33 = .ok (.iload 5, 2) := by decide +kernel
theorem d_Polys_interpolate_35 : decode prog_7_method_7_code 35 = .ok (.iadd, 1) := by decide +kernel
theorem d_Polys_interpolate_36 : decode prog_7_method_7_code 36 = .ok (.aaload, 1) := by decide +kernel
theorem d_Polys_interpolate_37 : decode prog_7_method_7_code 37 = .ok (.aload_n 0, 1) := by decide +kernel
theorem d_Polys_interpolate_38 : decode prog_7_method_7_code 38 = .ok (.getfield 35, 3) := by decide +kernel
theorem d_Polys_interpolate_41 : decode prog_7_method_7_code 41 = .ok (.iload 4, 2) := by decide +kernel
theorem d_Polys_interpolate_43 : decode prog_7_method_7_code 43 = .ok (.iload 5, 2) := by decide +kernel
theorem d_Polys_interpolate_45 : decode prog_7_method_7_code 45 = .ok (.isub, 1) := by decide +kernel
theorem d_Polys_interpolate_46 : decode prog_7_method_7_code 46 = .ok (.iload 4, 2) := by decide +kernel
theorem d_Polys_interpolate_48 : decode prog_7_method_7_code 48 = .ok (.iconst 1, 1) := by decide +kernel
theorem d_Polys_interpolate_49 : decode prog_7_method_7_code 49 = .ok (.isub, 1) := by decide +kernel
theorem d_Polys_interpolate_50 : decode prog_7_method_7_code 50 = .ok (.iand, 1) := by decide +kernel
theorem d_Polys_interpolate_51 : decode prog_7_method_7_code 51 = .ok (.aaload, 1) := by decide +kernel
theorem d_Polys_interpolate_52 : decode prog_7_method_7_code 52 = .ok (.aload_n 0, 1) := by decide +kernel
theorem d_Polys_interpolate_53 : decode prog_7_method_7_code 53 = .ok (.getfield 27, 3) := by decide +kernel
theorem d_Polys_interpolate_56 : decode prog_7_method_7_code 56 = .ok (.invokevirtual 69, 3) := by decide +kernel
theorem d_Polys_interpolate_59 : decode prog_7_method_7_code 59 = .ok (.iinc 5 1, 3) := by decide +kernel
theorem d_Polys_interpolate_62 : decode prog_7_method_7_code 62 = .ok (.goto (-42), 3) := by decide +kernel
theorem d_Polys_interpolate_65 : decode prog_7_method_7_code 65 = .ok (.return_, 1) := by decide +kernel
abbrev y_Polys_basis : MethodName := ⟨"KateDesk$Polynomials", "basis", "([JII[J)V"⟩
theorem hd_Polys_basis : y_Polys_basis.cls ≠ "java/lang/invoke/MethodHandle" ∧ y_Polys_basis.cls ≠ "java/lang/invoke/VarHandle" ∧ (parseMethodDescriptor y_Polys_basis.desc).map (fun d => d.parameters.length) = some 4 := by decide +kernel
theorem d_Polys_basis_0 : decode prog_7_method_9_code 0 = .ok (.iconst 1, 1) := by decide +kernel
theorem d_Polys_basis_1 : decode prog_7_method_9_code 1 = .ok (.iload_n 2, 1) := by decide +kernel
theorem d_Polys_basis_2 : decode prog_7_method_9_code 2 = .ok (.ishl, 1) := by decide +kernel
theorem d_Polys_basis_3 : decode prog_7_method_9_code 3 = .ok (.istore 5, 2) := by decide +kernel
theorem d_Polys_basis_5 : decode prog_7_method_9_code 5 = .ok (.aload_n 0, 1) := by decide +kernel
theorem d_Polys_basis_6 : decode prog_7_method_9_code 6 = .ok (.aload_n 0, 1) := by decide +kernel
theorem d_Polys_basis_7 : decode prog_7_method_9_code 7 = .ok (.getfield 21, 3) := by decide +kernel
theorem d_Polys_basis_10 : decode prog_7_method_9_code 10 = .ok (.iload_n 2, 1) := by decide +kernel
theorem d_Polys_basis_11 : decode prog_7_method_9_code 11 = .ok (.invokevirtual 85, 3) := by decide +kernel
theorem d_Polys_basis_14 : decode prog_7_method_9_code 14 = .ok (.aload_n 0, 1) := by decide +kernel
theorem d_Polys_basis_15 : decode prog_7_method_9_code 15 = .ok (.getfield 24, 3) := by decide +kernel
theorem d_Polys_basis_18 : decode prog_7_method_9_code 18 = .ok (.aload 4, 2) := by decide +kernel
theorem d_Polys_basis_20 : decode prog_7_method_9_code 20 = .ok (.invokestatic 75, 3) := by decide +kernel
theorem d_Polys_basis_23 : decode prog_7_method_9_code 23 = .ok (.iload_n 3, 1) := by decide +kernel
theorem d_Polys_basis_24 : decode prog_7_method_9_code 24 = .ok (.istore 6, 2) := by decide +kernel
theorem d_Polys_basis_26 : decode prog_7_method_9_code 26 = .ok (.iload 6, 2) := by decide +kernel
theorem d_Polys_basis_28 : decode prog_7_method_9_code 28 = .ok (.iload 5, 2) := by decide +kernel
theorem d_Polys_basis_30 : decode prog_7_method_9_code 30 = .ok (.if_icmp .ge 28, 3) := by decide +kernel
theorem d_Polys_basis_33 : decode prog_7_method_9_code 33 = .ok (.aload_n 0, 1) := by decide +kernel
theorem d_Polys_basis_34 : decode prog_7_method_9_code 34 = .ok (.getfield 38, 3) := by decide +kernel
theorem d_Polys_basis_37 : decode prog_7_method_9_code 37 = .ok (.aload_n 0, 1) := by decide +kernel
theorem d_Polys_basis_38 : decode prog_7_method_9_code 38 = .ok (.getfield 24, 3) := by decide +kernel
theorem d_Polys_basis_41 : decode prog_7_method_9_code 41 = .ok (.aload_n 0, 1) := by decide +kernel
theorem d_Polys_basis_42 : decode prog_7_method_9_code 42 = .ok (.getfield 24, 3) := by decide +kernel
theorem d_Polys_basis_45 : decode prog_7_method_9_code 45 = .ok (.aload_n 0, 1) := by decide +kernel
theorem d_Polys_basis_46 : decode prog_7_method_9_code 46 = .ok (.getfield 21, 3) := by decide +kernel
theorem d_Polys_basis_49 : decode prog_7_method_9_code 49 = .ok (.invokevirtual 69, 3) := by decide +kernel
theorem d_Polys_basis_52 : decode prog_7_method_9_code 52 = .ok (.iinc 6 1, 3) := by decide +kernel
theorem d_Polys_basis_55 : decode prog_7_method_9_code 55 = .ok (.goto (-29), 3) := by decide +kernel
theorem d_Polys_basis_58 : decode prog_7_method_9_code 58 = .ok (.aload_n 0, 1) := by decide +kernel
theorem d_Polys_basis_59 : decode prog_7_method_9_code 59 = .ok (.iload_n 2, 1) := by decide +kernel
theorem d_Polys_basis_60 : decode prog_7_method_9_code 60 = .ok (.invokevirtual 82, 3) := by decide +kernel
theorem d_Polys_basis_63 : decode prog_7_method_9_code 63 = .ok (.aload_n 1, 1) := by decide +kernel
theorem d_Polys_basis_64 : decode prog_7_method_9_code 64 = .ok (.invokestatic 65, 3) := by decide +kernel
theorem d_Polys_basis_67 : decode prog_7_method_9_code 67 = .ok (.iconst 0, 1) := by decide +kernel
theorem d_Polys_basis_68 : decode prog_7_method_9_code 68 = .ok (.istore 6, 2) := by decide +kernel
theorem d_Polys_basis_70 : decode prog_7_method_9_code 70 = .ok (.iload 6, 2) := by decide +kernel
theorem d_Polys_basis_72 : decode prog_7_method_9_code 72 = .ok (.iload 5, 2) := by decide +kernel
theorem d_Polys_basis_74 : decode prog_7_method_9_code 74 = .ok (.if_icmp .ge 35, 3) := by decide +kernel
theorem d_Polys_basis_77 : decode prog_7_method_9_code 77 = .ok (.aload_n 0, 1) := by decide +kernel
theorem d_Polys_basis_78 : decode prog_7_method_9_code 78 = .ok (.getfield 38, 3) := by decide +kernel
theorem d_Polys_basis_81 : decode prog_7_method_9_code 81 = .ok (.aload_n 1, 1) := by decide +kernel
theorem d_Polys_basis_82 : decode prog_7_method_9_code 82 = .ok (.aload_n 1, 1) := by decide +kernel
theorem d_Polys_basis_83 : decode prog_7_method_9_code 83 = .ok (.aload_n 0, 1) := by decide +kernel
theorem d_Polys_basis_84 : decode prog_7_method_9_code 84 = .ok (.getfield 24, 3) := by decide +kernel
theorem d_Polys_basis_87 : decode prog_7_method_9_code 87 = .ok (.invokevirtual 69, 3) := by decide +kernel
theorem d_Polys_basis_90 : decode prog_7_method_9_code 90 = .ok (.aload_n 0, 1) := by decide +kernel
theorem d_Polys_basis_91 : decode prog_7_method_9_code 91 = .ok (.getfield 38, 3) := by decide +kernel
theorem d_Polys_basis_94 : decode prog_7_method_9_code 94 = .ok (.aload_n 1, 1) := by decide +kernel
theorem d_Polys_basis_95 : decode prog_7_method_9_code 95 = .ok (.aload_n 1, 1) := by decide +kernel
theorem d_Polys_basis_96 : decode prog_7_method_9_code 96 = .ok (.aload_n 0, 1) := by decide +kernel
theorem d_Polys_basis_97 : decode prog_7_method_9_code 97 = .ok (.getfield 15, 3) := by decide +kernel
theorem d_Polys_basis_100 : decode prog_7_method_9_code 100 = .ok (.invokevirtual 72, 3) := by decide +kernel
theorem d_Polys_basis_103 : decode prog_7_method_9_code 103 = .ok (.iinc 6 1, 3) := by decide +kernel
theorem d_Polys_basis_106 : decode prog_7_method_9_code 106 = .ok (.goto (-36), 3) := by decide +kernel
theorem d_Polys_basis_109 : decode prog_7_method_9_code 109 = .ok (.aload_n 0, 1) := by decide +kernel
theorem d_Polys_basis_110 : decode prog_7_method_9_code 110 = .ok (.getfield 38, 3) := by decide +kernel
theorem d_Polys_basis_113 : decode prog_7_method_9_code 113 = .ok (.aload_n 1, 1) := by decide +kernel
theorem d_Polys_basis_114 : decode prog_7_method_9_code 114 = .ok (.aload_n 1, 1) := by decide +kernel
theorem d_Polys_basis_115 : decode prog_7_method_9_code 115 = .ok (.aload_n 0, 1) := by decide +kernel
theorem d_Polys_basis_116 : decode prog_7_method_9_code 116 = .ok (.getfield 27, 3) := by decide +kernel
theorem d_Polys_basis_119 : decode prog_7_method_9_code 119 = .ok (.invokevirtual 69, 3) := by decide +kernel
theorem d_Polys_basis_122 : decode prog_7_method_9_code 122 = .ok (.return_, 1) := by decide +kernel
set_option maxHeartbeats 4000000 in
set_option maxRecDepth 100000 in
theorem c_Polys_evaluate (l : Launch) (g : WG) (n0 : Nat → Prop) (o fo vl : Nat) (F : Nat → Nat) (mi : Int64) (Y V : Nat → Nat) (rw : Nat) (Sc : Nat → Nat) (fr k : Nat) (hk5 : k < 5) (hfr : fr + 2 ^ k ≤ 32) : Ctr l y_Polys_evaluate (.code y_Polys_evaluate prog_7_method_6_code 5 none) 6 208 0 0 n0 g [.ref o, .ref rw, .int (nI fr), .int (nI k)] (fun H => PO g n0 H o fo vl F mi Y V ∧ RS g n0 H rw 32 Sc) (QV (fun H H' => KJ g (fun q => n0 q) H H')) := by
  refine ctr_mk l (lv0 := [(0, .ref o), (1, .ref rw), (2, .int (nI fr)), (3, .int (nI k))]) (by decide) (Nat.le_of_ble_eq_true rfl) rfl ?_
  intro p e s m below meth c ls E hr hlk hnm hl hP
  have hx := E.1
  have hb := E.2.1
  have hK := E.2.2.2.2.2
  have hF : ∀ q ∈ ([] : List Loc), n0 q.base := fun q hq => absurd hq List.not_mem_nil
  obtain ⟨hpo, hrs⟩ := hP
  have hk : KJ g (fun q => n0 q) s.heap s.heap := KJ.rf
  obtain ⟨hp1, hp16⟩ := pw16 hk5
  refine lv_aload_n hx hb d_Polys_evaluate_0 rfl (lv_at hl 0 rfl) ?_
  refine lv_aload_n hx hb d_Polys_evaluate_1 rfl (lv_at hl 1 rfl) ?_
  refine lv_iload_n hx hb d_Polys_evaluate_2 rfl (lv_at hl 2 rfl) ?_
  refine lv_iload_n hx hb d_Polys_evaluate_3 rfl (lv_at hl 3 rfl) ?_
  refine q_cV (rest := []) E (c_Polys_findValues l g n0 o fo vl F mi Y V rw Sc fr k hk5 hfr) w_878 w_14 w_875 w_877 (bw_s 13 rfl) hd_Polys_findValues rfl ⟨by decide, by decide⟩ (OB.recv E.2.2.2.2.2 (by rfl) ((hk.po hK hpo).1)) (⟨(hk.po hK hpo), hk.rs hK hrs⟩) hF hl.1 rfl (Nat.le_of_ble_eq_true rfl) d_Polys_evaluate_4 ⟨by decide, by decide⟩ (qv (fun H1 locs hq hF => ?_))
  have hk := hk.tr hq
  refine lv_iconst (v := nI 0) hx hb d_Polys_evaluate_7 (by decide) ?_
  refine lv_istore (lv' := [(4, .int (nI 0)), (0, .ref o), (1, .ref rw), (2, .int (nI fr)), (3, .int (nI k))]) hx hb d_Polys_evaluate_8 hl (by decide) rfl (fun ls hl => ?_)
  have hl : lv_has ls 5 [(4, .int (nI 0)), (3, .int (nI k)), (0, .ref o), (1, .ref rw), (2, .int (nI fr))] := lv_sub hl [0, 4, 1, 2, 3] rfl
  have loop : ∀ (k9 : Nat) (i : Nat) (H : Heap) (locs : List Loc) (ls : Array Slot), i + k9 = 2 ^ k → KJ g (fun q => n0 q) s.heap H → (∀ q ∈ locs, n0 q.base) → lv_has ls 5 [(4, .int (nI i)), (3, .int (nI k)), (0, .ref o), (1, .ref rw), (2, .int (nI fr))] → W p l e { frames := 6, cells := 0, slots := 0, locals := 208 } s m [.ref o, .ref rw, .int (nI fr), .int (nI k)].toArray below meth c H locs 0 0 (MQ below (QcP (QV (fun H H' => KJ g (fun q => n0 q) H H'))) [.ref o, .ref rw, .int (nI fr), .int (nI k)].toArray s 0 0 (fun q => n0 q)) (F0 m 10 ls []) := by
    intro k9
    induction k9 with
    | zero =>
      intro  i   H   locs   ls hi hk hF hl
      obtain rfl : i = 2 ^ k := by omega
      refine lv_iload hx hb d_Polys_evaluate_10 (lv_at hl 0 rfl) ?_
      refine lv_iconst (v := nI 1) hx hb d_Polys_evaluate_12 (by decide) ?_
      refine lv_iload_n hx hb d_Polys_evaluate_13 rfl (lv_at hl 1 rfl) ?_
      refine lv_ishl hx hb d_Polys_evaluate_14 ?_
      refine lv_topi (fun t9 e9 => ?_)
      obtain rfl : t9 = nI (2 ^ k) := e9.trans (sh1 k hk5)
      refine lv_icmp_ge (tgt := 40) hx hb d_Polys_evaluate_15 (by decide) (fun _ => ?_) (fun h9 => absurd (nI_le (Nat.le_refl _) (by omega)) h9)
      exact q_vret E hr hlk (⟨rfl, hk⟩) hF d_Polys_evaluate_40
    | succ k9 ih =>
      intro  i   H   locs   ls hi hk hF hl
      have hiN : i < 2 ^ k := by omega
      refine lv_iload hx hb d_Polys_evaluate_10 (lv_at hl 0 rfl) ?_
      refine lv_iconst (v := nI 1) hx hb d_Polys_evaluate_12 (by decide) ?_
      refine lv_iload_n hx hb d_Polys_evaluate_13 rfl (lv_at hl 1 rfl) ?_
      refine lv_ishl hx hb d_Polys_evaluate_14 ?_
      refine lv_topi (fun t9 e9 => ?_)
      obtain rfl : t9 = nI (2 ^ k) := e9.trans (sh1 k hk5)
      refine lv_icmp_ge (tgt := 40) hx hb d_Polys_evaluate_15 (by decide) (fun h9 => absurd h9 (nI_ge hiN (by omega))) (fun _ => ?_)
      refine lv_aload_n hx hb d_Polys_evaluate_18 rfl (lv_at hl 3 rfl) ?_
      refine lv_iload_n hx hb d_Polys_evaluate_19 rfl (lv_at hl 4 rfl) ?_
      refine lv_iload hx hb d_Polys_evaluate_20 (lv_at hl 0 rfl) ?_
      refine lv_iadd hx hb d_Polys_evaluate_22 ?_
      refine q_aald (t := 4) E rfl rfl ((hk.rs hK hrs).1) (fr + i) (nI_add _ _) (by omega) (by decide) d_Polys_evaluate_23 ?_
      refine lv_aload_n hx hb d_Polys_evaluate_24 rfl (lv_at hl 2 rfl) ?_
      refine q_get (C := "KateDesk$Polynomials") (T := T_Polys) (N := 9) (ci := 7) E ((hk.po hK hpo).1) in_Polys rfl 8 (by decide) w_311 rfl rfl d_Polys_evaluate_25 ?_
      refine lv_iload hx hb d_Polys_evaluate_28 (lv_at hl 0 rfl) ?_
      refine q_aald (t := 4) E rfl rfl ((hk.po hK hpo).2.2.2.1) i rfl (by omega) (by decide) d_Polys_evaluate_30 ?_
      obtain ⟨f1, hf1⟩ := ((hk.po hK hpo).2.2.2.2 i (by omega)).2
      refine q_cS (rest := []) E (c_Limbs_copy l g n0 (Sc (fr + i)) (V i) f1) w_146 w_5 w_856 w_145 hd_Limbs_copy rfl ⟨by decide, by decide⟩ (⟨(hk.rs hK hrs).2 (fr + i) (by omega), hf1⟩) hF hl.1 rfl (Nat.le_of_ble_eq_true rfl) d_Polys_evaluate_31 ⟨by decide, by decide⟩ (qv (fun H1 locs hq hF => ?_))
      have hq := hq.1
      have hk := hk.tr (hq.w1 ((hk.rs hK hrs).2 (fr + i) (by omega)).1)
      refine lv_iinc (k := 0) (v := nI (i + 1)) (lv' := [(4, .int (nI (i + 1))), (3, .int (nI k)), (0, .ref o), (1, .ref rw), (2, .int (nI fr))]) hx hb d_Polys_evaluate_34 hl rfl (i_inc i) (by decide) rfl (fun ls hl => ?_)
      refine lv_goto (tgt := 10) hx hb d_Polys_evaluate_37 (by decide) ?_
      have hl : lv_has ls 5 [(4, .int (nI (i + 1))), (3, .int (nI k)), (0, .ref o), (1, .ref rw), (2, .int (nI fr))] := lv_sub hl [0, 1, 2, 3, 4] rfl
      exact ih (i + 1) H1 locs ls (by omega) hk hF hl
  exact loop (2 ^ k) 0 _ _ ls (by omega) hk hF hl
set_option maxHeartbeats 4000000 in
set_option maxRecDepth 100000 in
theorem c_Polys_interpolate (l : Launch) (g : WG) (n0 : Nat → Prop) (o fo vl : Nat) (F : Nat → Nat) (mi : Int64) (Y V : Nat → Nat) (rw : Nat) (Sc : Nat → Nat) (fr k : Nat) (hk5 : k < 5) (hfr : fr + 2 ^ k ≤ 32) : Ctr l y_Polys_interpolate (.code y_Polys_interpolate prog_7_method_7_code 6 none) 6 208 0 0 n0 g [.ref o, .ref rw, .int (nI fr), .int (nI k)] (fun H => PO g n0 H o fo vl F mi Y V ∧ RS g n0 H rw 32 Sc) (QV (fun H H' => KJ g (fun q => n0 q) H H')) := by
  refine ctr_mk l (lv0 := [(0, .ref o), (1, .ref rw), (2, .int (nI fr)), (3, .int (nI k))]) (by decide) (Nat.le_of_ble_eq_true rfl) rfl ?_
  intro p e s m below meth c ls E hr hlk hnm hl hP
  have hx := E.1
  have hb := E.2.1
  have hK := E.2.2.2.2.2
  have hF : ∀ q ∈ ([] : List Loc), n0 q.base := fun q hq => absurd hq List.not_mem_nil
  obtain ⟨hpo, hrs⟩ := hP
  have hk : KJ g (fun q => n0 q) s.heap s.heap := KJ.rf
  obtain ⟨hp1, hp16⟩ := pw16 hk5
  refine lv_iconst (v := nI 1) hx hb d_Polys_interpolate_0 (by decide) ?_
  refine lv_iload_n hx hb d_Polys_interpolate_1 rfl (lv_at hl 3 rfl) ?_
  refine lv_ishl hx hb d_Polys_interpolate_2 ?_
  refine lv_topi (fun t9 e9 => ?_)
  obtain rfl : t9 = nI (2 ^ k) := e9.trans (sh1 k hk5)
  refine lv_istore (lv' := [(4, .int (nI (2 ^ k))), (0, .ref o), (1, .ref rw), (2, .int (nI fr)), (3, .int (nI k))]) hx hb d_Polys_interpolate_3 hl (by decide) rfl (fun ls hl => ?_)
  refine lv_aload_n hx hb d_Polys_interpolate_5 rfl (lv_at hl 1 rfl) ?_
  refine lv_aload_n hx hb d_Polys_interpolate_6 rfl (lv_at hl 2 rfl) ?_
  refine lv_iload_n hx hb d_Polys_interpolate_7 rfl (lv_at hl 3 rfl) ?_
  refine lv_iload_n hx hb d_Polys_interpolate_8 rfl (lv_at hl 4 rfl) ?_
  refine q_cV (rest := []) E (c_Polys_findValues l g n0 o fo vl F mi Y V rw Sc fr k hk5 hfr) w_878 w_14 w_875 w_877 (bw_s 13 rfl) hd_Polys_findValues rfl ⟨by decide, by decide⟩ (OB.recv E.2.2.2.2.2 (by rfl) ((hk.po hK hpo).1)) (⟨(hk.po hK hpo), hk.rs hK hrs⟩) hF hl.1 rfl (Nat.le_of_ble_eq_true rfl) d_Polys_interpolate_9 ⟨by decide, by decide⟩ (qv (fun H1 locs hq hF => ?_))
  have hk := hk.tr hq
  refine lv_aload_n hx hb d_Polys_interpolate_12 rfl (lv_at hl 1 rfl) ?_
  refine lv_iload_n hx hb d_Polys_interpolate_13 rfl (lv_at hl 4 rfl) ?_
  refine q_cV (rest := []) E (c_Polys_findShare l g n0 o fo vl F mi Y V (nI k)) w_883 w_14 w_880 w_882 (bw_s 14 rfl) hd_Polys_findShare rfl ⟨by decide, by decide⟩ (OB.recv E.2.2.2.2.2 (by rfl) ((hk.po hK hpo).1)) (hk.po hK hpo) hF hl.1 rfl (Nat.le_of_ble_eq_true rfl) d_Polys_interpolate_14 ⟨by decide, by decide⟩ (qv (fun H2 locs hq hF => ?_))
  have hk := hk.tr hq
  refine lv_iconst (v := nI 0) hx hb d_Polys_interpolate_17 (by decide) ?_
  refine lv_istore (lv' := [(5, .int (nI 0)), (4, .int (nI (2 ^ k))), (0, .ref o), (1, .ref rw), (2, .int (nI fr)), (3, .int (nI k))]) hx hb d_Polys_interpolate_18 hl (by decide) rfl (fun ls hl => ?_)
  have hl : lv_has ls 6 [(5, .int (nI 0)), (4, .int (nI (2 ^ k))), (0, .ref o), (1, .ref rw), (2, .int (nI fr))] := lv_sub hl [0, 1, 2, 3, 4] rfl
  have loop : ∀ (k9 : Nat) (i : Nat) (H : Heap) (locs : List Loc) (ls : Array Slot), i + k9 = 2 ^ k → KJ g (fun q => n0 q) s.heap H → (∀ q ∈ locs, n0 q.base) → lv_has ls 6 [(5, .int (nI i)), (4, .int (nI (2 ^ k))), (0, .ref o), (1, .ref rw), (2, .int (nI fr))] → W p l e { frames := 6, cells := 0, slots := 0, locals := 208 } s m [.ref o, .ref rw, .int (nI fr), .int (nI k)].toArray below meth c H locs 0 0 (MQ below (QcP (QV (fun H H' => KJ g (fun q => n0 q) H H'))) [.ref o, .ref rw, .int (nI fr), .int (nI k)].toArray s 0 0 (fun q => n0 q)) (F0 m 20 ls []) := by
    intro k9
    induction k9 with
    | zero =>
      intro  i   H   locs   ls hi hk hF hl
      obtain rfl : i = 2 ^ k := by omega
      refine lv_iload hx hb d_Polys_interpolate_20 (lv_at hl 0 rfl) ?_
      refine lv_iload hx hb d_Polys_interpolate_22 (lv_at hl 1 rfl) ?_
      refine lv_icmp_ge (tgt := 65) hx hb d_Polys_interpolate_24 (by decide) (fun _ => ?_) (fun h9 => absurd (nI_le (Nat.le_refl _) (by omega)) h9)
      exact q_vret E hr hlk (⟨rfl, hk⟩) hF d_Polys_interpolate_65
    | succ k9 ih =>
      intro  i   H   locs   ls hi hk hF hl
      have hiN : i < 2 ^ k := by omega
      refine lv_iload hx hb d_Polys_interpolate_20 (lv_at hl 0 rfl) ?_
      refine lv_iload hx hb d_Polys_interpolate_22 (lv_at hl 1 rfl) ?_
      refine lv_icmp_ge (tgt := 65) hx hb d_Polys_interpolate_24 (by decide) (fun h9 => absurd h9 (nI_ge hiN (by omega))) (fun _ => ?_)
      refine lv_aload_n hx hb d_Polys_interpolate_27 rfl (lv_at hl 2 rfl) ?_
      refine q_get (C := "KateDesk$Polynomials") (T := T_Polys) (N := 9) (ci := 7) E ((hk.po hK hpo).1) in_Polys rfl 0 (by decide) w_303 rfl rfl d_Polys_interpolate_28 ?_
      refine lv_aload_n hx hb d_Polys_interpolate_31 rfl (lv_at hl 3 rfl) ?_
      refine lv_iload_n hx hb d_Polys_interpolate_32 rfl (lv_at hl 4 rfl) ?_
      refine lv_iload hx hb d_Polys_interpolate_33 (lv_at hl 0 rfl) ?_
      refine lv_iadd hx hb d_Polys_interpolate_35 ?_
      refine q_aald (t := 4) E rfl rfl ((hk.rs hK hrs).1) (fr + i) (nI_add _ _) (by omega) (by decide) d_Polys_interpolate_36 ?_
      refine lv_aload_n hx hb d_Polys_interpolate_37 rfl (lv_at hl 2 rfl) ?_
      refine q_get (C := "KateDesk$Polynomials") (T := T_Polys) (N := 9) (ci := 7) E ((hk.po hK hpo).1) in_Polys rfl 8 (by decide) w_311 rfl rfl d_Polys_interpolate_38 ?_
      refine lv_iload hx hb d_Polys_interpolate_41 (lv_at hl 1 rfl) ?_
      refine lv_iload hx hb d_Polys_interpolate_43 (lv_at hl 0 rfl) ?_
      refine lv_isub hx hb d_Polys_interpolate_45 ?_
      refine lv_topi (fun t9 e9 => ?_)
      obtain rfl : t9 = nI (2 ^ k - i) := e9.trans (pk_sub (by omega))
      refine lv_iload hx hb d_Polys_interpolate_46 (lv_at hl 1 rfl) ?_
      refine lv_iconst (v := nI 1) hx hb d_Polys_interpolate_48 (by decide) ?_
      refine lv_isub hx hb d_Polys_interpolate_49 ?_
      refine lv_topi (fun t9 e9 => ?_)
      obtain rfl : t9 = nI (2 ^ k - 1) := e9.trans (pk_sub (by omega))
      refine lv_iand hx hb d_Polys_interpolate_50 ?_
      refine lv_topi (fun t9 e9 => ?_)
      obtain rfl : t9 = nI ((2 ^ k - i) % 2 ^ k) := e9.trans (pk_andN (by omega) k (pwm hk5))
      have hix : (2 ^ k - i) % 2 ^ k < 16 := Nat.lt_of_lt_of_le (Nat.mod_lt _ (by omega)) hp16
      generalize (2 ^ k - i) % 2 ^ k = ix at hix ⊢
      refine q_aald (t := 4) E rfl rfl ((hk.po hK hpo).2.2.2.1) ix rfl (by omega) (by decide) d_Polys_interpolate_51 ?_
      refine lv_aload_n hx hb d_Polys_interpolate_52 rfl (lv_at hl 2 rfl) ?_
      refine q_get (C := "KateDesk$Polynomials") (T := T_Polys) (N := 9) (ci := 7) E ((hk.po hK hpo).1) in_Polys rfl 6 (by decide) w_309 rfl rfl d_Polys_interpolate_53 ?_
      refine q_cV (rest := []) E (c_Field_multiply l g n0 fo (Sc (fr + i)) (V ix) (Y 5) F mi) w_165 w_4 w_854 w_163 w_164 hd_Field_multiply rfl ⟨by decide, by decide⟩ (OB.recv E.2.2.2.2.2 (by rfl) (((hk.po hK hpo).2.1).1)) (⟨(hk.po hK hpo).2.1, (hk.rs hK hrs).2 (fr + i) (by omega), (hk.po hK hpo).2.2.2.2 ix (by omega), (hk.po hK hpo).2.2.1 5 (by decide)⟩) hF hl.1 rfl (Nat.le_of_ble_eq_true rfl) d_Polys_interpolate_56 ⟨by decide, by decide⟩ (qv (fun H1 locs hq hF => ?_))
      have hk := hk.tr (hq.w1 ((hk.rs hK hrs).2 (fr + i) (by omega)).1)
      refine lv_iinc (k := 0) (v := nI (i + 1)) (lv' := [(5, .int (nI (i + 1))), (4, .int (nI (2 ^ k))), (0, .ref o), (1, .ref rw), (2, .int (nI fr))]) hx hb d_Polys_interpolate_59 hl rfl (i_inc i) (by decide) rfl (fun ls hl => ?_)
      refine lv_goto (tgt := 20) hx hb d_Polys_interpolate_62 (by decide) ?_
      have hl : lv_has ls 6 [(5, .int (nI (i + 1))), (4, .int (nI (2 ^ k))), (0, .ref o), (1, .ref rw), (2, .int (nI fr))] := lv_sub hl [0, 1, 2, 3, 4] rfl
      exact ih (i + 1) H1 locs ls (by omega) hk hF hl
  exact loop (2 ^ k) 0 _ _ ls (by omega) hk hF hl
set_option maxHeartbeats 4000000 in
set_option maxRecDepth 100000 in
theorem c_Polys_basis (l : Launch) (g : WG) (n0 : Nat → Prop) (o fo vl : Nat) (F : Nat → Nat) (mi : Int64) (Y V : Nat → Nat) (t z k i0 : Nat) (hk5 : k < 5) (hi0 : i0 < 2 ^ k) : Ctr l y_Polys_basis (.code y_Polys_basis prog_7_method_9_code 7 none) 5 182 0 0 n0 g [.ref o, .ref t, .int (nI k), .int (nI i0), .ref z] (fun H => PO g n0 H o fo vl F mi Y V ∧ J14 g n0 H t ∧ J14 g n0 H z) (QV (fun H H' => KJ g (fun q => n0 q) H H')) := by
  refine ctr_mk l (lv0 := [(0, .ref o), (1, .ref t), (2, .int (nI k)), (3, .int (nI i0)), (4, .ref z)]) (by decide) (Nat.le_of_ble_eq_true rfl) rfl ?_
  intro p e s m below meth c ls E hr hlk hnm hl hP
  have hx := E.1
  have hb := E.2.1
  have hK := E.2.2.2.2.2
  have hF : ∀ q ∈ ([] : List Loc), n0 q.base := fun q hq => absurd hq List.not_mem_nil
  obtain ⟨hpo, ht, hz⟩ := hP
  have hk : KJ g (fun q => n0 q) s.heap s.heap := KJ.rf
  obtain ⟨hp1, hp16⟩ := pw16 hk5
  refine lv_iconst (v := nI 1) hx hb d_Polys_basis_0 (by decide) ?_
  refine lv_iload_n hx hb d_Polys_basis_1 rfl (lv_at hl 2 rfl) ?_
  refine lv_ishl hx hb d_Polys_basis_2 ?_
  refine lv_topi (fun t9 e9 => ?_)
  obtain rfl : t9 = nI (2 ^ k) := e9.trans (sh1 k hk5)
  refine lv_istore (lv' := [(5, .int (nI (2 ^ k))), (0, .ref o), (1, .ref t), (2, .int (nI k)), (3, .int (nI i0)), (4, .ref z)]) hx hb d_Polys_basis_3 hl (by decide) rfl (fun ls hl => ?_)
  refine lv_aload_n hx hb d_Polys_basis_5 rfl (lv_at hl 1 rfl) ?_
  refine lv_aload_n hx hb d_Polys_basis_6 rfl (lv_at hl 1 rfl) ?_
  refine q_get (C := "KateDesk$Polynomials") (T := T_Polys) (N := 9) (ci := 7) E ((hk.po hK hpo).1) in_Polys rfl 4 (by decide) w_307 rfl rfl d_Polys_basis_7 ?_
  refine lv_iload_n hx hb d_Polys_basis_10 rfl (lv_at hl 3 rfl) ?_
  refine q_cV (rest := []) E (c_Polys_liftedRoot l g n0 o fo vl F mi Y V (Y 3) (nI k)) w_601 w_14 w_879 w_599 w_600 hd_Polys_liftedRoot rfl ⟨by decide, by decide⟩ (OB.recv E.2.2.2.2.2 (by rfl) ((hk.po hK hpo).1)) (⟨(hk.po hK hpo), (hk.po hK hpo).2.2.1 3 (by decide)⟩) hF hl.1 rfl (Nat.le_of_ble_eq_true rfl) d_Polys_basis_11 ⟨by decide, by decide⟩ (qv (fun H1 locs hq hF => ?_))
  have hk := hk.tr hq
  refine lv_aload_n hx hb d_Polys_basis_14 rfl (lv_at hl 1 rfl) ?_
  refine q_get (C := "KateDesk$Polynomials") (T := T_Polys) (N := 9) (ci := 7) E ((hk.po hK hpo).1) in_Polys rfl 5 (by decide) w_308 rfl rfl d_Polys_basis_15 ?_
  refine lv_aload hx hb d_Polys_basis_18 (lv_at hl 5 rfl) ?_
  obtain ⟨f1, hf1⟩ := (hk.j hz).2
  refine q_cS (rest := []) E (c_Limbs_copy l g n0 (Y 4) z f1) w_146 w_5 w_856 w_145 hd_Limbs_copy rfl ⟨by decide, by decide⟩ (⟨(hk.po hK hpo).2.2.1 4 (by decide), hf1⟩) hF hl.1 rfl (Nat.le_of_ble_eq_true rfl) d_Polys_basis_20 ⟨by decide, by decide⟩ (qv (fun H2 locs hq hF => ?_))
  have hq := hq.1
  have hk := hk.tr (hq.w1 ((hk.po hK hpo).2.2.1 4 (by decide)).1)
  refine lv_iload_n hx hb d_Polys_basis_23 rfl (lv_at hl 4 rfl) ?_
  refine lv_istore (lv' := [(6, .int (nI i0)), (5, .int (nI (2 ^ k))), (0, .ref o), (1, .ref t), (2, .int (nI k)), (3, .int (nI i0)), (4, .ref z)]) hx hb d_Polys_basis_24 hl (by decide) rfl (fun ls hl => ?_)
  have hl : lv_has ls 7 [(6, .int (nI i0)), (5, .int (nI (2 ^ k))), (0, .ref o), (1, .ref t), (2, .int (nI k))] := lv_sub hl [0, 1, 2, 3, 4] rfl
  have loop2 : ∀ (k9 : Nat) (i : Nat) (H : Heap) (locs : List Loc) (ls : Array Slot), i + k9 = 2 ^ k → KJ g (fun q => n0 q) s.heap H → (∀ q ∈ locs, n0 q.base) → lv_has ls 7 [(6, .int (nI i)), (5, .int (nI (2 ^ k))), (0, .ref o), (1, .ref t), (2, .int (nI k))] → W p l e { frames := 5, cells := 0, slots := 0, locals := 182 } s m [.ref o, .ref t, .int (nI k), .int (nI i0), .ref z].toArray below meth c H locs 0 0 (MQ below (QcP (QV (fun H H' => KJ g (fun q => n0 q) H H'))) [.ref o, .ref t, .int (nI k), .int (nI i0), .ref z].toArray s 0 0 (fun q => n0 q)) (F0 m 70 ls []) := by
    intro k9
    induction k9 with
    | zero =>
      intro  i   H   locs   ls hi hk hF hl
      obtain rfl : i = 2 ^ k := by omega
      refine lv_iload hx hb d_Polys_basis_70 (lv_at hl 0 rfl) ?_
      refine lv_iload hx hb d_Polys_basis_72 (lv_at hl 1 rfl) ?_
      refine lv_icmp_ge (tgt := 109) hx hb d_Polys_basis_74 (by decide) (fun _ => ?_) (fun h9 => absurd (nI_le (Nat.le_refl _) (by omega)) h9)
      refine lv_aload_n hx hb d_Polys_basis_109 rfl (lv_at hl 2 rfl) ?_
      refine q_get (C := "KateDesk$Polynomials") (T := T_Polys) (N := 9) (ci := 7) E ((hk.po hK hpo).1) in_Polys rfl 0 (by decide) w_303 rfl rfl d_Polys_basis_110 ?_
      refine lv_aload_n hx hb d_Polys_basis_113 rfl (lv_at hl 3 rfl) ?_
      refine lv_aload_n hx hb d_Polys_basis_114 rfl (lv_at hl 3 rfl) ?_
      refine lv_aload_n hx hb d_Polys_basis_115 rfl (lv_at hl 2 rfl) ?_
      refine q_get (C := "KateDesk$Polynomials") (T := T_Polys) (N := 9) (ci := 7) E ((hk.po hK hpo).1) in_Polys rfl 6 (by decide) w_309 rfl rfl d_Polys_basis_116 ?_
      refine q_cV (rest := []) E (c_Field_multiply l g n0 fo t t (Y 5) F mi) w_165 w_4 w_854 w_163 w_164 hd_Field_multiply rfl ⟨by decide, by decide⟩ (OB.recv E.2.2.2.2.2 (by rfl) (((hk.po hK hpo).2.1).1)) (⟨(hk.po hK hpo).2.1, hk.j ht, hk.j ht, (hk.po hK hpo).2.2.1 5 (by decide)⟩) hF hl.1 rfl (Nat.le_of_ble_eq_true rfl) d_Polys_basis_119 ⟨by decide, by decide⟩ (qv (fun H1 locs hq hF => ?_))
      have hk := hk.tr (hq.w1 (hk.j ht).1)
      exact q_vret E hr hlk (⟨rfl, hk⟩) hF d_Polys_basis_122
    | succ k9 ih =>
      intro  i   H   locs   ls hi hk hF hl
      refine lv_iload hx hb d_Polys_basis_70 (lv_at hl 0 rfl) ?_
      refine lv_iload hx hb d_Polys_basis_72 (lv_at hl 1 rfl) ?_
      refine lv_icmp_ge (tgt := 109) hx hb d_Polys_basis_74 (by decide) (fun h9 => absurd h9 (nI_ge (by omega) (by omega))) (fun _ => ?_)
      refine lv_aload_n hx hb d_Polys_basis_77 rfl (lv_at hl 2 rfl) ?_
      refine q_get (C := "KateDesk$Polynomials") (T := T_Polys) (N := 9) (ci := 7) E ((hk.po hK hpo).1) in_Polys rfl 0 (by decide) w_303 rfl rfl d_Polys_basis_78 ?_
      refine lv_aload_n hx hb d_Polys_basis_81 rfl (lv_at hl 3 rfl) ?_
      refine lv_aload_n hx hb d_Polys_basis_82 rfl (lv_at hl 3 rfl) ?_
      refine lv_aload_n hx hb d_Polys_basis_83 rfl (lv_at hl 2 rfl) ?_
      refine q_get (C := "KateDesk$Polynomials") (T := T_Polys) (N := 9) (ci := 7) E ((hk.po hK hpo).1) in_Polys rfl 5 (by decide) w_308 rfl rfl d_Polys_basis_84 ?_
      refine q_cV (rest := []) E (c_Field_multiply l g n0 fo t t (Y 4) F mi) w_165 w_4 w_854 w_163 w_164 hd_Field_multiply rfl ⟨by decide, by decide⟩ (OB.recv E.2.2.2.2.2 (by rfl) (((hk.po hK hpo).2.1).1)) (⟨(hk.po hK hpo).2.1, hk.j ht, hk.j ht, (hk.po hK hpo).2.2.1 4 (by decide)⟩) hF hl.1 rfl (Nat.le_of_ble_eq_true rfl) d_Polys_basis_87 ⟨by decide, by decide⟩ (qv (fun H1 locs hq hF => ?_))
      have hk := hk.tr (hq.w1 (hk.j ht).1)
      refine lv_aload_n hx hb d_Polys_basis_90 rfl (lv_at hl 2 rfl) ?_
      refine q_get (C := "KateDesk$Polynomials") (T := T_Polys) (N := 9) (ci := 7) E ((hk.po hK hpo).1) in_Polys rfl 0 (by decide) w_303 rfl rfl d_Polys_basis_91 ?_
      refine lv_aload_n hx hb d_Polys_basis_94 rfl (lv_at hl 3 rfl) ?_
      refine lv_aload_n hx hb d_Polys_basis_95 rfl (lv_at hl 3 rfl) ?_
      refine lv_aload_n hx hb d_Polys_basis_96 rfl (lv_at hl 2 rfl) ?_
      refine q_get (C := "KateDesk$Polynomials") (T := T_Polys) (N := 9) (ci := 7) E ((hk.po hK hpo).1) in_Polys rfl 2 (by decide) w_305 rfl rfl d_Polys_basis_97 ?_
      refine q_cV (rest := []) E (c_Field_add l g n0 fo t t (Y 1) F mi) w_157 w_4 w_855 w_155 w_156 hd_Field_add rfl ⟨by decide, by decide⟩ (OB.recv E.2.2.2.2.2 (by rfl) (((hk.po hK hpo).2.1).1)) (⟨(hk.po hK hpo).2.1, hk.j ht, hk.j ht, (hk.po hK hpo).2.2.1 1 (by decide)⟩) hF hl.1 rfl (Nat.le_of_ble_eq_true rfl) d_Polys_basis_100 ⟨by decide, by decide⟩ (qv (fun H2 locs hq hF => ?_))
      have hk := hk.tr (hq.w1 (hk.j ht).1)
      refine lv_iinc (k := 0) (v := nI (i + 1)) (lv' := [(6, .int (nI (i + 1))), (5, .int (nI (2 ^ k))), (0, .ref o), (1, .ref t), (2, .int (nI k))]) hx hb d_Polys_basis_103 hl rfl (i_inc i) (by decide) rfl (fun ls hl => ?_)
      refine lv_goto (tgt := 70) hx hb d_Polys_basis_106 (by decide) ?_
      have hl : lv_has ls 7 [(6, .int (nI (i + 1))), (5, .int (nI (2 ^ k))), (0, .ref o), (1, .ref t), (2, .int (nI k))] := lv_sub hl [0, 1, 2, 3, 4] rfl
      exact ih (i + 1) H2 locs ls (by omega) hk hF hl
  have loop : ∀ (k9 : Nat) (i : Nat) (H : Heap) (locs : List Loc) (ls : Array Slot), i + k9 = 2 ^ k → KJ g (fun q => n0 q) s.heap H → (∀ q ∈ locs, n0 q.base) → lv_has ls 7 [(6, .int (nI i)), (5, .int (nI (2 ^ k))), (0, .ref o), (1, .ref t), (2, .int (nI k))] → W p l e { frames := 5, cells := 0, slots := 0, locals := 182 } s m [.ref o, .ref t, .int (nI k), .int (nI i0), .ref z].toArray below meth c H locs 0 0 (MQ below (QcP (QV (fun H H' => KJ g (fun q => n0 q) H H'))) [.ref o, .ref t, .int (nI k), .int (nI i0), .ref z].toArray s 0 0 (fun q => n0 q)) (F0 m 26 ls []) := by
    intro k9
    induction k9 with
    | zero =>
      intro  i   H   locs   ls hi hk hF hl
      obtain rfl : i = 2 ^ k := by omega
      refine lv_iload hx hb d_Polys_basis_26 (lv_at hl 0 rfl) ?_
      refine lv_iload hx hb d_Polys_basis_28 (lv_at hl 1 rfl) ?_
      refine lv_icmp_ge (tgt := 58) hx hb d_Polys_basis_30 (by decide) (fun _ => ?_) (fun h9 => absurd (nI_le (Nat.le_refl _) (by omega)) h9)
      refine lv_aload_n hx hb d_Polys_basis_58 rfl (lv_at hl 2 rfl) ?_
      refine lv_iload_n hx hb d_Polys_basis_59 rfl (lv_at hl 4 rfl) ?_
      refine q_cV (rest := []) E (c_Polys_findShare l g n0 o fo vl F mi Y V (nI k)) w_883 w_14 w_880 w_882 (bw_s 14 rfl) hd_Polys_findShare rfl ⟨by decide, by decide⟩ (OB.recv E.2.2.2.2.2 (by rfl) ((hk.po hK hpo).1)) (hk.po hK hpo) hF hl.1 rfl (Nat.le_of_ble_eq_true rfl) d_Polys_basis_60 ⟨by decide, by decide⟩ (qv (fun H1 locs hq hF => ?_))
      have hk := hk.tr hq
      refine lv_aload_n hx hb d_Polys_basis_63 rfl (lv_at hl 3 rfl) ?_
      refine q_cS (rest := []) E (c_Limbs_clear l g n0 t) w_498 w_5 w_853 w_497 hd_Limbs_clear rfl ⟨by decide, by decide⟩ (hk.j ht) hF hl.1 rfl (Nat.le_of_ble_eq_true rfl) d_Polys_basis_64 ⟨by decide, by decide⟩ (qv (fun H2 locs hq hF => ?_))
      have hq := hq.1
      have hk := hk.tr (hq.w1 (hk.j ht).1)
      refine lv_iconst (v := nI 0) hx hb d_Polys_basis_67 (by decide) ?_
      refine lv_istore (lv' := [(6, .int (nI 0)), (5, .int (nI (2 ^ k))), (0, .ref o), (1, .ref t), (2, .int (nI k))]) hx hb d_Polys_basis_68 hl (by decide) rfl (fun ls hl => ?_)
      have hl : lv_has ls 7 [(6, .int (nI 0)), (5, .int (nI (2 ^ k))), (0, .ref o), (1, .ref t), (2, .int (nI k))] := lv_sub hl [0, 1, 2, 3, 4] rfl
      exact loop2 (2 ^ k) 0 H2 locs ls (by omega) hk hF hl
    | succ k9 ih =>
      intro  i   H   locs   ls hi hk hF hl
      refine lv_iload hx hb d_Polys_basis_26 (lv_at hl 0 rfl) ?_
      refine lv_iload hx hb d_Polys_basis_28 (lv_at hl 1 rfl) ?_
      refine lv_icmp_ge (tgt := 58) hx hb d_Polys_basis_30 (by decide) (fun h9 => absurd h9 (nI_ge (by omega) (by omega))) (fun _ => ?_)
      refine lv_aload_n hx hb d_Polys_basis_33 rfl (lv_at hl 2 rfl) ?_
      refine q_get (C := "KateDesk$Polynomials") (T := T_Polys) (N := 9) (ci := 7) E ((hk.po hK hpo).1) in_Polys rfl 0 (by decide) w_303 rfl rfl d_Polys_basis_34 ?_
      refine lv_aload_n hx hb d_Polys_basis_37 rfl (lv_at hl 2 rfl) ?_
      refine q_get (C := "KateDesk$Polynomials") (T := T_Polys) (N := 9) (ci := 7) E ((hk.po hK hpo).1) in_Polys rfl 5 (by decide) w_308 rfl rfl d_Polys_basis_38 ?_
      refine lv_aload_n hx hb d_Polys_basis_41 rfl (lv_at hl 2 rfl) ?_
      refine q_get (C := "KateDesk$Polynomials") (T := T_Polys) (N := 9) (ci := 7) E ((hk.po hK hpo).1) in_Polys rfl 5 (by decide) w_308 rfl rfl d_Polys_basis_42 ?_
      refine lv_aload_n hx hb d_Polys_basis_45 rfl (lv_at hl 2 rfl) ?_
      refine q_get (C := "KateDesk$Polynomials") (T := T_Polys) (N := 9) (ci := 7) E ((hk.po hK hpo).1) in_Polys rfl 4 (by decide) w_307 rfl rfl d_Polys_basis_46 ?_
      refine q_cV (rest := []) E (c_Field_multiply l g n0 fo (Y 4) (Y 4) (Y 3) F mi) w_165 w_4 w_854 w_163 w_164 hd_Field_multiply rfl ⟨by decide, by decide⟩ (OB.recv E.2.2.2.2.2 (by rfl) (((hk.po hK hpo).2.1).1)) (⟨(hk.po hK hpo).2.1, (hk.po hK hpo).2.2.1 4 (by decide), (hk.po hK hpo).2.2.1 4 (by decide), (hk.po hK hpo).2.2.1 3 (by decide)⟩) hF hl.1 rfl (Nat.le_of_ble_eq_true rfl) d_Polys_basis_49 ⟨by decide, by decide⟩ (qv (fun H1 locs hq hF => ?_))
      have hk := hk.tr (hq.w1 ((hk.po hK hpo).2.2.1 4 (by decide)).1)
      refine lv_iinc (k := 0) (v := nI (i + 1)) (lv' := [(6, .int (nI (i + 1))), (5, .int (nI (2 ^ k))), (0, .ref o), (1, .ref t), (2, .int (nI k))]) hx hb d_Polys_basis_52 hl rfl (i_inc i) (by decide) rfl (fun ls hl => ?_)
      refine lv_goto (tgt := 26) hx hb d_Polys_basis_55 (by decide) ?_
      have hl : lv_has ls 7 [(6, .int (nI (i + 1))), (5, .int (nI (2 ^ k))), (0, .ref o), (1, .ref t), (2, .int (nI k))] := lv_sub hl [0, 1, 2, 3, 4] rfl
      exact ih (i + 1) H1 locs ls (by omega) hk hF hl
  exact loop (2 ^ k - i0) i0 _ _ ls (by omega) hk hF hl
