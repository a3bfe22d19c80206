theorem okC_n {n : Int32} (h : okC n (nI 0) (nI 16)) : n ≤ 0 ∨ ∃ j, n = nI j ∧ 1 ≤ j ∧ j ≤ 32 := by
  obtain ⟨k, e, h1, h2⟩ := okC_nat (by decide) (by decide) h
  by_cases c : k = 0
  · subst c; rw [e]; exact Or.inl (by decide)
  · exact Or.inr ⟨k, e, by omega, by omega⟩
theorem FZ.s {fd : Nat → Int64} (h : FZ fd) {k n : Nat} (hk : k < 32) (hn : n ≤ 14) : SV fd k n = 0 := (h.1 k hk).sv hn
theorem FZ.z {fd : Nat → Int64} (h : FZ fd) {k n : Nat} (hk : k < 12) (hn : n ≤ 14) : SV fd (32 + 3 * k + 2) n = 0 := (h.2 k hk).2.2.sv hn
theorem FZ.x {fd : Nat → Int64} (h : FZ fd) {k n : Nat} (hk : k < 12) (hn : n ≤ 14) : SV fd (32 + 3 * k) n = 0 := (h.2 k hk).1.sv hn
abbrev y_Model_same : MethodName := ⟨"KateDeskModel", "same", "(II)Z"⟩
theorem hd_Model_same : y_Model_same.cls ≠ "java/lang/invoke/MethodHandle" ∧ y_Model_same.cls ≠ "java/lang/invoke/VarHandle" ∧ (parseMethodDescriptor y_Model_same.desc).map (fun d => d.parameters.length) = some 2 := by decide +kernel
theorem d_Model_same_0 : decode prog_11_method_53_code 0 = .ok (.aload_n 0, 1) := by decide +kernel
theorem d_Model_same_1 : decode prog_11_method_53_code 1 = .ok (.iload_n 1, 1) := by decide +kernel
theorem d_Model_same_2 : decode prog_11_method_53_code 2 = .ok (.invokestatic 262, 3) := by decide +kernel
theorem d_Model_same_5 : decode prog_11_method_53_code 5 = .ok (.ifCond .ne 10, 3) := by decide +kernel
theorem d_Model_same_8 : decode prog_11_method_53_code 8 = .ok (.iload_n 2, 1) := by decide +kernel
theorem d_Model_same_9 : decode prog_11_method_53_code 9 = .ok (.invokestatic 262, 3) := by decide +kernel
theorem d_Model_same_12 : decode prog_11_method_53_code 12 = .ok (.ifCond .eq 7, 3) := by decide +kernel
theorem d_Model_same_15 : decode prog_11_method_53_code 15 = .ok (.iconst 1, 1) := by decide +kernel
theorem d_Model_same_16 : decode prog_11_method_53_code 16 = .ok (.goto 4, 3) := by decide +kernel
theorem d_Model_same_19 : decode prog_11_method_53_code 19 = .ok (.iconst 0, 1) := by decide +kernel
theorem d_Model_same_20 : decode prog_11_method_53_code 20 = .ok (.iconst 1, 1) := by decide +kernel
theorem d_Model_same_21 : decode prog_11_method_53_code 21 = .ok (.invokevirtual 223, 3) := by decide +kernel
theorem d_Model_same_24 : decode prog_11_method_53_code 24 = .ok (.ifCond .eq 5, 3) := by decide +kernel
theorem d_Model_same_27 : decode prog_11_method_53_code 27 = .ok (.iconst 0, 1) := by decide +kernel
theorem d_Model_same_28 : decode prog_11_method_53_code 28 = .ok (.ireturn, 1) := by decide +kernel
theorem d_Model_same_29 : decode prog_11_method_53_code 29 = .ok (.aload_n 0, 1) := by decide +kernel
theorem d_Model_same_30 : decode prog_11_method_53_code 30 = .ok (.iconst 0, 1) := by decide +kernel
theorem d_Model_same_31 : decode prog_11_method_53_code 31 = .ok (.invokevirtual 137, 3) := by decide +kernel
theorem d_Model_same_34 : decode prog_11_method_53_code 34 = .ok (.aload_n 0, 1) := by decide +kernel
theorem d_Model_same_35 : decode prog_11_method_53_code 35 = .ok (.iload_n 1, 1) := by decide +kernel
theorem d_Model_same_36 : decode prog_11_method_53_code 36 = .ok (.invokestatic 265, 3) := by decide +kernel
theorem d_Model_same_39 : decode prog_11_method_53_code 39 = .ok (.iload_n 2, 1) := by decide +kernel
theorem d_Model_same_40 : decode prog_11_method_53_code 40 = .ok (.invokestatic 265, 3) := by decide +kernel
theorem d_Model_same_43 : decode prog_11_method_53_code 43 = .ok (.invokevirtual 289, 3) := by decide +kernel
theorem d_Model_same_46 : decode prog_11_method_53_code 46 = .ok (.ireturn, 1) := by decide +kernel
abbrev y_Model_checks : MethodName := ⟨"KateDeskModel", "checks", "(IIIII)Z"⟩
theorem hd_Model_checks : y_Model_checks.cls ≠ "java/lang/invoke/MethodHandle" ∧ y_Model_checks.cls ≠ "java/lang/invoke/VarHandle" ∧ (parseMethodDescriptor y_Model_checks.desc).map (fun d => d.parameters.length) = some 5 := by decide +kernel
theorem d_Model_checks_0 : decode prog_11_method_58_code 0 = .ok (.aload_n 0, 1) := by decide +kernel
theorem d_Model_checks_1 : decode prog_11_method_58_code 1 = .ok (.iload_n 1, 1) := by decide +kernel
theorem d_Model_checks_2 : decode prog_11_method_58_code 2 = .ok (.invokestatic 262, 3) := by decide +kernel
theorem d_Model_checks_5 : decode prog_11_method_58_code 5 = .ok (.ifCond .ne 33, 3) := by decide +kernel
theorem d_Model_checks_8 : decode prog_11_method_58_code 8 = .ok (.iload_n 2, 1) := by decide +kernel
theorem d_Model_checks_9 : decode prog_11_method_58_code 9 = .ok (.invokestatic 262, 3) := by decide +kernel
theorem d_Model_checks_12 : decode prog_11_method_58_code 12 = .ok (.ifCond .ne 26, 3) := by decide +kernel
theorem d_Model_checks_15 : decode prog_11_method_58_code 15 = .ok (.iload_n 3, 1) := by decide +kernel
theorem d_Model_checks_16 : decode prog_11_method_58_code 16 = .ok (.invokestatic 219, 3) := by decide +kernel
theorem d_Model_checks_19 : decode prog_11_method_58_code 19 = .ok (.ifCond .ne 19, 3) := by decide +kernel
theorem d_Model_checks_22 : decode prog_11_method_58_code 22 = .ok (.iload 4, 2) := by decide +kernel
theorem d_Model_checks_24 : decode prog_11_method_58_code 24 = .ok (.invokestatic 219, 3) := by decide +kernel
theorem d_Model_checks_27 : decode prog_11_method_58_code 27 = .ok (.ifCond .ne 11, 3) := by decide +kernel
theorem d_Model_checks_30 : decode prog_11_method_58_code 30 = .ok (.iload 5, 2) := by decide +kernel
theorem d_Model_checks_32 : decode prog_11_method_58_code 32 = .ok (.invokestatic 219, 3) := by decide +kernel
theorem d_Model_checks_35 : decode prog_11_method_58_code 35 = .ok (.ifCond .eq 7, 3) := by decide +kernel
theorem d_Model_checks_38 : decode prog_11_method_58_code 38 = .ok (.iconst 1, 1) := by decide +kernel
theorem d_Model_checks_39 : decode prog_11_method_58_code 39 = .ok (.goto 4, 3) := by decide +kernel
theorem d_Model_checks_42 : decode prog_11_method_58_code 42 = .ok (.iconst 0, 1) := by decide +kernel
theorem d_Model_checks_43 : decode prog_11_method_58_code 43 = .ok (.iconst 1, 1) := by decide +kernel
theorem d_Model_checks_44 : decode prog_11_method_58_code 44 = .ok (.invokevirtual 223, 3) := by decide +kernel
theorem d_Model_checks_47 : decode prog_11_method_58_code 47 = .ok (.ifCond .eq 5, 3) := by decide +kernel
theorem d_Model_checks_50 : decode prog_11_method_58_code 50 = .ok (.iconst 0, 1) := by decide +kernel
theorem d_Model_checks_51 : decode prog_11_method_58_code 51 = .ok (.ireturn, 1) := by decide +kernel
theorem d_Model_checks_52 : decode prog_11_method_58_code 52 = .ok (.aload_n 0, 1) := by decide +kernel
theorem d_Model_checks_53 : decode prog_11_method_58_code 53 = .ok (.iconst 1, 1) := by decide +kernel
theorem d_Model_checks_54 : decode prog_11_method_58_code 54 = .ok (.invokevirtual 137, 3) := by decide +kernel
theorem d_Model_checks_57 : decode prog_11_method_58_code 57 = .ok (.aload_n 0, 1) := by decide +kernel
theorem d_Model_checks_58 : decode prog_11_method_58_code 58 = .ok (.sipush 166, 3) := by decide +kernel
theorem d_Model_checks_61 : decode prog_11_method_58_code 61 = .ok (.iload 5, 2) := by decide +kernel
theorem d_Model_checks_63 : decode prog_11_method_58_code 63 = .ok (.iload_n 3, 1) := by decide +kernel
theorem d_Model_checks_64 : decode prog_11_method_58_code 64 = .ok (.invokevirtual 203, 3) := by decide +kernel
theorem d_Model_checks_67 : decode prog_11_method_58_code 67 = .ok (.aload_n 0, 1) := by decide +kernel
theorem d_Model_checks_68 : decode prog_11_method_58_code 68 = .ok (.iconst 0, 1) := by decide +kernel
theorem d_Model_checks_69 : decode prog_11_method_58_code 69 = .ok (.invokevirtual 137, 3) := by decide +kernel
theorem d_Model_checks_72 : decode prog_11_method_58_code 72 = .ok (.aload_n 0, 1) := by decide +kernel
theorem d_Model_checks_73 : decode prog_11_method_58_code 73 = .ok (.sipush 161, 3) := by decide +kernel
theorem d_Model_checks_76 : decode prog_11_method_58_code 76 = .ok (.sipush 166, 3) := by decide +kernel
theorem d_Model_checks_79 : decode prog_11_method_58_code 79 = .ok (.iload_n 2, 1) := by decide +kernel
theorem d_Model_checks_80 : decode prog_11_method_58_code 80 = .ok (.invokestatic 265, 3) := by decide +kernel
theorem d_Model_checks_83 : decode prog_11_method_58_code 83 = .ok (.invokevirtual 274, 3) := by decide +kernel
theorem d_Model_checks_86 : decode prog_11_method_58_code 86 = .ok (.aload_n 0, 1) := by decide +kernel
theorem d_Model_checks_87 : decode prog_11_method_58_code 87 = .ok (.sipush 157, 3) := by decide +kernel
theorem d_Model_checks_90 : decode prog_11_method_58_code 90 = .ok (.iload 4, 2) := by decide +kernel
theorem d_Model_checks_92 : decode prog_11_method_58_code 92 = .ok (.bipush 116, 2) := by decide +kernel
theorem d_Model_checks_94 : decode prog_11_method_58_code 94 = .ok (.invokevirtual 274, 3) := by decide +kernel
theorem d_Model_checks_97 : decode prog_11_method_58_code 97 = .ok (.aload_n 0, 1) := by decide +kernel
theorem d_Model_checks_98 : decode prog_11_method_58_code 98 = .ok (.sipush 160, 3) := by decide +kernel
theorem d_Model_checks_101 : decode prog_11_method_58_code 101 = .ok (.invokevirtual 200, 3) := by decide +kernel
theorem d_Model_checks_104 : decode prog_11_method_58_code 104 = .ok (.aload_n 0, 1) := by decide +kernel
theorem d_Model_checks_105 : decode prog_11_method_58_code 105 = .ok (.sipush 158, 3) := by decide +kernel
theorem d_Model_checks_108 : decode prog_11_method_58_code 108 = .ok (.sipush 160, 3) := by decide +kernel
theorem d_Model_checks_111 : decode prog_11_method_58_code 111 = .ok (.sipush 158, 3) := by decide +kernel
theorem d_Model_checks_114 : decode prog_11_method_58_code 114 = .ok (.invokevirtual 203, 3) := by decide +kernel
theorem d_Model_checks_117 : decode prog_11_method_58_code 117 = .ok (.aload_n 0, 1) := by decide +kernel
theorem d_Model_checks_118 : decode prog_11_method_58_code 118 = .ok (.sipush 164, 3) := by decide +kernel
theorem d_Model_checks_121 : decode prog_11_method_58_code 121 = .ok (.iload_n 1, 1) := by decide +kernel
theorem d_Model_checks_122 : decode prog_11_method_58_code 122 = .ok (.invokestatic 265, 3) := by decide +kernel
theorem d_Model_checks_125 : decode prog_11_method_58_code 125 = .ok (.sipush 157, 3) := by decide +kernel
theorem d_Model_checks_128 : decode prog_11_method_58_code 128 = .ok (.invokevirtual 212, 3) := by decide +kernel
theorem d_Model_checks_131 : decode prog_11_method_58_code 131 = .ok (.aload_n 0, 1) := by decide +kernel
theorem d_Model_checks_132 : decode prog_11_method_58_code 132 = .ok (.sipush 164, 3) := by decide +kernel
theorem d_Model_checks_135 : decode prog_11_method_58_code 135 = .ok (.sipush 161, 3) := by decide +kernel
theorem d_Model_checks_138 : decode prog_11_method_58_code 138 = .ok (.invokevirtual 289, 3) := by decide +kernel
theorem d_Model_checks_141 : decode prog_11_method_58_code 141 = .ok (.ireturn, 1) := by decide +kernel
set_option maxHeartbeats 4000000 in
set_option maxRecDepth 100000 in
theorem c_Model_same (l : Launch) (g : WG) (n0 : Nat → Prop) (mo : Nat) (a : Int32) (a2 : Int32) (fd : Nat → Int64) (hmn : n0 mo) (hz : FZ fd) : Ctr l y_Model_same (.code y_Model_same prog_11_method_53_code 3 (some FieldType.boolean)) 4 101 0 0 n0 g [.ref mo, .int a, .int a2] (fun H => MS g n0 H mo 0 0 0 0 0 14 fd) (QI (fun r H H' => ((okP a (nI 1) ∧ okP a2 (nI 1)) ∧ TH g n0 H' mo 0 ∧ r = 1) ∨ (¬ (okP a (nI 1) ∧ okP a2 (nI 1)) ∧ TH g n0 H' mo 1))) := by
  refine ctr_mk l (lv0 := [(0, .ref mo), (1, .int a), (2, .int a2)]) (by decide) (Nat.le_of_ble_eq_true rfl) rfl ?_
  intro p e s m below meth c ls E hr hlk hnm hl hP
  have hx := E.1
  have hb := E.2.1
  have hK := E.2.2.2.2.2
  have hF : ∀ q ∈ ([] : List Loc), n0 q.base := fun q hq => absurd hq List.not_mem_nil
  have hm := hP
  have hfr : FRM (MR mo) s.heap s.heap := FRM.rf
  have bad : ∀ (locs : List Loc) (ls : Array Slot), ¬ (okP a (nI 1) ∧ okP a2 (nI 1)) → (∀ q ∈ locs, n0 q.base) → lv_has ls 3 [(0, .ref mo), (1, .int a), (2, .int a2)] → W p l e { frames := 4, cells := 0, slots := 0, locals := 101 } s m [.ref mo, .int a, .int a2].toArray below meth c s.heap locs 0 0 (MQ below (QcP (QI (fun r H H' => ((okP a (nI 1) ∧ okP a2 (nI 1)) ∧ TH g n0 H' mo 0 ∧ r = 1) ∨ (¬ (okP a (nI 1) ∧ okP a2 (nI 1)) ∧ TH g n0 H' mo 1)))) [.ref mo, .int a, .int a2].toArray s 0 0 (fun q => n0 q)) (F0 m 20 ls [.int (nI 1), .ref mo]) := by
    intro  locs   ls hno hF hl
    refine lv_iconst (v := nI 1) hx hb d_Model_same_20 (by decide) ?_
    refine q_cV (rest := []) E (c_Model_fails l g n0 mo 0 0 0 0 0 14 hw0 (nI 1) (nI 1) fd hmn (Or.inl rfl)) w_1056 w_15 w_1053 w_1055 (bw_s 24 rfl) hd_Model_fails rfl ⟨by decide, by decide⟩ (OB.recv E.2.2.2.2.2 (by rfl) hm.1) hm hF hl.1 rfl (Nat.le_of_ble_eq_true rfl) d_Model_same_21 ⟨by decide, by decide⟩ (qi (fun rf H1 locs hq hF => ?_))
    obtain ⟨hrf, hq, hm⟩ := hq
    subst hrf
    have hfr := hfr.tr hq
    rw [if_neg (by decide)] at hm
    refine lv_if_eq (tgt := 29) hx hb d_Model_same_24 (by decide) (fun h9 => absurd h9 (by decide)) (fun _ => ?_)
    refine lv_iconst (v := nI 0) hx hb d_Model_same_27 (by decide) ?_
    exact q_zret E hr rfl hlk (⟨_, rfl, Or.inr ⟨hno, ⟨_, _, _, _, _, _, hw0, hm⟩⟩⟩) hF d_Model_same_28
  have good : ∀ (locs : List Loc) (ls : Array Slot), okP a (nI 1) ∧ okP a2 (nI 1) → (∀ q ∈ locs, n0 q.base) → lv_has ls 3 [(0, .ref mo), (1, .int a), (2, .int a2)] → W p l e { frames := 4, cells := 0, slots := 0, locals := 101 } s m [.ref mo, .int a, .int a2].toArray below meth c s.heap locs 0 0 (MQ below (QcP (QI (fun r H H' => ((okP a (nI 1) ∧ okP a2 (nI 1)) ∧ TH g n0 H' mo 0 ∧ r = 1) ∨ (¬ (okP a (nI 1) ∧ okP a2 (nI 1)) ∧ TH g n0 H' mo 1)))) [.ref mo, .int a, .int a2].toArray s 0 0 (fun q => n0 q)) (F0 m 20 ls [.int (nI 0), .ref mo]) := by
    intro  locs   ls hok hF hl
    refine lv_iconst (v := nI 1) hx hb d_Model_same_20 (by decide) ?_
    refine q_cV (rest := []) E (c_Model_fails l g n0 mo 0 0 0 0 0 14 hw0 (nI 0) (nI 1) fd hmn (Or.inr rfl)) w_1056 w_15 w_1053 w_1055 (bw_s 24 rfl) hd_Model_fails rfl ⟨by decide, by decide⟩ (OB.recv E.2.2.2.2.2 (by rfl) hm.1) hm hF hl.1 rfl (Nat.le_of_ble_eq_true rfl) d_Model_same_21 ⟨by decide, by decide⟩ (qi (fun rf H1 locs hq hF => ?_))
    obtain ⟨hrf, hq, hm⟩ := hq
    subst hrf
    have hfr := hfr.tr hq
    rw [if_pos nI_0] at hm
    refine lv_if_eq (tgt := 29) hx hb d_Model_same_24 (by decide) (fun _ => ?_) (fun h9 => absurd (by decide) h9)
    obtain ⟨k1, e_k1, h_k1⟩ := okP_nat (by decide) (by decide) hok.1
    rw [e_k1] at hl
    obtain ⟨k2, e_k2, h_k2⟩ := okP_nat (by decide) (by decide) hok.2
    rw [e_k2] at hl
    refine lv_aload_n hx hb d_Model_same_29 rfl (lv_at hl 0 rfl) ?_
    refine lv_iconst (v := nI 0) hx hb d_Model_same_30 (by decide) ?_
    refine q_cV (rest := []) E (c_Model_use l g n0 mo 0 0 0 0 0 14 hw0 0 14 hw0 fd hmn) w_967 w_15 w_964 w_966 (bw_s 15 rfl) hd_Model_use rfl ⟨by decide, by decide⟩ (OB.recv E.2.2.2.2.2 (by rfl) hm.1) hm hF hl.1 rfl (Nat.le_of_ble_eq_true rfl) d_Model_same_31 ⟨by decide, by decide⟩ (qv (fun H2 locs hq hF => ?_))
    obtain ⟨hq, hm⟩ := hq
    have hfr := hfr.tr hq
    refine lv_aload_n hx hb d_Model_same_34 rfl (lv_at hl 0 rfl) ?_
    refine lv_iload_n hx hb d_Model_same_35 rfl (lv_at hl 1 rfl) ?_
    refine q_cS (rest := [.ref mo]) E (c_Model_slot l g n0 (nI k1)) w_1154 w_15 w_1152 w_1153 hd_Model_slot rfl ⟨by decide, by decide⟩ trivial hF hl.1 rfl (Nat.le_of_ble_eq_true rfl) d_Model_same_36 ⟨by decide, by decide⟩ (qi (fun rs H3 locs hq hF => ?_))
    obtain ⟨hrs, hq9⟩ := hq
    subst hrs
    subst hq9
    refine lv_topi (fun t9 e9 => ?_)
    obtain rfl : t9 = nI (32 + 3 * k1) := e9.trans (by rw [pk_mul, nI_add])
    refine lv_iload_n hx hb d_Model_same_39 rfl (lv_at hl 2 rfl) ?_
    refine q_cS (rest := [.int (nI (32 + 3 * k1)), .ref mo]) E (c_Model_slot l g n0 (nI k2)) w_1154 w_15 w_1152 w_1153 hd_Model_slot rfl ⟨by decide, by decide⟩ trivial hF hl.1 rfl (Nat.le_of_ble_eq_true rfl) d_Model_same_40 ⟨by decide, by decide⟩ (qi (fun rs H4 locs hq hF => ?_))
    obtain ⟨hrs, hq9⟩ := hq
    subst hrs
    subst hq9
    refine lv_topi (fun t9 e9 => ?_)
    obtain rfl : t9 = nI (32 + 3 * k2) := e9.trans (by rw [pk_mul, nI_add])
    refine q_cV (rest := []) E (c_Model_alike l g n0 mo (32 + 3 * k1) (32 + 3 * k2) 0 0 0 0 0 14 hw0 fd (by omega) (by omega)) w_1218 w_15 w_1215 w_1217 (bw_s 46 rfl) hd_Model_alike rfl ⟨by decide, by decide⟩ (OB.recv E.2.2.2.2.2 (by rfl) hm.1) hm hF hl.1 rfl (Nat.le_of_ble_eq_true rfl) d_Model_same_43 ⟨by decide, by decide⟩ (qi (fun ra H5 locs hq hF => ?_))
    obtain ⟨⟨-, hra⟩, hq, fd_1, hm⟩ := hq
    obtain rfl := hra (hz.z (by omega) (by decide)) (hz.z (by omega) (by decide))
    have hfr := hfr.tr hq
    exact q_zret E hr rfl hlk (⟨_, rfl, Or.inl ⟨hok, ⟨_, _, _, _, _, _, hw0, hm⟩, rfl⟩⟩) hF d_Model_same_46
  refine lv_aload_n hx hb d_Model_same_0 rfl (lv_at hl 0 rfl) ?_
  refine lv_iload_n hx hb d_Model_same_1 rfl (lv_at hl 1 rfl) ?_
  refine q_cS (rest := [.ref mo]) E (c_Model_noPoint l g n0 a ) w_1151 w_15 w_1149 w_1150 hd_Model_noPoint rfl ⟨by decide, by decide⟩ trivial hF hl.1 rfl (Nat.le_of_ble_eq_true rfl) d_Model_same_2 ⟨by decide, by decide⟩ (qi (fun r_0 H1 locs hq hF => ?_))
  obtain ⟨h_0, hq⟩ := hq
  subst hq
  rcases h_0 with ⟨rfl, f_0⟩ | ⟨rfl, f_0⟩
  · skip
    refine lv_if_ne (tgt := 15) hx hb d_Model_same_5 (by decide) (fun _ => ?_) (fun h9 => absurd h9 (by decide))
    refine lv_iconst (v := nI 1) hx hb d_Model_same_15 (by decide) ?_
    refine lv_goto (tgt := 20) hx hb d_Model_same_16 (by decide) ?_
    have hl : lv_has ls 3 [(0, .ref mo), (1, .int a), (2, .int a2)] := lv_sub hl [0, 1, 2] rfl
    exact bad _ ls (fun h => (f_0) h.1) hF hl
  · skip
    refine lv_if_ne (tgt := 15) hx hb d_Model_same_5 (by decide) (fun h9 => absurd (by decide) h9) (fun _ => ?_)
    refine lv_iload_n hx hb d_Model_same_8 rfl (lv_at hl 2 rfl) ?_
    refine q_cS (rest := [.ref mo]) E (c_Model_noPoint l g n0 a2 ) w_1151 w_15 w_1149 w_1150 hd_Model_noPoint rfl ⟨by decide, by decide⟩ trivial hF hl.1 rfl (Nat.le_of_ble_eq_true rfl) d_Model_same_9 ⟨by decide, by decide⟩ (qi (fun r_1 H2 locs hq hF => ?_))
    obtain ⟨h_1, hq⟩ := hq
    subst hq
    rcases h_1 with ⟨rfl, f_1⟩ | ⟨rfl, f_1⟩
    · skip
      refine lv_if_eq (tgt := 19) hx hb d_Model_same_12 (by decide) (fun h9 => absurd h9 (by decide)) (fun _ => ?_)
      refine lv_iconst (v := nI 1) hx hb d_Model_same_15 (by decide) ?_
      refine lv_goto (tgt := 20) hx hb d_Model_same_16 (by decide) ?_
      have hl : lv_has ls 3 [(0, .ref mo), (1, .int a), (2, .int a2)] := lv_sub hl [0, 1, 2] rfl
      exact bad _ ls (fun h => (f_1) h.2) hF hl
    · skip
      refine lv_if_eq (tgt := 19) hx hb d_Model_same_12 (by decide) (fun _ => ?_) (fun h9 => absurd (by decide) h9)
      refine lv_iconst (v := nI 0) hx hb d_Model_same_19 (by decide) ?_
      have hl : lv_has ls 3 [(0, .ref mo), (1, .int a), (2, .int a2)] := lv_sub hl [0, 1, 2] rfl
      exact good _ ls ⟨f_0, f_1⟩ hF hl
set_option maxHeartbeats 4000000 in
set_option maxRecDepth 100000 in
theorem c_Model_checks (l : Launch) (g : WG) (n0 : Nat → Prop) (mo : Nat) (p0 : Int32) (q0 : Int32) (z0 : Int32) (y0 : Int32) (t0 : Int32) (fd : Nat → Int64) (hmn : n0 mo) (hz : FZ fd) : Ctr l y_Model_checks (.code y_Model_checks prog_11_method_58_code 6 (some FieldType.boolean)) 6 143 0 0 n0 g [.ref mo, .int p0, .int q0, .int z0, .int y0, .int t0] (fun H => MS g n0 H mo 0 0 0 0 0 14 fd) (QI (fun r H H' => ((okP p0 (nI 1) ∧ okP q0 (nI 1) ∧ okS z0 (nI 1) ∧ okS y0 (nI 1) ∧ okS t0 (nI 1)) ∧ TH g n0 H' mo 0 ∧ r = 1) ∨ (¬ (okP p0 (nI 1) ∧ okP q0 (nI 1) ∧ okS z0 (nI 1) ∧ okS y0 (nI 1) ∧ okS t0 (nI 1)) ∧ TH g n0 H' mo 1))) := by
  refine ctr_mk l (lv0 := [(0, .ref mo), (1, .int p0), (2, .int q0), (3, .int z0), (4, .int y0), (5, .int t0)]) (by decide) (Nat.le_of_ble_eq_true rfl) rfl ?_
  intro p e s m below meth c ls E hr hlk hnm hl hP
  have hx := E.1
  have hb := E.2.1
  have hK := E.2.2.2.2.2
  have hF : ∀ q ∈ ([] : List Loc), n0 q.base := fun q hq => absurd hq List.not_mem_nil
  have hm := hP
  have hfr : FRM (MR mo) s.heap s.heap := FRM.rf
  have bad : ∀ (locs : List Loc) (ls : Array Slot), ¬ (okP p0 (nI 1) ∧ okP q0 (nI 1) ∧ okS z0 (nI 1) ∧ okS y0 (nI 1) ∧ okS t0 (nI 1)) → (∀ q ∈ locs, n0 q.base) → lv_has ls 6 [(0, .ref mo), (1, .int p0), (2, .int q0), (3, .int z0), (4, .int y0), (5, .int t0)] → W p l e { frames := 6, cells := 0, slots := 0, locals := 143 } s m [.ref mo, .int p0, .int q0, .int z0, .int y0, .int t0].toArray below meth c s.heap locs 0 0 (MQ below (QcP (QI (fun r H H' => ((okP p0 (nI 1) ∧ okP q0 (nI 1) ∧ okS z0 (nI 1) ∧ okS y0 (nI 1) ∧ okS t0 (nI 1)) ∧ TH g n0 H' mo 0 ∧ r = 1) ∨ (¬ (okP p0 (nI 1) ∧ okP q0 (nI 1) ∧ okS z0 (nI 1) ∧ okS y0 (nI 1) ∧ okS t0 (nI 1)) ∧ TH g n0 H' mo 1)))) [.ref mo, .int p0, .int q0, .int z0, .int y0, .int t0].toArray s 0 0 (fun q => n0 q)) (F0 m 43 ls [.int (nI 1), .ref mo]) := by
    intro  locs   ls hno hF hl
    refine lv_iconst (v := nI 1) hx hb d_Model_checks_43 (by decide) ?_
    refine q_cV (rest := []) E (c_Model_fails l g n0 mo 0 0 0 0 0 14 hw0 (nI 1) (nI 1) fd hmn (Or.inl rfl)) w_1056 w_15 w_1053 w_1055 (bw_s 24 rfl) hd_Model_fails rfl ⟨by decide, by decide⟩ (OB.recv E.2.2.2.2.2 (by rfl) hm.1) hm hF hl.1 rfl (Nat.le_of_ble_eq_true rfl) d_Model_checks_44 ⟨by decide, by decide⟩ (qi (fun rf H1 locs hq hF => ?_))
    obtain ⟨hrf, hq, hm⟩ := hq
    subst hrf
    have hfr := hfr.tr hq
    rw [if_neg (by decide)] at hm
    refine lv_if_eq (tgt := 52) hx hb d_Model_checks_47 (by decide) (fun h9 => absurd h9 (by decide)) (fun _ => ?_)
    refine lv_iconst (v := nI 0) hx hb d_Model_checks_50 (by decide) ?_
    exact q_zret E hr rfl hlk (⟨_, rfl, Or.inr ⟨hno, ⟨_, _, _, _, _, _, hw0, hm⟩⟩⟩) hF d_Model_checks_51
  have good : ∀ (locs : List Loc) (ls : Array Slot), okP p0 (nI 1) ∧ okP q0 (nI 1) ∧ okS z0 (nI 1) ∧ okS y0 (nI 1) ∧ okS t0 (nI 1) → (∀ q ∈ locs, n0 q.base) → lv_has ls 6 [(0, .ref mo), (1, .int p0), (2, .int q0), (3, .int z0), (4, .int y0), (5, .int t0)] → W p l e { frames := 6, cells := 0, slots := 0, locals := 143 } s m [.ref mo, .int p0, .int q0, .int z0, .int y0, .int t0].toArray below meth c s.heap locs 0 0 (MQ below (QcP (QI (fun r H H' => ((okP p0 (nI 1) ∧ okP q0 (nI 1) ∧ okS z0 (nI 1) ∧ okS y0 (nI 1) ∧ okS t0 (nI 1)) ∧ TH g n0 H' mo 0 ∧ r = 1) ∨ (¬ (okP p0 (nI 1) ∧ okP q0 (nI 1) ∧ okS z0 (nI 1) ∧ okS y0 (nI 1) ∧ okS t0 (nI 1)) ∧ TH g n0 H' mo 1)))) [.ref mo, .int p0, .int q0, .int z0, .int y0, .int t0].toArray s 0 0 (fun q => n0 q)) (F0 m 43 ls [.int (nI 0), .ref mo]) := by
    intro  locs   ls hok hF hl
    refine lv_iconst (v := nI 1) hx hb d_Model_checks_43 (by decide) ?_
    refine q_cV (rest := []) E (c_Model_fails l g n0 mo 0 0 0 0 0 14 hw0 (nI 0) (nI 1) fd hmn (Or.inr rfl)) w_1056 w_15 w_1053 w_1055 (bw_s 24 rfl) hd_Model_fails rfl ⟨by decide, by decide⟩ (OB.recv E.2.2.2.2.2 (by rfl) hm.1) hm hF hl.1 rfl (Nat.le_of_ble_eq_true rfl) d_Model_checks_44 ⟨by decide, by decide⟩ (qi (fun rf H1 locs hq hF => ?_))
    obtain ⟨hrf, hq, hm⟩ := hq
    subst hrf
    have hfr := hfr.tr hq
    rw [if_pos nI_0] at hm
    refine lv_if_eq (tgt := 52) hx hb d_Model_checks_47 (by decide) (fun _ => ?_) (fun h9 => absurd (by decide) h9)
    obtain ⟨k1, e_k1, h_k1⟩ := okP_nat (by decide) (by decide) hok.1
    rw [e_k1] at hl
    obtain ⟨k2, e_k2, h_k2⟩ := okP_nat (by decide) (by decide) hok.2.1
    rw [e_k2] at hl
    obtain ⟨k3, e_k3, h_k3⟩ := okS_nat (by decide) (by decide) hok.2.2.1
    rw [e_k3] at hl
    obtain ⟨k4, e_k4, h_k4⟩ := okS_nat (by decide) (by decide) hok.2.2.2.1
    rw [e_k4] at hl
    obtain ⟨k5, e_k5, h_k5⟩ := okS_nat (by decide) (by decide) hok.2.2.2.2
    rw [e_k5] at hl
    have hP0 : 1 < PP 0 14 := by decide +kernel
    have hP1 : 1 < PP 1 10 := by decide +kernel
    refine lv_aload_n hx hb d_Model_checks_52 rfl (lv_at hl 0 rfl) ?_
    refine lv_iconst (v := nI 1) hx hb d_Model_checks_53 (by decide) ?_
    refine q_cV (rest := []) E (c_Model_use l g n0 mo 0 0 0 0 0 14 hw0 1 10 hw1 fd hmn) w_967 w_15 w_964 w_966 (bw_s 15 rfl) hd_Model_use rfl ⟨by decide, by decide⟩ (OB.recv E.2.2.2.2.2 (by rfl) hm.1) hm hF hl.1 rfl (Nat.le_of_ble_eq_true rfl) d_Model_checks_54 ⟨by decide, by decide⟩ (qv (fun H2 locs hq hF => ?_))
    obtain ⟨hq, hm⟩ := hq
    have hfr := hfr.tr hq
    refine lv_aload_n hx hb d_Model_checks_57 rfl (lv_at hl 0 rfl) ?_
    refine lv_sipush (v := nI 166) hx hb d_Model_checks_58 (by decide) ?_
    refine lv_iload hx hb d_Model_checks_61 (lv_at hl 5 rfl) ?_
    refine lv_iload_n hx hb d_Model_checks_63 rfl (lv_at hl 3 rfl) ?_
    refine q_cV (rest := []) E (c_Model_less l g n0 mo 166 k5 k3 0 0 0 0 1 10 hw1  fd (by omega) (by omega) (by omega) ) w_1109 w_15 w_1106 w_1108 (bw_s 31 rfl) hd_Model_less rfl ⟨by decide, by decide⟩ (OB.recv E.2.2.2.2.2 (by rfl) hm.1) hm hF hl.1 rfl (Nat.le_of_ble_eq_true rfl) d_Model_checks_64 ⟨by decide, by decide⟩ (qv (fun H3 locs hq hF => ?_))
    obtain ⟨hq, fd_1, hm, hpv, hv⟩ := hq
    have hfr := hfr.tr (kjR hq)
    have z166 : Z0 fd_1 166 := hpv.z0 (by decide) (r_less hv (hz.s (by omega) (by decide)) (hz.s (by omega) (by decide)) (Int.sub_self _) ⟨Int.le_refl _, by omega⟩ (pp2 hw1))
    have hp1 := hpv
    clear hv hpv
    refine lv_aload_n hx hb d_Model_checks_67 rfl (lv_at hl 0 rfl) ?_
    refine lv_iconst (v := nI 0) hx hb d_Model_checks_68 (by decide) ?_
    refine q_cV (rest := []) E (c_Model_use l g n0 mo 0 0 0 0 1 10 hw1 0 14 hw0 fd_1 hmn) w_967 w_15 w_964 w_966 (bw_s 15 rfl) hd_Model_use rfl ⟨by decide, by decide⟩ (OB.recv E.2.2.2.2.2 (by rfl) hm.1) hm hF hl.1 rfl (Nat.le_of_ble_eq_true rfl) d_Model_checks_69 ⟨by decide, by decide⟩ (qv (fun H4 locs hq hF => ?_))
    obtain ⟨hq, hm⟩ := hq
    have hfr := hfr.tr hq
    refine lv_aload_n hx hb d_Model_checks_72 rfl (lv_at hl 0 rfl) ?_
    refine lv_sipush (v := nI 161) hx hb d_Model_checks_73 (by decide) ?_
    refine lv_sipush (v := nI 166) hx hb d_Model_checks_76 (by decide) ?_
    refine lv_iload_n hx hb d_Model_checks_79 rfl (lv_at hl 2 rfl) ?_
    refine q_cS (rest := [.int (nI 166), .int (nI 161), .ref mo]) E (c_Model_slot l g n0 (nI k2)) w_1154 w_15 w_1152 w_1153 hd_Model_slot rfl ⟨by decide, by decide⟩ trivial hF hl.1 rfl (Nat.le_of_ble_eq_true rfl) d_Model_checks_80 ⟨by decide, by decide⟩ (qi (fun rs H5 locs hq hF => ?_))
    obtain ⟨hrs, hq9⟩ := hq
    subst hrs
    subst hq9
    refine lv_topi (fun t9 e9 => ?_)
    obtain rfl : t9 = nI (32 + 3 * k2) := e9.trans (by rw [pk_mul, nI_add])
    refine q_cV (rest := []) E (c_Model_multiple l g n0 mo 161 166 (32 + 3 * k2) 0 0 0 0 0 14 hw0 fd_1 (by omega) (by omega) (by omega)) w_1167 w_15 w_1164 w_1166 (bw_s 40 rfl) hd_Model_multiple rfl ⟨by decide, by decide⟩ (OB.recv E.2.2.2.2.2 (by rfl) hm.1) hm hF hl.1 rfl (Nat.le_of_ble_eq_true rfl) d_Model_checks_83 ⟨by decide, by decide⟩ (qv (fun H6 locs hq hF => ?_))
    obtain ⟨hq, fd_2, hm, hS9, hV9⟩ := hq
    have hfr := hfr.tr hq
    have hS2 := hS9
    have v163 := (hV9 z166).2.2
    refine lv_aload_n hx hb d_Model_checks_86 rfl (lv_at hl 0 rfl) ?_
    refine lv_sipush (v := nI 157) hx hb d_Model_checks_87 (by decide) ?_
    refine lv_iload hx hb d_Model_checks_90 (lv_at hl 4 rfl) ?_
    refine lv_bipush (v := nI 116) hx hb d_Model_checks_92 (by decide) ?_
    refine q_cV (rest := []) E (c_Model_multiple l g n0 mo 157 k4 116 0 0 0 0 0 14 hw0 fd_2 (by omega) (by omega) (by omega)) w_1167 w_15 w_1164 w_1166 (bw_s 40 rfl) hd_Model_multiple rfl ⟨by decide, by decide⟩ (OB.recv E.2.2.2.2.2 (by rfl) hm.1) hm hF hl.1 rfl (Nat.le_of_ble_eq_true rfl) d_Model_checks_94 ⟨by decide, by decide⟩ (qv (fun H7 locs hq hF => ?_))
    obtain ⟨hq, fd_3, hm, hS9, hV9⟩ := hq
    have hfr := hfr.tr hq
    have hS3 := hS9
    have hy4 := hV9 (hS2.z0 (by omega) (out_z0 hp1.1 (by omega) (hz.1 k4 (by omega))))
    refine lv_aload_n hx hb d_Model_checks_97 rfl (lv_at hl 0 rfl) ?_
    refine lv_sipush (v := nI 160) hx hb d_Model_checks_98 (by decide) ?_
    refine q_cV (rest := []) E (c_Model_zero l g n0 mo 160 0 0 0 0 0 14 hw0  fd_3 (by omega) ) w_1000 w_15 w_997 w_999 (bw_s 23 rfl) hd_Model_zero rfl ⟨by decide, by decide⟩ (OB.recv E.2.2.2.2.2 (by rfl) hm.1) hm hF hl.1 rfl (Nat.le_of_ble_eq_true rfl) d_Model_checks_101 ⟨by decide, by decide⟩ (qv (fun H8 locs hq hF => ?_))
    obtain ⟨hq, fd_4, hm, hpv⟩ := hq
    have hfr := hfr.tr hq
    have hp4 := hpv
    refine lv_aload_n hx hb d_Model_checks_104 rfl (lv_at hl 0 rfl) ?_
    refine lv_sipush (v := nI 158) hx hb d_Model_checks_105 (by decide) ?_
    refine lv_sipush (v := nI 160) hx hb d_Model_checks_108 (by decide) ?_
    refine lv_sipush (v := nI 158) hx hb d_Model_checks_111 (by decide) ?_
    refine q_cV (rest := []) E (c_Model_less l g n0 mo 158 160 158 0 0 0 0 0 14 hw0  fd_4 (by omega) (by omega) (by omega) ) w_1109 w_15 w_1106 w_1108 (bw_s 31 rfl) hd_Model_less rfl ⟨by decide, by decide⟩ (OB.recv E.2.2.2.2.2 (by rfl) hm.1) hm hF hl.1 rfl (Nat.le_of_ble_eq_true rfl) d_Model_checks_114 ⟨by decide, by decide⟩ (qv (fun H9 locs hq hF => ?_))
    obtain ⟨hq, fd_5, hm, hpv, hv⟩ := hq
    have hfr := hfr.tr (kjR hq)
    have hp5 := hpv
    have w160 : SV fd_4 160 14 = 0 := Z0.sv (s := 160) hp4.2 (by decide)
    have w158 : SV fd_4 158 14 = 1 := (out_sv hp4.1 (by decide) (by decide)).trans hy4.2.1
    have v158 : SV fd_5 158 14 = PP 0 14 - 1 := r_lessN hv (by rw [w160, w158]; omega) ⟨by omega, by omega⟩ (pp2 hw0)
    clear hv hpv
    have v157 : SV fd_5 157 14 = 0 := (out_sv hp5.1 (by decide) (by decide)).trans ((out_sv hp4.1 (by decide) (by decide)).trans hy4.1)
    have v159 : SV fd_5 159 14 = 0 := (out_sv hp5.1 (by decide) (by decide)).trans ((out_sv hp4.1 (by decide) (by decide)).trans hy4.2.2)
    have v163 : SV fd_5 163 14 = 0 := (out_sv hp5.1 (by decide) (by decide)).trans ((out_sv hp4.1 (by decide) (by decide)).trans ((hS3.sv (by omega) (by decide)).trans v163))
    have hpt : ∀ t, t < 68 → SV fd_5 t 14 = SV fd t 14 := fun t ht => (out_sv hp5.1 (by omega) (by decide)).trans ((out_sv hp4.1 (by omega) (by decide)).trans ((hS3.sv (by omega) (by decide)).trans ((hS2.sv (by omega) (by decide)).trans (out_sv hp1.1 (by omega) (by decide)))))
    refine lv_aload_n hx hb d_Model_checks_117 rfl (lv_at hl 0 rfl) ?_
    refine lv_sipush (v := nI 164) hx hb d_Model_checks_118 (by decide) ?_
    refine lv_iload_n hx hb d_Model_checks_121 rfl (lv_at hl 1 rfl) ?_
    refine q_cS (rest := [.int (nI 164), .ref mo]) E (c_Model_slot l g n0 (nI k1)) w_1154 w_15 w_1152 w_1153 hd_Model_slot rfl ⟨by decide, by decide⟩ trivial hF hl.1 rfl (Nat.le_of_ble_eq_true rfl) d_Model_checks_122 ⟨by decide, by decide⟩ (qi (fun rs H10 locs hq hF => ?_))
    obtain ⟨hrs, hq9⟩ := hq
    subst hrs
    subst hq9
    refine lv_topi (fun t9 e9 => ?_)
    obtain rfl : t9 = nI (32 + 3 * k1) := e9.trans (by rw [pk_mul, nI_add])
    refine lv_sipush (v := nI 157) hx hb d_Model_checks_125 (by decide) ?_
    refine q_cV (rest := []) E (c_Model_sum l g n0 mo 164 (32 + 3 * k1) 157 0 0 0 0 0 14 hw0 fd_5 (by omega) (by omega) (by omega) True False 1 (PP 0 14 - 1) (fun _ => ⟨⟨(hpt _ (by omega)).trans (hz.x (by omega) (by decide)), (hpt _ (by omega)).trans (hz.2 k1 (by omega)).2.1, (hpt _ (by omega)).trans (hz.z (by omega) (by decide)), v157, v158, v159⟩, ⟨by decide, hP0⟩, ⟨by omega, by omega⟩, ⟨by omega, by omega⟩⟩) (fun h => h.elim)) w_1175 w_15 w_1172 w_1174 (bw_s 42 rfl) hd_Model_sum rfl ⟨by decide, by decide⟩ (OB.recv E.2.2.2.2.2 (by rfl) hm.1) hm hF hl.1 rfl (Nat.le_of_ble_eq_true rfl) d_Model_checks_128 ⟨by decide, by decide⟩ (qv (fun H11 locs hq hF => ?_))
    obtain ⟨hq, fd_6, hm, hS9, hC9, hD9⟩ := hq
    have hfr := hfr.tr hq
    refine lv_aload_n hx hb d_Model_checks_131 rfl (lv_at hl 0 rfl) ?_
    refine lv_sipush (v := nI 164) hx hb d_Model_checks_132 (by decide) ?_
    refine lv_sipush (v := nI 161) hx hb d_Model_checks_135 (by decide) ?_
    refine q_cV (rest := []) E (c_Model_alike l g n0 mo 164 161 0 0 0 0 0 14 hw0 fd_6 (by omega) (by omega)) w_1218 w_15 w_1215 w_1217 (bw_s 46 rfl) hd_Model_alike rfl ⟨by decide, by decide⟩ (OB.recv E.2.2.2.2.2 (by rfl) hm.1) hm hF hl.1 rfl (Nat.le_of_ble_eq_true rfl) d_Model_checks_138 ⟨by decide, by decide⟩ (qi (fun ra H12 locs hq hF => ?_))
    obtain ⟨⟨-, hra⟩, hq, fd_7, hm⟩ := hq
    obtain rfl := hra ((hC9 trivial).2) ((hS9.sv (by omega) (by decide)).trans v163)
    have hfr := hfr.tr hq
    exact q_zret E hr rfl hlk (⟨_, rfl, Or.inl ⟨hok, ⟨_, _, _, _, _, _, hw0, hm⟩, rfl⟩⟩) hF d_Model_checks_141
  refine lv_aload_n hx hb d_Model_checks_0 rfl (lv_at hl 0 rfl) ?_
  refine lv_iload_n hx hb d_Model_checks_1 rfl (lv_at hl 1 rfl) ?_
  refine q_cS (rest := [.ref mo]) E (c_Model_noPoint l g n0 p0 ) w_1151 w_15 w_1149 w_1150 hd_Model_noPoint rfl ⟨by decide, by decide⟩ trivial hF hl.1 rfl (Nat.le_of_ble_eq_true rfl) d_Model_checks_2 ⟨by decide, by decide⟩ (qi (fun r_0 H1 locs hq hF => ?_))
  obtain ⟨h_0, hq⟩ := hq
  subst hq
  rcases h_0 with ⟨rfl, f_0⟩ | ⟨rfl, f_0⟩
  · skip
    refine lv_if_ne (tgt := 38) hx hb d_Model_checks_5 (by decide) (fun _ => ?_) (fun h9 => absurd h9 (by decide))
    refine lv_iconst (v := nI 1) hx hb d_Model_checks_38 (by decide) ?_
    refine lv_goto (tgt := 43) hx hb d_Model_checks_39 (by decide) ?_
    have hl : lv_has ls 6 [(0, .ref mo), (1, .int p0), (2, .int q0), (3, .int z0), (4, .int y0), (5, .int t0)] := lv_sub hl [0, 1, 2, 3, 4, 5] rfl
    exact bad _ ls (fun h => (f_0) h.1) hF hl
  · skip
    refine lv_if_ne (tgt := 38) hx hb d_Model_checks_5 (by decide) (fun h9 => absurd (by decide) h9) (fun _ => ?_)
    refine lv_iload_n hx hb d_Model_checks_8 rfl (lv_at hl 2 rfl) ?_
    refine q_cS (rest := [.ref mo]) E (c_Model_noPoint l g n0 q0 ) w_1151 w_15 w_1149 w_1150 hd_Model_noPoint rfl ⟨by decide, by decide⟩ trivial hF hl.1 rfl (Nat.le_of_ble_eq_true rfl) d_Model_checks_9 ⟨by decide, by decide⟩ (qi (fun r_1 H2 locs hq hF => ?_))
    obtain ⟨h_1, hq⟩ := hq
    subst hq
    rcases h_1 with ⟨rfl, f_1⟩ | ⟨rfl, f_1⟩
    · skip
      refine lv_if_ne (tgt := 38) hx hb d_Model_checks_12 (by decide) (fun _ => ?_) (fun h9 => absurd h9 (by decide))
      refine lv_iconst (v := nI 1) hx hb d_Model_checks_38 (by decide) ?_
      refine lv_goto (tgt := 43) hx hb d_Model_checks_39 (by decide) ?_
      have hl : lv_has ls 6 [(0, .ref mo), (1, .int p0), (2, .int q0), (3, .int z0), (4, .int y0), (5, .int t0)] := lv_sub hl [0, 1, 2, 3, 4, 5] rfl
      exact bad _ ls (fun h => (f_1) h.2.1) hF hl
    · skip
      refine lv_if_ne (tgt := 38) hx hb d_Model_checks_12 (by decide) (fun h9 => absurd (by decide) h9) (fun _ => ?_)
      refine lv_iload_n hx hb d_Model_checks_15 rfl (lv_at hl 3 rfl) ?_
      refine q_cS (rest := [.ref mo]) E (c_Model_noScalar l g n0 z0 ) w_1064 w_15 w_1062 w_1063 hd_Model_noScalar rfl ⟨by decide, by decide⟩ trivial hF hl.1 rfl (Nat.le_of_ble_eq_true rfl) d_Model_checks_16 ⟨by decide, by decide⟩ (qi (fun r_2 H3 locs hq hF => ?_))
      obtain ⟨h_2, hq⟩ := hq
      subst hq
      rcases h_2 with ⟨rfl, f_2⟩ | ⟨rfl, f_2⟩
      · skip
        refine lv_if_ne (tgt := 38) hx hb d_Model_checks_19 (by decide) (fun _ => ?_) (fun h9 => absurd h9 (by decide))
        refine lv_iconst (v := nI 1) hx hb d_Model_checks_38 (by decide) ?_
        refine lv_goto (tgt := 43) hx hb d_Model_checks_39 (by decide) ?_
        have hl : lv_has ls 6 [(0, .ref mo), (1, .int p0), (2, .int q0), (3, .int z0), (4, .int y0), (5, .int t0)] := lv_sub hl [0, 1, 2, 3, 4, 5] rfl
        exact bad _ ls (fun h => (f_2) h.2.2.1) hF hl
      · skip
        refine lv_if_ne (tgt := 38) hx hb d_Model_checks_19 (by decide) (fun h9 => absurd (by decide) h9) (fun _ => ?_)
        refine lv_iload hx hb d_Model_checks_22 (lv_at hl 4 rfl) ?_
        refine q_cS (rest := [.ref mo]) E (c_Model_noScalar l g n0 y0 ) w_1064 w_15 w_1062 w_1063 hd_Model_noScalar rfl ⟨by decide, by decide⟩ trivial hF hl.1 rfl (Nat.le_of_ble_eq_true rfl) d_Model_checks_24 ⟨by decide, by decide⟩ (qi (fun r_3 H4 locs hq hF => ?_))
        obtain ⟨h_3, hq⟩ := hq
        subst hq
        rcases h_3 with ⟨rfl, f_3⟩ | ⟨rfl, f_3⟩
        · skip
          refine lv_if_ne (tgt := 38) hx hb d_Model_checks_27 (by decide) (fun _ => ?_) (fun h9 => absurd h9 (by decide))
          refine lv_iconst (v := nI 1) hx hb d_Model_checks_38 (by decide) ?_
          refine lv_goto (tgt := 43) hx hb d_Model_checks_39 (by decide) ?_
          have hl : lv_has ls 6 [(0, .ref mo), (1, .int p0), (2, .int q0), (3, .int z0), (4, .int y0), (5, .int t0)] := lv_sub hl [0, 1, 2, 3, 4, 5] rfl
          exact bad _ ls (fun h => (f_3) h.2.2.2.1) hF hl
        · skip
          refine lv_if_ne (tgt := 38) hx hb d_Model_checks_27 (by decide) (fun h9 => absurd (by decide) h9) (fun _ => ?_)
          refine lv_iload hx hb d_Model_checks_30 (lv_at hl 5 rfl) ?_
          refine q_cS (rest := [.ref mo]) E (c_Model_noScalar l g n0 t0 ) w_1064 w_15 w_1062 w_1063 hd_Model_noScalar rfl ⟨by decide, by decide⟩ trivial hF hl.1 rfl (Nat.le_of_ble_eq_true rfl) d_Model_checks_32 ⟨by decide, by decide⟩ (qi (fun r_4 H5 locs hq hF => ?_))
          obtain ⟨h_4, hq⟩ := hq
          subst hq
          rcases h_4 with ⟨rfl, f_4⟩ | ⟨rfl, f_4⟩
          · skip
            refine lv_if_eq (tgt := 42) hx hb d_Model_checks_35 (by decide) (fun h9 => absurd h9 (by decide)) (fun _ => ?_)
            refine lv_iconst (v := nI 1) hx hb d_Model_checks_38 (by decide) ?_
            refine lv_goto (tgt := 43) hx hb d_Model_checks_39 (by decide) ?_
            have hl : lv_has ls 6 [(0, .ref mo), (1, .int p0), (2, .int q0), (3, .int z0), (4, .int y0), (5, .int t0)] := lv_sub hl [0, 1, 2, 3, 4, 5] rfl
            exact bad _ ls (fun h => (f_4) h.2.2.2.2) hF hl
          · skip
            refine lv_if_eq (tgt := 42) hx hb d_Model_checks_35 (by decide) (fun _ => ?_) (fun h9 => absurd (by decide) h9)
            refine lv_iconst (v := nI 0) hx hb d_Model_checks_42 (by decide) ?_
            have hl : lv_has ls 6 [(0, .ref mo), (1, .int p0), (2, .int q0), (3, .int z0), (4, .int y0), (5, .int t0)] := lv_sub hl [0, 1, 2, 3, 4, 5] rfl
            exact good _ ls ⟨f_0, f_1, f_2, f_3, f_4⟩ hF hl
