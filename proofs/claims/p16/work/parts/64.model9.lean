theorem l_ge0 {v : Int64} (h : 0 ≤ lg_cmp v 0) : ¬ v < 0 := fun q => by
  have h1 := Int64.lt_iff_toInt_lt.mp q
  have h2 := cmp_ge0 (x := v) (y := 0) (fun e => Int32.lt_irrefl (Int32.lt_of_le_of_lt h e))
  omega
theorem l_lt0 {v : Int64} (h : ¬ 0 ≤ lg_cmp v 0) : v < 0 := Int64.lt_iff_toInt_lt.mpr (cmp_lt h)
theorem hw0 : WH 0 14 := Or.inl ⟨rfl, rfl⟩
theorem hw1 : WH 1 10 := Or.inr ⟨rfl, rfl⟩
abbrev y_Model_set : MethodName := ⟨"KateDeskModel", "set", "(IJ)V"⟩
theorem hd_Model_set : y_Model_set.cls ≠ "java/lang/invoke/MethodHandle" ∧ y_Model_set.cls ≠ "java/lang/invoke/VarHandle" ∧ (parseMethodDescriptor y_Model_set.desc).map (fun d => d.parameters.length) = some 2 := by decide +kernel
theorem d_Model_set_0 : decode prog_11_method_39_code 0 = .ok (.aload_n 0, 1) := by decide +kernel
theorem d_Model_set_1 : decode prog_11_method_39_code 1 = .ok (.iload_n 1, 1) := by decide +kernel
theorem d_Model_set_2 : decode prog_11_method_39_code 2 = .ok (.invokestatic 219, 3) := by decide +kernel
theorem d_Model_set_5 : decode prog_11_method_39_code 5 = .ok (.ifCond .ne 9, 3) := by decide +kernel
theorem d_Model_set_8 : decode prog_11_method_39_code 8 = .ok (.lload_n 2, 1) := by decide +kernel
theorem d_Model_set_9 : decode prog_11_method_39_code 9 = .ok (.lconst 0, 1) := by decide +kernel
theorem d_Model_set_10 : decode prog_11_method_39_code 10 = .ok (.lcmp, 1) := by decide +kernel
theorem d_Model_set_11 : decode prog_11_method_39_code 11 = .ok (.ifCond .ge 7, 3) := by decide +kernel
theorem d_Model_set_14 : decode prog_11_method_39_code 14 = .ok (.iconst 1, 1) := by decide +kernel
theorem d_Model_set_15 : decode prog_11_method_39_code 15 = .ok (.goto 4, 3) := by decide +kernel
theorem d_Model_set_18 : decode prog_11_method_39_code 18 = .ok (.iconst 0, 1) := by decide +kernel
theorem d_Model_set_19 : decode prog_11_method_39_code 19 = .ok (.iconst 1, 1) := by decide +kernel
theorem d_Model_set_20 : decode prog_11_method_39_code 20 = .ok (.invokevirtual 223, 3) := by decide +kernel
theorem d_Model_set_23 : decode prog_11_method_39_code 23 = .ok (.ifCond .eq 4, 3) := by decide +kernel
theorem d_Model_set_26 : decode prog_11_method_39_code 26 = .ok (.return_, 1) := by decide +kernel
theorem d_Model_set_27 : decode prog_11_method_39_code 27 = .ok (.aload_n 0, 1) := by decide +kernel
theorem d_Model_set_28 : decode prog_11_method_39_code 28 = .ok (.iload_n 1, 1) := by decide +kernel
theorem d_Model_set_29 : decode prog_11_method_39_code 29 = .ok (.lload_n 2, 1) := by decide +kernel
theorem d_Model_set_30 : decode prog_11_method_39_code 30 = .ok (.invokevirtual 235, 3) := by decide +kernel
theorem d_Model_set_33 : decode prog_11_method_39_code 33 = .ok (.return_, 1) := by decide +kernel
abbrev y_Model_power : MethodName := ⟨"KateDeskModel", "power", "(IIJ)V"⟩
theorem hd_Model_power : y_Model_power.cls ≠ "java/lang/invoke/MethodHandle" ∧ y_Model_power.cls ≠ "java/lang/invoke/VarHandle" ∧ (parseMethodDescriptor y_Model_power.desc).map (fun d => d.parameters.length) = some 3 := by decide +kernel
theorem d_Model_power_0 : decode prog_11_method_42_code 0 = .ok (.aload_n 0, 1) := by decide +kernel
theorem d_Model_power_1 : decode prog_11_method_42_code 1 = .ok (.iload_n 1, 1) := by decide +kernel
theorem d_Model_power_2 : decode prog_11_method_42_code 2 = .ok (.invokestatic 219, 3) := by decide +kernel
theorem d_Model_power_5 : decode prog_11_method_42_code 5 = .ok (.ifCond .ne 16, 3) := by decide +kernel
theorem d_Model_power_8 : decode prog_11_method_42_code 8 = .ok (.iload_n 2, 1) := by decide +kernel
theorem d_Model_power_9 : decode prog_11_method_42_code 9 = .ok (.invokestatic 219, 3) := by decide +kernel
theorem d_Model_power_12 : decode prog_11_method_42_code 12 = .ok (.ifCond .ne 9, 3) := by decide +kernel
theorem d_Model_power_15 : decode prog_11_method_42_code 15 = .ok (.lload_n 3, 1) := by decide +kernel
theorem d_Model_power_16 : decode prog_11_method_42_code 16 = .ok (.lconst 0, 1) := by decide +kernel
theorem d_Model_power_17 : decode prog_11_method_42_code 17 = .ok (.lcmp, 1) := by decide +kernel
theorem d_Model_power_18 : decode prog_11_method_42_code 18 = .ok (.ifCond .ge 7, 3) := by decide +kernel
theorem d_Model_power_21 : decode prog_11_method_42_code 21 = .ok (.iconst 1, 1) := by decide +kernel
theorem d_Model_power_22 : decode prog_11_method_42_code 22 = .ok (.goto 4, 3) := by decide +kernel
theorem d_Model_power_25 : decode prog_11_method_42_code 25 = .ok (.iconst 0, 1) := by decide +kernel
theorem d_Model_power_26 : decode prog_11_method_42_code 26 = .ok (.iconst 1, 1) := by decide +kernel
theorem d_Model_power_27 : decode prog_11_method_42_code 27 = .ok (.invokevirtual 223, 3) := by decide +kernel
theorem d_Model_power_30 : decode prog_11_method_42_code 30 = .ok (.ifCond .eq 4, 3) := by decide +kernel
theorem d_Model_power_33 : decode prog_11_method_42_code 33 = .ok (.return_, 1) := by decide +kernel
theorem d_Model_power_34 : decode prog_11_method_42_code 34 = .ok (.aload_n 0, 1) := by decide +kernel
theorem d_Model_power_35 : decode prog_11_method_42_code 35 = .ok (.iconst 1, 1) := by decide +kernel
theorem d_Model_power_36 : decode prog_11_method_42_code 36 = .ok (.invokevirtual 137, 3) := by decide +kernel
theorem d_Model_power_39 : decode prog_11_method_42_code 39 = .ok (.aload_n 0, 1) := by decide +kernel
theorem d_Model_power_40 : decode prog_11_method_42_code 40 = .ok (.sipush 145, 3) := by decide +kernel
theorem d_Model_power_43 : decode prog_11_method_42_code 43 = .ok (.lload_n 3, 1) := by decide +kernel
theorem d_Model_power_44 : decode prog_11_method_42_code 44 = .ok (.invokevirtual 235, 3) := by decide +kernel
theorem d_Model_power_47 : decode prog_11_method_42_code 47 = .ok (.aload_n 0, 1) := by decide +kernel
theorem d_Model_power_48 : decode prog_11_method_42_code 48 = .ok (.iload_n 1, 1) := by decide +kernel
theorem d_Model_power_49 : decode prog_11_method_42_code 49 = .ok (.iload_n 2, 1) := by decide +kernel
theorem d_Model_power_50 : decode prog_11_method_42_code 50 = .ok (.sipush 145, 3) := by decide +kernel
theorem d_Model_power_53 : decode prog_11_method_42_code 53 = .ok (.invokevirtual 197, 3) := by decide +kernel
theorem d_Model_power_56 : decode prog_11_method_42_code 56 = .ok (.return_, 1) := by decide +kernel
abbrev y_Model_unity : MethodName := ⟨"KateDeskModel", "unity", "(II)V"⟩
theorem hd_Model_unity : y_Model_unity.cls ≠ "java/lang/invoke/MethodHandle" ∧ y_Model_unity.cls ≠ "java/lang/invoke/VarHandle" ∧ (parseMethodDescriptor y_Model_unity.desc).map (fun d => d.parameters.length) = some 2 := by decide +kernel
theorem d_Model_unity_0 : decode prog_11_method_44_code 0 = .ok (.aload_n 0, 1) := by decide +kernel
theorem d_Model_unity_1 : decode prog_11_method_44_code 1 = .ok (.iload_n 1, 1) := by decide +kernel
theorem d_Model_unity_2 : decode prog_11_method_44_code 2 = .ok (.invokestatic 219, 3) := by decide +kernel
theorem d_Model_unity_5 : decode prog_11_method_44_code 5 = .ok (.ifCond .ne 15, 3) := by decide +kernel
theorem d_Model_unity_8 : decode prog_11_method_44_code 8 = .ok (.iload_n 2, 1) := by decide +kernel
theorem d_Model_unity_9 : decode prog_11_method_44_code 9 = .ok (.i2l, 1) := by decide +kernel
theorem d_Model_unity_10 : decode prog_11_method_44_code 10 = .ok (.lconst 0, 1) := by decide +kernel
theorem d_Model_unity_11 : decode prog_11_method_44_code 11 = .ok (.ldc2_w 257, 3) := by decide +kernel
theorem d_Model_unity_14 : decode prog_11_method_44_code 14 = .ok (.invokestatic 242, 3) := by decide +kernel
theorem d_Model_unity_17 : decode prog_11_method_44_code 17 = .ok (.ifCond .ne 7, 3) := by decide +kernel
theorem d_Model_unity_20 : decode prog_11_method_44_code 20 = .ok (.iconst 1, 1) := by decide +kernel
theorem d_Model_unity_21 : decode prog_11_method_44_code 21 = .ok (.goto 4, 3) := by decide +kernel
theorem d_Model_unity_24 : decode prog_11_method_44_code 24 = .ok (.iconst 0, 1) := by decide +kernel
theorem d_Model_unity_25 : decode prog_11_method_44_code 25 = .ok (.iconst 1, 1) := by decide +kernel
theorem d_Model_unity_26 : decode prog_11_method_44_code 26 = .ok (.invokevirtual 223, 3) := by decide +kernel
theorem d_Model_unity_29 : decode prog_11_method_44_code 29 = .ok (.ifCond .eq 4, 3) := by decide +kernel
theorem d_Model_unity_32 : decode prog_11_method_44_code 32 = .ok (.return_, 1) := by decide +kernel
theorem d_Model_unity_33 : decode prog_11_method_44_code 33 = .ok (.aload_n 0, 1) := by decide +kernel
theorem d_Model_unity_34 : decode prog_11_method_44_code 34 = .ok (.iload_n 1, 1) := by decide +kernel
theorem d_Model_unity_35 : decode prog_11_method_44_code 35 = .ok (.iload_n 2, 1) := by decide +kernel
theorem d_Model_unity_36 : decode prog_11_method_44_code 36 = .ok (.invokevirtual 259, 3) := by decide +kernel
theorem d_Model_unity_39 : decode prog_11_method_44_code 39 = .ok (.return_, 1) := by decide +kernel
abbrev y_Model_times : MethodName := ⟨"KateDeskModel", "times", "(III)V"⟩
theorem hd_Model_times : y_Model_times.cls ≠ "java/lang/invoke/MethodHandle" ∧ y_Model_times.cls ≠ "java/lang/invoke/VarHandle" ∧ (parseMethodDescriptor y_Model_times.desc).map (fun d => d.parameters.length) = some 3 := by decide +kernel
theorem d_Model_times_0 : decode prog_11_method_50_code 0 = .ok (.aload_n 0, 1) := by decide +kernel
theorem d_Model_times_1 : decode prog_11_method_50_code 1 = .ok (.iload_n 1, 1) := by decide +kernel
theorem d_Model_times_2 : decode prog_11_method_50_code 2 = .ok (.invokestatic 262, 3) := by decide +kernel
theorem d_Model_times_5 : decode prog_11_method_50_code 5 = .ok (.ifCond .ne 17, 3) := by decide +kernel
theorem d_Model_times_8 : decode prog_11_method_50_code 8 = .ok (.iload_n 2, 1) := by decide +kernel
theorem d_Model_times_9 : decode prog_11_method_50_code 9 = .ok (.invokestatic 219, 3) := by decide +kernel
theorem d_Model_times_12 : decode prog_11_method_50_code 12 = .ok (.ifCond .ne 10, 3) := by decide +kernel
theorem d_Model_times_15 : decode prog_11_method_50_code 15 = .ok (.iload_n 3, 1) := by decide +kernel
theorem d_Model_times_16 : decode prog_11_method_50_code 16 = .ok (.invokestatic 262, 3) := by decide +kernel
theorem d_Model_times_19 : decode prog_11_method_50_code 19 = .ok (.ifCond .eq 7, 3) := by decide +kernel
theorem d_Model_times_22 : decode prog_11_method_50_code 22 = .ok (.iconst 1, 1) := by decide +kernel
theorem d_Model_times_23 : decode prog_11_method_50_code 23 = .ok (.goto 4, 3) := by decide +kernel
theorem d_Model_times_26 : decode prog_11_method_50_code 26 = .ok (.iconst 0, 1) := by decide +kernel
theorem d_Model_times_27 : decode prog_11_method_50_code 27 = .ok (.iconst 1, 1) := by decide +kernel
theorem d_Model_times_28 : decode prog_11_method_50_code 28 = .ok (.invokevirtual 223, 3) := by decide +kernel
theorem d_Model_times_31 : decode prog_11_method_50_code 31 = .ok (.ifCond .eq 4, 3) := by decide +kernel
theorem d_Model_times_34 : decode prog_11_method_50_code 34 = .ok (.return_, 1) := by decide +kernel
theorem d_Model_times_35 : decode prog_11_method_50_code 35 = .ok (.aload_n 0, 1) := by decide +kernel
theorem d_Model_times_36 : decode prog_11_method_50_code 36 = .ok (.iconst 0, 1) := by decide +kernel
theorem d_Model_times_37 : decode prog_11_method_50_code 37 = .ok (.invokevirtual 137, 3) := by decide +kernel
theorem d_Model_times_40 : decode prog_11_method_50_code 40 = .ok (.aload_n 0, 1) := by decide +kernel
theorem d_Model_times_41 : decode prog_11_method_50_code 41 = .ok (.iload_n 1, 1) := by decide +kernel
theorem d_Model_times_42 : decode prog_11_method_50_code 42 = .ok (.invokestatic 265, 3) := by decide +kernel
theorem d_Model_times_45 : decode prog_11_method_50_code 45 = .ok (.iload_n 2, 1) := by decide +kernel
theorem d_Model_times_46 : decode prog_11_method_50_code 46 = .ok (.iload_n 3, 1) := by decide +kernel
theorem d_Model_times_47 : decode prog_11_method_50_code 47 = .ok (.invokestatic 265, 3) := by decide +kernel
theorem d_Model_times_50 : decode prog_11_method_50_code 50 = .ok (.invokevirtual 274, 3) := by decide +kernel
theorem d_Model_times_53 : decode prog_11_method_50_code 53 = .ok (.return_, 1) := by decide +kernel
set_option maxHeartbeats 4000000 in
set_option maxRecDepth 100000 in
theorem c_Model_set (l : Launch) (g : WG) (n0 : Nat → Prop) (mo : Nat) (a : Int32) (v : Int64) (fd : Nat → Int64) (hmn : n0 mo) (hz : FZ fd) : Ctr l y_Model_set (.code y_Model_set prog_11_method_39_code 4 none) 2 46 0 0 n0 g [.ref mo, .int a, .long v] (fun H => MS g n0 H mo 0 0 0 0 0 14 fd) (QV (fun H H' => ((okS a (nI 1) ∧ ¬ v < 0) ∧ TH g n0 H' mo 0) ∨ (¬ (okS a (nI 1) ∧ ¬ v < 0) ∧ TH g n0 H' mo 1))) := by
  refine ctr_mk l (lv0 := [(0, .ref mo), (1, .int a), (2, .long v)]) (by decide) (Nat.le_of_ble_eq_true rfl) rfl ?_
  intro p e s m below meth c ls E hr hlk hnm hl hP
  have hx := E.1
  have hb := E.2.1
  have hK := E.2.2.2.2.2
  have hF : ∀ q ∈ ([] : List Loc), n0 q.base := fun q hq => absurd hq List.not_mem_nil
  have hm := hP
  have hfr : FRM (MR mo) s.heap s.heap := FRM.rf
  have bad : ∀ (locs : List Loc) (ls : Array Slot), ¬ (okS a (nI 1) ∧ ¬ v < 0) → (∀ q ∈ locs, n0 q.base) → lv_has ls 4 [(0, .ref mo), (1, .int a), (2, .long v)] → W p l e { frames := 2, cells := 0, slots := 0, locals := 46 } s m [.ref mo, .int a, .long v].toArray below meth c s.heap locs 0 0 (MQ below (QcP (QV (fun H H' => ((okS a (nI 1) ∧ ¬ v < 0) ∧ TH g n0 H' mo 0) ∨ (¬ (okS a (nI 1) ∧ ¬ v < 0) ∧ TH g n0 H' mo 1)))) [.ref mo, .int a, .long v].toArray s 0 0 (fun q => n0 q)) (F0 m 19 ls [.int (nI 1), .ref mo]) := by
    intro  locs   ls hno hF hl
    refine lv_iconst (v := nI 1) hx hb d_Model_set_19 (by decide) ?_
    refine q_cV (rest := []) E (c_Model_fails l g n0 mo 0 0 0 0 0 14 hw0 (nI 1) (nI 1) fd hmn (Or.inl rfl)) w_1056 w_15 w_1053 w_1055 (bw_s 24 rfl) hd_Model_fails rfl ⟨by decide, by decide⟩ (OB.recv E.2.2.2.2.2 (by rfl) hm.1) hm hF hl.1 rfl (Nat.le_of_ble_eq_true rfl) d_Model_set_20 ⟨by decide, by decide⟩ (qi (fun rf H1 locs hq hF => ?_))
    obtain ⟨hrf, hq, hm⟩ := hq
    subst hrf
    have hfr := hfr.tr hq
    rw [if_neg (by decide)] at hm
    refine lv_if_eq (tgt := 27) hx hb d_Model_set_23 (by decide) (fun h9 => absurd h9 (by decide)) (fun _ => ?_)
    exact q_vret E hr hlk (⟨rfl, Or.inr ⟨hno, ⟨_, _, _, _, _, _, hw0, hm⟩⟩⟩) hF d_Model_set_26
  have good : ∀ (locs : List Loc) (ls : Array Slot), okS a (nI 1) ∧ ¬ v < 0 → (∀ q ∈ locs, n0 q.base) → lv_has ls 4 [(0, .ref mo), (1, .int a), (2, .long v)] → W p l e { frames := 2, cells := 0, slots := 0, locals := 46 } s m [.ref mo, .int a, .long v].toArray below meth c s.heap locs 0 0 (MQ below (QcP (QV (fun H H' => ((okS a (nI 1) ∧ ¬ v < 0) ∧ TH g n0 H' mo 0) ∨ (¬ (okS a (nI 1) ∧ ¬ v < 0) ∧ TH g n0 H' mo 1)))) [.ref mo, .int a, .long v].toArray s 0 0 (fun q => n0 q)) (F0 m 19 ls [.int (nI 0), .ref mo]) := by
    intro  locs   ls hok hF hl
    refine lv_iconst (v := nI 1) hx hb d_Model_set_19 (by decide) ?_
    refine q_cV (rest := []) E (c_Model_fails l g n0 mo 0 0 0 0 0 14 hw0 (nI 0) (nI 1) fd hmn (Or.inr rfl)) w_1056 w_15 w_1053 w_1055 (bw_s 24 rfl) hd_Model_fails rfl ⟨by decide, by decide⟩ (OB.recv E.2.2.2.2.2 (by rfl) hm.1) hm hF hl.1 rfl (Nat.le_of_ble_eq_true rfl) d_Model_set_20 ⟨by decide, by decide⟩ (qi (fun rf H1 locs hq hF => ?_))
    obtain ⟨hrf, hq, hm⟩ := hq
    subst hrf
    have hfr := hfr.tr hq
    rw [if_pos nI_0] at hm
    refine lv_if_eq (tgt := 27) hx hb d_Model_set_23 (by decide) (fun _ => ?_) (fun h9 => absurd (by decide) h9)
    obtain ⟨k1, e_k1, h_k1⟩ := okS_nat (by decide) (by decide) hok.1
    rw [e_k1] at hl
    refine lv_aload_n hx hb d_Model_set_27 rfl (lv_at hl 0 rfl) ?_
    refine lv_iload_n hx hb d_Model_set_28 rfl (lv_at hl 1 rfl) ?_
    refine lv_lload_n hx hb d_Model_set_29 rfl (lv_at hl 2 rfl) ?_
    refine q_cV (rest := []) E (c_Model_small l g n0 mo k1 v 0 0 0 0 0 14 hw0 fd (by omega)) w_1084 w_15 w_1081 w_1083 (bw_s 28 rfl) hd_Model_small rfl ⟨by decide, by decide⟩ (OB.recv E.2.2.2.2.2 (by rfl) hm.1) hm hF hl.1 rfl (Nat.le_of_ble_eq_true rfl) d_Model_set_30 ⟨by decide, by decide⟩ (qv (fun H2 locs hq hF => ?_))
    obtain ⟨hq, fd_1, hm, -⟩ := hq
    have hfr := hfr.tr hq
    exact q_vret E hr hlk (⟨rfl, Or.inl ⟨hok, ⟨_, _, _, _, _, _, hw0, hm⟩⟩⟩) hF d_Model_set_33
  refine lv_aload_n hx hb d_Model_set_0 rfl (lv_at hl 0 rfl) ?_
  refine lv_iload_n hx hb d_Model_set_1 rfl (lv_at hl 1 rfl) ?_
  refine q_cS (rest := [.ref mo]) E (c_Model_noScalar l g n0 a ) w_1064 w_15 w_1062 w_1063 hd_Model_noScalar rfl ⟨by decide, by decide⟩ trivial hF hl.1 rfl (Nat.le_of_ble_eq_true rfl) d_Model_set_2 ⟨by decide, by decide⟩ (qi (fun r_0 H1 locs hq hF => ?_))
  obtain ⟨h_0, hq⟩ := hq
  subst hq
  rcases h_0 with ⟨rfl, f_0⟩ | ⟨rfl, f_0⟩
  · skip
    refine lv_if_ne (tgt := 14) hx hb d_Model_set_5 (by decide) (fun _ => ?_) (fun h9 => absurd h9 (by decide))
    refine lv_iconst (v := nI 1) hx hb d_Model_set_14 (by decide) ?_
    refine lv_goto (tgt := 19) hx hb d_Model_set_15 (by decide) ?_
    have hl : lv_has ls 4 [(0, .ref mo), (1, .int a), (2, .long v)] := lv_sub hl [0, 1, 2] rfl
    exact bad _ ls (fun h => (f_0) h.1) hF hl
  · skip
    refine lv_if_ne (tgt := 14) hx hb d_Model_set_5 (by decide) (fun h9 => absurd (by decide) h9) (fun _ => ?_)
    refine lv_lload_n hx hb d_Model_set_8 rfl (lv_at hl 2 rfl) ?_
    refine lv_lconst (v := 0) hx hb d_Model_set_9 (by decide) ?_
    refine W.lcmp hx hb d_Model_set_10 ?_
    refine lv_if_ge (tgt := 18) hx hb d_Model_set_11 (by decide) (fun g_11 => ?_) (fun g_11 => ?_)
    rotate_left
    · skip
      refine lv_iconst (v := nI 1) hx hb d_Model_set_14 (by decide) ?_
      refine lv_goto (tgt := 19) hx hb d_Model_set_15 (by decide) ?_
      have hl : lv_has ls 4 [(0, .ref mo), (1, .int a), (2, .long v)] := lv_sub hl [0, 1, 2] rfl
      exact bad _ ls (fun h => (absurd (l_lt0 g_11)) h.2) hF hl
    refine lv_iconst (v := nI 0) hx hb d_Model_set_18 (by decide) ?_
    have hl : lv_has ls 4 [(0, .ref mo), (1, .int a), (2, .long v)] := lv_sub hl [0, 1, 2] rfl
    exact good _ ls ⟨f_0, l_ge0 g_11⟩ hF hl
set_option maxHeartbeats 4000000 in
set_option maxRecDepth 100000 in
theorem c_Model_power (l : Launch) (g : WG) (n0 : Nat → Prop) (mo : Nat) (a : Int32) (a2 : Int32) (v : Int64) (fd : Nat → Int64) (hmn : n0 mo) (hz : FZ fd) : Ctr l y_Model_power (.code y_Model_power prog_11_method_42_code 5 none) 4 103 0 0 n0 g [.ref mo, .int a, .int a2, .long v] (fun H => MS g n0 H mo 0 0 0 0 0 14 fd) (QV (fun H H' => ((okS a (nI 1) ∧ okS a2 (nI 1) ∧ ¬ v < 0) ∧ TH g n0 H' mo 0) ∨ (¬ (okS a (nI 1) ∧ okS a2 (nI 1) ∧ ¬ v < 0) ∧ TH g n0 H' mo 1))) := by
  refine ctr_mk l (lv0 := [(0, .ref mo), (1, .int a), (2, .int a2), (3, .long v)]) (by decide) (Nat.le_of_ble_eq_true rfl) rfl ?_
  intro p e s m below meth c ls E hr hlk hnm hl hP
  have hx := E.1
  have hb := E.2.1
  have hK := E.2.2.2.2.2
  have hF : ∀ q ∈ ([] : List Loc), n0 q.base := fun q hq => absurd hq List.not_mem_nil
  have hm := hP
  have hfr : FRM (MR mo) s.heap s.heap := FRM.rf
  have bad : ∀ (locs : List Loc) (ls : Array Slot), ¬ (okS a (nI 1) ∧ okS a2 (nI 1) ∧ ¬ v < 0) → (∀ q ∈ locs, n0 q.base) → lv_has ls 5 [(0, .ref mo), (1, .int a), (2, .int a2), (3, .long v)] → W p l e { frames := 4, cells := 0, slots := 0, locals := 103 } s m [.ref mo, .int a, .int a2, .long v].toArray below meth c s.heap locs 0 0 (MQ below (QcP (QV (fun H H' => ((okS a (nI 1) ∧ okS a2 (nI 1) ∧ ¬ v < 0) ∧ TH g n0 H' mo 0) ∨ (¬ (okS a (nI 1) ∧ okS a2 (nI 1) ∧ ¬ v < 0) ∧ TH g n0 H' mo 1)))) [.ref mo, .int a, .int a2, .long v].toArray s 0 0 (fun q => n0 q)) (F0 m 26 ls [.int (nI 1), .ref mo]) := by
    intro  locs   ls hno hF hl
    refine lv_iconst (v := nI 1) hx hb d_Model_power_26 (by decide) ?_
    refine q_cV (rest := []) E (c_Model_fails l g n0 mo 0 0 0 0 0 14 hw0 (nI 1) (nI 1) fd hmn (Or.inl rfl)) w_1056 w_15 w_1053 w_1055 (bw_s 24 rfl) hd_Model_fails rfl ⟨by decide, by decide⟩ (OB.recv E.2.2.2.2.2 (by rfl) hm.1) hm hF hl.1 rfl (Nat.le_of_ble_eq_true rfl) d_Model_power_27 ⟨by decide, by decide⟩ (qi (fun rf H1 locs hq hF => ?_))
    obtain ⟨hrf, hq, hm⟩ := hq
    subst hrf
    have hfr := hfr.tr hq
    rw [if_neg (by decide)] at hm
    refine lv_if_eq (tgt := 34) hx hb d_Model_power_30 (by decide) (fun h9 => absurd h9 (by decide)) (fun _ => ?_)
    exact q_vret E hr hlk (⟨rfl, Or.inr ⟨hno, ⟨_, _, _, _, _, _, hw0, hm⟩⟩⟩) hF d_Model_power_33
  have good : ∀ (locs : List Loc) (ls : Array Slot), okS a (nI 1) ∧ okS a2 (nI 1) ∧ ¬ v < 0 → (∀ q ∈ locs, n0 q.base) → lv_has ls 5 [(0, .ref mo), (1, .int a), (2, .int a2), (3, .long v)] → W p l e { frames := 4, cells := 0, slots := 0, locals := 103 } s m [.ref mo, .int a, .int a2, .long v].toArray below meth c s.heap locs 0 0 (MQ below (QcP (QV (fun H H' => ((okS a (nI 1) ∧ okS a2 (nI 1) ∧ ¬ v < 0) ∧ TH g n0 H' mo 0) ∨ (¬ (okS a (nI 1) ∧ okS a2 (nI 1) ∧ ¬ v < 0) ∧ TH g n0 H' mo 1)))) [.ref mo, .int a, .int a2, .long v].toArray s 0 0 (fun q => n0 q)) (F0 m 26 ls [.int (nI 0), .ref mo]) := by
    intro  locs   ls hok hF hl
    refine lv_iconst (v := nI 1) hx hb d_Model_power_26 (by decide) ?_
    refine q_cV (rest := []) E (c_Model_fails l g n0 mo 0 0 0 0 0 14 hw0 (nI 0) (nI 1) fd hmn (Or.inr rfl)) w_1056 w_15 w_1053 w_1055 (bw_s 24 rfl) hd_Model_fails rfl ⟨by decide, by decide⟩ (OB.recv E.2.2.2.2.2 (by rfl) hm.1) hm hF hl.1 rfl (Nat.le_of_ble_eq_true rfl) d_Model_power_27 ⟨by decide, by decide⟩ (qi (fun rf H1 locs hq hF => ?_))
    obtain ⟨hrf, hq, hm⟩ := hq
    subst hrf
    have hfr := hfr.tr hq
    rw [if_pos nI_0] at hm
    refine lv_if_eq (tgt := 34) hx hb d_Model_power_30 (by decide) (fun _ => ?_) (fun h9 => absurd (by decide) h9)
    obtain ⟨k1, e_k1, h_k1⟩ := okS_nat (by decide) (by decide) hok.1
    rw [e_k1] at hl
    obtain ⟨k2, e_k2, h_k2⟩ := okS_nat (by decide) (by decide) hok.2.1
    rw [e_k2] at hl
    refine lv_aload_n hx hb d_Model_power_34 rfl (lv_at hl 0 rfl) ?_
    refine lv_iconst (v := nI 1) hx hb d_Model_power_35 (by decide) ?_
    refine q_cV (rest := []) E (c_Model_use l g n0 mo 0 0 0 0 0 14 hw0 1 10 hw1 fd hmn) w_967 w_15 w_964 w_966 (bw_s 15 rfl) hd_Model_use rfl ⟨by decide, by decide⟩ (OB.recv E.2.2.2.2.2 (by rfl) hm.1) hm hF hl.1 rfl (Nat.le_of_ble_eq_true rfl) d_Model_power_36 ⟨by decide, by decide⟩ (qv (fun H2 locs hq hF => ?_))
    obtain ⟨hq, hm⟩ := hq
    have hfr := hfr.tr hq
    refine lv_aload_n hx hb d_Model_power_39 rfl (lv_at hl 0 rfl) ?_
    refine lv_sipush (v := nI 145) hx hb d_Model_power_40 (by decide) ?_
    refine lv_lload_n hx hb d_Model_power_43 rfl (lv_at hl 3 rfl) ?_
    refine q_cV (rest := []) E (c_Model_small l g n0 mo 145 v 0 0 0 0 1 10 hw1 fd (by omega)) w_1084 w_15 w_1081 w_1083 (bw_s 28 rfl) hd_Model_small rfl ⟨by decide, by decide⟩ (OB.recv E.2.2.2.2.2 (by rfl) hm.1) hm hF hl.1 rfl (Nat.le_of_ble_eq_true rfl) d_Model_power_44 ⟨by decide, by decide⟩ (qv (fun H3 locs hq hF => ?_))
    obtain ⟨hq, fd_1, hm, -⟩ := hq
    have hfr := hfr.tr hq
    refine lv_aload_n hx hb d_Model_power_47 rfl (lv_at hl 0 rfl) ?_
    refine lv_iload_n hx hb d_Model_power_48 rfl (lv_at hl 1 rfl) ?_
    refine lv_iload_n hx hb d_Model_power_49 rfl (lv_at hl 2 rfl) ?_
    refine lv_sipush (v := nI 145) hx hb d_Model_power_50 (by decide) ?_
    refine q_cV (rest := []) E (c_Model_raise l g n0 mo k1 k2 145 0 0 0 0 1 10 hw1  fd_1 (by omega) (by omega) (by omega) ) w_1126 w_15 w_1123 w_1125 (bw_s 35 rfl) hd_Model_raise rfl ⟨by decide, by decide⟩ (OB.recv E.2.2.2.2.2 (by rfl) hm.1) hm hF hl.1 rfl (Nat.le_of_ble_eq_true rfl) d_Model_power_53 ⟨by decide, by decide⟩ (qv (fun H4 locs hq hF => ?_))
    obtain ⟨hq, fd_2, hm, -⟩ := hq
    have hfr := hfr.tr hq
    exact q_vret E hr hlk (⟨rfl, Or.inl ⟨hok, ⟨_, _, _, _, _, _, hw1, hm⟩⟩⟩) hF d_Model_power_56
  refine lv_aload_n hx hb d_Model_power_0 rfl (lv_at hl 0 rfl) ?_
  refine lv_iload_n hx hb d_Model_power_1 rfl (lv_at hl 1 rfl) ?_
  refine q_cS (rest := [.ref mo]) E (c_Model_noScalar l g n0 a ) w_1064 w_15 w_1062 w_1063 hd_Model_noScalar rfl ⟨by decide, by decide⟩ trivial hF hl.1 rfl (Nat.le_of_ble_eq_true rfl) d_Model_power_2 ⟨by decide, by decide⟩ (qi (fun r_0 H1 locs hq hF => ?_))
  obtain ⟨h_0, hq⟩ := hq
  subst hq
  rcases h_0 with ⟨rfl, f_0⟩ | ⟨rfl, f_0⟩
  · skip
    refine lv_if_ne (tgt := 21) hx hb d_Model_power_5 (by decide) (fun _ => ?_) (fun h9 => absurd h9 (by decide))
    refine lv_iconst (v := nI 1) hx hb d_Model_power_21 (by decide) ?_
    refine lv_goto (tgt := 26) hx hb d_Model_power_22 (by decide) ?_
    have hl : lv_has ls 5 [(0, .ref mo), (1, .int a), (2, .int a2), (3, .long v)] := lv_sub hl [0, 1, 2, 3] rfl
    exact bad _ ls (fun h => (f_0) h.1) hF hl
  · skip
    refine lv_if_ne (tgt := 21) hx hb d_Model_power_5 (by decide) (fun h9 => absurd (by decide) h9) (fun _ => ?_)
    refine lv_iload_n hx hb d_Model_power_8 rfl (lv_at hl 2 rfl) ?_
    refine q_cS (rest := [.ref mo]) E (c_Model_noScalar l g n0 a2 ) w_1064 w_15 w_1062 w_1063 hd_Model_noScalar rfl ⟨by decide, by decide⟩ trivial hF hl.1 rfl (Nat.le_of_ble_eq_true rfl) d_Model_power_9 ⟨by decide, by decide⟩ (qi (fun r_1 H2 locs hq hF => ?_))
    obtain ⟨h_1, hq⟩ := hq
    subst hq
    rcases h_1 with ⟨rfl, f_1⟩ | ⟨rfl, f_1⟩
    · skip
      refine lv_if_ne (tgt := 21) hx hb d_Model_power_12 (by decide) (fun _ => ?_) (fun h9 => absurd h9 (by decide))
      refine lv_iconst (v := nI 1) hx hb d_Model_power_21 (by decide) ?_
      refine lv_goto (tgt := 26) hx hb d_Model_power_22 (by decide) ?_
      have hl : lv_has ls 5 [(0, .ref mo), (1, .int a), (2, .int a2), (3, .long v)] := lv_sub hl [0, 1, 2, 3] rfl
      exact bad _ ls (fun h => (f_1) h.2.1) hF hl
    · skip
      refine lv_if_ne (tgt := 21) hx hb d_Model_power_12 (by decide) (fun h9 => absurd (by decide) h9) (fun _ => ?_)
      refine lv_lload_n hx hb d_Model_power_15 rfl (lv_at hl 3 rfl) ?_
      refine lv_lconst (v := 0) hx hb d_Model_power_16 (by decide) ?_
      refine W.lcmp hx hb d_Model_power_17 ?_
      refine lv_if_ge (tgt := 25) hx hb d_Model_power_18 (by decide) (fun g_18 => ?_) (fun g_18 => ?_)
      rotate_left
      · skip
        refine lv_iconst (v := nI 1) hx hb d_Model_power_21 (by decide) ?_
        refine lv_goto (tgt := 26) hx hb d_Model_power_22 (by decide) ?_
        have hl : lv_has ls 5 [(0, .ref mo), (1, .int a), (2, .int a2), (3, .long v)] := lv_sub hl [0, 1, 2, 3] rfl
        exact bad _ ls (fun h => (absurd (l_lt0 g_18)) h.2.2) hF hl
      refine lv_iconst (v := nI 0) hx hb d_Model_power_25 (by decide) ?_
      have hl : lv_has ls 5 [(0, .ref mo), (1, .int a), (2, .int a2), (3, .long v)] := lv_sub hl [0, 1, 2, 3] rfl
      exact good _ ls ⟨f_0, f_1, l_ge0 g_18⟩ hF hl
set_option maxHeartbeats 4000000 in
set_option maxRecDepth 100000 in
theorem c_Model_unity (l : Launch) (g : WG) (n0 : Nat → Prop) (mo : Nat) (a : Int32) (k : Int32) (fd : Nat → Int64) (hmn : n0 mo) (hz : FZ fd) : Ctr l y_Model_unity (.code y_Model_unity prog_11_method_44_code 3 none) 5 125 0 0 n0 g [.ref mo, .int a, .int k] (fun H => MS g n0 H mo 0 0 0 0 0 14 fd) (QV (fun H H' => ((okS a (nI 1) ∧ okC k (nI 0) (nI 32)) ∧ TH g n0 H' mo 0) ∨ (¬ (okS a (nI 1) ∧ okC k (nI 0) (nI 32)) ∧ TH g n0 H' mo 1))) := by
  refine ctr_mk l (lv0 := [(0, .ref mo), (1, .int a), (2, .int k)]) (by decide) (Nat.le_of_ble_eq_true rfl) rfl ?_
  intro p e s m below meth c ls E hr hlk hnm hl hP
  have hx := E.1
  have hb := E.2.1
  have hK := E.2.2.2.2.2
  have hF : ∀ q ∈ ([] : List Loc), n0 q.base := fun q hq => absurd hq List.not_mem_nil
  have hm := hP
  have hfr : FRM (MR mo) s.heap s.heap := FRM.rf
  have bad : ∀ (locs : List Loc) (ls : Array Slot), ¬ (okS a (nI 1) ∧ okC k (nI 0) (nI 32)) → (∀ q ∈ locs, n0 q.base) → lv_has ls 3 [(0, .ref mo), (1, .int a), (2, .int k)] → W p l e { frames := 5, cells := 0, slots := 0, locals := 125 } s m [.ref mo, .int a, .int k].toArray below meth c s.heap locs 0 0 (MQ below (QcP (QV (fun H H' => ((okS a (nI 1) ∧ okC k (nI 0) (nI 32)) ∧ TH g n0 H' mo 0) ∨ (¬ (okS a (nI 1) ∧ okC k (nI 0) (nI 32)) ∧ TH g n0 H' mo 1)))) [.ref mo, .int a, .int k].toArray s 0 0 (fun q => n0 q)) (F0 m 25 ls [.int (nI 1), .ref mo]) := by
    intro  locs   ls hno hF hl
    refine lv_iconst (v := nI 1) hx hb d_Model_unity_25 (by decide) ?_
    refine q_cV (rest := []) E (c_Model_fails l g n0 mo 0 0 0 0 0 14 hw0 (nI 1) (nI 1) fd hmn (Or.inl rfl)) w_1056 w_15 w_1053 w_1055 (bw_s 24 rfl) hd_Model_fails rfl ⟨by decide, by decide⟩ (OB.recv E.2.2.2.2.2 (by rfl) hm.1) hm hF hl.1 rfl (Nat.le_of_ble_eq_true rfl) d_Model_unity_26 ⟨by decide, by decide⟩ (qi (fun rf H1 locs hq hF => ?_))
    obtain ⟨hrf, hq, hm⟩ := hq
    subst hrf
    have hfr := hfr.tr hq
    rw [if_neg (by decide)] at hm
    refine lv_if_eq (tgt := 33) hx hb d_Model_unity_29 (by decide) (fun h9 => absurd h9 (by decide)) (fun _ => ?_)
    exact q_vret E hr hlk (⟨rfl, Or.inr ⟨hno, ⟨_, _, _, _, _, _, hw0, hm⟩⟩⟩) hF d_Model_unity_32
  have good : ∀ (locs : List Loc) (ls : Array Slot), okS a (nI 1) ∧ okC k (nI 0) (nI 32) → (∀ q ∈ locs, n0 q.base) → lv_has ls 3 [(0, .ref mo), (1, .int a), (2, .int k)] → W p l e { frames := 5, cells := 0, slots := 0, locals := 125 } s m [.ref mo, .int a, .int k].toArray below meth c s.heap locs 0 0 (MQ below (QcP (QV (fun H H' => ((okS a (nI 1) ∧ okC k (nI 0) (nI 32)) ∧ TH g n0 H' mo 0) ∨ (¬ (okS a (nI 1) ∧ okC k (nI 0) (nI 32)) ∧ TH g n0 H' mo 1)))) [.ref mo, .int a, .int k].toArray s 0 0 (fun q => n0 q)) (F0 m 25 ls [.int (nI 0), .ref mo]) := by
    intro  locs   ls hok hF hl
    refine lv_iconst (v := nI 1) hx hb d_Model_unity_25 (by decide) ?_
    refine q_cV (rest := []) E (c_Model_fails l g n0 mo 0 0 0 0 0 14 hw0 (nI 0) (nI 1) fd hmn (Or.inr rfl)) w_1056 w_15 w_1053 w_1055 (bw_s 24 rfl) hd_Model_fails rfl ⟨by decide, by decide⟩ (OB.recv E.2.2.2.2.2 (by rfl) hm.1) hm hF hl.1 rfl (Nat.le_of_ble_eq_true rfl) d_Model_unity_26 ⟨by decide, by decide⟩ (qi (fun rf H1 locs hq hF => ?_))
    obtain ⟨hrf, hq, hm⟩ := hq
    subst hrf
    have hfr := hfr.tr hq
    rw [if_pos nI_0] at hm
    refine lv_if_eq (tgt := 33) hx hb d_Model_unity_29 (by decide) (fun _ => ?_) (fun h9 => absurd (by decide) h9)
    obtain ⟨k1, e_k1, h_k1⟩ := okS_nat (by decide) (by decide) hok.1
    rw [e_k1] at hl
    obtain ⟨k2, e_k2, h_k2, h2_k2⟩ := okC_nat (by decide) (by decide) hok.2
    rw [e_k2] at hl
    refine lv_aload_n hx hb d_Model_unity_33 rfl (lv_at hl 0 rfl) ?_
    refine lv_iload_n hx hb d_Model_unity_34 rfl (lv_at hl 1 rfl) ?_
    refine lv_iload_n hx hb d_Model_unity_35 rfl (lv_at hl 2 rfl) ?_
    refine q_cV (rest := []) E (c_Model_unit l g n0 mo k1 k2 0 0 0 0 0 14 hw0 fd hmn (by omega) (by omega)) w_1139 w_15 w_1136 w_1138 (bw_s 36 rfl) hd_Model_unit rfl ⟨by decide, by decide⟩ (OB.recv E.2.2.2.2.2 (by rfl) hm.1) hm hF hl.1 rfl (Nat.le_of_ble_eq_true rfl) d_Model_unity_36 ⟨by decide, by decide⟩ (qv (fun H2 locs hq hF => ?_))
    obtain ⟨hq, fd_1, hm⟩ := hq
    have hfr := hfr.tr hq
    exact q_vret E hr hlk (⟨rfl, Or.inl ⟨hok, ⟨_, _, _, _, _, _, hw1, hm⟩⟩⟩) hF d_Model_unity_39
  refine lv_aload_n hx hb d_Model_unity_0 rfl (lv_at hl 0 rfl) ?_
  refine lv_iload_n hx hb d_Model_unity_1 rfl (lv_at hl 1 rfl) ?_
  refine q_cS (rest := [.ref mo]) E (c_Model_noScalar l g n0 a ) w_1064 w_15 w_1062 w_1063 hd_Model_noScalar rfl ⟨by decide, by decide⟩ trivial hF hl.1 rfl (Nat.le_of_ble_eq_true rfl) d_Model_unity_2 ⟨by decide, by decide⟩ (qi (fun r_0 H1 locs hq hF => ?_))
  obtain ⟨h_0, hq⟩ := hq
  subst hq
  rcases h_0 with ⟨rfl, f_0⟩ | ⟨rfl, f_0⟩
  · skip
    refine lv_if_ne (tgt := 20) hx hb d_Model_unity_5 (by decide) (fun _ => ?_) (fun h9 => absurd h9 (by decide))
    refine lv_iconst (v := nI 1) hx hb d_Model_unity_20 (by decide) ?_
    refine lv_goto (tgt := 25) hx hb d_Model_unity_21 (by decide) ?_
    have hl : lv_has ls 3 [(0, .ref mo), (1, .int a), (2, .int k)] := lv_sub hl [0, 1, 2] rfl
    exact bad _ ls (fun h => (f_0) h.1) hF hl
  · skip
    refine lv_if_ne (tgt := 20) hx hb d_Model_unity_5 (by decide) (fun h9 => absurd (by decide) h9) (fun _ => ?_)
    refine lv_iload_n hx hb d_Model_unity_8 rfl (lv_at hl 2 rfl) ?_
    refine lv_i2l (v := k.toInt64) hx hb d_Model_unity_9 rfl ?_
    refine lv_lconst (v := 0) hx hb d_Model_unity_10 (by decide) ?_
    refine lv_ldc2 (v := 32) hx hb E.2.2.2.1 (E.2.2.2.2.1 _ w_1135) d_Model_unity_11 ?_
    refine q_cS (rest := [.ref mo]) E (c_Model_in l g n0 k.toInt64 0 32 ) w_1101 w_15 w_1099 w_1100 hd_Model_in rfl ⟨by decide, by decide⟩ trivial hF hl.1 rfl (Nat.le_of_ble_eq_true rfl) d_Model_unity_14 ⟨by decide, by decide⟩ (qi (fun r_1 H2 locs hq hF => ?_))
    obtain ⟨h_1, hq⟩ := hq
    subst hq
    rcases h_1 with ⟨rfl, f_1⟩ | ⟨rfl, f_1⟩
    · skip
      refine lv_if_ne (tgt := 24) hx hb d_Model_unity_17 (by decide) (fun h9 => absurd (by decide) h9) (fun _ => ?_)
      refine lv_iconst (v := nI 1) hx hb d_Model_unity_20 (by decide) ?_
      refine lv_goto (tgt := 25) hx hb d_Model_unity_21 (by decide) ?_
      have hl : lv_has ls 3 [(0, .ref mo), (1, .int a), (2, .int k)] := lv_sub hl [0, 1, 2] rfl
      exact bad _ ls (fun h => (fun q => f_1 ((in_okC (a := 0) (b := 32) (by decide) (by decide) (by decide) (by decide)).mpr q)) h.2) hF hl
    · skip
      refine lv_if_ne (tgt := 24) hx hb d_Model_unity_17 (by decide) (fun _ => ?_) (fun h9 => absurd h9 (by decide))
      refine lv_iconst (v := nI 0) hx hb d_Model_unity_24 (by decide) ?_
      have hl : lv_has ls 3 [(0, .ref mo), (1, .int a), (2, .int k)] := lv_sub hl [0, 1, 2] rfl
      exact good _ ls ⟨f_0, (in_okC (a := 0) (b := 32) (by decide) (by decide) (by decide) (by decide)).mp f_1⟩ hF hl
set_option maxHeartbeats 4000000 in
set_option maxRecDepth 100000 in
theorem c_Model_times (l : Launch) (g : WG) (n0 : Nat → Prop) (mo : Nat) (a : Int32) (a2 : Int32) (a3 : Int32) (fd : Nat → Int64) (hmn : n0 mo) (hz : FZ fd) : Ctr l y_Model_times (.code y_Model_times prog_11_method_50_code 4 none) 6 143 0 0 n0 g [.ref mo, .int a, .int a2, .int a3] (fun H => MS g n0 H mo 0 0 0 0 0 14 fd) (QV (fun H H' => ((okP a (nI 1) ∧ okS a2 (nI 1) ∧ okP a3 (nI 1)) ∧ TH g n0 H' mo 0) ∨ (¬ (okP a (nI 1) ∧ okS a2 (nI 1) ∧ okP a3 (nI 1)) ∧ TH g n0 H' mo 1))) := by
  refine ctr_mk l (lv0 := [(0, .ref mo), (1, .int a), (2, .int a2), (3, .int a3)]) (by decide) (Nat.le_of_ble_eq_true rfl) rfl ?_
  intro p e s m below meth c ls E hr hlk hnm hl hP
  have hx := E.1
  have hb := E.2.1
  have hK := E.2.2.2.2.2
  have hF : ∀ q ∈ ([] : List Loc), n0 q.base := fun q hq => absurd hq List.not_mem_nil
  have hm := hP
  have hfr : FRM (MR mo) s.heap s.heap := FRM.rf
  have bad : ∀ (locs : List Loc) (ls : Array Slot), ¬ (okP a (nI 1) ∧ okS a2 (nI 1) ∧ okP a3 (nI 1)) → (∀ q ∈ locs, n0 q.base) → lv_has ls 4 [(0, .ref mo), (1, .int a), (2, .int a2), (3, .int a3)] → W p l e { frames := 6, cells := 0, slots := 0, locals := 143 } s m [.ref mo, .int a, .int a2, .int a3].toArray below meth c s.heap locs 0 0 (MQ below (QcP (QV (fun H H' => ((okP a (nI 1) ∧ okS a2 (nI 1) ∧ okP a3 (nI 1)) ∧ TH g n0 H' mo 0) ∨ (¬ (okP a (nI 1) ∧ okS a2 (nI 1) ∧ okP a3 (nI 1)) ∧ TH g n0 H' mo 1)))) [.ref mo, .int a, .int a2, .int a3].toArray s 0 0 (fun q => n0 q)) (F0 m 27 ls [.int (nI 1), .ref mo]) := by
    intro  locs   ls hno hF hl
    refine lv_iconst (v := nI 1) hx hb d_Model_times_27 (by decide) ?_
    refine q_cV (rest := []) E (c_Model_fails l g n0 mo 0 0 0 0 0 14 hw0 (nI 1) (nI 1) fd hmn (Or.inl rfl)) w_1056 w_15 w_1053 w_1055 (bw_s 24 rfl) hd_Model_fails rfl ⟨by decide, by decide⟩ (OB.recv E.2.2.2.2.2 (by rfl) hm.1) hm hF hl.1 rfl (Nat.le_of_ble_eq_true rfl) d_Model_times_28 ⟨by decide, by decide⟩ (qi (fun rf H1 locs hq hF => ?_))
    obtain ⟨hrf, hq, hm⟩ := hq
    subst hrf
    have hfr := hfr.tr hq
    rw [if_neg (by decide)] at hm
    refine lv_if_eq (tgt := 35) hx hb d_Model_times_31 (by decide) (fun h9 => absurd h9 (by decide)) (fun _ => ?_)
    exact q_vret E hr hlk (⟨rfl, Or.inr ⟨hno, ⟨_, _, _, _, _, _, hw0, hm⟩⟩⟩) hF d_Model_times_34
  have good : ∀ (locs : List Loc) (ls : Array Slot), okP a (nI 1) ∧ okS a2 (nI 1) ∧ okP a3 (nI 1) → (∀ q ∈ locs, n0 q.base) → lv_has ls 4 [(0, .ref mo), (1, .int a), (2, .int a2), (3, .int a3)] → W p l e { frames := 6, cells := 0, slots := 0, locals := 143 } s m [.ref mo, .int a, .int a2, .int a3].toArray below meth c s.heap locs 0 0 (MQ below (QcP (QV (fun H H' => ((okP a (nI 1) ∧ okS a2 (nI 1) ∧ okP a3 (nI 1)) ∧ TH g n0 H' mo 0) ∨ (¬ (okP a (nI 1) ∧ okS a2 (nI 1) ∧ okP a3 (nI 1)) ∧ TH g n0 H' mo 1)))) [.ref mo, .int a, .int a2, .int a3].toArray s 0 0 (fun q => n0 q)) (F0 m 27 ls [.int (nI 0), .ref mo]) := by
    intro  locs   ls hok hF hl
    refine lv_iconst (v := nI 1) hx hb d_Model_times_27 (by decide) ?_
    refine q_cV (rest := []) E (c_Model_fails l g n0 mo 0 0 0 0 0 14 hw0 (nI 0) (nI 1) fd hmn (Or.inr rfl)) w_1056 w_15 w_1053 w_1055 (bw_s 24 rfl) hd_Model_fails rfl ⟨by decide, by decide⟩ (OB.recv E.2.2.2.2.2 (by rfl) hm.1) hm hF hl.1 rfl (Nat.le_of_ble_eq_true rfl) d_Model_times_28 ⟨by decide, by decide⟩ (qi (fun rf H1 locs hq hF => ?_))
    obtain ⟨hrf, hq, hm⟩ := hq
    subst hrf
    have hfr := hfr.tr hq
    rw [if_pos nI_0] at hm
    refine lv_if_eq (tgt := 35) hx hb d_Model_times_31 (by decide) (fun _ => ?_) (fun h9 => absurd (by decide) h9)
    obtain ⟨k1, e_k1, h_k1⟩ := okP_nat (by decide) (by decide) hok.1
    rw [e_k1] at hl
    obtain ⟨k2, e_k2, h_k2⟩ := okS_nat (by decide) (by decide) hok.2.1
    rw [e_k2] at hl
    obtain ⟨k3, e_k3, h_k3⟩ := okP_nat (by decide) (by decide) hok.2.2
    rw [e_k3] at hl
    refine lv_aload_n hx hb d_Model_times_35 rfl (lv_at hl 0 rfl) ?_
    refine lv_iconst (v := nI 0) hx hb d_Model_times_36 (by decide) ?_
    refine q_cV (rest := []) E (c_Model_use l g n0 mo 0 0 0 0 0 14 hw0 0 14 hw0 fd hmn) w_967 w_15 w_964 w_966 (bw_s 15 rfl) hd_Model_use rfl ⟨by decide, by decide⟩ (OB.recv E.2.2.2.2.2 (by rfl) hm.1) hm hF hl.1 rfl (Nat.le_of_ble_eq_true rfl) d_Model_times_37 ⟨by decide, by decide⟩ (qv (fun H2 locs hq hF => ?_))
    obtain ⟨hq, hm⟩ := hq
    have hfr := hfr.tr hq
    refine lv_aload_n hx hb d_Model_times_40 rfl (lv_at hl 0 rfl) ?_
    refine lv_iload_n hx hb d_Model_times_41 rfl (lv_at hl 1 rfl) ?_
    refine q_cS (rest := [.ref mo]) E (c_Model_slot l g n0 (nI k1)) w_1154 w_15 w_1152 w_1153 hd_Model_slot rfl ⟨by decide, by decide⟩ trivial hF hl.1 rfl (Nat.le_of_ble_eq_true rfl) d_Model_times_42 ⟨by decide, by decide⟩ (qi (fun rs H3 locs hq hF => ?_))
    obtain ⟨hrs, hq9⟩ := hq
    subst hrs
    subst hq9
    refine lv_topi (fun t9 e9 => ?_)
    obtain rfl : t9 = nI (32 + 3 * k1) := e9.trans (by rw [pk_mul, nI_add])
    refine lv_iload_n hx hb d_Model_times_45 rfl (lv_at hl 2 rfl) ?_
    refine lv_iload_n hx hb d_Model_times_46 rfl (lv_at hl 3 rfl) ?_
    refine q_cS (rest := [.int (nI k2), .int (nI (32 + 3 * k1)), .ref mo]) E (c_Model_slot l g n0 (nI k3)) w_1154 w_15 w_1152 w_1153 hd_Model_slot rfl ⟨by decide, by decide⟩ trivial hF hl.1 rfl (Nat.le_of_ble_eq_true rfl) d_Model_times_47 ⟨by decide, by decide⟩ (qi (fun rs H4 locs hq hF => ?_))
    obtain ⟨hrs, hq9⟩ := hq
    subst hrs
    subst hq9
    refine lv_topi (fun t9 e9 => ?_)
    obtain rfl : t9 = nI (32 + 3 * k3) := e9.trans (by rw [pk_mul, nI_add])
    refine q_cV (rest := []) E (c_Model_multiple l g n0 mo (32 + 3 * k1) k2 (32 + 3 * k3) 0 0 0 0 0 14 hw0 fd (by omega) (by omega) (by omega)) w_1167 w_15 w_1164 w_1166 (bw_s 40 rfl) hd_Model_multiple rfl ⟨by decide, by decide⟩ (OB.recv E.2.2.2.2.2 (by rfl) hm.1) hm hF hl.1 rfl (Nat.le_of_ble_eq_true rfl) d_Model_times_50 ⟨by decide, by decide⟩ (qv (fun H5 locs hq hF => ?_))
    obtain ⟨hq, fd_1, hm, hS9, hV9⟩ := hq
    have hfr := hfr.tr hq
    exact q_vret E hr hlk (⟨rfl, Or.inl ⟨hok, ⟨_, _, _, _, _, _, hw0, hm⟩⟩⟩) hF d_Model_times_53
  refine lv_aload_n hx hb d_Model_times_0 rfl (lv_at hl 0 rfl) ?_
  refine lv_iload_n hx hb d_Model_times_1 rfl (lv_at hl 1 rfl) ?_
  refine q_cS (rest := [.ref mo]) E (c_Model_noPoint l g n0 a ) w_1151 w_15 w_1149 w_1150 hd_Model_noPoint rfl ⟨by decide, by decide⟩ trivial hF hl.1 rfl (Nat.le_of_ble_eq_true rfl) d_Model_times_2 ⟨by decide, by decide⟩ (qi (fun r_0 H1 locs hq hF => ?_))
  obtain ⟨h_0, hq⟩ := hq
  subst hq
  rcases h_0 with ⟨rfl, f_0⟩ | ⟨rfl, f_0⟩
  · skip
    refine lv_if_ne (tgt := 22) hx hb d_Model_times_5 (by decide) (fun _ => ?_) (fun h9 => absurd h9 (by decide))
    refine lv_iconst (v := nI 1) hx hb d_Model_times_22 (by decide) ?_
    refine lv_goto (tgt := 27) hx hb d_Model_times_23 (by decide) ?_
    have hl : lv_has ls 4 [(0, .ref mo), (1, .int a), (2, .int a2), (3, .int a3)] := lv_sub hl [0, 1, 2, 3] rfl
    exact bad _ ls (fun h => (f_0) h.1) hF hl
  · skip
    refine lv_if_ne (tgt := 22) hx hb d_Model_times_5 (by decide) (fun h9 => absurd (by decide) h9) (fun _ => ?_)
    refine lv_iload_n hx hb d_Model_times_8 rfl (lv_at hl 2 rfl) ?_
    refine q_cS (rest := [.ref mo]) E (c_Model_noScalar l g n0 a2 ) w_1064 w_15 w_1062 w_1063 hd_Model_noScalar rfl ⟨by decide, by decide⟩ trivial hF hl.1 rfl (Nat.le_of_ble_eq_true rfl) d_Model_times_9 ⟨by decide, by decide⟩ (qi (fun r_1 H2 locs hq hF => ?_))
    obtain ⟨h_1, hq⟩ := hq
    subst hq
    rcases h_1 with ⟨rfl, f_1⟩ | ⟨rfl, f_1⟩
    · skip
      refine lv_if_ne (tgt := 22) hx hb d_Model_times_12 (by decide) (fun _ => ?_) (fun h9 => absurd h9 (by decide))
      refine lv_iconst (v := nI 1) hx hb d_Model_times_22 (by decide) ?_
      refine lv_goto (tgt := 27) hx hb d_Model_times_23 (by decide) ?_
      have hl : lv_has ls 4 [(0, .ref mo), (1, .int a), (2, .int a2), (3, .int a3)] := lv_sub hl [0, 1, 2, 3] rfl
      exact bad _ ls (fun h => (f_1) h.2.1) hF hl
    · skip
      refine lv_if_ne (tgt := 22) hx hb d_Model_times_12 (by decide) (fun h9 => absurd (by decide) h9) (fun _ => ?_)
      refine lv_iload_n hx hb d_Model_times_15 rfl (lv_at hl 3 rfl) ?_
      refine q_cS (rest := [.ref mo]) E (c_Model_noPoint l g n0 a3 ) w_1151 w_15 w_1149 w_1150 hd_Model_noPoint rfl ⟨by decide, by decide⟩ trivial hF hl.1 rfl (Nat.le_of_ble_eq_true rfl) d_Model_times_16 ⟨by decide, by decide⟩ (qi (fun r_2 H3 locs hq hF => ?_))
      obtain ⟨h_2, hq⟩ := hq
      subst hq
      rcases h_2 with ⟨rfl, f_2⟩ | ⟨rfl, f_2⟩
      · skip
        refine lv_if_eq (tgt := 26) hx hb d_Model_times_19 (by decide) (fun h9 => absurd h9 (by decide)) (fun _ => ?_)
        refine lv_iconst (v := nI 1) hx hb d_Model_times_22 (by decide) ?_
        refine lv_goto (tgt := 27) hx hb d_Model_times_23 (by decide) ?_
        have hl : lv_has ls 4 [(0, .ref mo), (1, .int a), (2, .int a2), (3, .int a3)] := lv_sub hl [0, 1, 2, 3] rfl
        exact bad _ ls (fun h => (f_2) h.2.2) hF hl
      · skip
        refine lv_if_eq (tgt := 26) hx hb d_Model_times_19 (by decide) (fun _ => ?_) (fun h9 => absurd (by decide) h9)
        refine lv_iconst (v := nI 0) hx hb d_Model_times_26 (by decide) ?_
        have hl : lv_has ls 4 [(0, .ref mo), (1, .int a), (2, .int a2), (3, .int a3)] := lv_sub hl [0, 1, 2, 3] rfl
        exact good _ ls ⟨f_0, f_1, f_2⟩ hF hl
