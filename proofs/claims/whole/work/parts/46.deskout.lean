def kd_none : Nat → Prop := fun _ => False
abbrev y_Desk_out : MethodName := ⟨"KateDesk", "out", "(I)J"⟩
theorem hd_Desk_out : y_Desk_out.cls ≠ "java/lang/invoke/MethodHandle" ∧ y_Desk_out.cls ≠ "java/lang/invoke/VarHandle" ∧ (parseMethodDescriptor y_Desk_out.desc).map (fun d => d.parameters.length) = some 1 := by decide +kernel
theorem d_Desk_out_0 : decode prog_1_method_11_code 0 = .ok (.iload_n 1, 1) := by decide +kernel
theorem d_Desk_out_1 : decode prog_1_method_11_code 1 = .ok (.ifCond .lt 14, 3) := by decide +kernel
theorem d_Desk_out_4 : decode prog_1_method_11_code 4 = .ok (.iload_n 1, 1) := by decide +kernel
theorem d_Desk_out_5 : decode prog_1_method_11_code 5 = .ok (.aload_n 0, 1) := by decide +kernel
theorem d_Desk_out_6 : decode prog_1_method_11_code 6 = .ok (.getfield 38, 3) := by decide +kernel
theorem d_Desk_out_9 : decode prog_1_method_11_code 9 = .ok (.getfield 117, 3) := by decide +kernel
theorem d_Desk_out_12 : decode prog_1_method_11_code 12 = .ok (.if_icmp .lt 13, 3) := by decide +kernel
theorem d_Desk_out_15 : decode prog_1_method_11_code 15 = .ok (.new 228, 3) := by decide +kernel
theorem d_Desk_out_18 : decode prog_1_method_11_code 18 = .ok (.dup, 1) := by decide +kernel
theorem d_Desk_out_19 : decode prog_1_method_11_code 19 = .ok (.ldc 230, 2) := by decide +kernel
theorem d_Desk_out_21 : decode prog_1_method_11_code 21 = .ok (.invokespecial 232, 3) := by decide +kernel
theorem d_Desk_out_24 : decode prog_1_method_11_code 24 = .ok (.athrow, 1) := by decide +kernel
theorem d_Desk_out_25 : decode prog_1_method_11_code 25 = .ok (.lconst 0, 1) := by decide +kernel
theorem d_Desk_out_26 : decode prog_1_method_11_code 26 = .ok (.lstore_n 2, 1) := by decide +kernel
theorem d_Desk_out_27 : decode prog_1_method_11_code 27 = .ok (.iconst 0, 1) := by decide +kernel
theorem d_Desk_out_28 : decode prog_1_method_11_code 28 = .ok (.istore 4, 2) := by decide +kernel
theorem d_Desk_out_30 : decode prog_1_method_11_code 30 = .ok (.iload 4, 2) := by decide +kernel
theorem d_Desk_out_32 : decode prog_1_method_11_code 32 = .ok (.bipush 8, 2) := by decide +kernel
theorem d_Desk_out_34 : decode prog_1_method_11_code 34 = .ok (.if_icmp .ge 44, 3) := by decide +kernel
theorem d_Desk_out_37 : decode prog_1_method_11_code 37 = .ok (.iload_n 1, 1) := by decide +kernel
theorem d_Desk_out_38 : decode prog_1_method_11_code 38 = .ok (.iload 4, 2) := by decide +kernel
theorem d_Desk_out_40 : decode prog_1_method_11_code 40 = .ok (.iadd, 1) := by decide +kernel
theorem d_Desk_out_41 : decode prog_1_method_11_code 41 = .ok (.aload_n 0, 1) := by decide +kernel
theorem d_Desk_out_42 : decode prog_1_method_11_code 42 = .ok (.getfield 38, 3) := by decide +kernel
theorem d_Desk_out_45 : decode prog_1_method_11_code 45 = .ok (.getfield 117, 3) := by decide +kernel
theorem d_Desk_out_48 : decode prog_1_method_11_code 48 = .ok (.if_icmp .ge 30, 3) := by decide +kernel
theorem d_Desk_out_51 : decode prog_1_method_11_code 51 = .ok (.lload_n 2, 1) := by decide +kernel
theorem d_Desk_out_52 : decode prog_1_method_11_code 52 = .ok (.aload_n 0, 1) := by decide +kernel
theorem d_Desk_out_53 : decode prog_1_method_11_code 53 = .ok (.getfield 38, 3) := by decide +kernel
theorem d_Desk_out_56 : decode prog_1_method_11_code 56 = .ok (.iload_n 1, 1) := by decide +kernel
theorem d_Desk_out_57 : decode prog_1_method_11_code 57 = .ok (.iload 4, 2) := by decide +kernel
theorem d_Desk_out_59 : decode prog_1_method_11_code 59 = .ok (.iadd, 1) := by decide +kernel
theorem d_Desk_out_60 : decode prog_1_method_11_code 60 = .ok (.invokevirtual 137, 3) := by decide +kernel
theorem d_Desk_out_63 : decode prog_1_method_11_code 63 = .ok (.i2l, 1) := by decide +kernel
theorem d_Desk_out_64 : decode prog_1_method_11_code 64 = .ok (.bipush 8, 2) := by decide +kernel
theorem d_Desk_out_66 : decode prog_1_method_11_code 66 = .ok (.iload 4, 2) := by decide +kernel
theorem d_Desk_out_68 : decode prog_1_method_11_code 68 = .ok (.imul, 1) := by decide +kernel
theorem d_Desk_out_69 : decode prog_1_method_11_code 69 = .ok (.lshl, 1) := by decide +kernel
theorem d_Desk_out_70 : decode prog_1_method_11_code 70 = .ok (.lor, 1) := by decide +kernel
theorem d_Desk_out_71 : decode prog_1_method_11_code 71 = .ok (.lstore_n 2, 1) := by decide +kernel
theorem d_Desk_out_72 : decode prog_1_method_11_code 72 = .ok (.iinc 4 1, 3) := by decide +kernel
theorem d_Desk_out_75 : decode prog_1_method_11_code 75 = .ok (.goto (-45), 3) := by decide +kernel
theorem d_Desk_out_78 : decode prog_1_method_11_code 78 = .ok (.lload_n 2, 1) := by decide +kernel
theorem d_Desk_out_79 : decode prog_1_method_11_code 79 = .ok (.lreturn, 1) := by decide +kernel
set_option maxHeartbeats 4000000 in
set_option maxRecDepth 100000 in
theorem t_Desk_feed (l : Launch) (g : WG) (n0 : Nat → Prop) (s0 : State) (hxs : XS l s0) (b : Nat) (n : Int32) (v : Int64) (hbad : n < nI 1 ∨ ¬ n ≤ nI 8) : CtrT l y_Desk_feed (.code y_Desk_feed prog_1_method_2_code 5 (some FieldType.int)) 7 104 1 6 n0 g s0 [.ref b, .int n, .long v] (fun H => OLD s0 H ∧ n0 H.size) (TQ s0 "java/lang/IllegalArgumentException") := by
  refine ctrT_mk l (lv0 := [(0, .ref b), (1, .int n), (2, .long v)]) (by decide) (Nat.le_of_ble_eq_true rfl) rfl ?_
  intro p e s m below meth c ls E hw0 hlk hnh hl hP
  have hx := E.1
  have hb := E.2.1
  have hK := E.2.2.2.2.2
  have hF : ∀ q ∈ ([] : List Loc), n0 q.base := fun q hq => absurd hq List.not_mem_nil
  obtain ⟨ho, hnew⟩ := hP
  refine lv_iload_n hx hb d_Desk_feed_0 rfl (lv_at hl 1 rfl) ?_
  refine lv_iconst (v := nI 1) hx hb d_Desk_feed_1 (by decide) ?_
  refine lv_icmp_lt (tgt := 11) hx hb d_Desk_feed_2 (by decide) (fun h1 => ?_) (fun h1 => ?_)
  rotate_left
  · skip
    refine lv_iload_n hx hb d_Desk_feed_5 rfl (lv_at hl 1 rfl) ?_
    refine lv_bipush (v := nI 8) hx hb d_Desk_feed_6 (by decide) ?_
    refine lv_icmp_le (tgt := 21) hx hb d_Desk_feed_8 (by decide) (fun h9 => absurd h9 (hbad.resolve_left h1)) (fun _ => ?_)
    exact q_throw (k := 114) (tx := "there are 1 to 8 bytes to feed") E hxs hw0 ho hlk hnh hnew (kd_xc_iae E.2.2.2.2.1 (kd_XL.at hxs.2.1 hw0 ho)) w_397 w_398 w_19 w_440 (by simp [kd_MSG]) hl.1 d_Desk_feed_11 d_Desk_feed_14 d_Desk_feed_15 d_Desk_feed_17 d_Desk_feed_20 (by decide) (by decide) (by decide) (by decide)
  exact q_throw (k := 114) (tx := "there are 1 to 8 bytes to feed") E hxs hw0 ho hlk hnh hnew (kd_xc_iae E.2.2.2.2.1 (kd_XL.at hxs.2.1 hw0 ho)) w_397 w_398 w_19 w_440 (by simp [kd_MSG]) hl.1 d_Desk_feed_11 d_Desk_feed_14 d_Desk_feed_15 d_Desk_feed_17 d_Desk_feed_20 (by decide) (by decide) (by decide) (by decide)
set_option maxHeartbeats 4000000 in
set_option maxRecDepth 100000 in
theorem t_Desk_number (l : Launch) (g : WG) (n0 : Nat → Prop) (s0 : State) (hxs : XS l s0) (b : Nat) (a : Int32) (hbad : ¬ okS a (nI 1)) : CtrT l y_Desk_number (.code y_Desk_number prog_1_method_3_code 3 (some FieldType.boolean)) 7 104 1 6 n0 g s0 [.ref b, .int a] (fun H => OLD s0 H ∧ n0 H.size) (TQ s0 "java/lang/IllegalArgumentException") := by
  refine ctrT_mk l (lv0 := [(0, .ref b), (1, .int a)]) (by decide) (Nat.le_of_ble_eq_true rfl) rfl ?_
  intro p e s m below meth c ls E hw0 hlk hnh hl hP
  have hx := E.1
  have hb := E.2.1
  have hK := E.2.2.2.2.2
  have hF : ∀ q ∈ ([] : List Loc), n0 q.base := fun q hq => absurd hq List.not_mem_nil
  obtain ⟨ho, hnew⟩ := hP
  refine lv_iload_n hx hb d_Desk_number_0 rfl (lv_at hl 1 rfl) ?_
  refine lv_iconst (v := nI 1) hx hb d_Desk_number_1 (by decide) ?_
  by_cases hn0 : okS a (nI 1)
  rotate_left
  · skip
    exact q_leave (q_runST (rest := []) E hw0 (t_Desk_needScalars l g n0 s0 hxs _ _ hn0) w_494 w_1 w_492 w_493 hd_Desk_needScalars rfl ⟨by decide, by decide⟩ ⟨ho, hnew⟩ hl.1 rfl (Nat.le_of_ble_eq_true rfl) d_Desk_number_2 ⟨by decide, by decide⟩) hlk hnh hF (fun x H1 h => h) rfl rfl
  have hF : ∀ q ∈ ([] : List Loc), kd_none q.base := fun q hq => absurd hq List.not_mem_nil
  refine q_cS (rest := []) E (c_Desk_needScalars l g kd_none _ _ hn0) w_494 w_1 w_492 w_493 hd_Desk_needScalars rfl ⟨by decide, by decide⟩ trivial hF hl.1 rfl (Nat.le_of_ble_eq_true rfl) d_Desk_number_2 ⟨by decide, by decide⟩ (qv (fun H1 locs hq hF => ?_))
  obtain rfl := hq
  obtain rfl : locs = [] := List.eq_nil_iff_forall_not_mem.mpr (fun q h => hF q h)
  have hF : ∀ q ∈ ([] : List Loc), n0 q.base := fun q hq => absurd hq List.not_mem_nil
  exfalso
  exact hbad hn0
set_option maxHeartbeats 4000000 in
set_option maxRecDepth 100000 in
theorem t_Desk_set (l : Launch) (g : WG) (n0 : Nat → Prop) (s0 : State) (hxs : XS l s0) (b : Nat) (a : Int32) (v : Int64) (hbad : ¬ okS a (nI 1) ∨ v < 0) : CtrT l y_Desk_set (.code y_Desk_set prog_1_method_4_code 4 none) 7 104 1 6 n0 g s0 [.ref b, .int a, .long v] (fun H => OLD s0 H ∧ n0 H.size) (TQ s0 "java/lang/IllegalArgumentException") := by
  refine ctrT_mk l (lv0 := [(0, .ref b), (1, .int a), (2, .long v)]) (by decide) (Nat.le_of_ble_eq_true rfl) rfl ?_
  intro p e s m below meth c ls E hw0 hlk hnh hl hP
  have hx := E.1
  have hb := E.2.1
  have hK := E.2.2.2.2.2
  have hF : ∀ q ∈ ([] : List Loc), n0 q.base := fun q hq => absurd hq List.not_mem_nil
  obtain ⟨ho, hnew⟩ := hP
  refine lv_iload_n hx hb d_Desk_set_0 rfl (lv_at hl 1 rfl) ?_
  refine lv_iconst (v := nI 1) hx hb d_Desk_set_1 (by decide) ?_
  by_cases hn0 : okS a (nI 1)
  rotate_left
  · skip
    exact q_leave (q_runST (rest := []) E hw0 (t_Desk_needScalars l g n0 s0 hxs _ _ hn0) w_494 w_1 w_492 w_493 hd_Desk_needScalars rfl ⟨by decide, by decide⟩ ⟨ho, hnew⟩ hl.1 rfl (Nat.le_of_ble_eq_true rfl) d_Desk_set_2 ⟨by decide, by decide⟩) hlk hnh hF (fun x H1 h => h) rfl rfl
  have hF : ∀ q ∈ ([] : List Loc), kd_none q.base := fun q hq => absurd hq List.not_mem_nil
  refine q_cS (rest := []) E (c_Desk_needScalars l g kd_none _ _ hn0) w_494 w_1 w_492 w_493 hd_Desk_needScalars rfl ⟨by decide, by decide⟩ trivial hF hl.1 rfl (Nat.le_of_ble_eq_true rfl) d_Desk_set_2 ⟨by decide, by decide⟩ (qv (fun H1 locs hq hF => ?_))
  obtain rfl := hq
  obtain rfl : locs = [] := List.eq_nil_iff_forall_not_mem.mpr (fun q h => hF q h)
  have hF : ∀ q ∈ ([] : List Loc), n0 q.base := fun q hq => absurd hq List.not_mem_nil
  refine lv_lload_n hx hb d_Desk_set_5 rfl (lv_at hl 2 rfl) ?_
  refine lv_lconst (v := 0) hx hb d_Desk_set_6 (by decide) ?_
  refine W.lcmp hx hb d_Desk_set_7 ?_
  refine lv_if_ge (tgt := 21) hx hb d_Desk_set_8 (by decide) (fun h9 => absurd h9 (by rw [kd_cmp_lt (hbad.resolve_left (fun h => h hn0))]; decide)) (fun _ => ?_)
  exact q_throw (k := 156) (tx := "the value is below 0") E hxs hw0 ho hlk hnh hnew (kd_xc_iae E.2.2.2.2.1 (kd_XL.at hxs.2.1 hw0 ho)) w_397 w_398 w_19 w_440 (by simp [kd_MSG]) hl.1 d_Desk_set_11 d_Desk_set_14 d_Desk_set_15 d_Desk_set_17 d_Desk_set_20 (by decide) (by decide) (by decide) (by decide)
set_option maxHeartbeats 4000000 in
set_option maxRecDepth 100000 in
theorem t_Desk_word (l : Launch) (g : WG) (n0 : Nat → Prop) (s0 : State) (hxs : XS l s0) (b : Nat) (a k : Int32) (hbad : ¬ okS a (nI 1) ∨ (k < 0 ∨ ¬ k < nI 8)) : CtrT l y_Desk_word (.code y_Desk_word prog_1_method_5_code 7 (some FieldType.long)) 7 104 1 6 n0 g s0 [.ref b, .int a, .int k] (fun H => OLD s0 H ∧ n0 H.size) (TQ s0 "java/lang/IllegalArgumentException") := by
  refine ctrT_mk l (lv0 := [(0, .ref b), (1, .int a), (2, .int k)]) (by decide) (Nat.le_of_ble_eq_true rfl) rfl ?_
  intro p e s m below meth c ls E hw0 hlk hnh hl hP
  have hx := E.1
  have hb := E.2.1
  have hK := E.2.2.2.2.2
  have hF : ∀ q ∈ ([] : List Loc), n0 q.base := fun q hq => absurd hq List.not_mem_nil
  obtain ⟨ho, hnew⟩ := hP
  refine lv_iload_n hx hb d_Desk_word_0 rfl (lv_at hl 1 rfl) ?_
  refine lv_iconst (v := nI 1) hx hb d_Desk_word_1 (by decide) ?_
  by_cases hn0 : okS a (nI 1)
  rotate_left
  · skip
    exact q_leave (q_runST (rest := []) E hw0 (t_Desk_needScalars l g n0 s0 hxs _ _ hn0) w_494 w_1 w_492 w_493 hd_Desk_needScalars rfl ⟨by decide, by decide⟩ ⟨ho, hnew⟩ hl.1 rfl (Nat.le_of_ble_eq_true rfl) d_Desk_word_2 ⟨by decide, by decide⟩) hlk hnh hF (fun x H1 h => h) rfl rfl
  have hF : ∀ q ∈ ([] : List Loc), kd_none q.base := fun q hq => absurd hq List.not_mem_nil
  refine q_cS (rest := []) E (c_Desk_needScalars l g kd_none _ _ hn0) w_494 w_1 w_492 w_493 hd_Desk_needScalars rfl ⟨by decide, by decide⟩ trivial hF hl.1 rfl (Nat.le_of_ble_eq_true rfl) d_Desk_word_2 ⟨by decide, by decide⟩ (qv (fun H1 locs hq hF => ?_))
  obtain rfl := hq
  obtain rfl : locs = [] := List.eq_nil_iff_forall_not_mem.mpr (fun q h => hF q h)
  have hF : ∀ q ∈ ([] : List Loc), n0 q.base := fun q hq => absurd hq List.not_mem_nil
  have hb2 := hbad.resolve_left (fun h => h hn0)
  refine lv_iload_n hx hb d_Desk_word_5 rfl (lv_at hl 2 rfl) ?_
  refine lv_if_lt (tgt := 15) hx hb d_Desk_word_6 (by decide) (fun h1 => ?_) (fun h1 => ?_)
  rotate_left
  · skip
    refine lv_iload_n hx hb d_Desk_word_9 rfl (lv_at hl 2 rfl) ?_
    refine lv_bipush (v := nI 8) hx hb d_Desk_word_10 (by decide) ?_
    refine lv_icmp_lt (tgt := 25) hx hb d_Desk_word_12 (by decide) (fun h9 => absurd h9 (hb2.resolve_left h1)) (fun _ => ?_)
    exact q_throw (k := 162) (tx := "a scalar has words 0 to 7") E hxs hw0 ho hlk hnh hnew (kd_xc_iae E.2.2.2.2.1 (kd_XL.at hxs.2.1 hw0 ho)) w_397 w_398 w_19 w_440 (by simp [kd_MSG]) hl.1 d_Desk_word_15 d_Desk_word_18 d_Desk_word_19 d_Desk_word_21 d_Desk_word_24 (by decide) (by decide) (by decide) (by decide)
  exact q_throw (k := 162) (tx := "a scalar has words 0 to 7") E hxs hw0 ho hlk hnh hnew (kd_xc_iae E.2.2.2.2.1 (kd_XL.at hxs.2.1 hw0 ho)) w_397 w_398 w_19 w_440 (by simp [kd_MSG]) hl.1 d_Desk_word_15 d_Desk_word_18 d_Desk_word_19 d_Desk_word_21 d_Desk_word_24 (by decide) (by decide) (by decide) (by decide)
set_option maxHeartbeats 4000000 in
set_option maxRecDepth 100000 in
theorem t_Desk_unity (l : Launch) (g : WG) (n0 : Nat → Prop) (s0 : State) (hxs : XS l s0) (b : Nat) (a k : Int32) (hbad : ¬ okS a (nI 1) ∨ (k < 0 ∨ ¬ k ≤ nI 32)) : CtrT l y_Desk_unity (.code y_Desk_unity prog_1_method_8_code 3 none) 7 104 1 6 n0 g s0 [.ref b, .int a, .int k] (fun H => OLD s0 H ∧ n0 H.size) (TQ s0 "java/lang/IllegalArgumentException") := by
  refine ctrT_mk l (lv0 := [(0, .ref b), (1, .int a), (2, .int k)]) (by decide) (Nat.le_of_ble_eq_true rfl) rfl ?_
  intro p e s m below meth c ls E hw0 hlk hnh hl hP
  have hx := E.1
  have hb := E.2.1
  have hK := E.2.2.2.2.2
  have hF : ∀ q ∈ ([] : List Loc), n0 q.base := fun q hq => absurd hq List.not_mem_nil
  obtain ⟨ho, hnew⟩ := hP
  refine lv_iload_n hx hb d_Desk_unity_0 rfl (lv_at hl 1 rfl) ?_
  refine lv_iconst (v := nI 1) hx hb d_Desk_unity_1 (by decide) ?_
  by_cases hn0 : okS a (nI 1)
  rotate_left
  · skip
    exact q_leave (q_runST (rest := []) E hw0 (t_Desk_needScalars l g n0 s0 hxs _ _ hn0) w_494 w_1 w_492 w_493 hd_Desk_needScalars rfl ⟨by decide, by decide⟩ ⟨ho, hnew⟩ hl.1 rfl (Nat.le_of_ble_eq_true rfl) d_Desk_unity_2 ⟨by decide, by decide⟩) hlk hnh hF (fun x H1 h => h) rfl rfl
  have hF : ∀ q ∈ ([] : List Loc), kd_none q.base := fun q hq => absurd hq List.not_mem_nil
  refine q_cS (rest := []) E (c_Desk_needScalars l g kd_none _ _ hn0) w_494 w_1 w_492 w_493 hd_Desk_needScalars rfl ⟨by decide, by decide⟩ trivial hF hl.1 rfl (Nat.le_of_ble_eq_true rfl) d_Desk_unity_2 ⟨by decide, by decide⟩ (qv (fun H1 locs hq hF => ?_))
  obtain rfl := hq
  obtain rfl : locs = [] := List.eq_nil_iff_forall_not_mem.mpr (fun q h => hF q h)
  have hF : ∀ q ∈ ([] : List Loc), n0 q.base := fun q hq => absurd hq List.not_mem_nil
  have hb2 := hbad.resolve_left (fun h => h hn0)
  refine lv_iload_n hx hb d_Desk_unity_5 rfl (lv_at hl 2 rfl) ?_
  refine lv_if_lt (tgt := 15) hx hb d_Desk_unity_6 (by decide) (fun h1 => ?_) (fun h1 => ?_)
  rotate_left
  · skip
    refine lv_iload_n hx hb d_Desk_unity_9 rfl (lv_at hl 2 rfl) ?_
    refine lv_bipush (v := nI 32) hx hb d_Desk_unity_10 (by decide) ?_
    refine lv_icmp_le (tgt := 25) hx hb d_Desk_unity_12 (by decide) (fun h9 => absurd h9 (hb2.resolve_left h1)) (fun _ => ?_)
    exact q_throw (k := 204) (tx := "there are unities 0 to 32") E hxs hw0 ho hlk hnh hnew (kd_xc_iae E.2.2.2.2.1 (kd_XL.at hxs.2.1 hw0 ho)) w_397 w_398 w_19 w_440 (by simp [kd_MSG]) hl.1 d_Desk_unity_15 d_Desk_unity_18 d_Desk_unity_19 d_Desk_unity_21 d_Desk_unity_24 (by decide) (by decide) (by decide) (by decide)
  exact q_throw (k := 204) (tx := "there are unities 0 to 32") E hxs hw0 ho hlk hnh hnew (kd_xc_iae E.2.2.2.2.1 (kd_XL.at hxs.2.1 hw0 ho)) w_397 w_398 w_19 w_440 (by simp [kd_MSG]) hl.1 d_Desk_unity_15 d_Desk_unity_18 d_Desk_unity_19 d_Desk_unity_21 d_Desk_unity_24 (by decide) (by decide) (by decide) (by decide)
set_option maxHeartbeats 4000000 in
set_option maxRecDepth 100000 in
theorem t_Desk_reckon (l : Launch) (g : WG) (n0 : Nat → Prop) (s0 : State) (hxs : XS l s0) (b : Nat) (w0 a a2 a3 : Int32) (hbad : ¬ okK w0 ∨ ¬ okS a (nI 1) ∨ ¬ okS a2 (nI 1) ∨ ¬ okS a3 (nI 1)) : CtrT l y_Desk_reckon (.code y_Desk_reckon prog_1_method_6_code 5 none) 7 104 1 6 n0 g s0 [.ref b, .int w0, .int a, .int a2, .int a3] (fun H => OLD s0 H ∧ n0 H.size) (TQ s0 "java/lang/IllegalArgumentException") := by
  refine ctrT_mk l (lv0 := [(0, .ref b), (1, .int w0), (2, .int a), (3, .int a2), (4, .int a3)]) (by decide) (Nat.le_of_ble_eq_true rfl) rfl ?_
  intro p e s m below meth c ls E hw0 hlk hnh hl hP
  have hx := E.1
  have hb := E.2.1
  have hK := E.2.2.2.2.2
  have hF : ∀ q ∈ ([] : List Loc), n0 q.base := fun q hq => absurd hq List.not_mem_nil
  obtain ⟨ho, hnew⟩ := hP
  refine lv_iload_n hx hb d_Desk_reckon_0 rfl (lv_at hl 1 rfl) ?_
  by_cases hn0 : okK w0
  rotate_left
  · skip
    exact q_leave (q_runST (rest := []) E hw0 (t_Desk_needKind l g n0 s0 hxs _ hn0) w_544 w_1 w_542 w_543 hd_Desk_needKind rfl ⟨by decide, by decide⟩ ⟨ho, hnew⟩ hl.1 rfl (Nat.le_of_ble_eq_true rfl) d_Desk_reckon_1 ⟨by decide, by decide⟩) hlk hnh hF (fun x H1 h => h) rfl rfl
  have hF : ∀ q ∈ ([] : List Loc), kd_none q.base := fun q hq => absurd hq List.not_mem_nil
  refine q_cS (rest := []) E (c_Desk_needKind l g kd_none _ hn0) w_544 w_1 w_542 w_543 hd_Desk_needKind rfl ⟨by decide, by decide⟩ trivial hF hl.1 rfl (Nat.le_of_ble_eq_true rfl) d_Desk_reckon_1 ⟨by decide, by decide⟩ (qv (fun H1 locs hq hF => ?_))
  obtain rfl := hq
  obtain rfl : locs = [] := List.eq_nil_iff_forall_not_mem.mpr (fun q h => hF q h)
  have hF : ∀ q ∈ ([] : List Loc), n0 q.base := fun q hq => absurd hq List.not_mem_nil
  refine lv_iload_n hx hb d_Desk_reckon_4 rfl (lv_at hl 2 rfl) ?_
  refine lv_iconst (v := nI 1) hx hb d_Desk_reckon_5 (by decide) ?_
  by_cases hn1 : okS a (nI 1)
  rotate_left
  · skip
    exact q_leave (q_runST (rest := []) E hw0 (t_Desk_needScalars l g n0 s0 hxs _ _ hn1) w_494 w_1 w_492 w_493 hd_Desk_needScalars rfl ⟨by decide, by decide⟩ ⟨ho, hnew⟩ hl.1 rfl (Nat.le_of_ble_eq_true rfl) d_Desk_reckon_6 ⟨by decide, by decide⟩) hlk hnh hF (fun x H1 h => h) rfl rfl
  have hF : ∀ q ∈ ([] : List Loc), kd_none q.base := fun q hq => absurd hq List.not_mem_nil
  refine q_cS (rest := []) E (c_Desk_needScalars l g kd_none _ _ hn1) w_494 w_1 w_492 w_493 hd_Desk_needScalars rfl ⟨by decide, by decide⟩ trivial hF hl.1 rfl (Nat.le_of_ble_eq_true rfl) d_Desk_reckon_6 ⟨by decide, by decide⟩ (qv (fun H2 locs hq hF => ?_))
  obtain rfl := hq
  obtain rfl : locs = [] := List.eq_nil_iff_forall_not_mem.mpr (fun q h => hF q h)
  have hF : ∀ q ∈ ([] : List Loc), n0 q.base := fun q hq => absurd hq List.not_mem_nil
  refine lv_iload_n hx hb d_Desk_reckon_9 rfl (lv_at hl 3 rfl) ?_
  refine lv_iconst (v := nI 1) hx hb d_Desk_reckon_10 (by decide) ?_
  by_cases hn2 : okS a2 (nI 1)
  rotate_left
  · skip
    exact q_leave (q_runST (rest := []) E hw0 (t_Desk_needScalars l g n0 s0 hxs _ _ hn2) w_494 w_1 w_492 w_493 hd_Desk_needScalars rfl ⟨by decide, by decide⟩ ⟨ho, hnew⟩ hl.1 rfl (Nat.le_of_ble_eq_true rfl) d_Desk_reckon_11 ⟨by decide, by decide⟩) hlk hnh hF (fun x H1 h => h) rfl rfl
  have hF : ∀ q ∈ ([] : List Loc), kd_none q.base := fun q hq => absurd hq List.not_mem_nil
  refine q_cS (rest := []) E (c_Desk_needScalars l g kd_none _ _ hn2) w_494 w_1 w_492 w_493 hd_Desk_needScalars rfl ⟨by decide, by decide⟩ trivial hF hl.1 rfl (Nat.le_of_ble_eq_true rfl) d_Desk_reckon_11 ⟨by decide, by decide⟩ (qv (fun H3 locs hq hF => ?_))
  obtain rfl := hq
  obtain rfl : locs = [] := List.eq_nil_iff_forall_not_mem.mpr (fun q h => hF q h)
  have hF : ∀ q ∈ ([] : List Loc), n0 q.base := fun q hq => absurd hq List.not_mem_nil
  refine lv_iload hx hb d_Desk_reckon_14 (lv_at hl 4 rfl) ?_
  refine lv_iconst (v := nI 1) hx hb d_Desk_reckon_16 (by decide) ?_
  by_cases hn3 : okS a3 (nI 1)
  rotate_left
  · skip
    exact q_leave (q_runST (rest := []) E hw0 (t_Desk_needScalars l g n0 s0 hxs _ _ hn3) w_494 w_1 w_492 w_493 hd_Desk_needScalars rfl ⟨by decide, by decide⟩ ⟨ho, hnew⟩ hl.1 rfl (Nat.le_of_ble_eq_true rfl) d_Desk_reckon_17 ⟨by decide, by decide⟩) hlk hnh hF (fun x H1 h => h) rfl rfl
  have hF : ∀ q ∈ ([] : List Loc), kd_none q.base := fun q hq => absurd hq List.not_mem_nil
  refine q_cS (rest := []) E (c_Desk_needScalars l g kd_none _ _ hn3) w_494 w_1 w_492 w_493 hd_Desk_needScalars rfl ⟨by decide, by decide⟩ trivial hF hl.1 rfl (Nat.le_of_ble_eq_true rfl) d_Desk_reckon_17 ⟨by decide, by decide⟩ (qv (fun H4 locs hq hF => ?_))
  obtain rfl := hq
  obtain rfl : locs = [] := List.eq_nil_iff_forall_not_mem.mpr (fun q h => hF q h)
  have hF : ∀ q ∈ ([] : List Loc), n0 q.base := fun q hq => absurd hq List.not_mem_nil
  exfalso
  rcases hbad with h | h | h | h
  · exact h hn0
  · exact h hn1
  · exact h hn2
  · exact h hn3
set_option maxHeartbeats 4000000 in
set_option maxRecDepth 100000 in
theorem t_Desk_reckonA (l : Launch) (g : WG) (n0 : Nat → Prop) (s0 : State) (hxs : XS l s0) (b : Nat) (a a2 a3 : Nat) (mr mq : Int64) (h1 : a < 32) (h2 : a2 < 32) (h3 : a3 < 32) : CtrT l y_Desk_reckon (.code y_Desk_reckon prog_1_method_6_code 5 none) 7 104 1 6 n0 g s0 [.ref b, .int (nI 3), .int (nI a), .int (nI a2), .int (nI a3)] (fun H => OLD s0 H ∧ n0 H.size ∧ DK g n0 H b 0 0 0 mr mq ∧ FRESH g H b) (TQ s0 "java/lang/ArithmeticException") := by
  refine ctrT_mk l (lv0 := [(0, .ref b), (1, .int (nI 3)), (2, .int (nI a)), (3, .int (nI a2)), (4, .int (nI a3))]) (by decide) (Nat.le_of_ble_eq_true rfl) rfl ?_
  intro p e s m below meth c ls E hw0 hlk hnh hl hP
  have hx := E.1
  have hb := E.2.1
  have hK := E.2.2.2.2.2
  have hF : ∀ q ∈ ([] : List Loc), n0 q.base := fun q hq => absurd hq List.not_mem_nil
  obtain ⟨ho, hnew, hpre⟩ := hP
  obtain ⟨hdk, hfs⟩ := hpre
  refine lv_iload_n hx hb d_Desk_reckon_0 rfl (lv_at hl 1 rfl) ?_
  have hF : ∀ q ∈ ([] : List Loc), kd_none q.base := fun q hq => absurd hq List.not_mem_nil
  refine q_cS (rest := []) E (c_Desk_needKind l g kd_none _ (⟨by decide, by decide⟩)) w_544 w_1 w_542 w_543 hd_Desk_needKind rfl ⟨by decide, by decide⟩ trivial hF hl.1 rfl (Nat.le_of_ble_eq_true rfl) d_Desk_reckon_1 ⟨by decide, by decide⟩ (qv (fun H1 locs hq hF => ?_))
  obtain rfl := hq
  obtain rfl : locs = [] := List.eq_nil_iff_forall_not_mem.mpr (fun q h => hF q h)
  have hF : ∀ q ∈ ([] : List Loc), n0 q.base := fun q hq => absurd hq List.not_mem_nil
  refine lv_iload_n hx hb d_Desk_reckon_4 rfl (lv_at hl 2 rfl) ?_
  refine lv_iconst (v := nI 1) hx hb d_Desk_reckon_5 (by decide) ?_
  have hF : ∀ q ∈ ([] : List Loc), kd_none q.base := fun q hq => absurd hq List.not_mem_nil
  refine q_cS (rest := []) E (c_Desk_needScalars l g kd_none _ _ (okS_of (by omega) (by omega))) w_494 w_1 w_492 w_493 hd_Desk_needScalars rfl ⟨by decide, by decide⟩ trivial hF hl.1 rfl (Nat.le_of_ble_eq_true rfl) d_Desk_reckon_6 ⟨by decide, by decide⟩ (qv (fun H2 locs hq hF => ?_))
  obtain rfl := hq
  obtain rfl : locs = [] := List.eq_nil_iff_forall_not_mem.mpr (fun q h => hF q h)
  have hF : ∀ q ∈ ([] : List Loc), n0 q.base := fun q hq => absurd hq List.not_mem_nil
  refine lv_iload_n hx hb d_Desk_reckon_9 rfl (lv_at hl 3 rfl) ?_
  refine lv_iconst (v := nI 1) hx hb d_Desk_reckon_10 (by decide) ?_
  have hF : ∀ q ∈ ([] : List Loc), kd_none q.base := fun q hq => absurd hq List.not_mem_nil
  refine q_cS (rest := []) E (c_Desk_needScalars l g kd_none _ _ (okS_of (by omega) (by omega))) w_494 w_1 w_492 w_493 hd_Desk_needScalars rfl ⟨by decide, by decide⟩ trivial hF hl.1 rfl (Nat.le_of_ble_eq_true rfl) d_Desk_reckon_11 ⟨by decide, by decide⟩ (qv (fun H3 locs hq hF => ?_))
  obtain rfl := hq
  obtain rfl : locs = [] := List.eq_nil_iff_forall_not_mem.mpr (fun q h => hF q h)
  have hF : ∀ q ∈ ([] : List Loc), n0 q.base := fun q hq => absurd hq List.not_mem_nil
  refine lv_iload hx hb d_Desk_reckon_14 (lv_at hl 4 rfl) ?_
  refine lv_iconst (v := nI 1) hx hb d_Desk_reckon_16 (by decide) ?_
  have hF : ∀ q ∈ ([] : List Loc), kd_none q.base := fun q hq => absurd hq List.not_mem_nil
  refine q_cS (rest := []) E (c_Desk_needScalars l g kd_none _ _ (okS_of (by omega) (by omega))) w_494 w_1 w_492 w_493 hd_Desk_needScalars rfl ⟨by decide, by decide⟩ trivial hF hl.1 rfl (Nat.le_of_ble_eq_true rfl) d_Desk_reckon_17 ⟨by decide, by decide⟩ (qv (fun H4 locs hq hF => ?_))
  obtain rfl := hq
  obtain rfl : locs = [] := List.eq_nil_iff_forall_not_mem.mpr (fun q h => hF q h)
  have hF : ∀ q ∈ ([] : List Loc), n0 q.base := fun q hq => absurd hq List.not_mem_nil
  refine lv_iload_n hx hb d_Desk_reckon_20 rfl (lv_at hl 1 rfl) ?_
  refine lv_iconst (v := nI 3) hx hb d_Desk_reckon_21 (by decide) ?_
  refine lv_icmp_ne (tgt := 48) hx hb d_Desk_reckon_22 (by decide) (fun h9 => absurd (rfl) h9) (fun _ => ?_)
  refine lv_aload_n hx hb d_Desk_reckon_25 rfl (lv_at hl 0 rfl) ?_
  refine q_get (C := "KateDesk") (T := T_Desk) (N := 16) (ci := 5) E hdk.ob in_Desk rfl 5 (by decide) w_344 rfl rfl d_Desk_reckon_26 ?_
  refine lv_iload hx hb d_Desk_reckon_29 (lv_at hl 4 rfl) ?_
  refine q_aald (t := 4) E rfl rfl hdk.rs.1 a3 rfl h3 (by decide) d_Desk_reckon_31 ?_
  have hF : ∀ q ∈ ([] : List Loc), kd_none q.base := fun q hq => absurd hq List.not_mem_nil
  refine q_cS (rest := []) E (z_Limbs_isZero l g kd_none (kSc b a3)) w_548 w_5 w_546 w_547 hd_Limbs_isZero rfl ⟨by decide, by decide⟩ (hfs.1 a3 h3) hF hl.1 rfl (Nat.le_of_ble_eq_true rfl) d_Desk_reckon_32 ⟨by decide, by decide⟩ (qi (fun r H5 locs hq hF => ?_))
  obtain ⟨rfl, hq⟩ := hq
  obtain rfl := hq
  obtain rfl : locs = [] := List.eq_nil_iff_forall_not_mem.mpr (fun q h => hF q h)
  have hF : ∀ q ∈ ([] : List Loc), n0 q.base := fun q hq => absurd hq List.not_mem_nil
  refine lv_if_eq (tgt := 48) hx hb d_Desk_reckon_35 (by decide) (fun h9 => absurd h9 (by decide)) (fun _ => ?_)
  exact q_throw (k := 177) (tx := "a division by 0") E hxs hw0 ho hlk hnh hnew (kd_xc_are E.2.2.2.2.1 (kd_XL.at hxs.2.1 hw0 ho)) w_549 w_550 w_22 w_559 (by simp [kd_MSG]) hl.1 d_Desk_reckon_38 d_Desk_reckon_41 d_Desk_reckon_42 d_Desk_reckon_44 d_Desk_reckon_47 (by decide) (by decide) (by decide) (by decide)
set_option maxHeartbeats 4000000 in
set_option maxRecDepth 100000 in
theorem t_Desk_power (l : Launch) (g : WG) (n0 : Nat → Prop) (s0 : State) (hxs : XS l s0) (b : Nat) (a a2 : Int32) (v : Int64) (hbad : ¬ okS a (nI 1) ∨ ¬ okS a2 (nI 1) ∨ v < 0) : CtrT l y_Desk_power (.code y_Desk_power prog_1_method_7_code 5 none) 7 104 1 6 n0 g s0 [.ref b, .int a, .int a2, .long v] (fun H => OLD s0 H ∧ n0 H.size) (TQ s0 "java/lang/IllegalArgumentException") := by
  refine ctrT_mk l (lv0 := [(0, .ref b), (1, .int a), (2, .int a2), (3, .long v)]) (by decide) (Nat.le_of_ble_eq_true rfl) rfl ?_
  intro p e s m below meth c ls E hw0 hlk hnh hl hP
  have hx := E.1
  have hb := E.2.1
  have hK := E.2.2.2.2.2
  have hF : ∀ q ∈ ([] : List Loc), n0 q.base := fun q hq => absurd hq List.not_mem_nil
  obtain ⟨ho, hnew⟩ := hP
  refine lv_iload_n hx hb d_Desk_power_0 rfl (lv_at hl 1 rfl) ?_
  refine lv_iconst (v := nI 1) hx hb d_Desk_power_1 (by decide) ?_
  by_cases hn0 : okS a (nI 1)
  rotate_left
  · skip
    exact q_leave (q_runST (rest := []) E hw0 (t_Desk_needScalars l g n0 s0 hxs _ _ hn0) w_494 w_1 w_492 w_493 hd_Desk_needScalars rfl ⟨by decide, by decide⟩ ⟨ho, hnew⟩ hl.1 rfl (Nat.le_of_ble_eq_true rfl) d_Desk_power_2 ⟨by decide, by decide⟩) hlk hnh hF (fun x H1 h => h) rfl rfl
  have hF : ∀ q ∈ ([] : List Loc), kd_none q.base := fun q hq => absurd hq List.not_mem_nil
  refine q_cS (rest := []) E (c_Desk_needScalars l g kd_none _ _ hn0) w_494 w_1 w_492 w_493 hd_Desk_needScalars rfl ⟨by decide, by decide⟩ trivial hF hl.1 rfl (Nat.le_of_ble_eq_true rfl) d_Desk_power_2 ⟨by decide, by decide⟩ (qv (fun H1 locs hq hF => ?_))
  obtain rfl := hq
  obtain rfl : locs = [] := List.eq_nil_iff_forall_not_mem.mpr (fun q h => hF q h)
  have hF : ∀ q ∈ ([] : List Loc), n0 q.base := fun q hq => absurd hq List.not_mem_nil
  refine lv_iload_n hx hb d_Desk_power_5 rfl (lv_at hl 2 rfl) ?_
  refine lv_iconst (v := nI 1) hx hb d_Desk_power_6 (by decide) ?_
  by_cases hn1 : okS a2 (nI 1)
  rotate_left
  · skip
    exact q_leave (q_runST (rest := []) E hw0 (t_Desk_needScalars l g n0 s0 hxs _ _ hn1) w_494 w_1 w_492 w_493 hd_Desk_needScalars rfl ⟨by decide, by decide⟩ ⟨ho, hnew⟩ hl.1 rfl (Nat.le_of_ble_eq_true rfl) d_Desk_power_7 ⟨by decide, by decide⟩) hlk hnh hF (fun x H1 h => h) rfl rfl
  have hF : ∀ q ∈ ([] : List Loc), kd_none q.base := fun q hq => absurd hq List.not_mem_nil
  refine q_cS (rest := []) E (c_Desk_needScalars l g kd_none _ _ hn1) w_494 w_1 w_492 w_493 hd_Desk_needScalars rfl ⟨by decide, by decide⟩ trivial hF hl.1 rfl (Nat.le_of_ble_eq_true rfl) d_Desk_power_7 ⟨by decide, by decide⟩ (qv (fun H2 locs hq hF => ?_))
  obtain rfl := hq
  obtain rfl : locs = [] := List.eq_nil_iff_forall_not_mem.mpr (fun q h => hF q h)
  have hF : ∀ q ∈ ([] : List Loc), n0 q.base := fun q hq => absurd hq List.not_mem_nil
  refine lv_lload_n hx hb d_Desk_power_10 rfl (lv_at hl 3 rfl) ?_
  refine lv_lconst (v := 0) hx hb d_Desk_power_11 (by decide) ?_
  refine W.lcmp hx hb d_Desk_power_12 ?_
  refine lv_if_ge (tgt := 26) hx hb d_Desk_power_13 (by decide) (fun h9 => absurd h9 (by rw [kd_cmp_lt ((hbad.resolve_left (fun h => h hn0)).resolve_left (fun h => h hn1))]; decide)) (fun _ => ?_)
  exact q_throw (k := 196) (tx := "the exponent is below 0") E hxs hw0 ho hlk hnh hnew (kd_xc_iae E.2.2.2.2.1 (kd_XL.at hxs.2.1 hw0 ho)) w_397 w_398 w_19 w_440 (by simp [kd_MSG]) hl.1 d_Desk_power_16 d_Desk_power_19 d_Desk_power_20 d_Desk_power_22 d_Desk_power_25 (by decide) (by decide) (by decide) (by decide)
set_option maxHeartbeats 4000000 in
set_option maxRecDepth 100000 in
theorem t_Desk_point (l : Launch) (g : WG) (n0 : Nat → Prop) (s0 : State) (hxs : XS l s0) (b : Nat) (a : Int32) (hbad : ¬ okP a (nI 1)) : CtrT l y_Desk_point (.code y_Desk_point prog_1_method_9_code 3 (some FieldType.int)) 7 104 1 6 n0 g s0 [.ref b, .int a] (fun H => OLD s0 H ∧ n0 H.size) (TQ s0 "java/lang/IllegalArgumentException") := by
  refine ctrT_mk l (lv0 := [(0, .ref b), (1, .int a)]) (by decide) (Nat.le_of_ble_eq_true rfl) rfl ?_
  intro p e s m below meth c ls E hw0 hlk hnh hl hP
  have hx := E.1
  have hb := E.2.1
  have hK := E.2.2.2.2.2
  have hF : ∀ q ∈ ([] : List Loc), n0 q.base := fun q hq => absurd hq List.not_mem_nil
  obtain ⟨ho, hnew⟩ := hP
  refine lv_iload_n hx hb d_Desk_point_0 rfl (lv_at hl 1 rfl) ?_
  refine lv_iconst (v := nI 1) hx hb d_Desk_point_1 (by decide) ?_
  by_cases hn0 : okP a (nI 1)
  rotate_left
  · skip
    exact q_leave (q_runST (rest := []) E hw0 (t_Desk_needPoints l g n0 s0 hxs _ _ hn0) w_622 w_1 w_620 w_621 hd_Desk_needPoints rfl ⟨by decide, by decide⟩ ⟨ho, hnew⟩ hl.1 rfl (Nat.le_of_ble_eq_true rfl) d_Desk_point_2 ⟨by decide, by decide⟩) hlk hnh hF (fun x H1 h => h) rfl rfl
  have hF : ∀ q ∈ ([] : List Loc), kd_none q.base := fun q hq => absurd hq List.not_mem_nil
  refine q_cS (rest := []) E (c_Desk_needPoints l g kd_none _ _ hn0) w_622 w_1 w_620 w_621 hd_Desk_needPoints rfl ⟨by decide, by decide⟩ trivial hF hl.1 rfl (Nat.le_of_ble_eq_true rfl) d_Desk_point_2 ⟨by decide, by decide⟩ (qv (fun H1 locs hq hF => ?_))
  obtain rfl := hq
  obtain rfl : locs = [] := List.eq_nil_iff_forall_not_mem.mpr (fun q h => hF q h)
  have hF : ∀ q ∈ ([] : List Loc), n0 q.base := fun q hq => absurd hq List.not_mem_nil
  exfalso
  exact hbad hn0
set_option maxHeartbeats 4000000 in
set_option maxRecDepth 100000 in
theorem t_Desk_bytes (l : Launch) (g : WG) (n0 : Nat → Prop) (s0 : State) (hxs : XS l s0) (b : Nat) (a sh : Int32) (hbad : ¬ okP a (nI 1)) : CtrT l y_Desk_bytes (.code y_Desk_bytes prog_1_method_10_code 3 none) 7 104 1 6 n0 g s0 [.ref b, .int a, .int sh] (fun H => OLD s0 H ∧ n0 H.size) (TQ s0 "java/lang/IllegalArgumentException") := by
  refine ctrT_mk l (lv0 := [(0, .ref b), (1, .int a), (2, .int sh)]) (by decide) (Nat.le_of_ble_eq_true rfl) rfl ?_
  intro p e s m below meth c ls E hw0 hlk hnh hl hP
  have hx := E.1
  have hb := E.2.1
  have hK := E.2.2.2.2.2
  have hF : ∀ q ∈ ([] : List Loc), n0 q.base := fun q hq => absurd hq List.not_mem_nil
  obtain ⟨ho, hnew⟩ := hP
  refine lv_iload_n hx hb d_Desk_bytes_0 rfl (lv_at hl 1 rfl) ?_
  refine lv_iconst (v := nI 1) hx hb d_Desk_bytes_1 (by decide) ?_
  by_cases hn0 : okP a (nI 1)
  rotate_left
  · skip
    exact q_leave (q_runST (rest := []) E hw0 (t_Desk_needPoints l g n0 s0 hxs _ _ hn0) w_622 w_1 w_620 w_621 hd_Desk_needPoints rfl ⟨by decide, by decide⟩ ⟨ho, hnew⟩ hl.1 rfl (Nat.le_of_ble_eq_true rfl) d_Desk_bytes_2 ⟨by decide, by decide⟩) hlk hnh hF (fun x H1 h => h) rfl rfl
  have hF : ∀ q ∈ ([] : List Loc), kd_none q.base := fun q hq => absurd hq List.not_mem_nil
  refine q_cS (rest := []) E (c_Desk_needPoints l g kd_none _ _ hn0) w_622 w_1 w_620 w_621 hd_Desk_needPoints rfl ⟨by decide, by decide⟩ trivial hF hl.1 rfl (Nat.le_of_ble_eq_true rfl) d_Desk_bytes_2 ⟨by decide, by decide⟩ (qv (fun H1 locs hq hF => ?_))
  obtain rfl := hq
  obtain rfl : locs = [] := List.eq_nil_iff_forall_not_mem.mpr (fun q h => hF q h)
  have hF : ∀ q ∈ ([] : List Loc), n0 q.base := fun q hq => absurd hq List.not_mem_nil
  exfalso
  exact hbad hn0
set_option maxHeartbeats 4000000 in
set_option maxRecDepth 100000 in
theorem t_Desk_out (l : Launch) (g : WG) (n0 : Nat → Prop) (s0 : State) (hxs : XS l s0) (b : Nat) (k : Int32) (mr mq : Int64) : CtrT l y_Desk_out (.code y_Desk_out prog_1_method_11_code 5 (some FieldType.long)) 7 104 1 6 n0 g s0 [.ref b, .int k] (fun H => OLD s0 H ∧ n0 H.size ∧ DK g n0 H b 0 0 0 mr mq) (TQ s0 "java/util/NoSuchElementException") := by
  refine ctrT_mk l (lv0 := [(0, .ref b), (1, .int k)]) (by decide) (Nat.le_of_ble_eq_true rfl) rfl ?_
  intro p e s m below meth c ls E hw0 hlk hnh hl hP
  have hx := E.1
  have hb := E.2.1
  have hK := E.2.2.2.2.2
  have hF : ∀ q ∈ ([] : List Loc), n0 q.base := fun q hq => absurd hq List.not_mem_nil
  obtain ⟨ho, hnew, hpre⟩ := hP
  have hdk := hpre
  refine lv_iload_n hx hb d_Desk_out_0 rfl (lv_at hl 1 rfl) ?_
  refine lv_if_lt (tgt := 15) hx hb d_Desk_out_1 (by decide) (fun h1 => ?_) (fun h1 => ?_)
  rotate_left
  · skip
    refine lv_iload_n hx hb d_Desk_out_4 rfl (lv_at hl 1 rfl) ?_
    refine lv_aload_n hx hb d_Desk_out_5 rfl (lv_at hl 0 rfl) ?_
    refine q_get (C := "KateDesk") (T := T_Desk) (N := 16) (ci := 5) E hdk.ob in_Desk rfl 10 (by decide) w_349 rfl rfl d_Desk_out_6 ?_
    refine q_get (C := "KateDesk$Row") (T := T_Row) (N := 2) (ci := 3) E hdk.wr in_Row rfl 1 (by decide) w_74 rfl rfl d_Desk_out_9 ?_
    refine lv_icmp_lt (tgt := 25) hx hb d_Desk_out_12 (by decide) (fun h9 => absurd h9 (h1)) (fun _ => ?_)
    exact q_throw (k := 230) (tx := "there is no such byte") E hxs hw0 ho hlk hnh hnew (kd_xc_nse E.2.2.2.2.1 (kd_XL.at hxs.2.1 hw0 ho)) w_757 w_758 w_24 w_767 (by simp [kd_MSG]) hl.1 d_Desk_out_15 d_Desk_out_18 d_Desk_out_19 d_Desk_out_21 d_Desk_out_24 (by decide) (by decide) (by decide) (by decide)
  exact q_throw (k := 230) (tx := "there is no such byte") E hxs hw0 ho hlk hnh hnew (kd_xc_nse E.2.2.2.2.1 (kd_XL.at hxs.2.1 hw0 ho)) w_757 w_758 w_24 w_767 (by simp [kd_MSG]) hl.1 d_Desk_out_15 d_Desk_out_18 d_Desk_out_19 d_Desk_out_21 d_Desk_out_24 (by decide) (by decide) (by decide) (by decide)
set_option maxHeartbeats 4000000 in
set_option maxRecDepth 100000 in
theorem t_Desk_join (l : Launch) (g : WG) (n0 : Nat → Prop) (s0 : State) (hxs : XS l s0) (b : Nat) (w0 a a2 a3 : Int32) (hbad : ¬ okK w0 ∨ ¬ okP a (nI 1) ∨ ¬ okP a2 (nI 1) ∨ ¬ okP a3 (nI 1)) : CtrT l y_Desk_join (.code y_Desk_join prog_1_method_12_code 5 none) 7 104 1 6 n0 g s0 [.ref b, .int w0, .int a, .int a2, .int a3] (fun H => OLD s0 H ∧ n0 H.size) (TQ s0 "java/lang/IllegalArgumentException") := by
  refine ctrT_mk l (lv0 := [(0, .ref b), (1, .int w0), (2, .int a), (3, .int a2), (4, .int a3)]) (by decide) (Nat.le_of_ble_eq_true rfl) rfl ?_
  intro p e s m below meth c ls E hw0 hlk hnh hl hP
  have hx := E.1
  have hb := E.2.1
  have hK := E.2.2.2.2.2
  have hF : ∀ q ∈ ([] : List Loc), n0 q.base := fun q hq => absurd hq List.not_mem_nil
  obtain ⟨ho, hnew⟩ := hP
  refine lv_iload_n hx hb d_Desk_join_0 rfl (lv_at hl 1 rfl) ?_
  by_cases hn0 : okK w0
  rotate_left
  · skip
    exact q_leave (q_runST (rest := []) E hw0 (t_Desk_needKind l g n0 s0 hxs _ hn0) w_544 w_1 w_542 w_543 hd_Desk_needKind rfl ⟨by decide, by decide⟩ ⟨ho, hnew⟩ hl.1 rfl (Nat.le_of_ble_eq_true rfl) d_Desk_join_1 ⟨by decide, by decide⟩) hlk hnh hF (fun x H1 h => h) rfl rfl
  have hF : ∀ q ∈ ([] : List Loc), kd_none q.base := fun q hq => absurd hq List.not_mem_nil
  refine q_cS (rest := []) E (c_Desk_needKind l g kd_none _ hn0) w_544 w_1 w_542 w_543 hd_Desk_needKind rfl ⟨by decide, by decide⟩ trivial hF hl.1 rfl (Nat.le_of_ble_eq_true rfl) d_Desk_join_1 ⟨by decide, by decide⟩ (qv (fun H1 locs hq hF => ?_))
  obtain rfl := hq
  obtain rfl : locs = [] := List.eq_nil_iff_forall_not_mem.mpr (fun q h => hF q h)
  have hF : ∀ q ∈ ([] : List Loc), n0 q.base := fun q hq => absurd hq List.not_mem_nil
  refine lv_iload_n hx hb d_Desk_join_4 rfl (lv_at hl 2 rfl) ?_
  refine lv_iconst (v := nI 1) hx hb d_Desk_join_5 (by decide) ?_
  by_cases hn1 : okP a (nI 1)
  rotate_left
  · skip
    exact q_leave (q_runST (rest := []) E hw0 (t_Desk_needPoints l g n0 s0 hxs _ _ hn1) w_622 w_1 w_620 w_621 hd_Desk_needPoints rfl ⟨by decide, by decide⟩ ⟨ho, hnew⟩ hl.1 rfl (Nat.le_of_ble_eq_true rfl) d_Desk_join_6 ⟨by decide, by decide⟩) hlk hnh hF (fun x H1 h => h) rfl rfl
  have hF : ∀ q ∈ ([] : List Loc), kd_none q.base := fun q hq => absurd hq List.not_mem_nil
  refine q_cS (rest := []) E (c_Desk_needPoints l g kd_none _ _ hn1) w_622 w_1 w_620 w_621 hd_Desk_needPoints rfl ⟨by decide, by decide⟩ trivial hF hl.1 rfl (Nat.le_of_ble_eq_true rfl) d_Desk_join_6 ⟨by decide, by decide⟩ (qv (fun H2 locs hq hF => ?_))
  obtain rfl := hq
  obtain rfl : locs = [] := List.eq_nil_iff_forall_not_mem.mpr (fun q h => hF q h)
  have hF : ∀ q ∈ ([] : List Loc), n0 q.base := fun q hq => absurd hq List.not_mem_nil
  refine lv_iload_n hx hb d_Desk_join_9 rfl (lv_at hl 3 rfl) ?_
  refine lv_iconst (v := nI 1) hx hb d_Desk_join_10 (by decide) ?_
  by_cases hn2 : okP a2 (nI 1)
  rotate_left
  · skip
    exact q_leave (q_runST (rest := []) E hw0 (t_Desk_needPoints l g n0 s0 hxs _ _ hn2) w_622 w_1 w_620 w_621 hd_Desk_needPoints rfl ⟨by decide, by decide⟩ ⟨ho, hnew⟩ hl.1 rfl (Nat.le_of_ble_eq_true rfl) d_Desk_join_11 ⟨by decide, by decide⟩) hlk hnh hF (fun x H1 h => h) rfl rfl
  have hF : ∀ q ∈ ([] : List Loc), kd_none q.base := fun q hq => absurd hq List.not_mem_nil
  refine q_cS (rest := []) E (c_Desk_needPoints l g kd_none _ _ hn2) w_622 w_1 w_620 w_621 hd_Desk_needPoints rfl ⟨by decide, by decide⟩ trivial hF hl.1 rfl (Nat.le_of_ble_eq_true rfl) d_Desk_join_11 ⟨by decide, by decide⟩ (qv (fun H3 locs hq hF => ?_))
  obtain rfl := hq
  obtain rfl : locs = [] := List.eq_nil_iff_forall_not_mem.mpr (fun q h => hF q h)
  have hF : ∀ q ∈ ([] : List Loc), n0 q.base := fun q hq => absurd hq List.not_mem_nil
  refine lv_iload hx hb d_Desk_join_14 (lv_at hl 4 rfl) ?_
  refine lv_iconst (v := nI 1) hx hb d_Desk_join_16 (by decide) ?_
  by_cases hn3 : okP a3 (nI 1)
  rotate_left
  · skip
    exact q_leave (q_runST (rest := []) E hw0 (t_Desk_needPoints l g n0 s0 hxs _ _ hn3) w_622 w_1 w_620 w_621 hd_Desk_needPoints rfl ⟨by decide, by decide⟩ ⟨ho, hnew⟩ hl.1 rfl (Nat.le_of_ble_eq_true rfl) d_Desk_join_17 ⟨by decide, by decide⟩) hlk hnh hF (fun x H1 h => h) rfl rfl
  have hF : ∀ q ∈ ([] : List Loc), kd_none q.base := fun q hq => absurd hq List.not_mem_nil
  refine q_cS (rest := []) E (c_Desk_needPoints l g kd_none _ _ hn3) w_622 w_1 w_620 w_621 hd_Desk_needPoints rfl ⟨by decide, by decide⟩ trivial hF hl.1 rfl (Nat.le_of_ble_eq_true rfl) d_Desk_join_17 ⟨by decide, by decide⟩ (qv (fun H4 locs hq hF => ?_))
  obtain rfl := hq
  obtain rfl : locs = [] := List.eq_nil_iff_forall_not_mem.mpr (fun q h => hF q h)
  have hF : ∀ q ∈ ([] : List Loc), n0 q.base := fun q hq => absurd hq List.not_mem_nil
  exfalso
  rcases hbad with h | h | h | h
  · exact h hn0
  · exact h hn1
  · exact h hn2
  · exact h hn3
set_option maxHeartbeats 4000000 in
set_option maxRecDepth 100000 in
theorem t_Desk_times (l : Launch) (g : WG) (n0 : Nat → Prop) (s0 : State) (hxs : XS l s0) (b : Nat) (a a2 a3 : Int32) (hbad : ¬ okP a (nI 1) ∨ ¬ okS a2 (nI 1) ∨ ¬ okP a3 (nI 1)) : CtrT l y_Desk_times (.code y_Desk_times prog_1_method_13_code 4 none) 7 104 1 6 n0 g s0 [.ref b, .int a, .int a2, .int a3] (fun H => OLD s0 H ∧ n0 H.size) (TQ s0 "java/lang/IllegalArgumentException") := by
  refine ctrT_mk l (lv0 := [(0, .ref b), (1, .int a), (2, .int a2), (3, .int a3)]) (by decide) (Nat.le_of_ble_eq_true rfl) rfl ?_
  intro p e s m below meth c ls E hw0 hlk hnh hl hP
  have hx := E.1
  have hb := E.2.1
  have hK := E.2.2.2.2.2
  have hF : ∀ q ∈ ([] : List Loc), n0 q.base := fun q hq => absurd hq List.not_mem_nil
  obtain ⟨ho, hnew⟩ := hP
  refine lv_iload_n hx hb d_Desk_times_0 rfl (lv_at hl 1 rfl) ?_
  refine lv_iconst (v := nI 1) hx hb d_Desk_times_1 (by decide) ?_
  by_cases hn0 : okP a (nI 1)
  rotate_left
  · skip
    exact q_leave (q_runST (rest := []) E hw0 (t_Desk_needPoints l g n0 s0 hxs _ _ hn0) w_622 w_1 w_620 w_621 hd_Desk_needPoints rfl ⟨by decide, by decide⟩ ⟨ho, hnew⟩ hl.1 rfl (Nat.le_of_ble_eq_true rfl) d_Desk_times_2 ⟨by decide, by decide⟩) hlk hnh hF (fun x H1 h => h) rfl rfl
  have hF : ∀ q ∈ ([] : List Loc), kd_none q.base := fun q hq => absurd hq List.not_mem_nil
  refine q_cS (rest := []) E (c_Desk_needPoints l g kd_none _ _ hn0) w_622 w_1 w_620 w_621 hd_Desk_needPoints rfl ⟨by decide, by decide⟩ trivial hF hl.1 rfl (Nat.le_of_ble_eq_true rfl) d_Desk_times_2 ⟨by decide, by decide⟩ (qv (fun H1 locs hq hF => ?_))
  obtain rfl := hq
  obtain rfl : locs = [] := List.eq_nil_iff_forall_not_mem.mpr (fun q h => hF q h)
  have hF : ∀ q ∈ ([] : List Loc), n0 q.base := fun q hq => absurd hq List.not_mem_nil
  refine lv_iload_n hx hb d_Desk_times_5 rfl (lv_at hl 2 rfl) ?_
  refine lv_iconst (v := nI 1) hx hb d_Desk_times_6 (by decide) ?_
  by_cases hn1 : okS a2 (nI 1)
  rotate_left
  · skip
    exact q_leave (q_runST (rest := []) E hw0 (t_Desk_needScalars l g n0 s0 hxs _ _ hn1) w_494 w_1 w_492 w_493 hd_Desk_needScalars rfl ⟨by decide, by decide⟩ ⟨ho, hnew⟩ hl.1 rfl (Nat.le_of_ble_eq_true rfl) d_Desk_times_7 ⟨by decide, by decide⟩) hlk hnh hF (fun x H1 h => h) rfl rfl
  have hF : ∀ q ∈ ([] : List Loc), kd_none q.base := fun q hq => absurd hq List.not_mem_nil
  refine q_cS (rest := []) E (c_Desk_needScalars l g kd_none _ _ hn1) w_494 w_1 w_492 w_493 hd_Desk_needScalars rfl ⟨by decide, by decide⟩ trivial hF hl.1 rfl (Nat.le_of_ble_eq_true rfl) d_Desk_times_7 ⟨by decide, by decide⟩ (qv (fun H2 locs hq hF => ?_))
  obtain rfl := hq
  obtain rfl : locs = [] := List.eq_nil_iff_forall_not_mem.mpr (fun q h => hF q h)
  have hF : ∀ q ∈ ([] : List Loc), n0 q.base := fun q hq => absurd hq List.not_mem_nil
  refine lv_iload_n hx hb d_Desk_times_10 rfl (lv_at hl 3 rfl) ?_
  refine lv_iconst (v := nI 1) hx hb d_Desk_times_11 (by decide) ?_
  by_cases hn2 : okP a3 (nI 1)
  rotate_left
  · skip
    exact q_leave (q_runST (rest := []) E hw0 (t_Desk_needPoints l g n0 s0 hxs _ _ hn2) w_622 w_1 w_620 w_621 hd_Desk_needPoints rfl ⟨by decide, by decide⟩ ⟨ho, hnew⟩ hl.1 rfl (Nat.le_of_ble_eq_true rfl) d_Desk_times_12 ⟨by decide, by decide⟩) hlk hnh hF (fun x H1 h => h) rfl rfl
  have hF : ∀ q ∈ ([] : List Loc), kd_none q.base := fun q hq => absurd hq List.not_mem_nil
  refine q_cS (rest := []) E (c_Desk_needPoints l g kd_none _ _ hn2) w_622 w_1 w_620 w_621 hd_Desk_needPoints rfl ⟨by decide, by decide⟩ trivial hF hl.1 rfl (Nat.le_of_ble_eq_true rfl) d_Desk_times_12 ⟨by decide, by decide⟩ (qv (fun H3 locs hq hF => ?_))
  obtain rfl := hq
  obtain rfl : locs = [] := List.eq_nil_iff_forall_not_mem.mpr (fun q h => hF q h)
  have hF : ∀ q ∈ ([] : List Loc), n0 q.base := fun q hq => absurd hq List.not_mem_nil
  exfalso
  rcases hbad with h | h | h
  · exact h hn0
  · exact h hn1
  · exact h hn2
set_option maxHeartbeats 4000000 in
set_option maxRecDepth 100000 in
theorem t_Desk_combine (l : Launch) (g : WG) (n0 : Nat → Prop) (s0 : State) (hxs : XS l s0) (b : Nat) (a a2 a3 n : Int32) (hbad : ¬ okP a (nI 1) ∨ ¬ okC n (nI 0) (nI 12) ∨ ¬ okS a2 n ∨ ¬ okP a3 n) : CtrT l y_Desk_combine (.code y_Desk_combine prog_1_method_14_code 6 none) 7 104 1 6 n0 g s0 [.ref b, .int a, .int a2, .int a3, .int n] (fun H => OLD s0 H ∧ n0 H.size) (TQ s0 "java/lang/IllegalArgumentException") := by
  refine ctrT_mk l (lv0 := [(0, .ref b), (1, .int a), (2, .int a2), (3, .int a3), (4, .int n)]) (by decide) (Nat.le_of_ble_eq_true rfl) rfl ?_
  intro p e s m below meth c ls E hw0 hlk hnh hl hP
  have hx := E.1
  have hb := E.2.1
  have hK := E.2.2.2.2.2
  have hF : ∀ q ∈ ([] : List Loc), n0 q.base := fun q hq => absurd hq List.not_mem_nil
  obtain ⟨ho, hnew⟩ := hP
  refine lv_iload_n hx hb d_Desk_combine_0 rfl (lv_at hl 1 rfl) ?_
  refine lv_iconst (v := nI 1) hx hb d_Desk_combine_1 (by decide) ?_
  by_cases hn0 : okP a (nI 1)
  rotate_left
  · skip
    exact q_leave (q_runST (rest := []) E hw0 (t_Desk_needPoints l g n0 s0 hxs _ _ hn0) w_622 w_1 w_620 w_621 hd_Desk_needPoints rfl ⟨by decide, by decide⟩ ⟨ho, hnew⟩ hl.1 rfl (Nat.le_of_ble_eq_true rfl) d_Desk_combine_2 ⟨by decide, by decide⟩) hlk hnh hF (fun x H1 h => h) rfl rfl
  have hF : ∀ q ∈ ([] : List Loc), kd_none q.base := fun q hq => absurd hq List.not_mem_nil
  refine q_cS (rest := []) E (c_Desk_needPoints l g kd_none _ _ hn0) w_622 w_1 w_620 w_621 hd_Desk_needPoints rfl ⟨by decide, by decide⟩ trivial hF hl.1 rfl (Nat.le_of_ble_eq_true rfl) d_Desk_combine_2 ⟨by decide, by decide⟩ (qv (fun H1 locs hq hF => ?_))
  obtain rfl := hq
  obtain rfl : locs = [] := List.eq_nil_iff_forall_not_mem.mpr (fun q h => hF q h)
  have hF : ∀ q ∈ ([] : List Loc), n0 q.base := fun q hq => absurd hq List.not_mem_nil
  refine lv_iload hx hb d_Desk_combine_5 (lv_at hl 4 rfl) ?_
  refine lv_iconst (v := nI 0) hx hb d_Desk_combine_7 (by decide) ?_
  refine lv_bipush (v := nI 12) hx hb d_Desk_combine_8 (by decide) ?_
  by_cases hn1 : okC n (nI 0) (nI 12)
  rotate_left
  · skip
    exact q_leave (q_runST (rest := []) E hw0 (t_Desk_needCount l g n0 s0 hxs _ _ _ hn1) w_798 w_1 w_796 w_797 hd_Desk_needCount rfl ⟨by decide, by decide⟩ ⟨ho, hnew⟩ hl.1 rfl (Nat.le_of_ble_eq_true rfl) d_Desk_combine_10 ⟨by decide, by decide⟩) hlk hnh hF (fun x H1 h => h) rfl rfl
  have hF : ∀ q ∈ ([] : List Loc), kd_none q.base := fun q hq => absurd hq List.not_mem_nil
  refine q_cS (rest := []) E (c_Desk_needCount l g kd_none _ _ _ hn1) w_798 w_1 w_796 w_797 hd_Desk_needCount rfl ⟨by decide, by decide⟩ trivial hF hl.1 rfl (Nat.le_of_ble_eq_true rfl) d_Desk_combine_10 ⟨by decide, by decide⟩ (qv (fun H2 locs hq hF => ?_))
  obtain rfl := hq
  obtain rfl : locs = [] := List.eq_nil_iff_forall_not_mem.mpr (fun q h => hF q h)
  have hF : ∀ q ∈ ([] : List Loc), n0 q.base := fun q hq => absurd hq List.not_mem_nil
  refine lv_iload_n hx hb d_Desk_combine_13 rfl (lv_at hl 2 rfl) ?_
  refine lv_iload hx hb d_Desk_combine_14 (lv_at hl 4 rfl) ?_
  by_cases hn2 : okS a2 n
  rotate_left
  · skip
    exact q_leave (q_runST (rest := []) E hw0 (t_Desk_needScalars l g n0 s0 hxs _ _ hn2) w_494 w_1 w_492 w_493 hd_Desk_needScalars rfl ⟨by decide, by decide⟩ ⟨ho, hnew⟩ hl.1 rfl (Nat.le_of_ble_eq_true rfl) d_Desk_combine_16 ⟨by decide, by decide⟩) hlk hnh hF (fun x H1 h => h) rfl rfl
  have hF : ∀ q ∈ ([] : List Loc), kd_none q.base := fun q hq => absurd hq List.not_mem_nil
  refine q_cS (rest := []) E (c_Desk_needScalars l g kd_none _ _ hn2) w_494 w_1 w_492 w_493 hd_Desk_needScalars rfl ⟨by decide, by decide⟩ trivial hF hl.1 rfl (Nat.le_of_ble_eq_true rfl) d_Desk_combine_16 ⟨by decide, by decide⟩ (qv (fun H3 locs hq hF => ?_))
  obtain rfl := hq
  obtain rfl : locs = [] := List.eq_nil_iff_forall_not_mem.mpr (fun q h => hF q h)
  have hF : ∀ q ∈ ([] : List Loc), n0 q.base := fun q hq => absurd hq List.not_mem_nil
  refine lv_iload_n hx hb d_Desk_combine_19 rfl (lv_at hl 3 rfl) ?_
  refine lv_iload hx hb d_Desk_combine_20 (lv_at hl 4 rfl) ?_
  by_cases hn3 : okP a3 n
  rotate_left
  · skip
    exact q_leave (q_runST (rest := []) E hw0 (t_Desk_needPoints l g n0 s0 hxs _ _ hn3) w_622 w_1 w_620 w_621 hd_Desk_needPoints rfl ⟨by decide, by decide⟩ ⟨ho, hnew⟩ hl.1 rfl (Nat.le_of_ble_eq_true rfl) d_Desk_combine_22 ⟨by decide, by decide⟩) hlk hnh hF (fun x H1 h => h) rfl rfl
  have hF : ∀ q ∈ ([] : List Loc), kd_none q.base := fun q hq => absurd hq List.not_mem_nil
  refine q_cS (rest := []) E (c_Desk_needPoints l g kd_none _ _ hn3) w_622 w_1 w_620 w_621 hd_Desk_needPoints rfl ⟨by decide, by decide⟩ trivial hF hl.1 rfl (Nat.le_of_ble_eq_true rfl) d_Desk_combine_22 ⟨by decide, by decide⟩ (qv (fun H4 locs hq hF => ?_))
  obtain rfl := hq
  obtain rfl : locs = [] := List.eq_nil_iff_forall_not_mem.mpr (fun q h => hF q h)
  have hF : ∀ q ∈ ([] : List Loc), n0 q.base := fun q hq => absurd hq List.not_mem_nil
  exfalso
  rcases hbad with h | h | h | h
  · exact h hn0
  · exact h hn1
  · exact h hn2
  · exact h hn3
set_option maxHeartbeats 4000000 in
set_option maxRecDepth 100000 in
theorem t_Desk_same (l : Launch) (g : WG) (n0 : Nat → Prop) (s0 : State) (hxs : XS l s0) (b : Nat) (a a2 : Int32) (hbad : ¬ okP a (nI 1) ∨ ¬ okP a2 (nI 1)) : CtrT l y_Desk_same (.code y_Desk_same prog_1_method_15_code 3 (some FieldType.boolean)) 7 104 1 6 n0 g s0 [.ref b, .int a, .int a2] (fun H => OLD s0 H ∧ n0 H.size) (TQ s0 "java/lang/IllegalArgumentException") := by
  refine ctrT_mk l (lv0 := [(0, .ref b), (1, .int a), (2, .int a2)]) (by decide) (Nat.le_of_ble_eq_true rfl) rfl ?_
  intro p e s m below meth c ls E hw0 hlk hnh hl hP
  have hx := E.1
  have hb := E.2.1
  have hK := E.2.2.2.2.2
  have hF : ∀ q ∈ ([] : List Loc), n0 q.base := fun q hq => absurd hq List.not_mem_nil
  obtain ⟨ho, hnew⟩ := hP
  refine lv_iload_n hx hb d_Desk_same_0 rfl (lv_at hl 1 rfl) ?_
  refine lv_iconst (v := nI 1) hx hb d_Desk_same_1 (by decide) ?_
  by_cases hn0 : okP a (nI 1)
  rotate_left
  · skip
    exact q_leave (q_runST (rest := []) E hw0 (t_Desk_needPoints l g n0 s0 hxs _ _ hn0) w_622 w_1 w_620 w_621 hd_Desk_needPoints rfl ⟨by decide, by decide⟩ ⟨ho, hnew⟩ hl.1 rfl (Nat.le_of_ble_eq_true rfl) d_Desk_same_2 ⟨by decide, by decide⟩) hlk hnh hF (fun x H1 h => h) rfl rfl
  have hF : ∀ q ∈ ([] : List Loc), kd_none q.base := fun q hq => absurd hq List.not_mem_nil
  refine q_cS (rest := []) E (c_Desk_needPoints l g kd_none _ _ hn0) w_622 w_1 w_620 w_621 hd_Desk_needPoints rfl ⟨by decide, by decide⟩ trivial hF hl.1 rfl (Nat.le_of_ble_eq_true rfl) d_Desk_same_2 ⟨by decide, by decide⟩ (qv (fun H1 locs hq hF => ?_))
  obtain rfl := hq
  obtain rfl : locs = [] := List.eq_nil_iff_forall_not_mem.mpr (fun q h => hF q h)
  have hF : ∀ q ∈ ([] : List Loc), n0 q.base := fun q hq => absurd hq List.not_mem_nil
  refine lv_iload_n hx hb d_Desk_same_5 rfl (lv_at hl 2 rfl) ?_
  refine lv_iconst (v := nI 1) hx hb d_Desk_same_6 (by decide) ?_
  by_cases hn1 : okP a2 (nI 1)
  rotate_left
  · skip
    exact q_leave (q_runST (rest := []) E hw0 (t_Desk_needPoints l g n0 s0 hxs _ _ hn1) w_622 w_1 w_620 w_621 hd_Desk_needPoints rfl ⟨by decide, by decide⟩ ⟨ho, hnew⟩ hl.1 rfl (Nat.le_of_ble_eq_true rfl) d_Desk_same_7 ⟨by decide, by decide⟩) hlk hnh hF (fun x H1 h => h) rfl rfl
  have hF : ∀ q ∈ ([] : List Loc), kd_none q.base := fun q hq => absurd hq List.not_mem_nil
  refine q_cS (rest := []) E (c_Desk_needPoints l g kd_none _ _ hn1) w_622 w_1 w_620 w_621 hd_Desk_needPoints rfl ⟨by decide, by decide⟩ trivial hF hl.1 rfl (Nat.le_of_ble_eq_true rfl) d_Desk_same_7 ⟨by decide, by decide⟩ (qv (fun H2 locs hq hF => ?_))
  obtain rfl := hq
  obtain rfl : locs = [] := List.eq_nil_iff_forall_not_mem.mpr (fun q h => hF q h)
  have hF : ∀ q ∈ ([] : List Loc), n0 q.base := fun q hq => absurd hq List.not_mem_nil
  exfalso
  rcases hbad with h | h
  · exact h hn0
  · exact h hn1
set_option maxHeartbeats 4000000 in
set_option maxRecDepth 100000 in
theorem t_Desk_setup (l : Launch) (g : WG) (n0 : Nat → Prop) (s0 : State) (hxs : XS l s0) (b : Nat) (a n : Int32) (hbad : ¬ okS a (nI 1) ∨ ¬ okC n (nI 1) (nI 16)) : CtrT l y_Desk_setup (.code y_Desk_setup prog_1_method_16_code 4 none) 7 104 1 6 n0 g s0 [.ref b, .int a, .int n] (fun H => OLD s0 H ∧ n0 H.size) (TQ s0 "java/lang/IllegalArgumentException") := by
  refine ctrT_mk l (lv0 := [(0, .ref b), (1, .int a), (2, .int n)]) (by decide) (Nat.le_of_ble_eq_true rfl) rfl ?_
  intro p e s m below meth c ls E hw0 hlk hnh hl hP
  have hx := E.1
  have hb := E.2.1
  have hK := E.2.2.2.2.2
  have hF : ∀ q ∈ ([] : List Loc), n0 q.base := fun q hq => absurd hq List.not_mem_nil
  obtain ⟨ho, hnew⟩ := hP
  refine lv_iload_n hx hb d_Desk_setup_0 rfl (lv_at hl 1 rfl) ?_
  refine lv_iconst (v := nI 1) hx hb d_Desk_setup_1 (by decide) ?_
  by_cases hn0 : okS a (nI 1)
  rotate_left
  · skip
    exact q_leave (q_runST (rest := []) E hw0 (t_Desk_needScalars l g n0 s0 hxs _ _ hn0) w_494 w_1 w_492 w_493 hd_Desk_needScalars rfl ⟨by decide, by decide⟩ ⟨ho, hnew⟩ hl.1 rfl (Nat.le_of_ble_eq_true rfl) d_Desk_setup_2 ⟨by decide, by decide⟩) hlk hnh hF (fun x H1 h => h) rfl rfl
  have hF : ∀ q ∈ ([] : List Loc), kd_none q.base := fun q hq => absurd hq List.not_mem_nil
  refine q_cS (rest := []) E (c_Desk_needScalars l g kd_none _ _ hn0) w_494 w_1 w_492 w_493 hd_Desk_needScalars rfl ⟨by decide, by decide⟩ trivial hF hl.1 rfl (Nat.le_of_ble_eq_true rfl) d_Desk_setup_2 ⟨by decide, by decide⟩ (qv (fun H1 locs hq hF => ?_))
  obtain rfl := hq
  obtain rfl : locs = [] := List.eq_nil_iff_forall_not_mem.mpr (fun q h => hF q h)
  have hF : ∀ q ∈ ([] : List Loc), n0 q.base := fun q hq => absurd hq List.not_mem_nil
  refine lv_iload_n hx hb d_Desk_setup_5 rfl (lv_at hl 2 rfl) ?_
  refine lv_iconst (v := nI 1) hx hb d_Desk_setup_6 (by decide) ?_
  refine lv_bipush (v := nI 16) hx hb d_Desk_setup_7 (by decide) ?_
  by_cases hn1 : okC n (nI 1) (nI 16)
  rotate_left
  · skip
    exact q_leave (q_runST (rest := []) E hw0 (t_Desk_needCount l g n0 s0 hxs _ _ _ hn1) w_798 w_1 w_796 w_797 hd_Desk_needCount rfl ⟨by decide, by decide⟩ ⟨ho, hnew⟩ hl.1 rfl (Nat.le_of_ble_eq_true rfl) d_Desk_setup_9 ⟨by decide, by decide⟩) hlk hnh hF (fun x H1 h => h) rfl rfl
  have hF : ∀ q ∈ ([] : List Loc), kd_none q.base := fun q hq => absurd hq List.not_mem_nil
  refine q_cS (rest := []) E (c_Desk_needCount l g kd_none _ _ _ hn1) w_798 w_1 w_796 w_797 hd_Desk_needCount rfl ⟨by decide, by decide⟩ trivial hF hl.1 rfl (Nat.le_of_ble_eq_true rfl) d_Desk_setup_9 ⟨by decide, by decide⟩ (qv (fun H2 locs hq hF => ?_))
  obtain rfl := hq
  obtain rfl : locs = [] := List.eq_nil_iff_forall_not_mem.mpr (fun q h => hF q h)
  have hF : ∀ q ∈ ([] : List Loc), n0 q.base := fun q hq => absurd hq List.not_mem_nil
  exfalso
  rcases hbad with h | h
  · exact h hn0
  · exact h hn1
set_option maxHeartbeats 4000000 in
set_option maxRecDepth 100000 in
theorem t_Desk_commit (l : Launch) (g : WG) (n0 : Nat → Prop) (s0 : State) (hxs : XS l s0) (b : Nat) (a a2 n : Int32) (hbad : ¬ okP a (nI 1) ∨ ¬ okC n (nI 0) (nI 16) ∨ ¬ okS a2 n) : CtrT l y_Desk_commit (.code y_Desk_commit prog_1_method_17_code 5 none) 7 104 1 6 n0 g s0 [.ref b, .int a, .int a2, .int n] (fun H => OLD s0 H ∧ n0 H.size) (TQ s0 "java/lang/IllegalArgumentException") := by
  refine ctrT_mk l (lv0 := [(0, .ref b), (1, .int a), (2, .int a2), (3, .int n)]) (by decide) (Nat.le_of_ble_eq_true rfl) rfl ?_
  intro p e s m below meth c ls E hw0 hlk hnh hl hP
  have hx := E.1
  have hb := E.2.1
  have hK := E.2.2.2.2.2
  have hF : ∀ q ∈ ([] : List Loc), n0 q.base := fun q hq => absurd hq List.not_mem_nil
  obtain ⟨ho, hnew⟩ := hP
  refine lv_iload_n hx hb d_Desk_commit_0 rfl (lv_at hl 1 rfl) ?_
  refine lv_iconst (v := nI 1) hx hb d_Desk_commit_1 (by decide) ?_
  by_cases hn0 : okP a (nI 1)
  rotate_left
  · skip
    exact q_leave (q_runST (rest := []) E hw0 (t_Desk_needPoints l g n0 s0 hxs _ _ hn0) w_622 w_1 w_620 w_621 hd_Desk_needPoints rfl ⟨by decide, by decide⟩ ⟨ho, hnew⟩ hl.1 rfl (Nat.le_of_ble_eq_true rfl) d_Desk_commit_2 ⟨by decide, by decide⟩) hlk hnh hF (fun x H1 h => h) rfl rfl
  have hF : ∀ q ∈ ([] : List Loc), kd_none q.base := fun q hq => absurd hq List.not_mem_nil
  refine q_cS (rest := []) E (c_Desk_needPoints l g kd_none _ _ hn0) w_622 w_1 w_620 w_621 hd_Desk_needPoints rfl ⟨by decide, by decide⟩ trivial hF hl.1 rfl (Nat.le_of_ble_eq_true rfl) d_Desk_commit_2 ⟨by decide, by decide⟩ (qv (fun H1 locs hq hF => ?_))
  obtain rfl := hq
  obtain rfl : locs = [] := List.eq_nil_iff_forall_not_mem.mpr (fun q h => hF q h)
  have hF : ∀ q ∈ ([] : List Loc), n0 q.base := fun q hq => absurd hq List.not_mem_nil
  refine lv_iload_n hx hb d_Desk_commit_5 rfl (lv_at hl 3 rfl) ?_
  refine lv_iconst (v := nI 0) hx hb d_Desk_commit_6 (by decide) ?_
  refine lv_bipush (v := nI 16) hx hb d_Desk_commit_7 (by decide) ?_
  by_cases hn1 : okC n (nI 0) (nI 16)
  rotate_left
  · skip
    exact q_leave (q_runST (rest := []) E hw0 (t_Desk_needCount l g n0 s0 hxs _ _ _ hn1) w_798 w_1 w_796 w_797 hd_Desk_needCount rfl ⟨by decide, by decide⟩ ⟨ho, hnew⟩ hl.1 rfl (Nat.le_of_ble_eq_true rfl) d_Desk_commit_9 ⟨by decide, by decide⟩) hlk hnh hF (fun x H1 h => h) rfl rfl
  have hF : ∀ q ∈ ([] : List Loc), kd_none q.base := fun q hq => absurd hq List.not_mem_nil
  refine q_cS (rest := []) E (c_Desk_needCount l g kd_none _ _ _ hn1) w_798 w_1 w_796 w_797 hd_Desk_needCount rfl ⟨by decide, by decide⟩ trivial hF hl.1 rfl (Nat.le_of_ble_eq_true rfl) d_Desk_commit_9 ⟨by decide, by decide⟩ (qv (fun H2 locs hq hF => ?_))
  obtain rfl := hq
  obtain rfl : locs = [] := List.eq_nil_iff_forall_not_mem.mpr (fun q h => hF q h)
  have hF : ∀ q ∈ ([] : List Loc), n0 q.base := fun q hq => absurd hq List.not_mem_nil
  refine lv_iload_n hx hb d_Desk_commit_12 rfl (lv_at hl 2 rfl) ?_
  refine lv_iload_n hx hb d_Desk_commit_13 rfl (lv_at hl 3 rfl) ?_
  by_cases hn2 : okS a2 n
  rotate_left
  · skip
    exact q_leave (q_runST (rest := []) E hw0 (t_Desk_needScalars l g n0 s0 hxs _ _ hn2) w_494 w_1 w_492 w_493 hd_Desk_needScalars rfl ⟨by decide, by decide⟩ ⟨ho, hnew⟩ hl.1 rfl (Nat.le_of_ble_eq_true rfl) d_Desk_commit_14 ⟨by decide, by decide⟩) hlk hnh hF (fun x H1 h => h) rfl rfl
  have hF : ∀ q ∈ ([] : List Loc), kd_none q.base := fun q hq => absurd hq List.not_mem_nil
  refine q_cS (rest := []) E (c_Desk_needScalars l g kd_none _ _ hn2) w_494 w_1 w_492 w_493 hd_Desk_needScalars rfl ⟨by decide, by decide⟩ trivial hF hl.1 rfl (Nat.le_of_ble_eq_true rfl) d_Desk_commit_14 ⟨by decide, by decide⟩ (qv (fun H3 locs hq hF => ?_))
  obtain rfl := hq
  obtain rfl : locs = [] := List.eq_nil_iff_forall_not_mem.mpr (fun q h => hF q h)
  have hF : ∀ q ∈ ([] : List Loc), n0 q.base := fun q hq => absurd hq List.not_mem_nil
  exfalso
  rcases hbad with h | h | h
  · exact h hn0
  · exact h hn1
  · exact h hn2
set_option maxHeartbeats 4000000 in
set_option maxRecDepth 100000 in
theorem t_Desk_commitS (l : Launch) (g : WG) (n0 : Nat → Prop) (s0 : State) (hxs : XS l s0) (b : Nat) (a a2 n : Int32) (mr mq : Int64) (hp : okP a (nI 1)) (hc : okC n (nI 0) (nI 16)) (hs : okS a2 n) (hn : ¬ n ≤ 0) : CtrT l y_Desk_commit (.code y_Desk_commit prog_1_method_17_code 5 none) 7 104 1 6 n0 g s0 [.ref b, .int a, .int a2, .int n] (fun H => OLD s0 H ∧ n0 H.size ∧ DK g n0 H b 0 0 0 mr mq) (TQ s0 "java/lang/IllegalStateException") := by
  refine ctrT_mk l (lv0 := [(0, .ref b), (1, .int a), (2, .int a2), (3, .int n)]) (by decide) (Nat.le_of_ble_eq_true rfl) rfl ?_
  intro p e s m below meth c ls E hw0 hlk hnh hl hP
  have hx := E.1
  have hb := E.2.1
  have hK := E.2.2.2.2.2
  have hF : ∀ q ∈ ([] : List Loc), n0 q.base := fun q hq => absurd hq List.not_mem_nil
  obtain ⟨ho, hnew, hpre⟩ := hP
  have hdk := hpre
  refine lv_iload_n hx hb d_Desk_commit_0 rfl (lv_at hl 1 rfl) ?_
  refine lv_iconst (v := nI 1) hx hb d_Desk_commit_1 (by decide) ?_
  have hF : ∀ q ∈ ([] : List Loc), kd_none q.base := fun q hq => absurd hq List.not_mem_nil
  refine q_cS (rest := []) E (c_Desk_needPoints l g kd_none _ _ hp) w_622 w_1 w_620 w_621 hd_Desk_needPoints rfl ⟨by decide, by decide⟩ trivial hF hl.1 rfl (Nat.le_of_ble_eq_true rfl) d_Desk_commit_2 ⟨by decide, by decide⟩ (qv (fun H1 locs hq hF => ?_))
  obtain rfl := hq
  obtain rfl : locs = [] := List.eq_nil_iff_forall_not_mem.mpr (fun q h => hF q h)
  have hF : ∀ q ∈ ([] : List Loc), n0 q.base := fun q hq => absurd hq List.not_mem_nil
  refine lv_iload_n hx hb d_Desk_commit_5 rfl (lv_at hl 3 rfl) ?_
  refine lv_iconst (v := nI 0) hx hb d_Desk_commit_6 (by decide) ?_
  refine lv_bipush (v := nI 16) hx hb d_Desk_commit_7 (by decide) ?_
  have hF : ∀ q ∈ ([] : List Loc), kd_none q.base := fun q hq => absurd hq List.not_mem_nil
  refine q_cS (rest := []) E (c_Desk_needCount l g kd_none _ _ _ hc) w_798 w_1 w_796 w_797 hd_Desk_needCount rfl ⟨by decide, by decide⟩ trivial hF hl.1 rfl (Nat.le_of_ble_eq_true rfl) d_Desk_commit_9 ⟨by decide, by decide⟩ (qv (fun H2 locs hq hF => ?_))
  obtain rfl := hq
  obtain rfl : locs = [] := List.eq_nil_iff_forall_not_mem.mpr (fun q h => hF q h)
  have hF : ∀ q ∈ ([] : List Loc), n0 q.base := fun q hq => absurd hq List.not_mem_nil
  refine lv_iload_n hx hb d_Desk_commit_12 rfl (lv_at hl 2 rfl) ?_
  refine lv_iload_n hx hb d_Desk_commit_13 rfl (lv_at hl 3 rfl) ?_
  have hF : ∀ q ∈ ([] : List Loc), kd_none q.base := fun q hq => absurd hq List.not_mem_nil
  refine q_cS (rest := []) E (c_Desk_needScalars l g kd_none _ _ hs) w_494 w_1 w_492 w_493 hd_Desk_needScalars rfl ⟨by decide, by decide⟩ trivial hF hl.1 rfl (Nat.le_of_ble_eq_true rfl) d_Desk_commit_14 ⟨by decide, by decide⟩ (qv (fun H3 locs hq hF => ?_))
  obtain rfl := hq
  obtain rfl : locs = [] := List.eq_nil_iff_forall_not_mem.mpr (fun q h => hF q h)
  have hF : ∀ q ∈ ([] : List Loc), n0 q.base := fun q hq => absurd hq List.not_mem_nil
  refine lv_aload_n hx hb d_Desk_commit_17 rfl (lv_at hl 0 rfl) ?_
  refine q_get (C := "KateDesk") (T := T_Desk) (N := 16) (ci := 5) E hdk.ob in_Desk rfl 8 (by decide) w_347 rfl rfl d_Desk_commit_18 ?_
  refine lv_iload_n hx hb d_Desk_commit_21 rfl (lv_at hl 3 rfl) ?_
  refine lv_icmp_ge (tgt := 36) hx hb d_Desk_commit_22 (by decide) (fun h9 => absurd h9 (hn)) (fun _ => ?_)
  exact q_throwW (k := 262) (tx := "there are fewer powers") E hxs hw0 ho hlk hnh hnew (kd_xc_ise E.2.2.2.2.1 (kd_XL.at hxs.2.1 hw0 ho)) w_465 w_466 w_20 w_475 (by simp [kd_MSG]) hl.1 d_Desk_commit_25 d_Desk_commit_28 d_Desk_commit_29 d_Desk_commit_32 d_Desk_commit_35 (by decide) (by decide) (by decide) (by decide)
set_option maxHeartbeats 4000000 in
set_option maxRecDepth 100000 in
theorem t_Desk_open (l : Launch) (g : WG) (n0 : Nat → Prop) (s0 : State) (hxs : XS l s0) (b : Nat) (a n z y : Int32) (hbad : ¬ okC n (nI 1) (nI 16) ∨ ¬ okS a n ∨ ¬ okS z (nI 1) ∨ ¬ okS y (nI 1)) : CtrT l y_Desk_open (.code y_Desk_open prog_1_method_18_code 5 none) 7 104 1 6 n0 g s0 [.ref b, .int a, .int n, .int z, .int y] (fun H => OLD s0 H ∧ n0 H.size) (TQ s0 "java/lang/IllegalArgumentException") := by
  refine ctrT_mk l (lv0 := [(0, .ref b), (1, .int a), (2, .int n), (3, .int z), (4, .int y)]) (by decide) (Nat.le_of_ble_eq_true rfl) rfl ?_
  intro p e s m below meth c ls E hw0 hlk hnh hl hP
  have hx := E.1
  have hb := E.2.1
  have hK := E.2.2.2.2.2
  have hF : ∀ q ∈ ([] : List Loc), n0 q.base := fun q hq => absurd hq List.not_mem_nil
  obtain ⟨ho, hnew⟩ := hP
  refine lv_iload_n hx hb d_Desk_open_0 rfl (lv_at hl 2 rfl) ?_
  refine lv_iconst (v := nI 1) hx hb d_Desk_open_1 (by decide) ?_
  refine lv_bipush (v := nI 16) hx hb d_Desk_open_2 (by decide) ?_
  by_cases hn0 : okC n (nI 1) (nI 16)
  rotate_left
  · skip
    exact q_leave (q_runST (rest := []) E hw0 (t_Desk_needCount l g n0 s0 hxs _ _ _ hn0) w_798 w_1 w_796 w_797 hd_Desk_needCount rfl ⟨by decide, by decide⟩ ⟨ho, hnew⟩ hl.1 rfl (Nat.le_of_ble_eq_true rfl) d_Desk_open_4 ⟨by decide, by decide⟩) hlk hnh hF (fun x H1 h => h) rfl rfl
  have hF : ∀ q ∈ ([] : List Loc), kd_none q.base := fun q hq => absurd hq List.not_mem_nil
  refine q_cS (rest := []) E (c_Desk_needCount l g kd_none _ _ _ hn0) w_798 w_1 w_796 w_797 hd_Desk_needCount rfl ⟨by decide, by decide⟩ trivial hF hl.1 rfl (Nat.le_of_ble_eq_true rfl) d_Desk_open_4 ⟨by decide, by decide⟩ (qv (fun H1 locs hq hF => ?_))
  obtain rfl := hq
  obtain rfl : locs = [] := List.eq_nil_iff_forall_not_mem.mpr (fun q h => hF q h)
  have hF : ∀ q ∈ ([] : List Loc), n0 q.base := fun q hq => absurd hq List.not_mem_nil
  refine lv_iload_n hx hb d_Desk_open_7 rfl (lv_at hl 1 rfl) ?_
  refine lv_iload_n hx hb d_Desk_open_8 rfl (lv_at hl 2 rfl) ?_
  by_cases hn1 : okS a n
  rotate_left
  · skip
    exact q_leave (q_runST (rest := []) E hw0 (t_Desk_needScalars l g n0 s0 hxs _ _ hn1) w_494 w_1 w_492 w_493 hd_Desk_needScalars rfl ⟨by decide, by decide⟩ ⟨ho, hnew⟩ hl.1 rfl (Nat.le_of_ble_eq_true rfl) d_Desk_open_9 ⟨by decide, by decide⟩) hlk hnh hF (fun x H1 h => h) rfl rfl
  have hF : ∀ q ∈ ([] : List Loc), kd_none q.base := fun q hq => absurd hq List.not_mem_nil
  refine q_cS (rest := []) E (c_Desk_needScalars l g kd_none _ _ hn1) w_494 w_1 w_492 w_493 hd_Desk_needScalars rfl ⟨by decide, by decide⟩ trivial hF hl.1 rfl (Nat.le_of_ble_eq_true rfl) d_Desk_open_9 ⟨by decide, by decide⟩ (qv (fun H2 locs hq hF => ?_))
  obtain rfl := hq
  obtain rfl : locs = [] := List.eq_nil_iff_forall_not_mem.mpr (fun q h => hF q h)
  have hF : ∀ q ∈ ([] : List Loc), n0 q.base := fun q hq => absurd hq List.not_mem_nil
  refine lv_iload_n hx hb d_Desk_open_12 rfl (lv_at hl 3 rfl) ?_
  refine lv_iconst (v := nI 1) hx hb d_Desk_open_13 (by decide) ?_
  by_cases hn2 : okS z (nI 1)
  rotate_left
  · skip
    exact q_leave (q_runST (rest := []) E hw0 (t_Desk_needScalars l g n0 s0 hxs _ _ hn2) w_494 w_1 w_492 w_493 hd_Desk_needScalars rfl ⟨by decide, by decide⟩ ⟨ho, hnew⟩ hl.1 rfl (Nat.le_of_ble_eq_true rfl) d_Desk_open_14 ⟨by decide, by decide⟩) hlk hnh hF (fun x H1 h => h) rfl rfl
  have hF : ∀ q ∈ ([] : List Loc), kd_none q.base := fun q hq => absurd hq List.not_mem_nil
  refine q_cS (rest := []) E (c_Desk_needScalars l g kd_none _ _ hn2) w_494 w_1 w_492 w_493 hd_Desk_needScalars rfl ⟨by decide, by decide⟩ trivial hF hl.1 rfl (Nat.le_of_ble_eq_true rfl) d_Desk_open_14 ⟨by decide, by decide⟩ (qv (fun H3 locs hq hF => ?_))
  obtain rfl := hq
  obtain rfl : locs = [] := List.eq_nil_iff_forall_not_mem.mpr (fun q h => hF q h)
  have hF : ∀ q ∈ ([] : List Loc), n0 q.base := fun q hq => absurd hq List.not_mem_nil
  refine lv_iload hx hb d_Desk_open_17 (lv_at hl 4 rfl) ?_
  refine lv_iconst (v := nI 1) hx hb d_Desk_open_19 (by decide) ?_
  by_cases hn3 : okS y (nI 1)
  rotate_left
  · skip
    exact q_leave (q_runST (rest := []) E hw0 (t_Desk_needScalars l g n0 s0 hxs _ _ hn3) w_494 w_1 w_492 w_493 hd_Desk_needScalars rfl ⟨by decide, by decide⟩ ⟨ho, hnew⟩ hl.1 rfl (Nat.le_of_ble_eq_true rfl) d_Desk_open_20 ⟨by decide, by decide⟩) hlk hnh hF (fun x H1 h => h) rfl rfl
  have hF : ∀ q ∈ ([] : List Loc), kd_none q.base := fun q hq => absurd hq List.not_mem_nil
  refine q_cS (rest := []) E (c_Desk_needScalars l g kd_none _ _ hn3) w_494 w_1 w_492 w_493 hd_Desk_needScalars rfl ⟨by decide, by decide⟩ trivial hF hl.1 rfl (Nat.le_of_ble_eq_true rfl) d_Desk_open_20 ⟨by decide, by decide⟩ (qv (fun H4 locs hq hF => ?_))
  obtain rfl := hq
  obtain rfl : locs = [] := List.eq_nil_iff_forall_not_mem.mpr (fun q h => hF q h)
  have hF : ∀ q ∈ ([] : List Loc), n0 q.base := fun q hq => absurd hq List.not_mem_nil
  exfalso
  rcases hbad with h | h | h | h
  · exact h hn0
  · exact h hn1
  · exact h hn2
  · exact h hn3
set_option maxHeartbeats 4000000 in
set_option maxRecDepth 100000 in
theorem t_Desk_checks (l : Launch) (g : WG) (n0 : Nat → Prop) (s0 : State) (hxs : XS l s0) (b : Nat) (p0 q0 z y t : Int32) (hbad : ¬ okP p0 (nI 1) ∨ ¬ okP q0 (nI 1) ∨ ¬ okS z (nI 1) ∨ ¬ okS y (nI 1) ∨ ¬ okS t (nI 1)) : CtrT l y_Desk_checks (.code y_Desk_checks prog_1_method_19_code 6 (some FieldType.boolean)) 7 104 1 6 n0 g s0 [.ref b, .int p0, .int q0, .int z, .int y, .int t] (fun H => OLD s0 H ∧ n0 H.size) (TQ s0 "java/lang/IllegalArgumentException") := by
  refine ctrT_mk l (lv0 := [(0, .ref b), (1, .int p0), (2, .int q0), (3, .int z), (4, .int y), (5, .int t)]) (by decide) (Nat.le_of_ble_eq_true rfl) rfl ?_
  intro p e s m below meth c ls E hw0 hlk hnh hl hP
  have hx := E.1
  have hb := E.2.1
  have hK := E.2.2.2.2.2
  have hF : ∀ q ∈ ([] : List Loc), n0 q.base := fun q hq => absurd hq List.not_mem_nil
  obtain ⟨ho, hnew⟩ := hP
  refine lv_iload_n hx hb d_Desk_checks_0 rfl (lv_at hl 1 rfl) ?_
  refine lv_iconst (v := nI 1) hx hb d_Desk_checks_1 (by decide) ?_
  by_cases hn0 : okP p0 (nI 1)
  rotate_left
  · skip
    exact q_leave (q_runST (rest := []) E hw0 (t_Desk_needPoints l g n0 s0 hxs _ _ hn0) w_622 w_1 w_620 w_621 hd_Desk_needPoints rfl ⟨by decide, by decide⟩ ⟨ho, hnew⟩ hl.1 rfl (Nat.le_of_ble_eq_true rfl) d_Desk_checks_2 ⟨by decide, by decide⟩) hlk hnh hF (fun x H1 h => h) rfl rfl
  have hF : ∀ q ∈ ([] : List Loc), kd_none q.base := fun q hq => absurd hq List.not_mem_nil
  refine q_cS (rest := []) E (c_Desk_needPoints l g kd_none _ _ hn0) w_622 w_1 w_620 w_621 hd_Desk_needPoints rfl ⟨by decide, by decide⟩ trivial hF hl.1 rfl (Nat.le_of_ble_eq_true rfl) d_Desk_checks_2 ⟨by decide, by decide⟩ (qv (fun H1 locs hq hF => ?_))
  obtain rfl := hq
  obtain rfl : locs = [] := List.eq_nil_iff_forall_not_mem.mpr (fun q h => hF q h)
  have hF : ∀ q ∈ ([] : List Loc), n0 q.base := fun q hq => absurd hq List.not_mem_nil
  refine lv_iload_n hx hb d_Desk_checks_5 rfl (lv_at hl 2 rfl) ?_
  refine lv_iconst (v := nI 1) hx hb d_Desk_checks_6 (by decide) ?_
  by_cases hn1 : okP q0 (nI 1)
  rotate_left
  · skip
    exact q_leave (q_runST (rest := []) E hw0 (t_Desk_needPoints l g n0 s0 hxs _ _ hn1) w_622 w_1 w_620 w_621 hd_Desk_needPoints rfl ⟨by decide, by decide⟩ ⟨ho, hnew⟩ hl.1 rfl (Nat.le_of_ble_eq_true rfl) d_Desk_checks_7 ⟨by decide, by decide⟩) hlk hnh hF (fun x H1 h => h) rfl rfl
  have hF : ∀ q ∈ ([] : List Loc), kd_none q.base := fun q hq => absurd hq List.not_mem_nil
  refine q_cS (rest := []) E (c_Desk_needPoints l g kd_none _ _ hn1) w_622 w_1 w_620 w_621 hd_Desk_needPoints rfl ⟨by decide, by decide⟩ trivial hF hl.1 rfl (Nat.le_of_ble_eq_true rfl) d_Desk_checks_7 ⟨by decide, by decide⟩ (qv (fun H2 locs hq hF => ?_))
  obtain rfl := hq
  obtain rfl : locs = [] := List.eq_nil_iff_forall_not_mem.mpr (fun q h => hF q h)
  have hF : ∀ q ∈ ([] : List Loc), n0 q.base := fun q hq => absurd hq List.not_mem_nil
  refine lv_iload_n hx hb d_Desk_checks_10 rfl (lv_at hl 3 rfl) ?_
  refine lv_iconst (v := nI 1) hx hb d_Desk_checks_11 (by decide) ?_
  by_cases hn2 : okS z (nI 1)
  rotate_left
  · skip
    exact q_leave (q_runST (rest := []) E hw0 (t_Desk_needScalars l g n0 s0 hxs _ _ hn2) w_494 w_1 w_492 w_493 hd_Desk_needScalars rfl ⟨by decide, by decide⟩ ⟨ho, hnew⟩ hl.1 rfl (Nat.le_of_ble_eq_true rfl) d_Desk_checks_12 ⟨by decide, by decide⟩) hlk hnh hF (fun x H1 h => h) rfl rfl
  have hF : ∀ q ∈ ([] : List Loc), kd_none q.base := fun q hq => absurd hq List.not_mem_nil
  refine q_cS (rest := []) E (c_Desk_needScalars l g kd_none _ _ hn2) w_494 w_1 w_492 w_493 hd_Desk_needScalars rfl ⟨by decide, by decide⟩ trivial hF hl.1 rfl (Nat.le_of_ble_eq_true rfl) d_Desk_checks_12 ⟨by decide, by decide⟩ (qv (fun H3 locs hq hF => ?_))
  obtain rfl := hq
  obtain rfl : locs = [] := List.eq_nil_iff_forall_not_mem.mpr (fun q h => hF q h)
  have hF : ∀ q ∈ ([] : List Loc), n0 q.base := fun q hq => absurd hq List.not_mem_nil
  refine lv_iload hx hb d_Desk_checks_15 (lv_at hl 4 rfl) ?_
  refine lv_iconst (v := nI 1) hx hb d_Desk_checks_17 (by decide) ?_
  by_cases hn3 : okS y (nI 1)
  rotate_left
  · skip
    exact q_leave (q_runST (rest := []) E hw0 (t_Desk_needScalars l g n0 s0 hxs _ _ hn3) w_494 w_1 w_492 w_493 hd_Desk_needScalars rfl ⟨by decide, by decide⟩ ⟨ho, hnew⟩ hl.1 rfl (Nat.le_of_ble_eq_true rfl) d_Desk_checks_18 ⟨by decide, by decide⟩) hlk hnh hF (fun x H1 h => h) rfl rfl
  have hF : ∀ q ∈ ([] : List Loc), kd_none q.base := fun q hq => absurd hq List.not_mem_nil
  refine q_cS (rest := []) E (c_Desk_needScalars l g kd_none _ _ hn3) w_494 w_1 w_492 w_493 hd_Desk_needScalars rfl ⟨by decide, by decide⟩ trivial hF hl.1 rfl (Nat.le_of_ble_eq_true rfl) d_Desk_checks_18 ⟨by decide, by decide⟩ (qv (fun H4 locs hq hF => ?_))
  obtain rfl := hq
  obtain rfl : locs = [] := List.eq_nil_iff_forall_not_mem.mpr (fun q h => hF q h)
  have hF : ∀ q ∈ ([] : List Loc), n0 q.base := fun q hq => absurd hq List.not_mem_nil
  refine lv_iload hx hb d_Desk_checks_21 (lv_at hl 5 rfl) ?_
  refine lv_iconst (v := nI 1) hx hb d_Desk_checks_23 (by decide) ?_
  by_cases hn4 : okS t (nI 1)
  rotate_left
  · skip
    exact q_leave (q_runST (rest := []) E hw0 (t_Desk_needScalars l g n0 s0 hxs _ _ hn4) w_494 w_1 w_492 w_493 hd_Desk_needScalars rfl ⟨by decide, by decide⟩ ⟨ho, hnew⟩ hl.1 rfl (Nat.le_of_ble_eq_true rfl) d_Desk_checks_24 ⟨by decide, by decide⟩) hlk hnh hF (fun x H1 h => h) rfl rfl
  have hF : ∀ q ∈ ([] : List Loc), kd_none q.base := fun q hq => absurd hq List.not_mem_nil
  refine q_cS (rest := []) E (c_Desk_needScalars l g kd_none _ _ hn4) w_494 w_1 w_492 w_493 hd_Desk_needScalars rfl ⟨by decide, by decide⟩ trivial hF hl.1 rfl (Nat.le_of_ble_eq_true rfl) d_Desk_checks_24 ⟨by decide, by decide⟩ (qv (fun H5 locs hq hF => ?_))
  obtain rfl := hq
  obtain rfl : locs = [] := List.eq_nil_iff_forall_not_mem.mpr (fun q h => hF q h)
  have hF : ∀ q ∈ ([] : List Loc), n0 q.base := fun q hq => absurd hq List.not_mem_nil
  exfalso
  rcases hbad with h | h | h | h | h
  · exact h hn0
  · exact h hn1
  · exact h hn2
  · exact h hn3
  · exact h hn4
set_option maxHeartbeats 4000000 in
set_option maxRecDepth 100000 in
theorem t_Desk_transform (l : Launch) (g : WG) (n0 : Nat → Prop) (s0 : State) (hxs : XS l s0) (b : Nat) (a k bk : Int32) (hbad : ¬ okC k (nI 0) (nI 4) ∨ ¬ okS a (nI 1 <<< (k &&& 31))) : CtrT l y_Desk_transform (.code y_Desk_transform prog_1_method_20_code 4 none) 7 104 1 6 n0 g s0 [.ref b, .int a, .int k, .int bk] (fun H => OLD s0 H ∧ n0 H.size) (TQ s0 "java/lang/IllegalArgumentException") := by
  refine ctrT_mk l (lv0 := [(0, .ref b), (1, .int a), (2, .int k), (3, .int bk)]) (by decide) (Nat.le_of_ble_eq_true rfl) rfl ?_
  intro p e s m below meth c ls E hw0 hlk hnh hl hP
  have hx := E.1
  have hb := E.2.1
  have hK := E.2.2.2.2.2
  have hF : ∀ q ∈ ([] : List Loc), n0 q.base := fun q hq => absurd hq List.not_mem_nil
  obtain ⟨ho, hnew⟩ := hP
  refine lv_iload_n hx hb d_Desk_transform_0 rfl (lv_at hl 2 rfl) ?_
  refine lv_iconst (v := nI 0) hx hb d_Desk_transform_1 (by decide) ?_
  refine lv_iconst (v := nI 4) hx hb d_Desk_transform_2 (by decide) ?_
  by_cases hn0 : okC k (nI 0) (nI 4)
  rotate_left
  · skip
    exact q_leave (q_runST (rest := []) E hw0 (t_Desk_needCount l g n0 s0 hxs _ _ _ hn0) w_798 w_1 w_796 w_797 hd_Desk_needCount rfl ⟨by decide, by decide⟩ ⟨ho, hnew⟩ hl.1 rfl (Nat.le_of_ble_eq_true rfl) d_Desk_transform_3 ⟨by decide, by decide⟩) hlk hnh hF (fun x H1 h => h) rfl rfl
  have hF : ∀ q ∈ ([] : List Loc), kd_none q.base := fun q hq => absurd hq List.not_mem_nil
  refine q_cS (rest := []) E (c_Desk_needCount l g kd_none _ _ _ hn0) w_798 w_1 w_796 w_797 hd_Desk_needCount rfl ⟨by decide, by decide⟩ trivial hF hl.1 rfl (Nat.le_of_ble_eq_true rfl) d_Desk_transform_3 ⟨by decide, by decide⟩ (qv (fun H1 locs hq hF => ?_))
  obtain rfl := hq
  obtain rfl : locs = [] := List.eq_nil_iff_forall_not_mem.mpr (fun q h => hF q h)
  have hF : ∀ q ∈ ([] : List Loc), n0 q.base := fun q hq => absurd hq List.not_mem_nil
  refine lv_iload_n hx hb d_Desk_transform_6 rfl (lv_at hl 1 rfl) ?_
  refine lv_iconst (v := nI 1) hx hb d_Desk_transform_7 (by decide) ?_
  refine lv_iload_n hx hb d_Desk_transform_8 rfl (lv_at hl 2 rfl) ?_
  refine lv_ishl hx hb d_Desk_transform_9 ?_
  by_cases hn1 : okS a ((nI 1) <<< (k &&& 31))
  rotate_left
  · skip
    exact q_leave (q_runST (rest := []) E hw0 (t_Desk_needScalars l g n0 s0 hxs _ _ hn1) w_494 w_1 w_492 w_493 hd_Desk_needScalars rfl ⟨by decide, by decide⟩ ⟨ho, hnew⟩ hl.1 rfl (Nat.le_of_ble_eq_true rfl) d_Desk_transform_10 ⟨by decide, by decide⟩) hlk hnh hF (fun x H1 h => h) rfl rfl
  have hF : ∀ q ∈ ([] : List Loc), kd_none q.base := fun q hq => absurd hq List.not_mem_nil
  refine q_cS (rest := []) E (c_Desk_needScalars l g kd_none _ _ hn1) w_494 w_1 w_492 w_493 hd_Desk_needScalars rfl ⟨by decide, by decide⟩ trivial hF hl.1 rfl (Nat.le_of_ble_eq_true rfl) d_Desk_transform_10 ⟨by decide, by decide⟩ (qv (fun H2 locs hq hF => ?_))
  obtain rfl := hq
  obtain rfl : locs = [] := List.eq_nil_iff_forall_not_mem.mpr (fun q h => hF q h)
  have hF : ∀ q ∈ ([] : List Loc), n0 q.base := fun q hq => absurd hq List.not_mem_nil
  exfalso
  rcases hbad with h | h
  · exact h hn0
  · exact h hn1
set_option maxHeartbeats 4000000 in
set_option maxRecDepth 100000 in
theorem t_Desk_lagrange (l : Launch) (g : WG) (n0 : Nat → Prop) (s0 : State) (hxs : XS l s0) (b : Nat) (a k i z : Int32) (hbad : ¬ okC k (nI 0) (nI 4) ∨ ¬ okC i (nI 0) ((nI 1 <<< (k &&& 31)) - nI 1) ∨ ¬ okS a (nI 1) ∨ ¬ okS z (nI 1)) : CtrT l y_Desk_lagrange (.code y_Desk_lagrange prog_1_method_21_code 5 none) 7 104 1 6 n0 g s0 [.ref b, .int a, .int k, .int i, .int z] (fun H => OLD s0 H ∧ n0 H.size) (TQ s0 "java/lang/IllegalArgumentException") := by
  refine ctrT_mk l (lv0 := [(0, .ref b), (1, .int a), (2, .int k), (3, .int i), (4, .int z)]) (by decide) (Nat.le_of_ble_eq_true rfl) rfl ?_
  intro p e s m below meth c ls E hw0 hlk hnh hl hP
  have hx := E.1
  have hb := E.2.1
  have hK := E.2.2.2.2.2
  have hF : ∀ q ∈ ([] : List Loc), n0 q.base := fun q hq => absurd hq List.not_mem_nil
  obtain ⟨ho, hnew⟩ := hP
  refine lv_iload_n hx hb d_Desk_lagrange_0 rfl (lv_at hl 2 rfl) ?_
  refine lv_iconst (v := nI 0) hx hb d_Desk_lagrange_1 (by decide) ?_
  refine lv_iconst (v := nI 4) hx hb d_Desk_lagrange_2 (by decide) ?_
  by_cases hn0 : okC k (nI 0) (nI 4)
  rotate_left
  · skip
    exact q_leave (q_runST (rest := []) E hw0 (t_Desk_needCount l g n0 s0 hxs _ _ _ hn0) w_798 w_1 w_796 w_797 hd_Desk_needCount rfl ⟨by decide, by decide⟩ ⟨ho, hnew⟩ hl.1 rfl (Nat.le_of_ble_eq_true rfl) d_Desk_lagrange_3 ⟨by decide, by decide⟩) hlk hnh hF (fun x H1 h => h) rfl rfl
  have hF : ∀ q ∈ ([] : List Loc), kd_none q.base := fun q hq => absurd hq List.not_mem_nil
  refine q_cS (rest := []) E (c_Desk_needCount l g kd_none _ _ _ hn0) w_798 w_1 w_796 w_797 hd_Desk_needCount rfl ⟨by decide, by decide⟩ trivial hF hl.1 rfl (Nat.le_of_ble_eq_true rfl) d_Desk_lagrange_3 ⟨by decide, by decide⟩ (qv (fun H1 locs hq hF => ?_))
  obtain rfl := hq
  obtain rfl : locs = [] := List.eq_nil_iff_forall_not_mem.mpr (fun q h => hF q h)
  have hF : ∀ q ∈ ([] : List Loc), n0 q.base := fun q hq => absurd hq List.not_mem_nil
  refine lv_iload_n hx hb d_Desk_lagrange_6 rfl (lv_at hl 3 rfl) ?_
  refine lv_iconst (v := nI 0) hx hb d_Desk_lagrange_7 (by decide) ?_
  refine lv_iconst (v := nI 1) hx hb d_Desk_lagrange_8 (by decide) ?_
  refine lv_iload_n hx hb d_Desk_lagrange_9 rfl (lv_at hl 2 rfl) ?_
  refine lv_ishl hx hb d_Desk_lagrange_10 ?_
  refine lv_iconst (v := nI 1) hx hb d_Desk_lagrange_11 (by decide) ?_
  refine lv_isub hx hb d_Desk_lagrange_12 ?_
  by_cases hn1 : okC i (nI 0) (((nI 1) <<< (k &&& 31)) - (nI 1))
  rotate_left
  · skip
    exact q_leave (q_runST (rest := []) E hw0 (t_Desk_needCount l g n0 s0 hxs _ _ _ hn1) w_798 w_1 w_796 w_797 hd_Desk_needCount rfl ⟨by decide, by decide⟩ ⟨ho, hnew⟩ hl.1 rfl (Nat.le_of_ble_eq_true rfl) d_Desk_lagrange_13 ⟨by decide, by decide⟩) hlk hnh hF (fun x H1 h => h) rfl rfl
  have hF : ∀ q ∈ ([] : List Loc), kd_none q.base := fun q hq => absurd hq List.not_mem_nil
  refine q_cS (rest := []) E (c_Desk_needCount l g kd_none _ _ _ hn1) w_798 w_1 w_796 w_797 hd_Desk_needCount rfl ⟨by decide, by decide⟩ trivial hF hl.1 rfl (Nat.le_of_ble_eq_true rfl) d_Desk_lagrange_13 ⟨by decide, by decide⟩ (qv (fun H2 locs hq hF => ?_))
  obtain rfl := hq
  obtain rfl : locs = [] := List.eq_nil_iff_forall_not_mem.mpr (fun q h => hF q h)
  have hF : ∀ q ∈ ([] : List Loc), n0 q.base := fun q hq => absurd hq List.not_mem_nil
  refine lv_iload_n hx hb d_Desk_lagrange_16 rfl (lv_at hl 1 rfl) ?_
  refine lv_iconst (v := nI 1) hx hb d_Desk_lagrange_17 (by decide) ?_
  by_cases hn2 : okS a (nI 1)
  rotate_left
  · skip
    exact q_leave (q_runST (rest := []) E hw0 (t_Desk_needScalars l g n0 s0 hxs _ _ hn2) w_494 w_1 w_492 w_493 hd_Desk_needScalars rfl ⟨by decide, by decide⟩ ⟨ho, hnew⟩ hl.1 rfl (Nat.le_of_ble_eq_true rfl) d_Desk_lagrange_18 ⟨by decide, by decide⟩) hlk hnh hF (fun x H1 h => h) rfl rfl
  have hF : ∀ q ∈ ([] : List Loc), kd_none q.base := fun q hq => absurd hq List.not_mem_nil
  refine q_cS (rest := []) E (c_Desk_needScalars l g kd_none _ _ hn2) w_494 w_1 w_492 w_493 hd_Desk_needScalars rfl ⟨by decide, by decide⟩ trivial hF hl.1 rfl (Nat.le_of_ble_eq_true rfl) d_Desk_lagrange_18 ⟨by decide, by decide⟩ (qv (fun H3 locs hq hF => ?_))
  obtain rfl := hq
  obtain rfl : locs = [] := List.eq_nil_iff_forall_not_mem.mpr (fun q h => hF q h)
  have hF : ∀ q ∈ ([] : List Loc), n0 q.base := fun q hq => absurd hq List.not_mem_nil
  refine lv_iload hx hb d_Desk_lagrange_21 (lv_at hl 4 rfl) ?_
  refine lv_iconst (v := nI 1) hx hb d_Desk_lagrange_23 (by decide) ?_
  by_cases hn3 : okS z (nI 1)
  rotate_left
  · skip
    exact q_leave (q_runST (rest := []) E hw0 (t_Desk_needScalars l g n0 s0 hxs _ _ hn3) w_494 w_1 w_492 w_493 hd_Desk_needScalars rfl ⟨by decide, by decide⟩ ⟨ho, hnew⟩ hl.1 rfl (Nat.le_of_ble_eq_true rfl) d_Desk_lagrange_24 ⟨by decide, by decide⟩) hlk hnh hF (fun x H1 h => h) rfl rfl
  have hF : ∀ q ∈ ([] : List Loc), kd_none q.base := fun q hq => absurd hq List.not_mem_nil
  refine q_cS (rest := []) E (c_Desk_needScalars l g kd_none _ _ hn3) w_494 w_1 w_492 w_493 hd_Desk_needScalars rfl ⟨by decide, by decide⟩ trivial hF hl.1 rfl (Nat.le_of_ble_eq_true rfl) d_Desk_lagrange_24 ⟨by decide, by decide⟩ (qv (fun H4 locs hq hF => ?_))
  obtain rfl := hq
  obtain rfl : locs = [] := List.eq_nil_iff_forall_not_mem.mpr (fun q h => hF q h)
  have hF : ∀ q ∈ ([] : List Loc), n0 q.base := fun q hq => absurd hq List.not_mem_nil
  exfalso
  rcases hbad with h | h | h | h
  · exact h hn0
  · exact h hn1
  · exact h hn2
  · exact h hn3
set_option maxHeartbeats 4000000 in
set_option maxRecDepth 100000 in
theorem t_Desk_look (l : Launch) (g : WG) (n0 : Nat → Prop) (s0 : State) (hxs : XS l s0) (b : Nat) (w0 : Int32) (hbad : ¬ w0 = 0 ∧ ¬ w0 = nI 1 ∧ ¬ w0 = nI 2) : CtrT l y_Desk_look (.code y_Desk_look prog_1_method_22_code 2 (some FieldType.int)) 7 104 1 6 n0 g s0 [.ref b, .int w0] (fun H => OLD s0 H ∧ n0 H.size) (TQ s0 "java/lang/IllegalArgumentException") := by
  refine ctrT_mk l (lv0 := [(0, .ref b), (1, .int w0)]) (by decide) (Nat.le_of_ble_eq_true rfl) rfl ?_
  intro p e s m below meth c ls E hw0 hlk hnh hl hP
  have hx := E.1
  have hb := E.2.1
  have hK := E.2.2.2.2.2
  have hF : ∀ q ∈ ([] : List Loc), n0 q.base := fun q hq => absurd hq List.not_mem_nil
  obtain ⟨ho, hnew⟩ := hP
  refine lv_iload_n hx hb d_Desk_look_0 rfl (lv_at hl 1 rfl) ?_
  refine lv_if_ne (tgt := 9) hx hb d_Desk_look_1 (by decide) (fun _ => ?_) (fun h9 => absurd h9 (hbad.1))
  refine lv_iload_n hx hb d_Desk_look_9 rfl (lv_at hl 1 rfl) ?_
  refine lv_iconst (v := nI 1) hx hb d_Desk_look_10 (by decide) ?_
  refine lv_icmp_ne (tgt := 22) hx hb d_Desk_look_11 (by decide) (fun _ => ?_) (fun h9 => absurd h9 (hbad.2.1))
  refine lv_iload_n hx hb d_Desk_look_22 rfl (lv_at hl 1 rfl) ?_
  refine lv_iconst (v := nI 2) hx hb d_Desk_look_23 (by decide) ?_
  refine lv_icmp_ne (tgt := 35) hx hb d_Desk_look_24 (by decide) (fun _ => ?_) (fun h9 => absurd h9 (hbad.2.2))
  exact q_throwW (k := 279) (tx := "there is nothing such to look at") E hxs hw0 ho hlk hnh hnew (kd_xc_iae E.2.2.2.2.1 (kd_XL.at hxs.2.1 hw0 ho)) w_397 w_398 w_19 w_440 (by simp [kd_MSG]) hl.1 d_Desk_look_35 d_Desk_look_38 d_Desk_look_39 d_Desk_look_42 d_Desk_look_45 (by decide) (by decide) (by decide) (by decide)
