def okK (w : Int32) : Prop := ¬ w < 0 ∧ w ≤ nI 3
def okC (n a b : Int32) : Prop := ¬ n < a ∧ n ≤ b
def okS (a n : Int32) : Prop := n ≤ 0 ∨ (¬ a < 0 ∧ a ≤ nI 32 - n)
def okP (a n : Int32) : Prop := n ≤ 0 ∨ (¬ a < 0 ∧ a ≤ nI 12 - n)
theorem okS_of {k n : Nat} (hn : 0 < n) (h : k + n ≤ 32) : okS (nI k) (nI n) := Or.inr ⟨nI_pos (by omega), by rw [pk_sub (by omega)]; exact nI_le (by omega) (by omega)⟩
theorem okP_of {k n : Nat} (hn : 0 < n) (h : k + n ≤ 12) : okP (nI k) (nI n) := Or.inr ⟨nI_pos (by omega), by rw [pk_sub (by omega)]; exact nI_le (by omega) (by omega)⟩
theorem okS_nat {a : Int32} {n : Nat} (hn : 0 < n) (h32 : n ≤ 32) (h : okS a (nI n)) : ∃ k, a = nI k ∧ k + n ≤ 32 := by
  rcases h with h | ⟨h1, h2⟩
  · exact absurd h (nI_nle hn (by omega))
  · obtain ⟨k, hk, rfl⟩ := nI_of h1
    rw [pk_sub h32] at h2
    exact ⟨k, rfl, by have := (nI_leI hk (by omega)).mp h2; omega⟩
theorem okP_nat {a : Int32} {n : Nat} (hn : 0 < n) (h12 : n ≤ 12) (h : okP a (nI n)) : ∃ k, a = nI k ∧ k + n ≤ 12 := by
  rcases h with h | ⟨h1, h2⟩
  · exact absurd h (nI_nle hn (by omega))
  · obtain ⟨k, hk, rfl⟩ := nI_of h1
    rw [pk_sub h12] at h2
    exact ⟨k, rfl, by have := (nI_leI hk (by omega)).mp h2; omega⟩
theorem okC_nat {n : Int32} {a b : Nat} (ha : a < 2 ^ 31) (hb : b < 2 ^ 31) (h : okC n (nI a) (nI b)) : ∃ k, n = nI k ∧ a ≤ k ∧ k ≤ b := by
  obtain ⟨h1, h2⟩ := h
  have h3 : ¬ n < 0 := fun q => h1 (Int32.lt_of_lt_of_le q (nI_pos' ha))
  obtain ⟨k, hk, rfl⟩ := nI_of h3
  exact ⟨k, rfl, Nat.le_of_not_lt (fun q => h1 (nI_lt q ha)), (nI_leI hk hb).mp h2⟩
theorem okC_of {k a b : Nat} (h1 : a ≤ k) (h2 : k ≤ b) (hb : b < 2 ^ 31) : okC (nI k) (nI a) (nI b) := ⟨nI_nlt h1 (by omega), nI_le h2 hb⟩
abbrev y_Desk_needKind : MethodName := ⟨"KateDesk", "needKind", "(I)V"⟩
theorem hd_Desk_needKind : y_Desk_needKind.cls ≠ "java/lang/invoke/MethodHandle" ∧ y_Desk_needKind.cls ≠ "java/lang/invoke/VarHandle" ∧ (parseMethodDescriptor y_Desk_needKind.desc).map (fun d => d.parameters.length) = some 1 := by decide +kernel
theorem d_Desk_needKind_0 : decode prog_1_method_23_code 0 = .ok (.iload_n 0, 1) := by decide +kernel
theorem d_Desk_needKind_1 : decode prog_1_method_23_code 1 = .ok (.ifCond .lt 8, 3) := by decide +kernel
theorem d_Desk_needKind_4 : decode prog_1_method_23_code 4 = .ok (.iload_n 0, 1) := by decide +kernel
theorem d_Desk_needKind_5 : decode prog_1_method_23_code 5 = .ok (.iconst 3, 1) := by decide +kernel
theorem d_Desk_needKind_6 : decode prog_1_method_23_code 6 = .ok (.if_icmp .le 14, 3) := by decide +kernel
theorem d_Desk_needKind_9 : decode prog_1_method_23_code 9 = .ok (.new 112, 3) := by decide +kernel
theorem d_Desk_needKind_12 : decode prog_1_method_23_code 12 = .ok (.dup, 1) := by decide +kernel
theorem d_Desk_needKind_13 : decode prog_1_method_23_code 13 = .ok (.ldc_w 281, 3) := by decide +kernel
theorem d_Desk_needKind_16 : decode prog_1_method_23_code 16 = .ok (.invokespecial 116, 3) := by decide +kernel
theorem d_Desk_needKind_19 : decode prog_1_method_23_code 19 = .ok (.athrow, 1) := by decide +kernel
theorem d_Desk_needKind_20 : decode prog_1_method_23_code 20 = .ok (.return_, 1) := by decide +kernel
abbrev y_Desk_needCount : MethodName := ⟨"KateDesk", "needCount", "(III)V"⟩
theorem hd_Desk_needCount : y_Desk_needCount.cls ≠ "java/lang/invoke/MethodHandle" ∧ y_Desk_needCount.cls ≠ "java/lang/invoke/VarHandle" ∧ (parseMethodDescriptor y_Desk_needCount.desc).map (fun d => d.parameters.length) = some 3 := by decide +kernel
theorem d_Desk_needCount_0 : decode prog_1_method_24_code 0 = .ok (.iload_n 0, 1) := by decide +kernel
theorem d_Desk_needCount_1 : decode prog_1_method_24_code 1 = .ok (.iload_n 1, 1) := by decide +kernel
theorem d_Desk_needCount_2 : decode prog_1_method_24_code 2 = .ok (.if_icmp .lt 8, 3) := by decide +kernel
theorem d_Desk_needCount_5 : decode prog_1_method_24_code 5 = .ok (.iload_n 0, 1) := by decide +kernel
theorem d_Desk_needCount_6 : decode prog_1_method_24_code 6 = .ok (.iload_n 2, 1) := by decide +kernel
theorem d_Desk_needCount_7 : decode prog_1_method_24_code 7 = .ok (.if_icmp .le 14, 3) := by decide +kernel
theorem d_Desk_needCount_10 : decode prog_1_method_24_code 10 = .ok (.new 112, 3) := by decide +kernel
theorem d_Desk_needCount_13 : decode prog_1_method_24_code 13 = .ok (.dup, 1) := by decide +kernel
theorem d_Desk_needCount_14 : decode prog_1_method_24_code 14 = .ok (.ldc_w 283, 3) := by decide +kernel
theorem d_Desk_needCount_17 : decode prog_1_method_24_code 17 = .ok (.invokespecial 116, 3) := by decide +kernel
theorem d_Desk_needCount_20 : decode prog_1_method_24_code 20 = .ok (.athrow, 1) := by decide +kernel
theorem d_Desk_needCount_21 : decode prog_1_method_24_code 21 = .ok (.return_, 1) := by decide +kernel
abbrev y_Desk_needScalars : MethodName := ⟨"KateDesk", "needScalars", "(II)V"⟩
theorem hd_Desk_needScalars : y_Desk_needScalars.cls ≠ "java/lang/invoke/MethodHandle" ∧ y_Desk_needScalars.cls ≠ "java/lang/invoke/VarHandle" ∧ (parseMethodDescriptor y_Desk_needScalars.desc).map (fun d => d.parameters.length) = some 2 := by decide +kernel
theorem d_Desk_needScalars_0 : decode prog_1_method_25_code 0 = .ok (.iload_n 1, 1) := by decide +kernel
theorem d_Desk_needScalars_1 : decode prog_1_method_25_code 1 = .ok (.ifCond .le 26, 3) := by decide +kernel
theorem d_Desk_needScalars_4 : decode prog_1_method_25_code 4 = .ok (.iload_n 0, 1) := by decide +kernel
theorem d_Desk_needScalars_5 : decode prog_1_method_25_code 5 = .ok (.ifCond .lt 11, 3) := by decide +kernel
theorem d_Desk_needScalars_8 : decode prog_1_method_25_code 8 = .ok (.iload_n 0, 1) := by decide +kernel
theorem d_Desk_needScalars_9 : decode prog_1_method_25_code 9 = .ok (.bipush 32, 2) := by decide +kernel
theorem d_Desk_needScalars_11 : decode prog_1_method_25_code 11 = .ok (.iload_n 1, 1) := by decide +kernel
theorem d_Desk_needScalars_12 : decode prog_1_method_25_code 12 = .ok (.isub, 1) := by decide +kernel
theorem d_Desk_needScalars_13 : decode prog_1_method_25_code 13 = .ok (.if_icmp .le 14, 3) := by decide +kernel
theorem d_Desk_needScalars_16 : decode prog_1_method_25_code 16 = .ok (.new 112, 3) := by decide +kernel
theorem d_Desk_needScalars_19 : decode prog_1_method_25_code 19 = .ok (.dup, 1) := by decide +kernel
theorem d_Desk_needScalars_20 : decode prog_1_method_25_code 20 = .ok (.ldc_w 285, 3) := by decide +kernel
theorem d_Desk_needScalars_23 : decode prog_1_method_25_code 23 = .ok (.invokespecial 116, 3) := by decide +kernel
theorem d_Desk_needScalars_26 : decode prog_1_method_25_code 26 = .ok (.athrow, 1) := by decide +kernel
theorem d_Desk_needScalars_27 : decode prog_1_method_25_code 27 = .ok (.return_, 1) := by decide +kernel
abbrev y_Desk_needPoints : MethodName := ⟨"KateDesk", "needPoints", "(II)V"⟩
theorem hd_Desk_needPoints : y_Desk_needPoints.cls ≠ "java/lang/invoke/MethodHandle" ∧ y_Desk_needPoints.cls ≠ "java/lang/invoke/VarHandle" ∧ (parseMethodDescriptor y_Desk_needPoints.desc).map (fun d => d.parameters.length) = some 2 := by decide +kernel
theorem d_Desk_needPoints_0 : decode prog_1_method_26_code 0 = .ok (.iload_n 1, 1) := by decide +kernel
theorem d_Desk_needPoints_1 : decode prog_1_method_26_code 1 = .ok (.ifCond .le 26, 3) := by decide +kernel
theorem d_Desk_needPoints_4 : decode prog_1_method_26_code 4 = .ok (.iload_n 0, 1) := by decide +kernel
theorem d_Desk_needPoints_5 : decode prog_1_method_26_code 5 = .ok (.ifCond .lt 11, 3) := by decide +kernel
theorem d_Desk_needPoints_8 : decode prog_1_method_26_code 8 = .ok (.iload_n 0, 1) := by decide +kernel
theorem d_Desk_needPoints_9 : decode prog_1_method_26_code 9 = .ok (.bipush 12, 2) := by decide +kernel
theorem d_Desk_needPoints_11 : decode prog_1_method_26_code 11 = .ok (.iload_n 1, 1) := by decide +kernel
theorem d_Desk_needPoints_12 : decode prog_1_method_26_code 12 = .ok (.isub, 1) := by decide +kernel
theorem d_Desk_needPoints_13 : decode prog_1_method_26_code 13 = .ok (.if_icmp .le 14, 3) := by decide +kernel
theorem d_Desk_needPoints_16 : decode prog_1_method_26_code 16 = .ok (.new 112, 3) := by decide +kernel
theorem d_Desk_needPoints_19 : decode prog_1_method_26_code 19 = .ok (.dup, 1) := by decide +kernel
theorem d_Desk_needPoints_20 : decode prog_1_method_26_code 20 = .ok (.ldc_w 287, 3) := by decide +kernel
theorem d_Desk_needPoints_23 : decode prog_1_method_26_code 23 = .ok (.invokespecial 116, 3) := by decide +kernel
theorem d_Desk_needPoints_26 : decode prog_1_method_26_code 26 = .ok (.athrow, 1) := by decide +kernel
theorem d_Desk_needPoints_27 : decode prog_1_method_26_code 27 = .ok (.return_, 1) := by decide +kernel
set_option maxHeartbeats 4000000 in
set_option maxRecDepth 100000 in
theorem c_Desk_needKind (l : Launch) (g : WG) (n0 : Nat → Prop) (w : Int32) (hok : okK w) : Ctr l y_Desk_needKind (.code y_Desk_needKind prog_1_method_23_code 1 none) 0 0 0 0 n0 g [.int w] (fun H => True) (QV (fun H H' => H' = H)) := by
  refine ctr_mk l (lv0 := [(0, .int w)]) (by decide) (Nat.le_of_ble_eq_true rfl) rfl ?_
  intro p e s m below meth c ls E hr hlk hnm hl hP
  have hx := E.1
  have hb := E.2.1
  have hK := E.2.2.2.2.2
  have hF : ∀ q ∈ ([] : List Loc), n0 q.base := fun q hq => absurd hq List.not_mem_nil
  refine lv_iload_n hx hb d_Desk_needKind_0 rfl (lv_at hl 0 rfl) ?_
  refine lv_if_lt (tgt := 9) hx hb d_Desk_needKind_1 (by decide) (fun h9 => absurd h9 (hok.1)) (fun _ => ?_)
  refine lv_iload_n hx hb d_Desk_needKind_4 rfl (lv_at hl 0 rfl) ?_
  refine lv_iconst (v := nI 3) hx hb d_Desk_needKind_5 (by decide) ?_
  refine lv_icmp_le (tgt := 20) hx hb d_Desk_needKind_6 (by decide) (fun _ => ?_) (fun h9 => absurd (hok.2) h9)
  exact q_vret E hr hlk (⟨rfl, rfl⟩) hF d_Desk_needKind_20
set_option maxHeartbeats 4000000 in
set_option maxRecDepth 100000 in
theorem t_Desk_needKind (l : Launch) (g : WG) (n0 : Nat → Prop) (s0 : State) (hxs : XS l s0) (w : Int32) (hok : ¬ okK w) : CtrT l y_Desk_needKind (.code y_Desk_needKind prog_1_method_23_code 1 none) 6 82 1 6 n0 g s0 [.int w] (fun H => OLD s0 H ∧ n0 H.size) (TQ s0 "java/lang/IllegalArgumentException") := by
  refine ctrT_mk l (lv0 := [(0, .int w)]) (by decide) (Nat.le_of_ble_eq_true rfl) rfl ?_
  intro p e s m below meth c ls E hw0 hlk hnh hl hP
  have hx := E.1
  have hb := E.2.1
  have hK := E.2.2.2.2.2
  have hF : ∀ q ∈ ([] : List Loc), n0 q.base := fun q hq => absurd hq List.not_mem_nil
  obtain ⟨ho, hnew⟩ := hP
  refine lv_iload_n hx hb d_Desk_needKind_0 rfl (lv_at hl 0 rfl) ?_
  refine lv_if_lt (tgt := 9) hx hb d_Desk_needKind_1 (by decide) (fun h2 => ?_) (fun h2 => ?_)
  rotate_left
  · skip
    refine lv_iload_n hx hb d_Desk_needKind_4 rfl (lv_at hl 0 rfl) ?_
    refine lv_iconst (v := nI 3) hx hb d_Desk_needKind_5 (by decide) ?_
    refine lv_icmp_le (tgt := 20) hx hb d_Desk_needKind_6 (by decide) (fun h3 => ?_) (fun h3 => ?_)
    rotate_left
    · skip
      exact q_throwW (k := 281) (tx := "there are kinds 0 to 3") E hxs hw0 ho hlk hnh hnew (kd_xc_iae E.2.2.2.2.1 (kd_XL.at hxs.2.1 hw0 ho)) w_397 w_398 w_19 w_440 (by simp [kd_MSG]) hl.1 d_Desk_needKind_9 d_Desk_needKind_12 d_Desk_needKind_13 d_Desk_needKind_16 d_Desk_needKind_19 (by decide) (by decide) (by decide) (by decide)
    exact absurd ⟨h2, h3⟩ hok
  exact q_throwW (k := 281) (tx := "there are kinds 0 to 3") E hxs hw0 ho hlk hnh hnew (kd_xc_iae E.2.2.2.2.1 (kd_XL.at hxs.2.1 hw0 ho)) w_397 w_398 w_19 w_440 (by simp [kd_MSG]) hl.1 d_Desk_needKind_9 d_Desk_needKind_12 d_Desk_needKind_13 d_Desk_needKind_16 d_Desk_needKind_19 (by decide) (by decide) (by decide) (by decide)
set_option maxHeartbeats 4000000 in
set_option maxRecDepth 100000 in
theorem c_Desk_needCount (l : Launch) (g : WG) (n0 : Nat → Prop) (n a b : Int32) (hok : okC n a b) : Ctr l y_Desk_needCount (.code y_Desk_needCount prog_1_method_24_code 3 none) 0 0 0 0 n0 g [.int n, .int a, .int b] (fun H => True) (QV (fun H H' => H' = H)) := by
  refine ctr_mk l (lv0 := [(0, .int n), (1, .int a), (2, .int b)]) (by decide) (Nat.le_of_ble_eq_true rfl) rfl ?_
  intro p e s m below meth c ls E hr hlk hnm hl hP
  have hx := E.1
  have hb := E.2.1
  have hK := E.2.2.2.2.2
  have hF : ∀ q ∈ ([] : List Loc), n0 q.base := fun q hq => absurd hq List.not_mem_nil
  refine lv_iload_n hx hb d_Desk_needCount_0 rfl (lv_at hl 0 rfl) ?_
  refine lv_iload_n hx hb d_Desk_needCount_1 rfl (lv_at hl 1 rfl) ?_
  refine lv_icmp_lt (tgt := 10) hx hb d_Desk_needCount_2 (by decide) (fun h9 => absurd h9 (hok.1)) (fun _ => ?_)
  refine lv_iload_n hx hb d_Desk_needCount_5 rfl (lv_at hl 0 rfl) ?_
  refine lv_iload_n hx hb d_Desk_needCount_6 rfl (lv_at hl 2 rfl) ?_
  refine lv_icmp_le (tgt := 21) hx hb d_Desk_needCount_7 (by decide) (fun _ => ?_) (fun h9 => absurd (hok.2) h9)
  exact q_vret E hr hlk (⟨rfl, rfl⟩) hF d_Desk_needCount_21
set_option maxHeartbeats 4000000 in
set_option maxRecDepth 100000 in
theorem t_Desk_needCount (l : Launch) (g : WG) (n0 : Nat → Prop) (s0 : State) (hxs : XS l s0) (n a b : Int32) (hok : ¬ okC n a b) : CtrT l y_Desk_needCount (.code y_Desk_needCount prog_1_method_24_code 3 none) 6 82 1 6 n0 g s0 [.int n, .int a, .int b] (fun H => OLD s0 H ∧ n0 H.size) (TQ s0 "java/lang/IllegalArgumentException") := by
  refine ctrT_mk l (lv0 := [(0, .int n), (1, .int a), (2, .int b)]) (by decide) (Nat.le_of_ble_eq_true rfl) rfl ?_
  intro p e s m below meth c ls E hw0 hlk hnh hl hP
  have hx := E.1
  have hb := E.2.1
  have hK := E.2.2.2.2.2
  have hF : ∀ q ∈ ([] : List Loc), n0 q.base := fun q hq => absurd hq List.not_mem_nil
  obtain ⟨ho, hnew⟩ := hP
  refine lv_iload_n hx hb d_Desk_needCount_0 rfl (lv_at hl 0 rfl) ?_
  refine lv_iload_n hx hb d_Desk_needCount_1 rfl (lv_at hl 1 rfl) ?_
  refine lv_icmp_lt (tgt := 10) hx hb d_Desk_needCount_2 (by decide) (fun h2 => ?_) (fun h2 => ?_)
  rotate_left
  · skip
    refine lv_iload_n hx hb d_Desk_needCount_5 rfl (lv_at hl 0 rfl) ?_
    refine lv_iload_n hx hb d_Desk_needCount_6 rfl (lv_at hl 2 rfl) ?_
    refine lv_icmp_le (tgt := 21) hx hb d_Desk_needCount_7 (by decide) (fun h3 => ?_) (fun h3 => ?_)
    rotate_left
    · skip
      exact q_throwW (k := 283) (tx := "the number is out of its range") E hxs hw0 ho hlk hnh hnew (kd_xc_iae E.2.2.2.2.1 (kd_XL.at hxs.2.1 hw0 ho)) w_397 w_398 w_19 w_440 (by simp [kd_MSG]) hl.1 d_Desk_needCount_10 d_Desk_needCount_13 d_Desk_needCount_14 d_Desk_needCount_17 d_Desk_needCount_20 (by decide) (by decide) (by decide) (by decide)
    exact absurd ⟨h2, h3⟩ hok
  exact q_throwW (k := 283) (tx := "the number is out of its range") E hxs hw0 ho hlk hnh hnew (kd_xc_iae E.2.2.2.2.1 (kd_XL.at hxs.2.1 hw0 ho)) w_397 w_398 w_19 w_440 (by simp [kd_MSG]) hl.1 d_Desk_needCount_10 d_Desk_needCount_13 d_Desk_needCount_14 d_Desk_needCount_17 d_Desk_needCount_20 (by decide) (by decide) (by decide) (by decide)
set_option maxHeartbeats 4000000 in
set_option maxRecDepth 100000 in
theorem c_Desk_needScalars (l : Launch) (g : WG) (n0 : Nat → Prop) (a n : Int32) (hok : okS a n) : Ctr l y_Desk_needScalars (.code y_Desk_needScalars prog_1_method_25_code 2 none) 0 0 0 0 n0 g [.int a, .int n] (fun H => True) (QV (fun H H' => H' = H)) := by
  refine ctr_mk l (lv0 := [(0, .int a), (1, .int n)]) (by decide) (Nat.le_of_ble_eq_true rfl) rfl ?_
  intro p e s m below meth c ls E hr hlk hnm hl hP
  have hx := E.1
  have hb := E.2.1
  have hK := E.2.2.2.2.2
  have hF : ∀ q ∈ ([] : List Loc), n0 q.base := fun q hq => absurd hq List.not_mem_nil
  refine lv_iload_n hx hb d_Desk_needScalars_0 rfl (lv_at hl 1 rfl) ?_
  refine lv_if_le (tgt := 27) hx hb d_Desk_needScalars_1 (by decide) (fun h1 => ?_) (fun h1 => ?_)
  rotate_left
  · skip
    have hok2 := hok.resolve_left h1
    refine lv_iload_n hx hb d_Desk_needScalars_4 rfl (lv_at hl 0 rfl) ?_
    refine lv_if_lt (tgt := 16) hx hb d_Desk_needScalars_5 (by decide) (fun h9 => absurd h9 (hok2.1)) (fun _ => ?_)
    refine lv_iload_n hx hb d_Desk_needScalars_8 rfl (lv_at hl 0 rfl) ?_
    refine lv_bipush (v := nI 32) hx hb d_Desk_needScalars_9 (by decide) ?_
    refine lv_iload_n hx hb d_Desk_needScalars_11 rfl (lv_at hl 1 rfl) ?_
    refine lv_isub hx hb d_Desk_needScalars_12 ?_
    refine lv_icmp_le (tgt := 27) hx hb d_Desk_needScalars_13 (by decide) (fun _ => ?_) (fun h9 => absurd (hok2.2) h9)
    exact q_vret E hr hlk (⟨rfl, rfl⟩) hF d_Desk_needScalars_27
  exact q_vret E hr hlk (⟨rfl, rfl⟩) hF d_Desk_needScalars_27
set_option maxHeartbeats 4000000 in
set_option maxRecDepth 100000 in
theorem t_Desk_needScalars (l : Launch) (g : WG) (n0 : Nat → Prop) (s0 : State) (hxs : XS l s0) (a n : Int32) (hok : ¬ okS a n) : CtrT l y_Desk_needScalars (.code y_Desk_needScalars prog_1_method_25_code 2 none) 6 82 1 6 n0 g s0 [.int a, .int n] (fun H => OLD s0 H ∧ n0 H.size) (TQ s0 "java/lang/IllegalArgumentException") := by
  refine ctrT_mk l (lv0 := [(0, .int a), (1, .int n)]) (by decide) (Nat.le_of_ble_eq_true rfl) rfl ?_
  intro p e s m below meth c ls E hw0 hlk hnh hl hP
  have hx := E.1
  have hb := E.2.1
  have hK := E.2.2.2.2.2
  have hF : ∀ q ∈ ([] : List Loc), n0 q.base := fun q hq => absurd hq List.not_mem_nil
  obtain ⟨ho, hnew⟩ := hP
  refine lv_iload_n hx hb d_Desk_needScalars_0 rfl (lv_at hl 1 rfl) ?_
  refine lv_if_le (tgt := 27) hx hb d_Desk_needScalars_1 (by decide) (fun h9 => absurd h9 (fun h => hok (Or.inl h))) (fun _ => ?_)
  refine lv_iload_n hx hb d_Desk_needScalars_4 rfl (lv_at hl 0 rfl) ?_
  refine lv_if_lt (tgt := 16) hx hb d_Desk_needScalars_5 (by decide) (fun h2 => ?_) (fun h2 => ?_)
  rotate_left
  · skip
    refine lv_iload_n hx hb d_Desk_needScalars_8 rfl (lv_at hl 0 rfl) ?_
    refine lv_bipush (v := nI 32) hx hb d_Desk_needScalars_9 (by decide) ?_
    refine lv_iload_n hx hb d_Desk_needScalars_11 rfl (lv_at hl 1 rfl) ?_
    refine lv_isub hx hb d_Desk_needScalars_12 ?_
    refine lv_icmp_le (tgt := 27) hx hb d_Desk_needScalars_13 (by decide) (fun h3 => ?_) (fun h3 => ?_)
    rotate_left
    · skip
      exact q_throwW (k := 285) (tx := "there is no such scalar") E hxs hw0 ho hlk hnh hnew (kd_xc_iae E.2.2.2.2.1 (kd_XL.at hxs.2.1 hw0 ho)) w_397 w_398 w_19 w_440 (by simp [kd_MSG]) hl.1 d_Desk_needScalars_16 d_Desk_needScalars_19 d_Desk_needScalars_20 d_Desk_needScalars_23 d_Desk_needScalars_26 (by decide) (by decide) (by decide) (by decide)
    exact absurd (Or.inr ⟨h2, h3⟩) hok
  exact q_throwW (k := 285) (tx := "there is no such scalar") E hxs hw0 ho hlk hnh hnew (kd_xc_iae E.2.2.2.2.1 (kd_XL.at hxs.2.1 hw0 ho)) w_397 w_398 w_19 w_440 (by simp [kd_MSG]) hl.1 d_Desk_needScalars_16 d_Desk_needScalars_19 d_Desk_needScalars_20 d_Desk_needScalars_23 d_Desk_needScalars_26 (by decide) (by decide) (by decide) (by decide)
set_option maxHeartbeats 4000000 in
set_option maxRecDepth 100000 in
theorem c_Desk_needPoints (l : Launch) (g : WG) (n0 : Nat → Prop) (a n : Int32) (hok : okP a n) : Ctr l y_Desk_needPoints (.code y_Desk_needPoints prog_1_method_26_code 2 none) 0 0 0 0 n0 g [.int a, .int n] (fun H => True) (QV (fun H H' => H' = H)) := by
  refine ctr_mk l (lv0 := [(0, .int a), (1, .int n)]) (by decide) (Nat.le_of_ble_eq_true rfl) rfl ?_
  intro p e s m below meth c ls E hr hlk hnm hl hP
  have hx := E.1
  have hb := E.2.1
  have hK := E.2.2.2.2.2
  have hF : ∀ q ∈ ([] : List Loc), n0 q.base := fun q hq => absurd hq List.not_mem_nil
  refine lv_iload_n hx hb d_Desk_needPoints_0 rfl (lv_at hl 1 rfl) ?_
  refine lv_if_le (tgt := 27) hx hb d_Desk_needPoints_1 (by decide) (fun h1 => ?_) (fun h1 => ?_)
  rotate_left
  · skip
    have hok2 := hok.resolve_left h1
    refine lv_iload_n hx hb d_Desk_needPoints_4 rfl (lv_at hl 0 rfl) ?_
    refine lv_if_lt (tgt := 16) hx hb d_Desk_needPoints_5 (by decide) (fun h9 => absurd h9 (hok2.1)) (fun _ => ?_)
    refine lv_iload_n hx hb d_Desk_needPoints_8 rfl (lv_at hl 0 rfl) ?_
    refine lv_bipush (v := nI 12) hx hb d_Desk_needPoints_9 (by decide) ?_
    refine lv_iload_n hx hb d_Desk_needPoints_11 rfl (lv_at hl 1 rfl) ?_
    refine lv_isub hx hb d_Desk_needPoints_12 ?_
    refine lv_icmp_le (tgt := 27) hx hb d_Desk_needPoints_13 (by decide) (fun _ => ?_) (fun h9 => absurd (hok2.2) h9)
    exact q_vret E hr hlk (⟨rfl, rfl⟩) hF d_Desk_needPoints_27
  exact q_vret E hr hlk (⟨rfl, rfl⟩) hF d_Desk_needPoints_27
set_option maxHeartbeats 4000000 in
set_option maxRecDepth 100000 in
theorem t_Desk_needPoints (l : Launch) (g : WG) (n0 : Nat → Prop) (s0 : State) (hxs : XS l s0) (a n : Int32) (hok : ¬ okP a n) : CtrT l y_Desk_needPoints (.code y_Desk_needPoints prog_1_method_26_code 2 none) 6 82 1 6 n0 g s0 [.int a, .int n] (fun H => OLD s0 H ∧ n0 H.size) (TQ s0 "java/lang/IllegalArgumentException") := by
  refine ctrT_mk l (lv0 := [(0, .int a), (1, .int n)]) (by decide) (Nat.le_of_ble_eq_true rfl) rfl ?_
  intro p e s m below meth c ls E hw0 hlk hnh hl hP
  have hx := E.1
  have hb := E.2.1
  have hK := E.2.2.2.2.2
  have hF : ∀ q ∈ ([] : List Loc), n0 q.base := fun q hq => absurd hq List.not_mem_nil
  obtain ⟨ho, hnew⟩ := hP
  refine lv_iload_n hx hb d_Desk_needPoints_0 rfl (lv_at hl 1 rfl) ?_
  refine lv_if_le (tgt := 27) hx hb d_Desk_needPoints_1 (by decide) (fun h9 => absurd h9 (fun h => hok (Or.inl h))) (fun _ => ?_)
  refine lv_iload_n hx hb d_Desk_needPoints_4 rfl (lv_at hl 0 rfl) ?_
  refine lv_if_lt (tgt := 16) hx hb d_Desk_needPoints_5 (by decide) (fun h2 => ?_) (fun h2 => ?_)
  rotate_left
  · skip
    refine lv_iload_n hx hb d_Desk_needPoints_8 rfl (lv_at hl 0 rfl) ?_
    refine lv_bipush (v := nI 12) hx hb d_Desk_needPoints_9 (by decide) ?_
    refine lv_iload_n hx hb d_Desk_needPoints_11 rfl (lv_at hl 1 rfl) ?_
    refine lv_isub hx hb d_Desk_needPoints_12 ?_
    refine lv_icmp_le (tgt := 27) hx hb d_Desk_needPoints_13 (by decide) (fun h3 => ?_) (fun h3 => ?_)
    rotate_left
    · skip
      exact q_throwW (k := 287) (tx := "there is no such point") E hxs hw0 ho hlk hnh hnew (kd_xc_iae E.2.2.2.2.1 (kd_XL.at hxs.2.1 hw0 ho)) w_397 w_398 w_19 w_440 (by simp [kd_MSG]) hl.1 d_Desk_needPoints_16 d_Desk_needPoints_19 d_Desk_needPoints_20 d_Desk_needPoints_23 d_Desk_needPoints_26 (by decide) (by decide) (by decide) (by decide)
    exact absurd (Or.inr ⟨h2, h3⟩) hok
  exact q_throwW (k := 287) (tx := "there is no such point") E hxs hw0 ho hlk hnh hnew (kd_xc_iae E.2.2.2.2.1 (kd_XL.at hxs.2.1 hw0 ho)) w_397 w_398 w_19 w_440 (by simp [kd_MSG]) hl.1 d_Desk_needPoints_16 d_Desk_needPoints_19 d_Desk_needPoints_20 d_Desk_needPoints_23 d_Desk_needPoints_26 (by decide) (by decide) (by decide) (by decide)
