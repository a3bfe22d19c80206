theorem cmp_lt0 {x y : Int64} (h : lg_cmp x y < 0) : x.toInt < y.toInt := cmp_lt (fun q => Int32.lt_irrefl (Int32.lt_of_le_of_lt q h))
theorem cmp_ge0 {x y : Int64} (h : ¬ lg_cmp x y < 0) : y.toInt ≤ x.toInt := by
  unfold lg_cmp at h
  by_cases h1 : x > y
  · exact Int.le_of_lt (Int64.lt_iff_toInt_lt.mp h1)
  · rw [if_neg h1] at h
    by_cases h2 : x = y
    · rw [h2]; exact Int.le_refl _
    · rw [if_neg h2] at h; exact absurd (by decide) h
theorem cmp_gt0 {x y : Int64} (h : 0 < lg_cmp x y) : y.toInt < x.toInt := by
  unfold lg_cmp at h
  by_cases h1 : x > y
  · exact Int64.lt_iff_toInt_lt.mp h1
  · rw [if_neg h1] at h
    by_cases h2 : x = y
    · rw [if_pos h2] at h; exact absurd h (by decide)
    · rw [if_neg h2] at h; exact absurd h (by decide)
theorem cmp_le0 {x y : Int64} (h : ¬ 0 < lg_cmp x y) : x.toInt ≤ y.toInt := by
  unfold lg_cmp at h
  by_cases h1 : x > y
  · rw [if_pos h1] at h; exact absurd (by decide) h
  · have : ¬ y.toInt < x.toInt := fun q => h1 (Int64.lt_iff_toInt_lt.mpr q)
    omega
theorem i2l_toInt (n : Int32) : n.toInt64.toInt = n.toInt := Int32.toInt_toInt64 n
theorem in_okC {n : Int32} {a b : Nat} (ha : a < 2 ^ 31) (hb : b < 2 ^ 31) {lo hi : Int64} (hlo : lo.toInt = a) (hhi : hi.toInt = b) : (lo.toInt ≤ n.toInt64.toInt ∧ n.toInt64.toInt ≤ hi.toInt) ↔ okC n (nI a) (nI b) := by
  rw [i2l_toInt, hlo, hhi]
  unfold okC
  rw [Int32.lt_iff_toInt_lt, Int32.le_iff_toInt_le, nI_toInt ha, nI_toInt hb]
  omega
theorem okS_1 {a : Int32} {j : Nat} (h1 : 1 ≤ j) (h2 : j ≤ 32) (h : okS a (nI j)) : okS a (nI 1) := by
  obtain ⟨k, e, hk⟩ := okS_nat (by omega) h2 h
  rw [e]; exact okS_of (by decide) (by omega)
theorem okS_j {k j : Nat} (h1 : 1 ≤ j) (h2 : j ≤ 32) (hk : k < 32) : okS (nI k) (nI j) ↔ okS (nI (k + j - 1)) (nI 1) := by
  constructor
  · intro h
    obtain ⟨k', e, hk'⟩ := okS_nat (by omega) h2 h
    have : k = k' := (nI_eq (by omega) (by omega)).mp e
    exact okS_of (by decide) (by omega)
  · intro h
    obtain ⟨k', e, hk'⟩ := okS_nat (by decide) (by decide) h
    have : k + j - 1 = k' := (nI_eq (by omega) (by omega)).mp e
    exact okS_of (by omega) (by omega)
/-- the model, whatever it holds, with what it has thrown -/
def TH (g : WG) (n0 : Nat → Prop) (H : Heap) (mo : Nat) (code : Int32) : Prop := ∃ pw td wr w n fd, WH w n ∧ MS g n0 H mo code pw td wr w n fd
/-- the numbers of a fresh model -/
def FZ (fd : Nat → Int64) : Prop := (∀ k, k < 32 → Z0 fd k) ∧ ∀ k, k < 12 → Z0 fd (32 + 3 * k) ∧ SV fd (32 + 3 * k + 1) 14 = 1 ∧ Z0 fd (32 + 3 * k + 2)
abbrev y_Model_noScalar : MethodName := ⟨"KateDeskModel", "noScalar", "(I)Z"⟩
theorem hd_Model_noScalar : y_Model_noScalar.cls ≠ "java/lang/invoke/MethodHandle" ∧ y_Model_noScalar.cls ≠ "java/lang/invoke/VarHandle" ∧ (parseMethodDescriptor y_Model_noScalar.desc).map (fun d => d.parameters.length) = some 1 := by decide +kernel
theorem d_Model_noScalar_0 : decode prog_11_method_33_code 0 = .ok (.iload_n 0, 1) := by decide +kernel
theorem d_Model_noScalar_1 : decode prog_11_method_33_code 1 = .ok (.ifCond .lt 9, 3) := by decide +kernel
theorem d_Model_noScalar_4 : decode prog_11_method_33_code 4 = .ok (.iload_n 0, 1) := by decide +kernel
theorem d_Model_noScalar_5 : decode prog_11_method_33_code 5 = .ok (.bipush 31, 2) := by decide +kernel
theorem d_Model_noScalar_7 : decode prog_11_method_33_code 7 = .ok (.if_icmp .le 7, 3) := by decide +kernel
theorem d_Model_noScalar_10 : decode prog_11_method_33_code 10 = .ok (.iconst 1, 1) := by decide +kernel
theorem d_Model_noScalar_11 : decode prog_11_method_33_code 11 = .ok (.goto 4, 3) := by decide +kernel
theorem d_Model_noScalar_14 : decode prog_11_method_33_code 14 = .ok (.iconst 0, 1) := by decide +kernel
theorem d_Model_noScalar_15 : decode prog_11_method_33_code 15 = .ok (.ireturn, 1) := by decide +kernel
abbrev y_Model_noPoint : MethodName := ⟨"KateDeskModel", "noPoint", "(I)Z"⟩
theorem hd_Model_noPoint : y_Model_noPoint.cls ≠ "java/lang/invoke/MethodHandle" ∧ y_Model_noPoint.cls ≠ "java/lang/invoke/VarHandle" ∧ (parseMethodDescriptor y_Model_noPoint.desc).map (fun d => d.parameters.length) = some 1 := by decide +kernel
theorem d_Model_noPoint_0 : decode prog_11_method_34_code 0 = .ok (.iload_n 0, 1) := by decide +kernel
theorem d_Model_noPoint_1 : decode prog_11_method_34_code 1 = .ok (.ifCond .lt 9, 3) := by decide +kernel
theorem d_Model_noPoint_4 : decode prog_11_method_34_code 4 = .ok (.iload_n 0, 1) := by decide +kernel
theorem d_Model_noPoint_5 : decode prog_11_method_34_code 5 = .ok (.bipush 11, 2) := by decide +kernel
theorem d_Model_noPoint_7 : decode prog_11_method_34_code 7 = .ok (.if_icmp .le 7, 3) := by decide +kernel
theorem d_Model_noPoint_10 : decode prog_11_method_34_code 10 = .ok (.iconst 1, 1) := by decide +kernel
theorem d_Model_noPoint_11 : decode prog_11_method_34_code 11 = .ok (.goto 4, 3) := by decide +kernel
theorem d_Model_noPoint_14 : decode prog_11_method_34_code 14 = .ok (.iconst 0, 1) := by decide +kernel
theorem d_Model_noPoint_15 : decode prog_11_method_34_code 15 = .ok (.ireturn, 1) := by decide +kernel
abbrev y_Model_in : MethodName := ⟨"KateDeskModel", "in", "(JJJ)Z"⟩
theorem hd_Model_in : y_Model_in.cls ≠ "java/lang/invoke/MethodHandle" ∧ y_Model_in.cls ≠ "java/lang/invoke/VarHandle" ∧ (parseMethodDescriptor y_Model_in.desc).map (fun d => d.parameters.length) = some 3 := by decide +kernel
theorem d_Model_in_0 : decode prog_11_method_4_code 0 = .ok (.lload_n 0, 1) := by decide +kernel
theorem d_Model_in_1 : decode prog_11_method_4_code 1 = .ok (.lload_n 2, 1) := by decide +kernel
theorem d_Model_in_2 : decode prog_11_method_4_code 2 = .ok (.lcmp, 1) := by decide +kernel
theorem d_Model_in_3 : decode prog_11_method_4_code 3 = .ok (.ifCond .lt 14, 3) := by decide +kernel
theorem d_Model_in_6 : decode prog_11_method_4_code 6 = .ok (.lload_n 0, 1) := by decide +kernel
theorem d_Model_in_7 : decode prog_11_method_4_code 7 = .ok (.lload 4, 2) := by decide +kernel
theorem d_Model_in_9 : decode prog_11_method_4_code 9 = .ok (.lcmp, 1) := by decide +kernel
theorem d_Model_in_10 : decode prog_11_method_4_code 10 = .ok (.ifCond .gt 7, 3) := by decide +kernel
theorem d_Model_in_13 : decode prog_11_method_4_code 13 = .ok (.iconst 1, 1) := by decide +kernel
theorem d_Model_in_14 : decode prog_11_method_4_code 14 = .ok (.goto 4, 3) := by decide +kernel
theorem d_Model_in_17 : decode prog_11_method_4_code 17 = .ok (.iconst 0, 1) := by decide +kernel
theorem d_Model_in_18 : decode prog_11_method_4_code 18 = .ok (.ireturn, 1) := by decide +kernel
abbrev y_Model_noScalars : MethodName := ⟨"KateDeskModel", "noScalars", "(II)Z"⟩
theorem hd_Model_noScalars : y_Model_noScalars.cls ≠ "java/lang/invoke/MethodHandle" ∧ y_Model_noScalars.cls ≠ "java/lang/invoke/VarHandle" ∧ (parseMethodDescriptor y_Model_noScalars.desc).map (fun d => d.parameters.length) = some 2 := by decide +kernel
theorem d_Model_noScalars_0 : decode prog_11_method_35_code 0 = .ok (.iload_n 1, 1) := by decide +kernel
theorem d_Model_noScalars_1 : decode prog_11_method_35_code 1 = .ok (.ifCond .le 25, 3) := by decide +kernel
theorem d_Model_noScalars_4 : decode prog_11_method_35_code 4 = .ok (.iload_n 0, 1) := by decide +kernel
theorem d_Model_noScalars_5 : decode prog_11_method_35_code 5 = .ok (.invokestatic 219, 3) := by decide +kernel
theorem d_Model_noScalars_8 : decode prog_11_method_35_code 8 = .ok (.ifCond .ne 14, 3) := by decide +kernel
theorem d_Model_noScalars_11 : decode prog_11_method_35_code 11 = .ok (.iload_n 0, 1) := by decide +kernel
theorem d_Model_noScalars_12 : decode prog_11_method_35_code 12 = .ok (.iload_n 1, 1) := by decide +kernel
theorem d_Model_noScalars_13 : decode prog_11_method_35_code 13 = .ok (.iadd, 1) := by decide +kernel
theorem d_Model_noScalars_14 : decode prog_11_method_35_code 14 = .ok (.iconst 1, 1) := by decide +kernel
theorem d_Model_noScalars_15 : decode prog_11_method_35_code 15 = .ok (.isub, 1) := by decide +kernel
theorem d_Model_noScalars_16 : decode prog_11_method_35_code 16 = .ok (.invokestatic 219, 3) := by decide +kernel
theorem d_Model_noScalars_19 : decode prog_11_method_35_code 19 = .ok (.ifCond .eq 7, 3) := by decide +kernel
theorem d_Model_noScalars_22 : decode prog_11_method_35_code 22 = .ok (.iconst 1, 1) := by decide +kernel
theorem d_Model_noScalars_23 : decode prog_11_method_35_code 23 = .ok (.goto 4, 3) := by decide +kernel
theorem d_Model_noScalars_26 : decode prog_11_method_35_code 26 = .ok (.iconst 0, 1) := by decide +kernel
theorem d_Model_noScalars_27 : decode prog_11_method_35_code 27 = .ok (.ireturn, 1) := by decide +kernel
abbrev y_Model_slot : MethodName := ⟨"KateDeskModel", "slot", "(I)I"⟩
theorem hd_Model_slot : y_Model_slot.cls ≠ "java/lang/invoke/MethodHandle" ∧ y_Model_slot.cls ≠ "java/lang/invoke/VarHandle" ∧ (parseMethodDescriptor y_Model_slot.desc).map (fun d => d.parameters.length) = some 1 := by decide +kernel
theorem d_Model_slot_0 : decode prog_11_method_36_code 0 = .ok (.bipush 32, 2) := by decide +kernel
theorem d_Model_slot_2 : decode prog_11_method_36_code 2 = .ok (.iconst 3, 1) := by decide +kernel
theorem d_Model_slot_3 : decode prog_11_method_36_code 3 = .ok (.iload_n 0, 1) := by decide +kernel
theorem d_Model_slot_4 : decode prog_11_method_36_code 4 = .ok (.imul, 1) := by decide +kernel
theorem d_Model_slot_5 : decode prog_11_method_36_code 5 = .ok (.iadd, 1) := by decide +kernel
theorem d_Model_slot_6 : decode prog_11_method_36_code 6 = .ok (.ireturn, 1) := by decide +kernel
abbrev y_Model_thrown : MethodName := ⟨"KateDeskModel", "thrown", "()I"⟩
theorem hd_Model_thrown : y_Model_thrown.cls ≠ "java/lang/invoke/MethodHandle" ∧ y_Model_thrown.cls ≠ "java/lang/invoke/VarHandle" ∧ (parseMethodDescriptor y_Model_thrown.desc).map (fun d => d.parameters.length) = some 0 := by decide +kernel
theorem d_Model_thrown_0 : decode prog_11_method_2_code 0 = .ok (.aload_n 0, 1) := by decide +kernel
theorem d_Model_thrown_1 : decode prog_11_method_2_code 1 = .ok (.getfield 158, 3) := by decide +kernel
theorem d_Model_thrown_4 : decode prog_11_method_2_code 4 = .ok (.ireturn, 1) := by decide +kernel
set_option maxHeartbeats 4000000 in
set_option maxRecDepth 100000 in
theorem c_Model_noScalar (l : Launch) (g : WG) (n0 : Nat → Prop) (a : Int32) : Ctr l y_Model_noScalar (.code y_Model_noScalar prog_11_method_33_code 1 (some FieldType.boolean)) 0 0 0 0 n0 g [.int a] (fun H => True) (QI (fun r H H' => ((r = 1 ∧ ¬ okS a (nI 1)) ∨ (r = 0 ∧ okS a (nI 1))) ∧ H' = H)) := by
  refine ctr_mk l (lv0 := [(0, .int a)]) (by decide) (Nat.le_of_ble_eq_true rfl) rfl ?_
  intro p e s m below meth c ls E hr hlk hnm hl hP
  have hx := E.1
  have hb := E.2.1
  have hK := E.2.2.2.2.2
  have hF : ∀ q ∈ ([] : List Loc), n0 q.base := fun q hq => absurd hq List.not_mem_nil
  refine lv_iload_n hx hb d_Model_noScalar_0 rfl (lv_at hl 0 rfl) ?_
  refine lv_if_lt (tgt := 10) hx hb d_Model_noScalar_1 (by decide) (fun h1 => ?_) (fun h1 => ?_)
  rotate_left
  · skip
    refine lv_iload_n hx hb d_Model_noScalar_4 rfl (lv_at hl 0 rfl) ?_
    refine lv_bipush (v := nI 31) hx hb d_Model_noScalar_5 (by decide) ?_
    refine lv_icmp_le (tgt := 14) hx hb d_Model_noScalar_7 (by decide) (fun h2 => ?_) (fun h2 => ?_)
    rotate_left
    · skip
      refine lv_iconst (v := nI 1) hx hb d_Model_noScalar_10 (by decide) ?_
      refine lv_goto (tgt := 15) hx hb d_Model_noScalar_11 (by decide) ?_
      exact q_zret E hr rfl hlk (⟨_, rfl, Or.inl ⟨rfl, fun h => h.elim (fun e => absurd e (by decide)) (fun e => h2 e.2)⟩, rfl⟩) hF d_Model_noScalar_15
    refine lv_iconst (v := nI 0) hx hb d_Model_noScalar_14 (by decide) ?_
    exact q_zret E hr rfl hlk (⟨_, rfl, Or.inr ⟨rfl, Or.inr ⟨h1, h2⟩⟩, rfl⟩) hF d_Model_noScalar_15
  refine lv_iconst (v := nI 1) hx hb d_Model_noScalar_10 (by decide) ?_
  refine lv_goto (tgt := 15) hx hb d_Model_noScalar_11 (by decide) ?_
  exact q_zret E hr rfl hlk (⟨_, rfl, Or.inl ⟨rfl, fun h => h.elim (fun e => absurd e (by decide)) (fun e => e.1 h1)⟩, rfl⟩) hF d_Model_noScalar_15
set_option maxHeartbeats 4000000 in
set_option maxRecDepth 100000 in
theorem c_Model_noPoint (l : Launch) (g : WG) (n0 : Nat → Prop) (a : Int32) : Ctr l y_Model_noPoint (.code y_Model_noPoint prog_11_method_34_code 1 (some FieldType.boolean)) 0 0 0 0 n0 g [.int a] (fun H => True) (QI (fun r H H' => ((r = 1 ∧ ¬ okP a (nI 1)) ∨ (r = 0 ∧ okP a (nI 1))) ∧ H' = H)) := by
  refine ctr_mk l (lv0 := [(0, .int a)]) (by decide) (Nat.le_of_ble_eq_true rfl) rfl ?_
  intro p e s m below meth c ls E hr hlk hnm hl hP
  have hx := E.1
  have hb := E.2.1
  have hK := E.2.2.2.2.2
  have hF : ∀ q ∈ ([] : List Loc), n0 q.base := fun q hq => absurd hq List.not_mem_nil
  refine lv_iload_n hx hb d_Model_noPoint_0 rfl (lv_at hl 0 rfl) ?_
  refine lv_if_lt (tgt := 10) hx hb d_Model_noPoint_1 (by decide) (fun h1 => ?_) (fun h1 => ?_)
  rotate_left
  · skip
    refine lv_iload_n hx hb d_Model_noPoint_4 rfl (lv_at hl 0 rfl) ?_
    refine lv_bipush (v := nI 11) hx hb d_Model_noPoint_5 (by decide) ?_
    refine lv_icmp_le (tgt := 14) hx hb d_Model_noPoint_7 (by decide) (fun h2 => ?_) (fun h2 => ?_)
    rotate_left
    · skip
      refine lv_iconst (v := nI 1) hx hb d_Model_noPoint_10 (by decide) ?_
      refine lv_goto (tgt := 15) hx hb d_Model_noPoint_11 (by decide) ?_
      exact q_zret E hr rfl hlk (⟨_, rfl, Or.inl ⟨rfl, fun h => h.elim (fun e => absurd e (by decide)) (fun e => h2 e.2)⟩, rfl⟩) hF d_Model_noPoint_15
    refine lv_iconst (v := nI 0) hx hb d_Model_noPoint_14 (by decide) ?_
    exact q_zret E hr rfl hlk (⟨_, rfl, Or.inr ⟨rfl, Or.inr ⟨h1, h2⟩⟩, rfl⟩) hF d_Model_noPoint_15
  refine lv_iconst (v := nI 1) hx hb d_Model_noPoint_10 (by decide) ?_
  refine lv_goto (tgt := 15) hx hb d_Model_noPoint_11 (by decide) ?_
  exact q_zret E hr rfl hlk (⟨_, rfl, Or.inl ⟨rfl, fun h => h.elim (fun e => absurd e (by decide)) (fun e => e.1 h1)⟩, rfl⟩) hF d_Model_noPoint_15
set_option maxHeartbeats 4000000 in
set_option maxRecDepth 100000 in
theorem c_Model_in (l : Launch) (g : WG) (n0 : Nat → Prop) (z1 z2 z3 : Int64) : Ctr l y_Model_in (.code y_Model_in prog_11_method_4_code 6 (some FieldType.boolean)) 0 0 0 0 n0 g [.long z1, .long z2, .long z3] (fun H => True) (QI (fun r H H' => ((r = 0 ∧ ¬ (z2.toInt ≤ z1.toInt ∧ z1.toInt ≤ z3.toInt)) ∨ (r = 1 ∧ (z2.toInt ≤ z1.toInt ∧ z1.toInt ≤ z3.toInt))) ∧ H' = H)) := by
  refine ctr_mk l (lv0 := [(0, .long z1), (2, .long z2), (4, .long z3)]) (by decide) (Nat.le_of_ble_eq_true rfl) rfl ?_
  intro p e s m below meth c ls E hr hlk hnm hl hP
  have hx := E.1
  have hb := E.2.1
  have hK := E.2.2.2.2.2
  have hF : ∀ q ∈ ([] : List Loc), n0 q.base := fun q hq => absurd hq List.not_mem_nil
  refine lv_lload_n hx hb d_Model_in_0 rfl (lv_at hl 0 rfl) ?_
  refine lv_lload_n hx hb d_Model_in_1 rfl (lv_at hl 1 rfl) ?_
  refine W.lcmp hx hb d_Model_in_2 ?_
  refine lv_if_lt (tgt := 17) hx hb d_Model_in_3 (by decide) (fun h1 => ?_) (fun h1 => ?_)
  rotate_left
  · skip
    refine lv_lload_n hx hb d_Model_in_6 rfl (lv_at hl 0 rfl) ?_
    refine lv_lload hx hb d_Model_in_7 (lv_at hl 2 rfl) ?_
    refine W.lcmp hx hb d_Model_in_9 ?_
    refine lv_if_gt (tgt := 17) hx hb d_Model_in_10 (by decide) (fun h2 => ?_) (fun h2 => ?_)
    rotate_left
    · skip
      refine lv_iconst (v := nI 1) hx hb d_Model_in_13 (by decide) ?_
      refine lv_goto (tgt := 18) hx hb d_Model_in_14 (by decide) ?_
      exact q_zret E hr rfl hlk (⟨_, rfl, Or.inr ⟨rfl, cmp_ge0 h1, cmp_le0 h2⟩, rfl⟩) hF d_Model_in_18
    refine lv_iconst (v := nI 0) hx hb d_Model_in_17 (by decide) ?_
    exact q_zret E hr rfl hlk (⟨_, rfl, Or.inl ⟨rfl, fun h => absurd (cmp_gt0 h2) (by omega)⟩, rfl⟩) hF d_Model_in_18
  refine lv_iconst (v := nI 0) hx hb d_Model_in_17 (by decide) ?_
  exact q_zret E hr rfl hlk (⟨_, rfl, Or.inl ⟨rfl, fun h => absurd (cmp_lt0 h1) (by omega)⟩, rfl⟩) hF d_Model_in_18
set_option maxHeartbeats 4000000 in
set_option maxRecDepth 100000 in
theorem c_Model_noScalars (l : Launch) (g : WG) (n0 : Nat → Prop) (a n : Int32) (hn : n ≤ 0 ∨ ∃ j, n = nI j ∧ 1 ≤ j ∧ j ≤ 32) : Ctr l y_Model_noScalars (.code y_Model_noScalars prog_11_method_35_code 2 (some FieldType.boolean)) 1 20 0 0 n0 g [.int a, .int n] (fun H => True) (QI (fun r H H' => ((r = 1 ∧ ¬ okS a n) ∨ (r = 0 ∧ okS a n)) ∧ H' = H)) := by
  refine ctr_mk l (lv0 := [(0, .int a), (1, .int n)]) (by decide) (Nat.le_of_ble_eq_true rfl) rfl ?_
  intro p e s m below meth c ls E hr hlk hnm hl hP
  have hx := E.1
  have hb := E.2.1
  have hK := E.2.2.2.2.2
  have hF : ∀ q ∈ ([] : List Loc), n0 q.base := fun q hq => absurd hq List.not_mem_nil
  refine lv_iload_n hx hb d_Model_noScalars_0 rfl (lv_at hl 1 rfl) ?_
  refine lv_if_le (tgt := 26) hx hb d_Model_noScalars_1 (by decide) (fun h1 => ?_) (fun h1 => ?_)
  rotate_left
  · skip
    rcases hn with hn | ⟨j, ej, hj1, hj2⟩
    · exact absurd hn h1
    · skip
      refine lv_iload_n hx hb d_Model_noScalars_4 rfl (lv_at hl 0 rfl) ?_
      refine q_cS (rest := []) E (c_Model_noScalar l g n0 a) w_1064 w_15 w_1062 w_1063 hd_Model_noScalar rfl ⟨by decide, by decide⟩ trivial hF hl.1 rfl (Nat.le_of_ble_eq_true rfl) d_Model_noScalars_5 ⟨by decide, by decide⟩ (qi (fun r1 H1 locs hq hF => ?_))
      obtain ⟨h_r1, hq⟩ := hq
      subst hq
      refine lv_if_ne (tgt := 22) hx hb d_Model_noScalars_8 (by decide) (fun h2 => ?_) (fun h2 => ?_)
      rotate_left
      · skip
        have ok1 : okS a (nI 1) := by rcases h_r1 with h | h; exact absurd (h.1.symm.trans (by first | exact h2 | exact Classical.not_not.mp h2)) (by decide); exact h.2
        obtain ⟨k1, e1, hk1⟩ := okS_nat (by decide) (by decide) ok1
        rw [e1, ej] at hl
        refine lv_iload_n hx hb d_Model_noScalars_11 rfl (lv_at hl 0 rfl) ?_
        refine lv_iload_n hx hb d_Model_noScalars_12 rfl (lv_at hl 1 rfl) ?_
        refine lv_iadd hx hb d_Model_noScalars_13 ?_
        refine lv_topi (fun t9 e9 => ?_)
        obtain rfl : t9 = nI (k1 + j) := e9.trans (nI_add _ _)
        refine lv_iconst (v := nI 1) hx hb d_Model_noScalars_14 (by decide) ?_
        refine lv_isub hx hb d_Model_noScalars_15 ?_
        refine lv_topi (fun t9 e9 => ?_)
        obtain rfl : t9 = nI (k1 + j - 1) := e9.trans (pk_sub (by omega))
        refine q_cS (rest := []) E (c_Model_noScalar l g n0 (nI (k1 + j - 1))) w_1064 w_15 w_1062 w_1063 hd_Model_noScalar rfl ⟨by decide, by decide⟩ trivial hF hl.1 rfl (Nat.le_of_ble_eq_true rfl) d_Model_noScalars_16 ⟨by decide, by decide⟩ (qi (fun r2 H2 locs hq hF => ?_))
        obtain ⟨h_r2, hq⟩ := hq
        subst hq
        refine lv_if_eq (tgt := 26) hx hb d_Model_noScalars_19 (by decide) (fun h3 => ?_) (fun h3 => ?_)
        rotate_left
        · skip
          refine lv_iconst (v := nI 1) hx hb d_Model_noScalars_22 (by decide) ?_
          refine lv_goto (tgt := 27) hx hb d_Model_noScalars_23 (by decide) ?_
          exact q_zret E hr rfl hlk (⟨_, rfl, Or.inl ⟨rfl, fun h => by rw [e1, ej] at h; exact (h_r2.elim (fun q => q.2) (fun q => absurd q.1 h3)) ((okS_j hj1 hj2 (by omega)).mp h)⟩, rfl⟩) hF d_Model_noScalars_27
        refine lv_iconst (v := nI 0) hx hb d_Model_noScalars_26 (by decide) ?_
        exact q_zret E hr rfl hlk (⟨_, rfl, Or.inr ⟨rfl, by rw [e1, ej]; exact (okS_j hj1 hj2 (by omega)).mpr (h_r2.elim (fun q => absurd (q.1.symm.trans h3) (by decide)) (fun q => q.2))⟩, rfl⟩) hF d_Model_noScalars_27
      refine lv_iconst (v := nI 1) hx hb d_Model_noScalars_22 (by decide) ?_
      refine lv_goto (tgt := 27) hx hb d_Model_noScalars_23 (by decide) ?_
      exact q_zret E hr rfl hlk (⟨_, rfl, Or.inl ⟨rfl, fun h => by rw [ej] at h; exact (h_r1.elim (fun q => q.2) (fun q => absurd q.1 h2)) (okS_1 hj1 hj2 h)⟩, rfl⟩) hF d_Model_noScalars_27
  refine lv_iconst (v := nI 0) hx hb d_Model_noScalars_26 (by decide) ?_
  exact q_zret E hr rfl hlk (⟨_, rfl, Or.inr ⟨rfl, Or.inl h1⟩, rfl⟩) hF d_Model_noScalars_27
set_option maxHeartbeats 4000000 in
set_option maxRecDepth 100000 in
theorem c_Model_slot (l : Launch) (g : WG) (n0 : Nat → Prop) (a : Int32) : Ctr l y_Model_slot (.code y_Model_slot prog_11_method_36_code 1 (some FieldType.int)) 0 0 0 0 n0 g [.int a] (fun H => True) (QI (fun r H H' => r = nI 32 + nI 3 * a ∧ H' = H)) := by
  refine ctr_mk l (lv0 := [(0, .int a)]) (by decide) (Nat.le_of_ble_eq_true rfl) rfl ?_
  intro p e s m below meth c ls E hr hlk hnm hl hP
  have hx := E.1
  have hb := E.2.1
  have hK := E.2.2.2.2.2
  have hF : ∀ q ∈ ([] : List Loc), n0 q.base := fun q hq => absurd hq List.not_mem_nil
  refine lv_bipush (v := nI 32) hx hb d_Model_slot_0 (by decide) ?_
  refine lv_iconst (v := nI 3) hx hb d_Model_slot_2 (by decide) ?_
  refine lv_iload_n hx hb d_Model_slot_3 rfl (lv_at hl 0 rfl) ?_
  refine lv_imul hx hb d_Model_slot_4 ?_
  refine lv_iadd hx hb d_Model_slot_5 ?_
  exact q_iret E hr hlk (⟨_, rfl, rfl, rfl⟩) hF d_Model_slot_6
set_option maxHeartbeats 4000000 in
set_option maxRecDepth 100000 in
theorem c_Model_thrown (l : Launch) (g : WG) (n0 : Nat → Prop) (mo : Nat) (code : Int32) : Ctr l y_Model_thrown (.code y_Model_thrown prog_11_method_2_code 1 (some FieldType.int)) 0 0 0 0 n0 g [.ref mo] (fun H => TH g n0 H mo code) (QI (fun r H H' => r = code ∧ H' = H)) := by
  refine ctr_mk l (lv0 := [(0, .ref mo)]) (by decide) (Nat.le_of_ble_eq_true rfl) rfl ?_
  intro p e s m below meth c ls E hr hlk hnm hl hP
  have hx := E.1
  have hb := E.2.1
  have hK := E.2.2.2.2.2
  have hF : ∀ q ∈ ([] : List Loc), n0 q.base := fun q hq => absurd hq List.not_mem_nil
  obtain ⟨pw, td, wr, w, n, fd, hw, hm⟩ := hP
  refine lv_aload_n hx hb d_Model_thrown_0 rfl (lv_at hl 0 rfl) ?_
  refine q_get (C := "KateDeskModel") (T := T_Model) (N := 14) (ci := 8) E hm.1 in_Model rfl 0 (by decide) w_1001 rfl rfl d_Model_thrown_1 ?_
  exact q_iret E hr hlk (⟨_, rfl, rfl, rfl⟩) hF d_Model_thrown_4
