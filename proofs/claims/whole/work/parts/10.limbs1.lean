abbrev y_Arrays_fill1 : MethodName := ⟨"java/util/Arrays", "fill", "([JJ)V"⟩
theorem hd_Arrays_fill1 : y_Arrays_fill1.cls ≠ "java/lang/invoke/MethodHandle" ∧ y_Arrays_fill1.cls ≠ "java/lang/invoke/VarHandle" ∧ (parseMethodDescriptor y_Arrays_fill1.desc).map (fun d => d.parameters.length) = some 2 := by decide +kernel
theorem d_Arrays_fill1_0 : decode prog_23_method_101_code 0 = .ok (.iconst 0, 1) := by decide +kernel
theorem d_Arrays_fill1_1 : decode prog_23_method_101_code 1 = .ok (.istore_n 3, 1) := by decide +kernel
theorem d_Arrays_fill1_2 : decode prog_23_method_101_code 2 = .ok (.aload_n 0, 1) := by decide +kernel
theorem d_Arrays_fill1_3 : decode prog_23_method_101_code 3 = .ok (.arraylength, 1) := by decide +kernel
theorem d_Arrays_fill1_4 : decode prog_23_method_101_code 4 = .ok (.istore 4, 2) := by decide +kernel
theorem d_Arrays_fill1_6 : decode prog_23_method_101_code 6 = .ok (.iload_n 3, 1) := by decide +kernel
theorem d_Arrays_fill1_7 : decode prog_23_method_101_code 7 = .ok (.iload 4, 2) := by decide +kernel
theorem d_Arrays_fill1_9 : decode prog_23_method_101_code 9 = .ok (.if_icmp .ge 13, 3) := by decide +kernel
theorem d_Arrays_fill1_12 : decode prog_23_method_101_code 12 = .ok (.aload_n 0, 1) := by decide +kernel
theorem d_Arrays_fill1_13 : decode prog_23_method_101_code 13 = .ok (.iload_n 3, 1) := by decide +kernel
theorem d_Arrays_fill1_14 : decode prog_23_method_101_code 14 = .ok (.lload_n 1, 1) := by decide +kernel
theorem d_Arrays_fill1_15 : decode prog_23_method_101_code 15 = .ok (.lastore, 1) := by decide +kernel
theorem d_Arrays_fill1_16 : decode prog_23_method_101_code 16 = .ok (.iinc 3 1, 3) := by decide +kernel
theorem d_Arrays_fill1_19 : decode prog_23_method_101_code 19 = .ok (.goto (-13), 3) := by decide +kernel
theorem d_Arrays_fill1_22 : decode prog_23_method_101_code 22 = .ok (.return_, 1) := by decide +kernel
abbrev y_Limbs_clear : MethodName := ⟨"KateDesk$Limbs", "clear", "([J)V"⟩
theorem hd_Limbs_clear : y_Limbs_clear.cls ≠ "java/lang/invoke/MethodHandle" ∧ y_Limbs_clear.cls ≠ "java/lang/invoke/VarHandle" ∧ (parseMethodDescriptor y_Limbs_clear.desc).map (fun d => d.parameters.length) = some 1 := by decide +kernel
theorem d_Limbs_clear_0 : decode prog_5_method_4_code 0 = .ok (.aload_n 0, 1) := by decide +kernel
theorem d_Limbs_clear_1 : decode prog_5_method_4_code 1 = .ok (.lconst 0, 1) := by decide +kernel
theorem d_Limbs_clear_2 : decode prog_5_method_4_code 2 = .ok (.invokestatic 25, 3) := by decide +kernel
theorem d_Limbs_clear_5 : decode prog_5_method_4_code 5 = .ok (.return_, 1) := by decide +kernel
abbrev y_Limbs_copy : MethodName := ⟨"KateDesk$Limbs", "copy", "([J[J)V"⟩
theorem hd_Limbs_copy : y_Limbs_copy.cls ≠ "java/lang/invoke/MethodHandle" ∧ y_Limbs_copy.cls ≠ "java/lang/invoke/VarHandle" ∧ (parseMethodDescriptor y_Limbs_copy.desc).map (fun d => d.parameters.length) = some 2 := by decide +kernel
theorem d_Limbs_copy_0 : decode prog_5_method_5_code 0 = .ok (.aload_n 1, 1) := by decide +kernel
theorem d_Limbs_copy_1 : decode prog_5_method_5_code 1 = .ok (.iconst 0, 1) := by decide +kernel
theorem d_Limbs_copy_2 : decode prog_5_method_5_code 2 = .ok (.aload_n 0, 1) := by decide +kernel
theorem d_Limbs_copy_3 : decode prog_5_method_5_code 3 = .ok (.iconst 0, 1) := by decide +kernel
theorem d_Limbs_copy_4 : decode prog_5_method_5_code 4 = .ok (.bipush 14, 2) := by decide +kernel
theorem d_Limbs_copy_6 : decode prog_5_method_5_code 6 = .ok (.invokestatic 31, 3) := by decide +kernel
theorem d_Limbs_copy_9 : decode prog_5_method_5_code 9 = .ok (.return_, 1) := by decide +kernel
set_option maxHeartbeats 4000000 in
set_option maxRecDepth 100000 in
/-- every place becomes v -/
theorem c_Arrays_fill1 (l : Launch) (g : WG) (n0 : Nat → Prop) (a N : Nat) (v : Int64) (f : Nat → Int64) (hN : N < 2 ^ 31) : Ctr l y_Arrays_fill1 (.code y_Arrays_fill1 prog_23_method_101_code 5 none) 0 0 0 0 n0 g [.ref a, .long v] (fun H => n0 a ∧ AJ g H a N f) (QV (fun H H' => KJ g (fun q => q = a) H H' ∧ AJ g H' a N (fun _ => v))) := by
  refine ctr_mk l (lv0 := [(0, .ref a), (1, .long v)]) (by decide) (Nat.le_of_ble_eq_true rfl) rfl ?_
  intro p e s m below meth c ls E hr hlk hnm hl hP
  have hx := E.1
  have hb := E.2.1
  have hK := E.2.2.2.2.2
  have hF : ∀ q ∈ ([] : List Loc), n0 q.base := fun q hq => absurd hq List.not_mem_nil
  obtain ⟨ha, hA⟩ := hP
  have loop : ∀ (k : Nat) (i : Nat) (H : Heap) (locs : List Loc) (ls : Array Slot) (f : Nat → Int64), i + k = N → KJ g (fun q => q = a) s.heap H → AJ g H a N f → (∀ j, j < i → f j = v) → (∀ q ∈ locs, n0 q.base) → lv_has ls 5 [(3, .int (nI i)), (4, .int (nI N)), (0, .ref a), (1, .long v)] → W p l e { frames := 0, cells := 0, slots := 0, locals := 0 } s m [.ref a, .long v].toArray below meth c H locs 0 0 (MQ below (QcP (QV (fun H H' => KJ g (fun q => q = a) H H' ∧ AJ g H' a N (fun _ => v)))) [.ref a, .long v].toArray s 0 0 (fun q => n0 q)) (F0 m 6 ls []) := by
    intro k
    induction k with
    | zero =>
      intro  i   H   locs   ls   f hi hk hf hv hF hl
      obtain rfl : i = N := by omega
      refine lv_iload_n hx hb d_Arrays_fill1_6 rfl (lv_at hl 0 rfl) ?_
      refine lv_iload hx hb d_Arrays_fill1_7 (lv_at hl 1 rfl) ?_
      refine lv_icmp_ge (tgt := 22) hx hb d_Arrays_fill1_9 (by decide) (fun _ => ?_) (fun h9 => absurd (nI_le (Nat.le_refl _) hN) h9)
      exact q_vret E hr hlk (⟨rfl, hk, hf.ext (fun j hj => hv j hj)⟩) hF d_Arrays_fill1_22
    | succ k ih =>
      intro  i   H   locs   ls   f hi hk hf hv hF hl
      have hiN : i < N := by omega
      refine lv_iload_n hx hb d_Arrays_fill1_6 rfl (lv_at hl 0 rfl) ?_
      refine lv_iload hx hb d_Arrays_fill1_7 (lv_at hl 1 rfl) ?_
      refine lv_icmp_ge (tgt := 22) hx hb d_Arrays_fill1_9 (by decide) (fun h9 => absurd h9 (nI_ge hiN hN)) (fun _ => ?_)
      refine lv_aload_n hx hb d_Arrays_fill1_12 rfl (lv_at hl 2 rfl) ?_
      refine lv_iload_n hx hb d_Arrays_fill1_13 rfl (lv_at hl 0 rfl) ?_
      refine lv_lload_n hx hb d_Arrays_fill1_14 rfl (lv_at hl 3 rfl) ?_
      refine q_last E hf ha hF i rfl hiN hN d_Arrays_fill1_15 (fun H' locs' hq hf' hF => ?_)
      have hk := hk.tr hq
      refine lv_iinc (k := 0) (v := nI (i + 1)) (lv' := [(3, .int (nI (i + 1))), (4, .int (nI N)), (0, .ref a), (1, .long v)]) hx hb d_Arrays_fill1_16 hl rfl (i_inc i) (by decide) rfl (fun ls hl => ?_)
      refine lv_goto (tgt := 6) hx hb d_Arrays_fill1_19 (by decide) ?_
      have hl : lv_has ls 5 [(3, .int (nI (i + 1))), (4, .int (nI N)), (0, .ref a), (1, .long v)] := lv_sub hl [0, 1, 2, 3] rfl
      exact ih (i + 1) H' locs' ls _ (by omega) hk hf' (fun j hj => by
        by_cases e : j = i
        · subst e; simp [vp_updL]
        · simp only [vp_updL, e, if_false]; exact hv j (by omega)) hF hl
  refine lv_iconst (v := nI 0) hx hb d_Arrays_fill1_0 (by decide) ?_
  refine lv_istore_n (lv' := [(3, .int (nI 0)), (0, .ref a), (1, .long v)]) hx hb d_Arrays_fill1_1 rfl hl (by decide) rfl (fun ls hl => ?_)
  refine lv_aload_n hx hb d_Arrays_fill1_2 rfl (lv_at hl 1 rfl) ?_
  refine q_alen E hA d_Arrays_fill1_3 ?_
  refine lv_istore (lv' := [(4, .int (nI N)), (3, .int (nI 0)), (0, .ref a), (1, .long v)]) hx hb d_Arrays_fill1_4 hl (by decide) rfl (fun ls hl => ?_)
  have hl : lv_has ls 5 [(3, .int (nI 0)), (4, .int (nI N)), (0, .ref a), (1, .long v)] := lv_sub hl [1, 0, 2, 3] rfl
  exact loop N 0 s.heap [] ls f (by omega) KJ.rf hA (fun j hj => absurd hj (Nat.not_lt_zero _)) hF hl
set_option maxHeartbeats 4000000 in
set_option maxRecDepth 100000 in
/-- all 0 -/
theorem c_Limbs_clear (l : Launch) (g : WG) (n0 : Nat → Prop) (a : Nat) : Ctr l y_Limbs_clear (.code y_Limbs_clear prog_5_method_4_code 1 none) 1 24 0 0 n0 g [.ref a] (fun H => J14 g n0 H a) (QV (fun H H' => KJ g (fun q => q = a) H H' ∧ AJ g H' a 14 (fun _ => 0))) := by
  refine ctr_mk l (lv0 := [(0, .ref a)]) (by decide) (Nat.le_of_ble_eq_true rfl) rfl ?_
  intro p e s m below meth c ls E hr hlk hnm hl hP
  have hx := E.1
  have hb := E.2.1
  have hK := E.2.2.2.2.2
  have hF : ∀ q ∈ ([] : List Loc), n0 q.base := fun q hq => absurd hq List.not_mem_nil
  obtain ⟨ha, f, hA⟩ := hP
  refine lv_aload_n hx hb d_Limbs_clear_0 rfl (lv_at hl 0 rfl) ?_
  refine lv_lconst (v := 0) hx hb d_Limbs_clear_1 (by decide) ?_
  refine q_cS (rest := []) E (c_Arrays_fill1 l g n0 a 14 0 f (by decide)) w_501 w_21 w_499 w_500 hd_Arrays_fill1 rfl ⟨by decide, by decide⟩ (⟨ha, hA⟩) hF hl.1 rfl (Nat.le_of_ble_eq_true rfl) d_Limbs_clear_2 ⟨by decide, by decide⟩ (qv (fun H1 locs hq hF => ?_))
  exact q_vret E hr hlk (⟨rfl, hq⟩) hF d_Limbs_clear_5
set_option maxHeartbeats 4000000 in
set_option maxRecDepth 100000 in
/-- a gets what b holds -/
theorem c_Limbs_copy (l : Launch) (g : WG) (n0 : Nat → Prop) (a b : Nat) (f : Nat → Int64) : Ctr l y_Limbs_copy (.code y_Limbs_copy prog_5_method_5_code 2 none) 1 60 0 0 n0 g [.ref a, .ref b] (fun H => J14 g n0 H a ∧ AJ g H b 14 f) (QV (fun H H' => KJ g (fun q => q = a) H H' ∧ AJ g H' a 14 f)) := by
  refine ctr_mk l (lv0 := [(0, .ref a), (1, .ref b)]) (by decide) (Nat.le_of_ble_eq_true rfl) rfl ?_
  intro p e s m below meth c ls E hr hlk hnm hl hP
  have hx := E.1
  have hb := E.2.1
  have hK := E.2.2.2.2.2
  have hF : ∀ q ∈ ([] : List Loc), n0 q.base := fun q hq => absurd hq List.not_mem_nil
  obtain ⟨⟨ha, h, hA⟩, hB⟩ := hP
  refine lv_aload_n hx hb d_Limbs_copy_0 rfl (lv_at hl 1 rfl) ?_
  refine lv_iconst (v := nI 0) hx hb d_Limbs_copy_1 (by decide) ?_
  refine lv_aload_n hx hb d_Limbs_copy_2 rfl (lv_at hl 0 rfl) ?_
  refine lv_iconst (v := nI 0) hx hb d_Limbs_copy_3 (by decide) ?_
  refine lv_bipush (v := nI 14) hx hb d_Limbs_copy_4 (by decide) ?_
  refine q_copy E hB hA ha hF w_147 hl.1 (by decide) (by decide) d_Limbs_copy_6 (fun H1 locs hk hf hF => ?_)
  exact q_vret E hr hlk (⟨rfl, hk, hf⟩) hF d_Limbs_copy_9
