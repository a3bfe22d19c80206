abbrev y_Row_init : MethodName := ⟨"KateDesk$Row", "<init>", "()V"⟩
theorem hd_Row_init : y_Row_init.cls ≠ "java/lang/invoke/MethodHandle" ∧ y_Row_init.cls ≠ "java/lang/invoke/VarHandle" ∧ (parseMethodDescriptor y_Row_init.desc).map (fun d => d.parameters.length) = some 0 := by decide +kernel
theorem d_Row_init_0 : decode prog_8_method_1_code 0 = .ok (.aload_n 0, 1) := by decide +kernel
theorem d_Row_init_1 : decode prog_8_method_1_code 1 = .ok (.invokespecial 3, 3) := by decide +kernel
theorem d_Row_init_4 : decode prog_8_method_1_code 4 = .ok (.aload_n 0, 1) := by decide +kernel
theorem d_Row_init_5 : decode prog_8_method_1_code 5 = .ok (.bipush 96, 2) := by decide +kernel
theorem d_Row_init_7 : decode prog_8_method_1_code 7 = .ok (.newarray .byte, 2) := by decide +kernel
theorem d_Row_init_9 : decode prog_8_method_1_code 9 = .ok (.putfield 9, 3) := by decide +kernel
theorem d_Row_init_12 : decode prog_8_method_1_code 12 = .ok (.aload_n 0, 1) := by decide +kernel
theorem d_Row_init_13 : decode prog_8_method_1_code 13 = .ok (.iconst 0, 1) := by decide +kernel
theorem d_Row_init_14 : decode prog_8_method_1_code 14 = .ok (.putfield 15, 3) := by decide +kernel
theorem d_Row_init_17 : decode prog_8_method_1_code 17 = .ok (.return_, 1) := by decide +kernel
set_option maxHeartbeats 4000000 in
set_option maxRecDepth 100000 in
theorem c_Row_init (l : Launch) (g : WG) (n0 : Nat → Prop) (o : Nat) (na0 : n0 o) : Ctr l y_Row_init (.code y_Row_init prog_8_method_1_code 1 none) 1 40 1 96 n0 g [.ref o] (fun H => OB g H o 3 [.null, .int 0] ∧ H.size = o + 1) (QV (fun H H' => (OB g H' o 3 [.ref (o + 1), .int 0] ∧ AB g H' (o + 1) 96 (fun _ => 0)) ∧ H'.size = o + 2 ∧ ∀ q, q < o → H'[q]? = H[q]?)) := by
  refine ctr_mk l (lv0 := [(0, .ref o)]) (by decide) (Nat.le_of_ble_eq_true rfl) rfl ?_
  intro p e s m below meth c ls E hr hlk hnm hl hP
  have hx := E.1
  have hb := E.2.1
  have hK := E.2.2.2.2.2
  have hF : ∀ q ∈ ([] : List Loc), n0 q.base := fun q hq => absurd hq List.not_mem_nil
  obtain ⟨ho, hsz⟩ := hP
  refine lv_aload_n hx hb d_Row_init_0 rfl (lv_at hl 0 rfl) ?_
  refine W.objInit hx hb E.2.2.2.1 (E.2.2.2.2.1 _ w_70) (E.2.2.2.2.1 _ w_31) (E.2.2.2.2.1 _ w_32) rfl (by rw [E.2.2.1]; exact hl.1) rfl d_Row_init_1 (Nat.le_of_ble_eq_true rfl) (Nat.le_of_ble_eq_true rfl) ?_
  refine lv_aload_n hx hb d_Row_init_4 rfl (lv_at hl 0 rfl) ?_
  refine lv_bipush (v := nI 96) hx hb d_Row_init_5 (by decide) ?_
  refine q_newB E 96 rfl (by decide) w_80 (by decide) (by decide) hsz d_Row_init_7 (fun H1 hsz2 hnw hA => ?_)
  have ho := ho.eq (hnw o (k_mo (by decide)))
  refine q_putF (C := "KateDesk$Row") (T := T_Row) (N := 2) (ci := 3) (ty := .array (.byte)) E ho in_Row ty_Row tyok_Row nm_Row rfl 0 (by decide) w_71 rfl rfl hnm rfl (by decide +kernel) rfl rfl (Nat.le_of_ble_eq_true rfl) na0 hF d_Row_init_9 (fun H2 locs hq ho2 hF => ?_)
  have hA := AB.off hq (show ¬ o + 1 = o from k_m (by decide)) hA
  have h1 : ∀ q, q < o → H2[q]? = s.heap[q]? := fun q hq9 => (hq.2 q (Nat.ne_of_lt hq9)).trans (hnw q (k_lt hq9))
  have hz2 := hq.1.trans hsz2
  clear hq
  refine lv_aload_n hx hb d_Row_init_12 rfl (lv_at hl 0 rfl) ?_
  refine lv_iconst (v := nI 0) hx hb d_Row_init_13 (by decide) ?_
  refine q_put (C := "KateDesk$Row") (T := T_Row) (N := 2) (ci := 3) (ty := .int) E ho2 in_Row ty_Row tyok_Row nm_Row rfl 1 (by decide) w_72 rfl rfl (by decide +kernel) rfl rfl (Nat.le_of_ble_eq_true rfl) na0 hF d_Row_init_14 (fun H3 locs hq ho3 hF => ?_)
  exact q_vret E hr hlk (⟨rfl, ⟨ho3, AB.off hq (show ¬ o + 1 = o from k_m (by decide)) hA⟩, hq.1.trans hz2, fun q hq9 => (hq.2 q (Nat.ne_of_lt hq9)).trans (h1 q hq9)⟩) hF d_Row_init_17
