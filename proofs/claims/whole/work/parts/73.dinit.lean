abbrev y_Point_init : MethodName := ⟨"KateDesk$Point", "<init>", "()V"⟩
theorem hd_Point_init : y_Point_init.cls ≠ "java/lang/invoke/MethodHandle" ∧ y_Point_init.cls ≠ "java/lang/invoke/VarHandle" ∧ (parseMethodDescriptor y_Point_init.desc).map (fun d => d.parameters.length) = some 0 := by decide +kernel
theorem d_Point_init_0 : decode prog_6_method_1_code 0 = .ok (.aload_n 0, 1) := by decide +kernel
theorem d_Point_init_1 : decode prog_6_method_1_code 1 = .ok (.invokespecial 1, 3) := by decide +kernel
theorem d_Point_init_4 : decode prog_6_method_1_code 4 = .ok (.aload_n 0, 1) := by decide +kernel
theorem d_Point_init_5 : decode prog_6_method_1_code 5 = .ok (.bipush 14, 2) := by decide +kernel
theorem d_Point_init_7 : decode prog_6_method_1_code 7 = .ok (.newarray .long, 2) := by decide +kernel
theorem d_Point_init_9 : decode prog_6_method_1_code 9 = .ok (.putfield 9, 3) := by decide +kernel
theorem d_Point_init_12 : decode prog_6_method_1_code 12 = .ok (.aload_n 0, 1) := by decide +kernel
theorem d_Point_init_13 : decode prog_6_method_1_code 13 = .ok (.bipush 14, 2) := by decide +kernel
theorem d_Point_init_15 : decode prog_6_method_1_code 15 = .ok (.newarray .long, 2) := by decide +kernel
theorem d_Point_init_17 : decode prog_6_method_1_code 17 = .ok (.putfield 15, 3) := by decide +kernel
theorem d_Point_init_20 : decode prog_6_method_1_code 20 = .ok (.aload_n 0, 1) := by decide +kernel
theorem d_Point_init_21 : decode prog_6_method_1_code 21 = .ok (.bipush 14, 2) := by decide +kernel
theorem d_Point_init_23 : decode prog_6_method_1_code 23 = .ok (.newarray .long, 2) := by decide +kernel
theorem d_Point_init_25 : decode prog_6_method_1_code 25 = .ok (.putfield 18, 3) := by decide +kernel
theorem d_Point_init_28 : decode prog_6_method_1_code 28 = .ok (.aload_n 0, 1) := by decide +kernel
theorem d_Point_init_29 : decode prog_6_method_1_code 29 = .ok (.getfield 15, 3) := by decide +kernel
theorem d_Point_init_32 : decode prog_6_method_1_code 32 = .ok (.iconst 0, 1) := by decide +kernel
theorem d_Point_init_33 : decode prog_6_method_1_code 33 = .ok (.lconst 1, 1) := by decide +kernel
theorem d_Point_init_34 : decode prog_6_method_1_code 34 = .ok (.lastore, 1) := by decide +kernel
theorem d_Point_init_35 : decode prog_6_method_1_code 35 = .ok (.return_, 1) := by decide +kernel
abbrev y_Curve_init : MethodName := ⟨"KateDesk$Curve", "<init>", "(LKateDesk$Field;)V"⟩
theorem hd_Curve_init : y_Curve_init.cls ≠ "java/lang/invoke/MethodHandle" ∧ y_Curve_init.cls ≠ "java/lang/invoke/VarHandle" ∧ (parseMethodDescriptor y_Curve_init.desc).map (fun d => d.parameters.length) = some 1 := by decide +kernel
theorem d_Curve_init_0 : decode prog_2_method_1_code 0 = .ok (.aload_n 0, 1) := by decide +kernel
theorem d_Curve_init_1 : decode prog_2_method_1_code 1 = .ok (.invokespecial 1, 3) := by decide +kernel
theorem d_Curve_init_4 : decode prog_2_method_1_code 4 = .ok (.aload_n 0, 1) := by decide +kernel
theorem d_Curve_init_5 : decode prog_2_method_1_code 5 = .ok (.bipush 14, 2) := by decide +kernel
theorem d_Curve_init_7 : decode prog_2_method_1_code 7 = .ok (.newarray .long, 2) := by decide +kernel
theorem d_Curve_init_9 : decode prog_2_method_1_code 9 = .ok (.putfield 9, 3) := by decide +kernel
theorem d_Curve_init_12 : decode prog_2_method_1_code 12 = .ok (.aload_n 0, 1) := by decide +kernel
theorem d_Curve_init_13 : decode prog_2_method_1_code 13 = .ok (.bipush 14, 2) := by decide +kernel
theorem d_Curve_init_15 : decode prog_2_method_1_code 15 = .ok (.newarray .long, 2) := by decide +kernel
theorem d_Curve_init_17 : decode prog_2_method_1_code 17 = .ok (.putfield 15, 3) := by decide +kernel
theorem d_Curve_init_20 : decode prog_2_method_1_code 20 = .ok (.aload_n 0, 1) := by decide +kernel
theorem d_Curve_init_21 : decode prog_2_method_1_code 21 = .ok (.bipush 14, 2) := by decide +kernel
theorem d_Curve_init_23 : decode prog_2_method_1_code 23 = .ok (.newarray .long, 2) := by decide +kernel
theorem d_Curve_init_25 : decode prog_2_method_1_code 25 = .ok (.putfield 18, 3) := by decide +kernel
theorem d_Curve_init_28 : decode prog_2_method_1_code 28 = .ok (.aload_n 0, 1) := by decide +kernel
theorem d_Curve_init_29 : decode prog_2_method_1_code 29 = .ok (.bipush 14, 2) := by decide +kernel
theorem d_Curve_init_31 : decode prog_2_method_1_code 31 = .ok (.newarray .long, 2) := by decide +kernel
theorem d_Curve_init_33 : decode prog_2_method_1_code 33 = .ok (.putfield 21, 3) := by decide +kernel
theorem d_Curve_init_36 : decode prog_2_method_1_code 36 = .ok (.aload_n 0, 1) := by decide +kernel
theorem d_Curve_init_37 : decode prog_2_method_1_code 37 = .ok (.bipush 14, 2) := by decide +kernel
theorem d_Curve_init_39 : decode prog_2_method_1_code 39 = .ok (.newarray .long, 2) := by decide +kernel
theorem d_Curve_init_41 : decode prog_2_method_1_code 41 = .ok (.putfield 24, 3) := by decide +kernel
theorem d_Curve_init_44 : decode prog_2_method_1_code 44 = .ok (.aload_n 0, 1) := by decide +kernel
theorem d_Curve_init_45 : decode prog_2_method_1_code 45 = .ok (.bipush 14, 2) := by decide +kernel
theorem d_Curve_init_47 : decode prog_2_method_1_code 47 = .ok (.newarray .long, 2) := by decide +kernel
theorem d_Curve_init_49 : decode prog_2_method_1_code 49 = .ok (.putfield 27, 3) := by decide +kernel
theorem d_Curve_init_52 : decode prog_2_method_1_code 52 = .ok (.aload_n 0, 1) := by decide +kernel
theorem d_Curve_init_53 : decode prog_2_method_1_code 53 = .ok (.bipush 14, 2) := by decide +kernel
theorem d_Curve_init_55 : decode prog_2_method_1_code 55 = .ok (.newarray .long, 2) := by decide +kernel
theorem d_Curve_init_57 : decode prog_2_method_1_code 57 = .ok (.putfield 30, 3) := by decide +kernel
theorem d_Curve_init_60 : decode prog_2_method_1_code 60 = .ok (.aload_n 0, 1) := by decide +kernel
theorem d_Curve_init_61 : decode prog_2_method_1_code 61 = .ok (.bipush 14, 2) := by decide +kernel
theorem d_Curve_init_63 : decode prog_2_method_1_code 63 = .ok (.newarray .long, 2) := by decide +kernel
theorem d_Curve_init_65 : decode prog_2_method_1_code 65 = .ok (.putfield 33, 3) := by decide +kernel
theorem d_Curve_init_68 : decode prog_2_method_1_code 68 = .ok (.aload_n 0, 1) := by decide +kernel
theorem d_Curve_init_69 : decode prog_2_method_1_code 69 = .ok (.bipush 14, 2) := by decide +kernel
theorem d_Curve_init_71 : decode prog_2_method_1_code 71 = .ok (.newarray .long, 2) := by decide +kernel
theorem d_Curve_init_73 : decode prog_2_method_1_code 73 = .ok (.putfield 36, 3) := by decide +kernel
theorem d_Curve_init_76 : decode prog_2_method_1_code 76 = .ok (.aload_n 0, 1) := by decide +kernel
theorem d_Curve_init_77 : decode prog_2_method_1_code 77 = .ok (.aload_n 1, 1) := by decide +kernel
theorem d_Curve_init_78 : decode prog_2_method_1_code 78 = .ok (.putfield 39, 3) := by decide +kernel
theorem d_Curve_init_81 : decode prog_2_method_1_code 81 = .ok (.return_, 1) := by decide +kernel
set_option maxHeartbeats 4000000 in
set_option maxRecDepth 100000 in
theorem c_Point_init (l : Launch) (g : WG) (n0 : Nat → Prop) (o : Nat) (hna : ∀ q, o ≤ q → q ≤ o + 3 → n0 q) : Ctr l y_Point_init (.code y_Point_init prog_6_method_1_code 1 none) 1 40 3 42 n0 g [.ref o] (fun H => OB g H o 2 [.null, .null, .null] ∧ H.size = o + 1) (QV (fun H H' => (OB g H' o 2 [.ref (o + 1), .ref (o + 2), .ref (o + 3)] ∧ AJ g H' (o + 1) 14 (fun _ => 0) ∧ AJ g H' (o + 2) 14 (vp_updL (fun _ => 0) 0 1) ∧ AJ g H' (o + 3) 14 (fun _ => 0)) ∧ H'.size = o + 4 ∧ ∀ q, q < o → H'[q]? = H[q]?)) := by
  refine ctr_mk l (lv0 := [(0, .ref o)]) (by decide) (Nat.le_of_ble_eq_true rfl) rfl ?_
  intro p e s m below meth c ls E hr hlk hnm hl hP
  have hx := E.1
  have hb := E.2.1
  have hK := E.2.2.2.2.2
  have hF : ∀ q ∈ ([] : List Loc), n0 q.base := fun q hq => absurd hq List.not_mem_nil
  obtain ⟨ho, hsz⟩ := hP
  have hlow : ∀ q, q < o → s.heap[q]? = s.heap[q]? := fun _ _ => rfl
  have na0 : n0 (o + 0) := hna _ (by omega) (by omega)
  have na1 : n0 (o + 1) := hna _ (by omega) (by omega)
  have na2 : n0 (o + 2) := hna _ (by omega) (by omega)
  have na3 : n0 (o + 3) := hna _ (by omega) (by omega)
  refine lv_aload_n hx hb d_Point_init_0 rfl (lv_at hl 0 rfl) ?_
  refine W.objInit hx hb E.2.2.2.1 (E.2.2.2.2.1 _ w_44) (E.2.2.2.2.1 _ w_31) (E.2.2.2.2.1 _ w_32) rfl (by rw [E.2.2.1]; exact hl.1) rfl d_Point_init_1 (Nat.le_of_ble_eq_true rfl) (Nat.le_of_ble_eq_true rfl) ?_
  refine lv_aload_n hx hb d_Point_init_4 rfl (lv_at hl 0 rfl) ?_
  refine lv_bipush (v := nI 14) hx hb d_Point_init_5 (by decide) ?_
  refine q_newJ E 14 rfl (by decide) w_64 (by decide) (by decide) hsz d_Point_init_7 (fun H1 hsz2 hnw h_1 => ?_)
  have hsz : H1.size = o + 2 := hsz2
  clear hsz2
  have ho := ho.eq (hnw o (k_mo (by decide)))
  have hlow : ∀ q, q < o → H1[q]? = s.heap[q]? := fun q hq9 => (hnw q (k_lt hq9)).trans (hlow q hq9)
  clear hnw
  refine q_putF (C := "KateDesk$Point") (T := T_Point) (N := 3) (ci := 2) (ty := .array (.long)) E ho in_Point ty_Point tyok_Point nm_Point rfl 0 (by decide) w_45 rfl rfl hnm rfl (by decide +kernel) rfl rfl (Nat.le_of_ble_eq_true rfl) na0 hF d_Point_init_9 (fun H2 locs hq ho2 hF => ?_)
  have hsz : H2.size = o + 2 := hq.1.trans hsz
  have ho := ho2
  have h_1 := AJ.off hq (show ¬ o + 1 = o from k_m (by decide)) h_1
  have hlow : ∀ q, q < o → H2[q]? = s.heap[q]? := fun q hq9 => (hq.2 q (show ¬ q = o from Nat.ne_of_lt hq9)).trans (hlow q hq9)
  clear hq ho2
  refine lv_aload_n hx hb d_Point_init_12 rfl (lv_at hl 0 rfl) ?_
  refine lv_bipush (v := nI 14) hx hb d_Point_init_13 (by decide) ?_
  refine q_newJ E 14 rfl (by decide) w_64 (by decide) (by decide) hsz d_Point_init_15 (fun H3 hsz2 hnw h_2 => ?_)
  have hsz : H3.size = o + 3 := hsz2
  clear hsz2
  have ho := ho.eq (hnw o (k_mo (by decide)))
  have h_1 := h_1.eq (hnw _ (Nat.add_lt_add_left (by decide) _))
  have hlow : ∀ q, q < o → H3[q]? = s.heap[q]? := fun q hq9 => (hnw q (k_lt hq9)).trans (hlow q hq9)
  clear hnw
  refine q_putF (C := "KateDesk$Point") (T := T_Point) (N := 3) (ci := 2) (ty := .array (.long)) E ho in_Point ty_Point tyok_Point nm_Point rfl 1 (by decide) w_49 rfl rfl hnm rfl (by decide +kernel) rfl rfl (Nat.le_of_ble_eq_true rfl) na0 hF d_Point_init_17 (fun H4 locs hq ho2 hF => ?_)
  have hsz : H4.size = o + 3 := hq.1.trans hsz
  have ho := ho2
  have h_1 := AJ.off hq (show ¬ o + 1 = o from k_m (by decide)) h_1
  have h_2 := AJ.off hq (show ¬ o + 2 = o from k_m (by decide)) h_2
  have hlow : ∀ q, q < o → H4[q]? = s.heap[q]? := fun q hq9 => (hq.2 q (show ¬ q = o from Nat.ne_of_lt hq9)).trans (hlow q hq9)
  clear hq ho2
  refine lv_aload_n hx hb d_Point_init_20 rfl (lv_at hl 0 rfl) ?_
  refine lv_bipush (v := nI 14) hx hb d_Point_init_21 (by decide) ?_
  refine q_newJ E 14 rfl (by decide) w_64 (by decide) (by decide) hsz d_Point_init_23 (fun H5 hsz2 hnw h_3 => ?_)
  have hsz : H5.size = o + 4 := hsz2
  clear hsz2
  have ho := ho.eq (hnw o (k_mo (by decide)))
  have h_1 := h_1.eq (hnw _ (Nat.add_lt_add_left (by decide) _))
  have h_2 := h_2.eq (hnw _ (Nat.add_lt_add_left (by decide) _))
  have hlow : ∀ q, q < o → H5[q]? = s.heap[q]? := fun q hq9 => (hnw q (k_lt hq9)).trans (hlow q hq9)
  clear hnw
  refine q_putF (C := "KateDesk$Point") (T := T_Point) (N := 3) (ci := 2) (ty := .array (.long)) E ho in_Point ty_Point tyok_Point nm_Point rfl 2 (by decide) w_53 rfl rfl hnm rfl (by decide +kernel) rfl rfl (Nat.le_of_ble_eq_true rfl) na0 hF d_Point_init_25 (fun H6 locs hq ho2 hF => ?_)
  have hsz : H6.size = o + 4 := hq.1.trans hsz
  have ho := ho2
  have h_1 := AJ.off hq (show ¬ o + 1 = o from k_m (by decide)) h_1
  have h_2 := AJ.off hq (show ¬ o + 2 = o from k_m (by decide)) h_2
  have h_3 := AJ.off hq (show ¬ o + 3 = o from k_m (by decide)) h_3
  have hlow : ∀ q, q < o → H6[q]? = s.heap[q]? := fun q hq9 => (hq.2 q (show ¬ q = o from Nat.ne_of_lt hq9)).trans (hlow q hq9)
  clear hq ho2
  refine lv_aload_n hx hb d_Point_init_28 rfl (lv_at hl 0 rfl) ?_
  refine q_get (C := "KateDesk$Point") (T := T_Point) (N := 3) (ci := 2) E ho in_Point rfl 1 (by decide) w_49 rfl rfl d_Point_init_29 ?_
  refine lv_iconst (v := nI 0) hx hb d_Point_init_32 (by decide) ?_
  refine lv_lconst (v := 1) hx hb d_Point_init_33 (by decide) ?_
  refine q_last E h_2 na2 hF 0 rfl (by decide) (by decide) d_Point_init_34 (fun H7 locs hq hA9 hF => ?_)
  have ho := hq.ob hK ho
  have h_1 := hq.ajo (show ¬ o + 1 = o + 2 from k_ne (by decide)) h_1
  have h_3 := hq.ajo (show ¬ o + 3 = o + 2 from k_ne (by decide)) h_3
  exact q_vret E hr hlk (⟨rfl, ⟨ho, h_1, hA9, h_3⟩, hq.1.trans hsz, fun q hq9 => (hq.off (show ¬ q = o + 2 from k_q hq9)).trans (hlow q hq9)⟩) hF d_Point_init_35
set_option maxHeartbeats 4000000 in
set_option maxRecDepth 100000 in
theorem c_Curve_init (l : Launch) (g : WG) (n0 : Nat → Prop) (o : Nat) (fo : Nat) (hna : ∀ q, o ≤ q → q ≤ o + 9 → n0 q) : Ctr l y_Curve_init (.code y_Curve_init prog_2_method_1_code 2 none) 1 40 9 126 n0 g [.ref o, .ref fo] (fun H => OB g H o 0 [.null, .null, .null, .null, .null, .null, .null, .null, .null, .null] ∧ H.size = o + 1) (QV (fun H H' => (OB g H' o 0 [.ref fo, .ref (o + 1), .ref (o + 2), .ref (o + 3), .ref (o + 4), .ref (o + 5), .ref (o + 6), .ref (o + 7), .ref (o + 8), .ref (o + 9)] ∧ AJ g H' (o + 1) 14 (fun _ => 0) ∧ AJ g H' (o + 2) 14 (fun _ => 0) ∧ AJ g H' (o + 3) 14 (fun _ => 0) ∧ AJ g H' (o + 4) 14 (fun _ => 0) ∧ AJ g H' (o + 5) 14 (fun _ => 0) ∧ AJ g H' (o + 6) 14 (fun _ => 0) ∧ AJ g H' (o + 7) 14 (fun _ => 0) ∧ AJ g H' (o + 8) 14 (fun _ => 0) ∧ AJ g H' (o + 9) 14 (fun _ => 0)) ∧ H'.size = o + 10 ∧ ∀ q, q < o → H'[q]? = H[q]?)) := by
  refine ctr_mk l (lv0 := [(0, .ref o), (1, .ref fo)]) (by decide) (Nat.le_of_ble_eq_true rfl) rfl ?_
  intro p e s m below meth c ls E hr hlk hnm hl hP
  have hx := E.1
  have hb := E.2.1
  have hK := E.2.2.2.2.2
  have hF : ∀ q ∈ ([] : List Loc), n0 q.base := fun q hq => absurd hq List.not_mem_nil
  obtain ⟨ho, hsz⟩ := hP
  have hlow : ∀ q, q < o → s.heap[q]? = s.heap[q]? := fun _ _ => rfl
  have na0 : n0 (o + 0) := hna _ (by omega) (by omega)
  have na1 : n0 (o + 1) := hna _ (by omega) (by omega)
  have na2 : n0 (o + 2) := hna _ (by omega) (by omega)
  have na3 : n0 (o + 3) := hna _ (by omega) (by omega)
  have na4 : n0 (o + 4) := hna _ (by omega) (by omega)
  have na5 : n0 (o + 5) := hna _ (by omega) (by omega)
  have na6 : n0 (o + 6) := hna _ (by omega) (by omega)
  have na7 : n0 (o + 7) := hna _ (by omega) (by omega)
  have na8 : n0 (o + 8) := hna _ (by omega) (by omega)
  have na9 : n0 (o + 9) := hna _ (by omega) (by omega)
  refine lv_aload_n hx hb d_Curve_init_0 rfl (lv_at hl 0 rfl) ?_
  refine W.objInit hx hb E.2.2.2.1 (E.2.2.2.2.1 _ w_204) (E.2.2.2.2.1 _ w_31) (E.2.2.2.2.1 _ w_32) rfl (by rw [E.2.2.1]; exact hl.1) rfl d_Curve_init_1 (Nat.le_of_ble_eq_true rfl) (Nat.le_of_ble_eq_true rfl) ?_
  refine lv_aload_n hx hb d_Curve_init_4 rfl (lv_at hl 0 rfl) ?_
  refine lv_bipush (v := nI 14) hx hb d_Curve_init_5 (by decide) ?_
  refine q_newJ E 14 rfl (by decide) w_64 (by decide) (by decide) hsz d_Curve_init_7 (fun H1 hsz2 hnw h_1 => ?_)
  have hsz : H1.size = o + 2 := hsz2
  clear hsz2
  have ho := ho.eq (hnw o (k_mo (by decide)))
  have hlow : ∀ q, q < o → H1[q]? = s.heap[q]? := fun q hq9 => (hnw q (k_lt hq9)).trans (hlow q hq9)
  clear hnw
  refine q_putF (C := "KateDesk$Curve") (T := T_Curve) (N := 10) (ci := 0) (ty := .array (.long)) E ho in_Curve ty_Curve tyok_Curve nm_Curve rfl 1 (by decide) w_206 rfl rfl hnm rfl (by decide +kernel) rfl rfl (Nat.le_of_ble_eq_true rfl) na0 hF d_Curve_init_9 (fun H2 locs hq ho2 hF => ?_)
  have hsz : H2.size = o + 2 := hq.1.trans hsz
  have ho := ho2
  have h_1 := AJ.off hq (show ¬ o + 1 = o from k_m (by decide)) h_1
  have hlow : ∀ q, q < o → H2[q]? = s.heap[q]? := fun q hq9 => (hq.2 q (show ¬ q = o from Nat.ne_of_lt hq9)).trans (hlow q hq9)
  clear hq ho2
  refine lv_aload_n hx hb d_Curve_init_12 rfl (lv_at hl 0 rfl) ?_
  refine lv_bipush (v := nI 14) hx hb d_Curve_init_13 (by decide) ?_
  refine q_newJ E 14 rfl (by decide) w_64 (by decide) (by decide) hsz d_Curve_init_15 (fun H3 hsz2 hnw h_2 => ?_)
  have hsz : H3.size = o + 3 := hsz2
  clear hsz2
  have ho := ho.eq (hnw o (k_mo (by decide)))
  have h_1 := h_1.eq (hnw _ (Nat.add_lt_add_left (by decide) _))
  have hlow : ∀ q, q < o → H3[q]? = s.heap[q]? := fun q hq9 => (hnw q (k_lt hq9)).trans (hlow q hq9)
  clear hnw
  refine q_putF (C := "KateDesk$Curve") (T := T_Curve) (N := 10) (ci := 0) (ty := .array (.long)) E ho in_Curve ty_Curve tyok_Curve nm_Curve rfl 2 (by decide) w_207 rfl rfl hnm rfl (by decide +kernel) rfl rfl (Nat.le_of_ble_eq_true rfl) na0 hF d_Curve_init_17 (fun H4 locs hq ho2 hF => ?_)
  have hsz : H4.size = o + 3 := hq.1.trans hsz
  have ho := ho2
  have h_1 := AJ.off hq (show ¬ o + 1 = o from k_m (by decide)) h_1
  have h_2 := AJ.off hq (show ¬ o + 2 = o from k_m (by decide)) h_2
  have hlow : ∀ q, q < o → H4[q]? = s.heap[q]? := fun q hq9 => (hq.2 q (show ¬ q = o from Nat.ne_of_lt hq9)).trans (hlow q hq9)
  clear hq ho2
  refine lv_aload_n hx hb d_Curve_init_20 rfl (lv_at hl 0 rfl) ?_
  refine lv_bipush (v := nI 14) hx hb d_Curve_init_21 (by decide) ?_
  refine q_newJ E 14 rfl (by decide) w_64 (by decide) (by decide) hsz d_Curve_init_23 (fun H5 hsz2 hnw h_3 => ?_)
  have hsz : H5.size = o + 4 := hsz2
  clear hsz2
  have ho := ho.eq (hnw o (k_mo (by decide)))
  have h_1 := h_1.eq (hnw _ (Nat.add_lt_add_left (by decide) _))
  have h_2 := h_2.eq (hnw _ (Nat.add_lt_add_left (by decide) _))
  have hlow : ∀ q, q < o → H5[q]? = s.heap[q]? := fun q hq9 => (hnw q (k_lt hq9)).trans (hlow q hq9)
  clear hnw
  refine q_putF (C := "KateDesk$Curve") (T := T_Curve) (N := 10) (ci := 0) (ty := .array (.long)) E ho in_Curve ty_Curve tyok_Curve nm_Curve rfl 3 (by decide) w_208 rfl rfl hnm rfl (by decide +kernel) rfl rfl (Nat.le_of_ble_eq_true rfl) na0 hF d_Curve_init_25 (fun H6 locs hq ho2 hF => ?_)
  have hsz : H6.size = o + 4 := hq.1.trans hsz
  have ho := ho2
  have h_1 := AJ.off hq (show ¬ o + 1 = o from k_m (by decide)) h_1
  have h_2 := AJ.off hq (show ¬ o + 2 = o from k_m (by decide)) h_2
  have h_3 := AJ.off hq (show ¬ o + 3 = o from k_m (by decide)) h_3
  have hlow : ∀ q, q < o → H6[q]? = s.heap[q]? := fun q hq9 => (hq.2 q (show ¬ q = o from Nat.ne_of_lt hq9)).trans (hlow q hq9)
  clear hq ho2
  refine lv_aload_n hx hb d_Curve_init_28 rfl (lv_at hl 0 rfl) ?_
  refine lv_bipush (v := nI 14) hx hb d_Curve_init_29 (by decide) ?_
  refine q_newJ E 14 rfl (by decide) w_64 (by decide) (by decide) hsz d_Curve_init_31 (fun H7 hsz2 hnw h_4 => ?_)
  have hsz : H7.size = o + 5 := hsz2
  clear hsz2
  have ho := ho.eq (hnw o (k_mo (by decide)))
  have h_1 := h_1.eq (hnw _ (Nat.add_lt_add_left (by decide) _))
  have h_2 := h_2.eq (hnw _ (Nat.add_lt_add_left (by decide) _))
  have h_3 := h_3.eq (hnw _ (Nat.add_lt_add_left (by decide) _))
  have hlow : ∀ q, q < o → H7[q]? = s.heap[q]? := fun q hq9 => (hnw q (k_lt hq9)).trans (hlow q hq9)
  clear hnw
  refine q_putF (C := "KateDesk$Curve") (T := T_Curve) (N := 10) (ci := 0) (ty := .array (.long)) E ho in_Curve ty_Curve tyok_Curve nm_Curve rfl 4 (by decide) w_209 rfl rfl hnm rfl (by decide +kernel) rfl rfl (Nat.le_of_ble_eq_true rfl) na0 hF d_Curve_init_33 (fun H8 locs hq ho2 hF => ?_)
  have hsz : H8.size = o + 5 := hq.1.trans hsz
  have ho := ho2
  have h_1 := AJ.off hq (show ¬ o + 1 = o from k_m (by decide)) h_1
  have h_2 := AJ.off hq (show ¬ o + 2 = o from k_m (by decide)) h_2
  have h_3 := AJ.off hq (show ¬ o + 3 = o from k_m (by decide)) h_3
  have h_4 := AJ.off hq (show ¬ o + 4 = o from k_m (by decide)) h_4
  have hlow : ∀ q, q < o → H8[q]? = s.heap[q]? := fun q hq9 => (hq.2 q (show ¬ q = o from Nat.ne_of_lt hq9)).trans (hlow q hq9)
  clear hq ho2
  refine lv_aload_n hx hb d_Curve_init_36 rfl (lv_at hl 0 rfl) ?_
  refine lv_bipush (v := nI 14) hx hb d_Curve_init_37 (by decide) ?_
  refine q_newJ E 14 rfl (by decide) w_64 (by decide) (by decide) hsz d_Curve_init_39 (fun H9 hsz2 hnw h_5 => ?_)
  have hsz : H9.size = o + 6 := hsz2
  clear hsz2
  have ho := ho.eq (hnw o (k_mo (by decide)))
  have h_1 := h_1.eq (hnw _ (Nat.add_lt_add_left (by decide) _))
  have h_2 := h_2.eq (hnw _ (Nat.add_lt_add_left (by decide) _))
  have h_3 := h_3.eq (hnw _ (Nat.add_lt_add_left (by decide) _))
  have h_4 := h_4.eq (hnw _ (Nat.add_lt_add_left (by decide) _))
  have hlow : ∀ q, q < o → H9[q]? = s.heap[q]? := fun q hq9 => (hnw q (k_lt hq9)).trans (hlow q hq9)
  clear hnw
  refine q_putF (C := "KateDesk$Curve") (T := T_Curve) (N := 10) (ci := 0) (ty := .array (.long)) E ho in_Curve ty_Curve tyok_Curve nm_Curve rfl 5 (by decide) w_210 rfl rfl hnm rfl (by decide +kernel) rfl rfl (Nat.le_of_ble_eq_true rfl) na0 hF d_Curve_init_41 (fun H10 locs hq ho2 hF => ?_)
  have hsz : H10.size = o + 6 := hq.1.trans hsz
  have ho := ho2
  have h_1 := AJ.off hq (show ¬ o + 1 = o from k_m (by decide)) h_1
  have h_2 := AJ.off hq (show ¬ o + 2 = o from k_m (by decide)) h_2
  have h_3 := AJ.off hq (show ¬ o + 3 = o from k_m (by decide)) h_3
  have h_4 := AJ.off hq (show ¬ o + 4 = o from k_m (by decide)) h_4
  have h_5 := AJ.off hq (show ¬ o + 5 = o from k_m (by decide)) h_5
  have hlow : ∀ q, q < o → H10[q]? = s.heap[q]? := fun q hq9 => (hq.2 q (show ¬ q = o from Nat.ne_of_lt hq9)).trans (hlow q hq9)
  clear hq ho2
  refine lv_aload_n hx hb d_Curve_init_44 rfl (lv_at hl 0 rfl) ?_
  refine lv_bipush (v := nI 14) hx hb d_Curve_init_45 (by decide) ?_
  refine q_newJ E 14 rfl (by decide) w_64 (by decide) (by decide) hsz d_Curve_init_47 (fun H11 hsz2 hnw h_6 => ?_)
  have hsz : H11.size = o + 7 := hsz2
  clear hsz2
  have ho := ho.eq (hnw o (k_mo (by decide)))
  have h_1 := h_1.eq (hnw _ (Nat.add_lt_add_left (by decide) _))
  have h_2 := h_2.eq (hnw _ (Nat.add_lt_add_left (by decide) _))
  have h_3 := h_3.eq (hnw _ (Nat.add_lt_add_left (by decide) _))
  have h_4 := h_4.eq (hnw _ (Nat.add_lt_add_left (by decide) _))
  have h_5 := h_5.eq (hnw _ (Nat.add_lt_add_left (by decide) _))
  have hlow : ∀ q, q < o → H11[q]? = s.heap[q]? := fun q hq9 => (hnw q (k_lt hq9)).trans (hlow q hq9)
  clear hnw
  refine q_putF (C := "KateDesk$Curve") (T := T_Curve) (N := 10) (ci := 0) (ty := .array (.long)) E ho in_Curve ty_Curve tyok_Curve nm_Curve rfl 6 (by decide) w_211 rfl rfl hnm rfl (by decide +kernel) rfl rfl (Nat.le_of_ble_eq_true rfl) na0 hF d_Curve_init_49 (fun H12 locs hq ho2 hF => ?_)
  have hsz : H12.size = o + 7 := hq.1.trans hsz
  have ho := ho2
  have h_1 := AJ.off hq (show ¬ o + 1 = o from k_m (by decide)) h_1
  have h_2 := AJ.off hq (show ¬ o + 2 = o from k_m (by decide)) h_2
  have h_3 := AJ.off hq (show ¬ o + 3 = o from k_m (by decide)) h_3
  have h_4 := AJ.off hq (show ¬ o + 4 = o from k_m (by decide)) h_4
  have h_5 := AJ.off hq (show ¬ o + 5 = o from k_m (by decide)) h_5
  have h_6 := AJ.off hq (show ¬ o + 6 = o from k_m (by decide)) h_6
  have hlow : ∀ q, q < o → H12[q]? = s.heap[q]? := fun q hq9 => (hq.2 q (show ¬ q = o from Nat.ne_of_lt hq9)).trans (hlow q hq9)
  clear hq ho2
  refine lv_aload_n hx hb d_Curve_init_52 rfl (lv_at hl 0 rfl) ?_
  refine lv_bipush (v := nI 14) hx hb d_Curve_init_53 (by decide) ?_
  refine q_newJ E 14 rfl (by decide) w_64 (by decide) (by decide) hsz d_Curve_init_55 (fun H13 hsz2 hnw h_7 => ?_)
  have hsz : H13.size = o + 8 := hsz2
  clear hsz2
  have ho := ho.eq (hnw o (k_mo (by decide)))
  have h_1 := h_1.eq (hnw _ (Nat.add_lt_add_left (by decide) _))
  have h_2 := h_2.eq (hnw _ (Nat.add_lt_add_left (by decide) _))
  have h_3 := h_3.eq (hnw _ (Nat.add_lt_add_left (by decide) _))
  have h_4 := h_4.eq (hnw _ (Nat.add_lt_add_left (by decide) _))
  have h_5 := h_5.eq (hnw _ (Nat.add_lt_add_left (by decide) _))
  have h_6 := h_6.eq (hnw _ (Nat.add_lt_add_left (by decide) _))
  have hlow : ∀ q, q < o → H13[q]? = s.heap[q]? := fun q hq9 => (hnw q (k_lt hq9)).trans (hlow q hq9)
  clear hnw
  refine q_putF (C := "KateDesk$Curve") (T := T_Curve) (N := 10) (ci := 0) (ty := .array (.long)) E ho in_Curve ty_Curve tyok_Curve nm_Curve rfl 7 (by decide) w_212 rfl rfl hnm rfl (by decide +kernel) rfl rfl (Nat.le_of_ble_eq_true rfl) na0 hF d_Curve_init_57 (fun H14 locs hq ho2 hF => ?_)
  have hsz : H14.size = o + 8 := hq.1.trans hsz
  have ho := ho2
  have h_1 := AJ.off hq (show ¬ o + 1 = o from k_m (by decide)) h_1
  have h_2 := AJ.off hq (show ¬ o + 2 = o from k_m (by decide)) h_2
  have h_3 := AJ.off hq (show ¬ o + 3 = o from k_m (by decide)) h_3
  have h_4 := AJ.off hq (show ¬ o + 4 = o from k_m (by decide)) h_4
  have h_5 := AJ.off hq (show ¬ o + 5 = o from k_m (by decide)) h_5
  have h_6 := AJ.off hq (show ¬ o + 6 = o from k_m (by decide)) h_6
  have h_7 := AJ.off hq (show ¬ o + 7 = o from k_m (by decide)) h_7
  have hlow : ∀ q, q < o → H14[q]? = s.heap[q]? := fun q hq9 => (hq.2 q (show ¬ q = o from Nat.ne_of_lt hq9)).trans (hlow q hq9)
  clear hq ho2
  refine lv_aload_n hx hb d_Curve_init_60 rfl (lv_at hl 0 rfl) ?_
  refine lv_bipush (v := nI 14) hx hb d_Curve_init_61 (by decide) ?_
  refine q_newJ E 14 rfl (by decide) w_64 (by decide) (by decide) hsz d_Curve_init_63 (fun H15 hsz2 hnw h_8 => ?_)
  have hsz : H15.size = o + 9 := hsz2
  clear hsz2
  have ho := ho.eq (hnw o (k_mo (by decide)))
  have h_1 := h_1.eq (hnw _ (Nat.add_lt_add_left (by decide) _))
  have h_2 := h_2.eq (hnw _ (Nat.add_lt_add_left (by decide) _))
  have h_3 := h_3.eq (hnw _ (Nat.add_lt_add_left (by decide) _))
  have h_4 := h_4.eq (hnw _ (Nat.add_lt_add_left (by decide) _))
  have h_5 := h_5.eq (hnw _ (Nat.add_lt_add_left (by decide) _))
  have h_6 := h_6.eq (hnw _ (Nat.add_lt_add_left (by decide) _))
  have h_7 := h_7.eq (hnw _ (Nat.add_lt_add_left (by decide) _))
  have hlow : ∀ q, q < o → H15[q]? = s.heap[q]? := fun q hq9 => (hnw q (k_lt hq9)).trans (hlow q hq9)
  clear hnw
  refine q_putF (C := "KateDesk$Curve") (T := T_Curve) (N := 10) (ci := 0) (ty := .array (.long)) E ho in_Curve ty_Curve tyok_Curve nm_Curve rfl 8 (by decide) w_213 rfl rfl hnm rfl (by decide +kernel) rfl rfl (Nat.le_of_ble_eq_true rfl) na0 hF d_Curve_init_65 (fun H16 locs hq ho2 hF => ?_)
  have hsz : H16.size = o + 9 := hq.1.trans hsz
  have ho := ho2
  have h_1 := AJ.off hq (show ¬ o + 1 = o from k_m (by decide)) h_1
  have h_2 := AJ.off hq (show ¬ o + 2 = o from k_m (by decide)) h_2
  have h_3 := AJ.off hq (show ¬ o + 3 = o from k_m (by decide)) h_3
  have h_4 := AJ.off hq (show ¬ o + 4 = o from k_m (by decide)) h_4
  have h_5 := AJ.off hq (show ¬ o + 5 = o from k_m (by decide)) h_5
  have h_6 := AJ.off hq (show ¬ o + 6 = o from k_m (by decide)) h_6
  have h_7 := AJ.off hq (show ¬ o + 7 = o from k_m (by decide)) h_7
  have h_8 := AJ.off hq (show ¬ o + 8 = o from k_m (by decide)) h_8
  have hlow : ∀ q, q < o → H16[q]? = s.heap[q]? := fun q hq9 => (hq.2 q (show ¬ q = o from Nat.ne_of_lt hq9)).trans (hlow q hq9)
  clear hq ho2
  refine lv_aload_n hx hb d_Curve_init_68 rfl (lv_at hl 0 rfl) ?_
  refine lv_bipush (v := nI 14) hx hb d_Curve_init_69 (by decide) ?_
  refine q_newJ E 14 rfl (by decide) w_64 (by decide) (by decide) hsz d_Curve_init_71 (fun H17 hsz2 hnw h_9 => ?_)
  have hsz : H17.size = o + 10 := hsz2
  clear hsz2
  have ho := ho.eq (hnw o (k_mo (by decide)))
  have h_1 := h_1.eq (hnw _ (Nat.add_lt_add_left (by decide) _))
  have h_2 := h_2.eq (hnw _ (Nat.add_lt_add_left (by decide) _))
  have h_3 := h_3.eq (hnw _ (Nat.add_lt_add_left (by decide) _))
  have h_4 := h_4.eq (hnw _ (Nat.add_lt_add_left (by decide) _))
  have h_5 := h_5.eq (hnw _ (Nat.add_lt_add_left (by decide) _))
  have h_6 := h_6.eq (hnw _ (Nat.add_lt_add_left (by decide) _))
  have h_7 := h_7.eq (hnw _ (Nat.add_lt_add_left (by decide) _))
  have h_8 := h_8.eq (hnw _ (Nat.add_lt_add_left (by decide) _))
  have hlow : ∀ q, q < o → H17[q]? = s.heap[q]? := fun q hq9 => (hnw q (k_lt hq9)).trans (hlow q hq9)
  clear hnw
  refine q_putF (C := "KateDesk$Curve") (T := T_Curve) (N := 10) (ci := 0) (ty := .array (.long)) E ho in_Curve ty_Curve tyok_Curve nm_Curve rfl 9 (by decide) w_214 rfl rfl hnm rfl (by decide +kernel) rfl rfl (Nat.le_of_ble_eq_true rfl) na0 hF d_Curve_init_73 (fun H18 locs hq ho2 hF => ?_)
  have hsz : H18.size = o + 10 := hq.1.trans hsz
  have ho := ho2
  have h_1 := AJ.off hq (show ¬ o + 1 = o from k_m (by decide)) h_1
  have h_2 := AJ.off hq (show ¬ o + 2 = o from k_m (by decide)) h_2
  have h_3 := AJ.off hq (show ¬ o + 3 = o from k_m (by decide)) h_3
  have h_4 := AJ.off hq (show ¬ o + 4 = o from k_m (by decide)) h_4
  have h_5 := AJ.off hq (show ¬ o + 5 = o from k_m (by decide)) h_5
  have h_6 := AJ.off hq (show ¬ o + 6 = o from k_m (by decide)) h_6
  have h_7 := AJ.off hq (show ¬ o + 7 = o from k_m (by decide)) h_7
  have h_8 := AJ.off hq (show ¬ o + 8 = o from k_m (by decide)) h_8
  have h_9 := AJ.off hq (show ¬ o + 9 = o from k_m (by decide)) h_9
  have hlow : ∀ q, q < o → H18[q]? = s.heap[q]? := fun q hq9 => (hq.2 q (show ¬ q = o from Nat.ne_of_lt hq9)).trans (hlow q hq9)
  clear hq ho2
  refine lv_aload_n hx hb d_Curve_init_76 rfl (lv_at hl 0 rfl) ?_
  refine lv_aload_n hx hb d_Curve_init_77 rfl (lv_at hl 1 rfl) ?_
  refine q_putF (C := "KateDesk$Curve") (T := T_Curve) (N := 10) (ci := 0) (ty := .object "KateDesk$Field") E ho in_Curve ty_Curve tyok_Curve nm_Curve rfl 0 (by decide) w_205 rfl rfl hnm rfl (by decide +kernel) rfl rfl (Nat.le_of_ble_eq_true rfl) na0 hF d_Curve_init_78 (fun H19 locs hq ho2 hF => ?_)
  have hsz : H19.size = o + 10 := hq.1.trans hsz
  have ho := ho2
  have h_1 := AJ.off hq (show ¬ o + 1 = o from k_m (by decide)) h_1
  have h_2 := AJ.off hq (show ¬ o + 2 = o from k_m (by decide)) h_2
  have h_3 := AJ.off hq (show ¬ o + 3 = o from k_m (by decide)) h_3
  have h_4 := AJ.off hq (show ¬ o + 4 = o from k_m (by decide)) h_4
  have h_5 := AJ.off hq (show ¬ o + 5 = o from k_m (by decide)) h_5
  have h_6 := AJ.off hq (show ¬ o + 6 = o from k_m (by decide)) h_6
  have h_7 := AJ.off hq (show ¬ o + 7 = o from k_m (by decide)) h_7
  have h_8 := AJ.off hq (show ¬ o + 8 = o from k_m (by decide)) h_8
  have h_9 := AJ.off hq (show ¬ o + 9 = o from k_m (by decide)) h_9
  have hlow : ∀ q, q < o → H19[q]? = s.heap[q]? := fun q hq9 => (hq.2 q (show ¬ q = o from Nat.ne_of_lt hq9)).trans (hlow q hq9)
  clear hq ho2
  exact q_vret E hr hlk (⟨rfl, ⟨ho, h_1, h_2, h_3, h_4, h_5, h_6, h_7, h_8, h_9⟩, hsz, hlow⟩) hF d_Curve_init_81
