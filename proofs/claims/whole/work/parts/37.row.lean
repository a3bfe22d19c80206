abbrev y_Row_append : MethodName := ⟨"KateDesk$Row", "append", "(I)V"⟩
theorem hd_Row_append : y_Row_append.cls ≠ "java/lang/invoke/MethodHandle" ∧ y_Row_append.cls ≠ "java/lang/invoke/VarHandle" ∧ (parseMethodDescriptor y_Row_append.desc).map (fun d => d.parameters.length) = some 1 := by decide +kernel
theorem d_Row_append_0 : decode prog_8_method_2_code 0 = .ok (.aload_n 0, 1) := by decide +kernel
theorem d_Row_append_1 : decode prog_8_method_2_code 1 = .ok (.getfield 15, 3) := by decide +kernel
theorem d_Row_append_4 : decode prog_8_method_2_code 4 = .ok (.bipush 96, 2) := by decide +kernel
theorem d_Row_append_6 : decode prog_8_method_2_code 6 = .ok (.if_icmp .ge 24, 3) := by decide +kernel
theorem d_Row_append_9 : decode prog_8_method_2_code 9 = .ok (.aload_n 0, 1) := by decide +kernel
theorem d_Row_append_10 : decode prog_8_method_2_code 10 = .ok (.getfield 9, 3) := by decide +kernel
theorem d_Row_append_13 : decode prog_8_method_2_code 13 = .ok (.aload_n 0, 1) := by decide +kernel
theorem d_Row_append_14 : decode prog_8_method_2_code 14 = .ok (.getfield 15, 3) := by decide +kernel
theorem d_Row_append_17 : decode prog_8_method_2_code 17 = .ok (.iload_n 1, 1) := by decide +kernel
theorem d_Row_append_18 : decode prog_8_method_2_code 18 = .ok (.i2b, 1) := by decide +kernel
theorem d_Row_append_19 : decode prog_8_method_2_code 19 = .ok (.bastore, 1) := by decide +kernel
theorem d_Row_append_20 : decode prog_8_method_2_code 20 = .ok (.aload_n 0, 1) := by decide +kernel
theorem d_Row_append_21 : decode prog_8_method_2_code 21 = .ok (.dup, 1) := by decide +kernel
theorem d_Row_append_22 : decode prog_8_method_2_code 22 = .ok (.getfield 15, 3) := by decide +kernel
theorem d_Row_append_25 : decode prog_8_method_2_code 25 = .ok (.iconst 1, 1) := by decide +kernel
theorem d_Row_append_26 : decode prog_8_method_2_code 26 = .ok (.iadd, 1) := by decide +kernel
theorem d_Row_append_27 : decode prog_8_method_2_code 27 = .ok (.putfield 15, 3) := by decide +kernel
theorem d_Row_append_30 : decode prog_8_method_2_code 30 = .ok (.return_, 1) := by decide +kernel
abbrev y_Forms_read : MethodName := ⟨"KateDesk$Forms", "read", "(LKateDesk$Point;LKateDesk$Row;)I"⟩
theorem hd_Forms_read : y_Forms_read.cls ≠ "java/lang/invoke/MethodHandle" ∧ y_Forms_read.cls ≠ "java/lang/invoke/VarHandle" ∧ (parseMethodDescriptor y_Forms_read.desc).map (fun d => d.parameters.length) = some 2 := by decide +kernel
theorem d_Forms_read_0 : decode prog_4_method_2_code 0 = .ok (.aload_n 2, 1) := by decide +kernel
theorem d_Forms_read_1 : decode prog_4_method_2_code 1 = .ok (.getfield 41, 3) := by decide +kernel
theorem d_Forms_read_4 : decode prog_4_method_2_code 4 = .ok (.bipush 48, 2) := by decide +kernel
theorem d_Forms_read_6 : decode prog_4_method_2_code 6 = .ok (.if_icmp .eq 14, 3) := by decide +kernel
theorem d_Forms_read_9 : decode prog_4_method_2_code 9 = .ok (.aload_n 2, 1) := by decide +kernel
theorem d_Forms_read_10 : decode prog_4_method_2_code 10 = .ok (.getfield 41, 3) := by decide +kernel
theorem d_Forms_read_13 : decode prog_4_method_2_code 13 = .ok (.bipush 96, 2) := by decide +kernel
theorem d_Forms_read_15 : decode prog_4_method_2_code 15 = .ok (.if_icmp .eq 5, 3) := by decide +kernel
theorem d_Forms_read_18 : decode prog_4_method_2_code 18 = .ok (.iconst 1, 1) := by decide +kernel
theorem d_Forms_read_19 : decode prog_4_method_2_code 19 = .ok (.ireturn, 1) := by decide +kernel
theorem d_Forms_read_20 : decode prog_4_method_2_code 20 = .ok (.aload_n 2, 1) := by decide +kernel
abbrev y_Forms_write : MethodName := ⟨"KateDesk$Forms", "write", "(LKateDesk$Row;LKateDesk$Point;Z)V"⟩
theorem hd_Forms_write : y_Forms_write.cls ≠ "java/lang/invoke/MethodHandle" ∧ y_Forms_write.cls ≠ "java/lang/invoke/VarHandle" ∧ (parseMethodDescriptor y_Forms_write.desc).map (fun d => d.parameters.length) = some 3 := by decide +kernel
theorem d_Forms_write_0 : decode prog_4_method_8_code 0 = .ok (.iload_n 3, 1) := by decide +kernel
theorem d_Forms_write_1 : decode prog_4_method_8_code 1 = .ok (.ifCond .eq 7, 3) := by decide +kernel
theorem d_Forms_write_4 : decode prog_4_method_8_code 4 = .ok (.iconst 4, 1) := by decide +kernel
theorem d_Forms_write_5 : decode prog_4_method_8_code 5 = .ok (.goto 4, 3) := by decide +kernel
theorem d_Forms_write_8 : decode prog_4_method_8_code 8 = .ok (.iconst 0, 1) := by decide +kernel
theorem d_Forms_write_9 : decode prog_4_method_8_code 9 = .ok (.istore 4, 2) := by decide +kernel
theorem d_Forms_write_11 : decode prog_4_method_8_code 11 = .ok (.aload_n 1, 1) := by decide +kernel
theorem d_Forms_write_12 : decode prog_4_method_8_code 12 = .ok (.iconst 0, 1) := by decide +kernel
theorem d_Forms_write_13 : decode prog_4_method_8_code 13 = .ok (.putfield 41, 3) := by decide +kernel
theorem d_Forms_write_16 : decode prog_4_method_8_code 16 = .ok (.aload_n 2, 1) := by decide +kernel
theorem d_Forms_write_17 : decode prog_4_method_8_code 17 = .ok (.invokevirtual 128, 3) := by decide +kernel
theorem d_Forms_write_20 : decode prog_4_method_8_code 20 = .ok (.ifCond .eq 44, 3) := by decide +kernel
theorem d_Forms_write_23 : decode prog_4_method_8_code 23 = .ok (.aload_n 1, 1) := by decide +kernel
theorem d_Forms_write_24 : decode prog_4_method_8_code 24 = .ok (.iload 4, 2) := by decide +kernel
theorem d_Forms_write_26 : decode prog_4_method_8_code 26 = .ok (.iconst 2, 1) := by decide +kernel
theorem d_Forms_write_27 : decode prog_4_method_8_code 27 = .ok (.iadd, 1) := by decide +kernel
theorem d_Forms_write_28 : decode prog_4_method_8_code 28 = .ok (.iconst 5, 1) := by decide +kernel
theorem d_Forms_write_29 : decode prog_4_method_8_code 29 = .ok (.ishl, 1) := by decide +kernel
theorem d_Forms_write_30 : decode prog_4_method_8_code 30 = .ok (.invokevirtual 132, 3) := by decide +kernel
theorem d_Forms_write_33 : decode prog_4_method_8_code 33 = .ok (.iconst 1, 1) := by decide +kernel
theorem d_Forms_write_34 : decode prog_4_method_8_code 34 = .ok (.istore 5, 2) := by decide +kernel
theorem d_Forms_write_36 : decode prog_4_method_8_code 36 = .ok (.iload 5, 2) := by decide +kernel
theorem d_Forms_write_38 : decode prog_4_method_8_code 38 = .ok (.iload_n 3, 1) := by decide +kernel
theorem d_Forms_write_39 : decode prog_4_method_8_code 39 = .ok (.ifCond .eq 8, 3) := by decide +kernel
theorem d_Forms_write_42 : decode prog_4_method_8_code 42 = .ok (.bipush 48, 2) := by decide +kernel
theorem d_Forms_write_44 : decode prog_4_method_8_code 44 = .ok (.goto 5, 3) := by decide +kernel
theorem d_Forms_write_47 : decode prog_4_method_8_code 47 = .ok (.bipush 96, 2) := by decide +kernel
theorem d_Forms_write_49 : decode prog_4_method_8_code 49 = .ok (.if_icmp .ge 14, 3) := by decide +kernel
theorem d_Forms_write_52 : decode prog_4_method_8_code 52 = .ok (.aload_n 1, 1) := by decide +kernel
theorem d_Forms_write_53 : decode prog_4_method_8_code 53 = .ok (.iconst 0, 1) := by decide +kernel
theorem d_Forms_write_54 : decode prog_4_method_8_code 54 = .ok (.invokevirtual 132, 3) := by decide +kernel
theorem d_Forms_write_57 : decode prog_4_method_8_code 57 = .ok (.iinc 5 1, 3) := by decide +kernel
theorem d_Forms_write_60 : decode prog_4_method_8_code 60 = .ok (.goto (-24), 3) := by decide +kernel
theorem d_Forms_write_63 : decode prog_4_method_8_code 63 = .ok (.return_, 1) := by decide +kernel
theorem d_Forms_write_64 : decode prog_4_method_8_code 64 = .ok (.aload_n 0, 1) := by decide +kernel
set_option maxHeartbeats 4000000 in
set_option maxRecDepth 100000 in
/-- a byte more -/
theorem c_Row_append (l : Launch) (g : WG) (n0 : Nat → Prop) (o ce k : Nat) (v : Int32) (hk : k < 96) : Ctr l y_Row_append (.code y_Row_append prog_8_method_2_code 2 none) 0 0 0 0 n0 g [.ref o, .int v] (fun H => OB g H o 3 [.ref ce, .int (nI k)] ∧ (∃ f, AB g H ce 96 f) ∧ n0 o ∧ n0 ce) (QV (fun H H' => FRM (fun q => q = o ∨ q = ce) H H' ∧ OB g H' o 3 [.ref ce, .int (nI (k + 1))] ∧ ∃ f, AB g H' ce 96 f)) := by
  refine ctr_mk l (lv0 := [(0, .ref o), (1, .int v)]) (by decide) (Nat.le_of_ble_eq_true rfl) rfl ?_
  intro p e s m below meth c ls E hr hlk hnm hl hP
  have hx := E.1
  have hb := E.2.1
  have hK := E.2.2.2.2.2
  have hF : ∀ q ∈ ([] : List Loc), n0 q.base := fun q hq => absurd hq List.not_mem_nil
  obtain ⟨hob, ⟨f, hf⟩, ho0, hc0⟩ := hP
  refine lv_aload_n hx hb d_Row_append_0 rfl (lv_at hl 0 rfl) ?_
  refine q_get (C := "KateDesk$Row") (T := T_Row) (N := 2) (ci := 3) E hob in_Row rfl 1 (by decide) w_72 rfl rfl d_Row_append_1 ?_
  refine lv_bipush (v := nI 96) hx hb d_Row_append_4 (by decide) ?_
  refine lv_icmp_ge (tgt := 30) hx hb d_Row_append_6 (by decide) (fun h9 => absurd h9 (nI_ge hk (by decide))) (fun _ => ?_)
  refine lv_aload_n hx hb d_Row_append_9 rfl (lv_at hl 0 rfl) ?_
  refine q_get (C := "KateDesk$Row") (T := T_Row) (N := 2) (ci := 3) E hob in_Row rfl 0 (by decide) w_71 rfl rfl d_Row_append_10 ?_
  refine lv_aload_n hx hb d_Row_append_13 rfl (lv_at hl 0 rfl) ?_
  refine q_get (C := "KateDesk$Row") (T := T_Row) (N := 2) (ci := 3) E hob in_Row rfl 1 (by decide) w_72 rfl rfl d_Row_append_14 ?_
  refine lv_iload_n hx hb d_Row_append_17 rfl (lv_at hl 1 rfl) ?_
  refine lv_i2b (v := v.toInt8.toInt32) hx hb d_Row_append_18 rfl ?_
  refine q_bast E hf hc0 hF k rfl hk (by decide) d_Row_append_19 (fun H1 locs hq hf1 hF => ?_)
  have hfr := hq.frm.mono (S' := fun q => q = o ∨ q = ce) (fun q h => Or.inr h)
  have hne : o ≠ ce := ob_neB hK hob hf
  have hob := OB.off hq.frm hne hob
  refine lv_aload_n hx hb d_Row_append_20 rfl (lv_at hl 0 rfl) ?_
  refine lv_dup hx hb d_Row_append_21 rfl ?_
  refine q_get (C := "KateDesk$Row") (T := T_Row) (N := 2) (ci := 3) E hob in_Row rfl 1 (by decide) w_72 rfl rfl d_Row_append_22 ?_
  refine lv_iconst (v := nI 1) hx hb d_Row_append_25 (by decide) ?_
  refine lv_iadd hx hb d_Row_append_26 ?_
  refine lv_topi (fun t9 e9 => ?_)
  obtain rfl : t9 = nI (k + 1) := e9.trans (nI_add _ _)
  refine q_put (C := "KateDesk$Row") (T := T_Row) (N := 2) (ci := 3) (ty := .int) E hob in_Row ty_Row tyok_Row nm_Row rfl 1 (by decide) w_72 rfl rfl (by decide +kernel) rfl rfl (Nat.le_of_ble_eq_true rfl) ho0 hF d_Row_append_27 (fun H1 locs hq ho2 hF => ?_)
  have hfr := hfr.tr (hq.mono (fun q h => Or.inl h))
  exact q_vret E hr hlk (⟨rfl, hfr, ho2, _, AB.off hq hne.symm hf1⟩) hF d_Row_append_30
set_option maxHeartbeats 4000000 in
set_option maxRecDepth 100000 in
/-- of no bytes: 1 -/
theorem z_Forms_read (l : Launch) (g : WG) (n0 : Nat → Prop) (o p rw ce : Nat) : Ctr l y_Forms_read (.code y_Forms_read prog_4_method_2_code 5 (some FieldType.int)) 0 0 0 0 n0 g [.ref o, .ref p, .ref rw] (fun H => OB g H rw 3 [.ref ce, .int 0]) (QI (fun r H H' => r = 1 ∧ H' = H)) := by
  refine ctr_mk l (lv0 := [(0, .ref o), (1, .ref p), (2, .ref rw)]) (by decide) (Nat.le_of_ble_eq_true rfl) rfl ?_
  intro p e s m below meth c ls E hr hlk hnm hl hP
  have hx := E.1
  have hb := E.2.1
  have hK := E.2.2.2.2.2
  have hF : ∀ q ∈ ([] : List Loc), n0 q.base := fun q hq => absurd hq List.not_mem_nil
  refine lv_aload_n hx hb d_Forms_read_0 rfl (lv_at hl 2 rfl) ?_
  refine q_get (C := "KateDesk$Row") (T := T_Row) (N := 2) (ci := 3) E hP in_Row rfl 1 (by decide) w_73 rfl rfl d_Forms_read_1 ?_
  refine lv_bipush (v := nI 48) hx hb d_Forms_read_4 (by decide) ?_
  refine lv_icmp_eq (tgt := 20) hx hb d_Forms_read_6 (by decide) (fun h9 => absurd h9 (by decide)) (fun _ => ?_)
  refine lv_aload_n hx hb d_Forms_read_9 rfl (lv_at hl 2 rfl) ?_
  refine q_get (C := "KateDesk$Row") (T := T_Row) (N := 2) (ci := 3) E hP in_Row rfl 1 (by decide) w_73 rfl rfl d_Forms_read_10 ?_
  refine lv_bipush (v := nI 96) hx hb d_Forms_read_13 (by decide) ?_
  refine lv_icmp_eq (tgt := 20) hx hb d_Forms_read_15 (by decide) (fun h9 => absurd h9 (by decide)) (fun _ => ?_)
  refine lv_iconst (v := nI 1) hx hb d_Forms_read_18 (by decide) ?_
  exact q_iret E hr hlk (⟨_, rfl, rfl, rfl⟩) hF d_Forms_read_19
set_option maxHeartbeats 4000000 in
set_option maxRecDepth 100000 in
theorem z_Point_isNothing2 (l : Launch) (g : WG) (n0 : Nat → Prop) (o p1 p2 p3 : Nat) : Ctr l y_Point_isNothing (.code y_Point_isNothing prog_6_method_4_code 1 (some FieldType.boolean)) 1 21 0 0 n0 g [.ref o] (fun H => OB g H o 2 [.ref p1, .ref p2, .ref p3] ∧ AJ g H p3 14 (fun _ => 0)) (QI (fun r H H' => r = 1 ∧ H' = H)) := by
  refine ctr_mk l (lv0 := [(0, .ref o)]) (by decide) (Nat.le_of_ble_eq_true rfl) rfl ?_
  intro p e s m below meth c ls E hr hlk hnm hl hP
  have hx := E.1
  have hb := E.2.1
  have hK := E.2.2.2.2.2
  have hF : ∀ q ∈ ([] : List Loc), n0 q.base := fun q hq => absurd hq List.not_mem_nil
  refine lv_aload_n hx hb d_Point_isNothing_0 rfl (lv_at hl 0 rfl) ?_
  refine q_get (C := "KateDesk$Point") (T := T_Point) (N := 3) (ci := 2) E hP.1 in_Point rfl 2 (by decide) w_53 rfl rfl d_Point_isNothing_1 ?_
  refine q_cS (rest := []) E (z_Limbs_isZero l g n0 p3) w_548 w_5 w_729 w_547 hd_Limbs_isZero rfl ⟨by decide, by decide⟩ hP.2 hF hl.1 rfl (Nat.le_of_ble_eq_true rfl) d_Point_isNothing_4 ⟨by decide, by decide⟩ (qi (fun r H1 locs hq hF => ?_))
  obtain ⟨rfl, hq⟩ := hq
  subst hq
  exact q_zret E hr rfl hlk (⟨1, rfl, rfl, rfl⟩) hF d_Point_isNothing_7
set_option maxHeartbeats 4000000 in
set_option maxRecDepth 100000 in
/-- of nothing -/
theorem z_Forms_write (l : Launch) (g : WG) (n0 : Nat → Prop) (o rw ce : Nat) (t t1 t2 t3 : Nat) (wz sh : Int32) (hne : t ≠ rw) (hne3 : t3 ≠ rw) : Ctr l y_Forms_write (.code y_Forms_write prog_4_method_8_code 6 none) 2 41 0 0 n0 g [.ref o, .ref rw, .ref t, .int sh] (fun H => OB g H rw 3 [.ref ce, .int wz] ∧ (∃ f, AB g H ce 96 f) ∧ n0 rw ∧ n0 ce ∧ PT g n0 H t t1 t2 t3 ∧ AJ g H t3 14 (fun _ => 0)) (QV (fun H H' => FRM (fun q => q = rw ∨ q = ce) H H')) := by
  refine ctr_mk l (lv0 := [(0, .ref o), (1, .ref rw), (2, .ref t), (3, .int sh)]) (by decide) (Nat.le_of_ble_eq_true rfl) rfl ?_
  intro p e s m below meth c ls E hr hlk hnm hl hP
  have hx := E.1
  have hb := E.2.1
  have hK := E.2.2.2.2.2
  have hF : ∀ q ∈ ([] : List Loc), n0 q.base := fun q hq => absurd hq List.not_mem_nil
  obtain ⟨hob, ⟨f, hf⟩, ho0, hc0, hpt, hz⟩ := hP
  have tail : ∀ (ls : Array Slot) (mk : Int32), lv_has ls 6 [(4, .int mk), (0, .ref o), (1, .ref rw), (2, .ref t), (3, .int sh)] → W p l e { frames := 2, cells := 0, slots := 0, locals := 41 } s m [.ref o, .ref rw, .ref t, .int sh].toArray below meth c s.heap [] 0 0 (MQ below (QcP (QV (fun H H' => FRM (fun q => q = rw ∨ q = ce) H H'))) [.ref o, .ref rw, .ref t, .int sh].toArray s 0 0 (fun q => n0 q)) (F0 m 11 ls []) := by
    intro  ls   mk  hl
    refine lv_aload_n hx hb d_Forms_write_11 rfl (lv_at hl 2 rfl) ?_
    refine lv_iconst (v := nI 0) hx hb d_Forms_write_12 (by decide) ?_
    refine q_put (C := "KateDesk$Row") (T := T_Row) (N := 2) (ci := 3) (ty := .int) E hob in_Row ty_Row tyok_Row nm_Row rfl 1 (by decide) w_73 rfl rfl (by decide +kernel) rfl rfl (Nat.le_of_ble_eq_true rfl) ho0 hF d_Forms_write_13 (fun H1 locs hq ho2 hF => ?_)
    have hfr := hq.mono (S' := fun q => q = rw ∨ q = ce) (fun q h => Or.inl h)
    have hnb : rw ≠ ce := ob_neB hK hob hf
    have hf := AB.off hq hnb.symm hf
    have hpo := OB.off hq hne hpt.1
    have hz := AJ.off hq hne3 hz
    refine lv_aload_n hx hb d_Forms_write_16 rfl (lv_at hl 3 rfl) ?_
    refine q_cV (rest := []) E (z_Point_isNothing2 l g n0 t t1 t2 t3) w_728 w_2 w_742 w_726 w_727 hd_Point_isNothing rfl ⟨by decide, by decide⟩ (OB.recv E.2.2.2.2.2 (by rfl) hpo) (⟨hpo, hz⟩) hF hl.1 rfl (Nat.le_of_ble_eq_true rfl) d_Forms_write_17 ⟨by decide, by decide⟩ (qi (fun r H2 locs hq hF => ?_))
    obtain ⟨rfl, hq⟩ := hq
    obtain rfl := hq
    refine lv_if_eq (tgt := 64) hx hb d_Forms_write_20 (by decide) (fun h9 => absurd h9 (by decide)) (fun _ => ?_)
    refine lv_aload_n hx hb d_Forms_write_23 rfl (lv_at hl 2 rfl) ?_
    refine lv_iload hx hb d_Forms_write_24 (lv_at hl 0 rfl) ?_
    refine lv_iconst (v := nI 2) hx hb d_Forms_write_26 (by decide) ?_
    refine lv_iadd hx hb d_Forms_write_27 ?_
    refine lv_iconst (v := nI 5) hx hb d_Forms_write_28 (by decide) ?_
    refine lv_ishl hx hb d_Forms_write_29 ?_
    refine lv_topi (fun v9 _ => ?_)
    refine q_cV (rest := []) E (c_Row_append l g n0 rw ce 0 v9 (by decide)) w_484 w_3 w_743 w_482 w_483 hd_Row_append rfl ⟨by decide, by decide⟩ (OB.recv E.2.2.2.2.2 (by rfl) ho2) (⟨ho2, ⟨f, hf⟩, ho0, hc0⟩) hF hl.1 rfl (Nat.le_of_ble_eq_true rfl) d_Forms_write_30 ⟨by decide, by decide⟩ (qv (fun H3 locs hq hF => ?_))
    have hfr := hfr.tr hq.1
    have hob := hq.2.1
    have hf := hq.2.2
    refine lv_iconst (v := nI 1) hx hb d_Forms_write_33 (by decide) ?_
    refine lv_istore (lv' := [(5, .int (nI 1)), (4, .int mk), (0, .ref o), (1, .ref rw), (2, .ref t), (3, .int sh)]) hx hb d_Forms_write_34 hl (by decide) rfl (fun ls hl => ?_)
    have hl : lv_has ls 6 [(5, .int (nI 1)), (3, .int sh), (0, .ref o), (1, .ref rw), (2, .ref t)] := lv_sub hl [0, 5, 2, 3, 4] rfl
    by_cases hsh48 : ¬ sh = 0
    · skip
      have hsh := hsh48
      have loop : ∀ (k : Nat) (i : Nat) (H : Heap) (locs : List Loc) (ls : Array Slot), i + k = 48 → FRM (fun q => q = rw ∨ q = ce) s.heap H → OB g H rw 3 [.ref ce, .int (nI i)] → (∃ f, AB g H ce 96 f) → (∀ q ∈ locs, n0 q.base) → lv_has ls 6 [(5, .int (nI i)), (3, .int sh), (0, .ref o), (1, .ref rw), (2, .ref t)] → W p l e { frames := 2, cells := 0, slots := 0, locals := 41 } s m [.ref o, .ref rw, .ref t, .int sh].toArray below meth c H locs 0 0 (MQ below (QcP (QV (fun H H' => FRM (fun q => q = rw ∨ q = ce) H H'))) [.ref o, .ref rw, .ref t, .int sh].toArray s 0 0 (fun q => n0 q)) (F0 m 36 ls []) := by
        intro k
        induction k with
        | zero =>
          intro  i   H   locs   ls hi hfr hob hf hF hl
          obtain rfl : i = 48 := by omega
          refine lv_iload hx hb d_Forms_write_36 (lv_at hl 0 rfl) ?_
          refine lv_iload_n hx hb d_Forms_write_38 rfl (lv_at hl 1 rfl) ?_
          refine lv_if_eq (tgt := 47) hx hb d_Forms_write_39 (by decide) (fun h9 => absurd h9 (hsh)) (fun _ => ?_)
          refine lv_bipush (v := nI 48) hx hb d_Forms_write_42 (by decide) ?_
          refine lv_goto (tgt := 49) hx hb d_Forms_write_44 (by decide) ?_
          refine lv_icmp_ge (tgt := 63) hx hb d_Forms_write_49 (by decide) (fun _ => ?_) (fun h9 => absurd (by decide) h9)
          exact q_vret E hr hlk (⟨rfl, hfr⟩) hF d_Forms_write_63
        | succ k ih =>
          intro  i   H   locs   ls hi hfr hob hf hF hl
          refine lv_iload hx hb d_Forms_write_36 (lv_at hl 0 rfl) ?_
          refine lv_iload_n hx hb d_Forms_write_38 rfl (lv_at hl 1 rfl) ?_
          refine lv_if_eq (tgt := 47) hx hb d_Forms_write_39 (by decide) (fun h9 => absurd h9 (hsh)) (fun _ => ?_)
          refine lv_bipush (v := nI 48) hx hb d_Forms_write_42 (by decide) ?_
          refine lv_goto (tgt := 49) hx hb d_Forms_write_44 (by decide) ?_
          refine lv_icmp_ge (tgt := 63) hx hb d_Forms_write_49 (by decide) (fun h9 => absurd h9 (nI_ge (by omega) (by decide))) (fun _ => ?_)
          refine lv_aload_n hx hb d_Forms_write_52 rfl (lv_at hl 3 rfl) ?_
          refine lv_iconst (v := nI 0) hx hb d_Forms_write_53 (by decide) ?_
          refine q_cV (rest := []) E (c_Row_append l g n0 rw ce i _ (by omega)) w_484 w_3 w_743 w_482 w_483 hd_Row_append rfl ⟨by decide, by decide⟩ (OB.recv E.2.2.2.2.2 (by rfl) hob) (⟨hob, hf, ho0, hc0⟩) hF hl.1 rfl (Nat.le_of_ble_eq_true rfl) d_Forms_write_54 ⟨by decide, by decide⟩ (qv (fun H1 locs hq hF => ?_))
          have hfr := hfr.tr hq.1
          have hob := hq.2.1
          have hf := hq.2.2
          refine lv_iinc (k := 0) (v := nI (i + 1)) (lv' := [(5, .int (nI (i + 1))), (3, .int sh), (0, .ref o), (1, .ref rw), (2, .ref t)]) hx hb d_Forms_write_57 hl rfl (i_inc i) (by decide) rfl (fun ls hl => ?_)
          refine lv_goto (tgt := 36) hx hb d_Forms_write_60 (by decide) ?_
          have hl : lv_has ls 6 [(5, .int (nI (i + 1))), (3, .int sh), (0, .ref o), (1, .ref rw), (2, .ref t)] := lv_sub hl [0, 1, 2, 3, 4] rfl
          exact ih (i + 1) H1 locs ls (by omega) hfr hob hf hF hl
      exact loop 47 1 _ _ ls (by omega) hfr hob hf hF hl
    by_cases hsh96 : sh = 0
    · skip
      have hsh := hsh96
      have loop : ∀ (k : Nat) (i : Nat) (H : Heap) (locs : List Loc) (ls : Array Slot), i + k = 96 → FRM (fun q => q = rw ∨ q = ce) s.heap H → OB g H rw 3 [.ref ce, .int (nI i)] → (∃ f, AB g H ce 96 f) → (∀ q ∈ locs, n0 q.base) → lv_has ls 6 [(5, .int (nI i)), (3, .int sh), (0, .ref o), (1, .ref rw), (2, .ref t)] → W p l e { frames := 2, cells := 0, slots := 0, locals := 41 } s m [.ref o, .ref rw, .ref t, .int sh].toArray below meth c H locs 0 0 (MQ below (QcP (QV (fun H H' => FRM (fun q => q = rw ∨ q = ce) H H'))) [.ref o, .ref rw, .ref t, .int sh].toArray s 0 0 (fun q => n0 q)) (F0 m 36 ls []) := by
        intro k
        induction k with
        | zero =>
          intro  i   H   locs   ls hi hfr hob hf hF hl
          obtain rfl : i = 96 := by omega
          refine lv_iload hx hb d_Forms_write_36 (lv_at hl 0 rfl) ?_
          refine lv_iload_n hx hb d_Forms_write_38 rfl (lv_at hl 1 rfl) ?_
          refine lv_if_eq (tgt := 47) hx hb d_Forms_write_39 (by decide) (fun _ => ?_) (fun h9 => absurd (hsh) h9)
          refine lv_bipush (v := nI 96) hx hb d_Forms_write_47 (by decide) ?_
          refine lv_icmp_ge (tgt := 63) hx hb d_Forms_write_49 (by decide) (fun _ => ?_) (fun h9 => absurd (by decide) h9)
          exact q_vret E hr hlk (⟨rfl, hfr⟩) hF d_Forms_write_63
        | succ k ih =>
          intro  i   H   locs   ls hi hfr hob hf hF hl
          refine lv_iload hx hb d_Forms_write_36 (lv_at hl 0 rfl) ?_
          refine lv_iload_n hx hb d_Forms_write_38 rfl (lv_at hl 1 rfl) ?_
          refine lv_if_eq (tgt := 47) hx hb d_Forms_write_39 (by decide) (fun _ => ?_) (fun h9 => absurd (hsh) h9)
          refine lv_bipush (v := nI 96) hx hb d_Forms_write_47 (by decide) ?_
          refine lv_icmp_ge (tgt := 63) hx hb d_Forms_write_49 (by decide) (fun h9 => absurd h9 (nI_ge (by omega) (by decide))) (fun _ => ?_)
          refine lv_aload_n hx hb d_Forms_write_52 rfl (lv_at hl 3 rfl) ?_
          refine lv_iconst (v := nI 0) hx hb d_Forms_write_53 (by decide) ?_
          refine q_cV (rest := []) E (c_Row_append l g n0 rw ce i _ (by omega)) w_484 w_3 w_743 w_482 w_483 hd_Row_append rfl ⟨by decide, by decide⟩ (OB.recv E.2.2.2.2.2 (by rfl) hob) (⟨hob, hf, ho0, hc0⟩) hF hl.1 rfl (Nat.le_of_ble_eq_true rfl) d_Forms_write_54 ⟨by decide, by decide⟩ (qv (fun H1 locs hq hF => ?_))
          have hfr := hfr.tr hq.1
          have hob := hq.2.1
          have hf := hq.2.2
          refine lv_iinc (k := 0) (v := nI (i + 1)) (lv' := [(5, .int (nI (i + 1))), (3, .int sh), (0, .ref o), (1, .ref rw), (2, .ref t)]) hx hb d_Forms_write_57 hl rfl (i_inc i) (by decide) rfl (fun ls hl => ?_)
          refine lv_goto (tgt := 36) hx hb d_Forms_write_60 (by decide) ?_
          have hl : lv_has ls 6 [(5, .int (nI (i + 1))), (3, .int sh), (0, .ref o), (1, .ref rw), (2, .ref t)] := lv_sub hl [0, 1, 2, 3, 4] rfl
          exact ih (i + 1) H1 locs ls (by omega) hfr hob hf hF hl
      exact loop 95 1 _ _ ls (by omega) hfr hob hf hF hl
    exact absurd (Classical.byContradiction fun h => hsh48 h) hsh96
  refine lv_iload_n hx hb d_Forms_write_0 rfl (lv_at hl 3 rfl) ?_
  refine lv_if_eq (tgt := 8) hx hb d_Forms_write_1 (by decide) (fun h => ?_) (fun h => ?_)
  rotate_left
  · skip
    refine lv_iconst (v := nI 4) hx hb d_Forms_write_4 (by decide) ?_
    refine lv_goto (tgt := 9) hx hb d_Forms_write_5 (by decide) ?_
    refine lv_istore (lv' := [(4, .int (nI 4)), (0, .ref o), (1, .ref rw), (2, .ref t), (3, .int sh)]) hx hb d_Forms_write_9 hl (by decide) rfl (fun ls hl => ?_)
    exact tail ls _ hl
  refine lv_iconst (v := nI 0) hx hb d_Forms_write_8 (by decide) ?_
  refine lv_istore (lv' := [(4, .int (nI 0)), (0, .ref o), (1, .ref rw), (2, .ref t), (3, .int sh)]) hx hb d_Forms_write_9 hl (by decide) rfl (fun ls hl => ?_)
  exact tail ls _ hl
