abbrev y_Field_reduce : MethodName := ⟨"KateDesk$Field", "reduce", "([J)V"⟩
theorem hd_Field_reduce : y_Field_reduce.cls ≠ "java/lang/invoke/MethodHandle" ∧ y_Field_reduce.cls ≠ "java/lang/invoke/VarHandle" ∧ (parseMethodDescriptor y_Field_reduce.desc).map (fun d => d.parameters.length) = some 1 := by decide +kernel
theorem d_Field_reduce_0 : decode prog_3_method_7_code 0 = .ok (.bipush 13, 2) := by decide +kernel
theorem d_Field_reduce_2 : decode prog_3_method_7_code 2 = .ok (.istore_n 2, 1) := by decide +kernel
theorem d_Field_reduce_3 : decode prog_3_method_7_code 3 = .ok (.iload_n 2, 1) := by decide +kernel
theorem d_Field_reduce_4 : decode prog_3_method_7_code 4 = .ok (.ifCond .lt 39, 3) := by decide +kernel
theorem d_Field_reduce_7 : decode prog_3_method_7_code 7 = .ok (.aload_n 1, 1) := by decide +kernel
theorem d_Field_reduce_8 : decode prog_3_method_7_code 8 = .ok (.iload_n 2, 1) := by decide +kernel
theorem d_Field_reduce_9 : decode prog_3_method_7_code 9 = .ok (.laload, 1) := by decide +kernel
theorem d_Field_reduce_10 : decode prog_3_method_7_code 10 = .ok (.aload_n 0, 1) := by decide +kernel
theorem d_Field_reduce_11 : decode prog_3_method_7_code 11 = .ok (.getfield 31, 3) := by decide +kernel
theorem d_Field_reduce_14 : decode prog_3_method_7_code 14 = .ok (.iload_n 2, 1) := by decide +kernel
theorem d_Field_reduce_15 : decode prog_3_method_7_code 15 = .ok (.laload, 1) := by decide +kernel
theorem d_Field_reduce_16 : decode prog_3_method_7_code 16 = .ok (.lcmp, 1) := by decide +kernel
theorem d_Field_reduce_17 : decode prog_3_method_7_code 17 = .ok (.ifCond .ge 4, 3) := by decide +kernel
theorem d_Field_reduce_20 : decode prog_3_method_7_code 20 = .ok (.return_, 1) := by decide +kernel
theorem d_Field_reduce_21 : decode prog_3_method_7_code 21 = .ok (.aload_n 1, 1) := by decide +kernel
theorem d_Field_reduce_22 : decode prog_3_method_7_code 22 = .ok (.iload_n 2, 1) := by decide +kernel
theorem d_Field_reduce_23 : decode prog_3_method_7_code 23 = .ok (.laload, 1) := by decide +kernel
theorem d_Field_reduce_24 : decode prog_3_method_7_code 24 = .ok (.aload_n 0, 1) := by decide +kernel
theorem d_Field_reduce_25 : decode prog_3_method_7_code 25 = .ok (.getfield 31, 3) := by decide +kernel
theorem d_Field_reduce_28 : decode prog_3_method_7_code 28 = .ok (.iload_n 2, 1) := by decide +kernel
theorem d_Field_reduce_29 : decode prog_3_method_7_code 29 = .ok (.laload, 1) := by decide +kernel
theorem d_Field_reduce_30 : decode prog_3_method_7_code 30 = .ok (.lcmp, 1) := by decide +kernel
theorem d_Field_reduce_31 : decode prog_3_method_7_code 31 = .ok (.ifCond .le 6, 3) := by decide +kernel
theorem d_Field_reduce_34 : decode prog_3_method_7_code 34 = .ok (.goto 9, 3) := by decide +kernel
theorem d_Field_reduce_37 : decode prog_3_method_7_code 37 = .ok (.iinc 2 (-1), 3) := by decide +kernel
theorem d_Field_reduce_40 : decode prog_3_method_7_code 40 = .ok (.goto (-37), 3) := by decide +kernel
theorem d_Field_reduce_43 : decode prog_3_method_7_code 43 = .ok (.lconst 0, 1) := by decide +kernel
theorem d_Field_reduce_44 : decode prog_3_method_7_code 44 = .ok (.lstore_n 2, 1) := by decide +kernel
theorem d_Field_reduce_45 : decode prog_3_method_7_code 45 = .ok (.iconst 0, 1) := by decide +kernel
theorem d_Field_reduce_46 : decode prog_3_method_7_code 46 = .ok (.istore 4, 2) := by decide +kernel
theorem d_Field_reduce_48 : decode prog_3_method_7_code 48 = .ok (.iload 4, 2) := by decide +kernel
theorem d_Field_reduce_50 : decode prog_3_method_7_code 50 = .ok (.bipush 14, 2) := by decide +kernel
theorem d_Field_reduce_52 : decode prog_3_method_7_code 52 = .ok (.if_icmp .ge 38, 3) := by decide +kernel
theorem d_Field_reduce_55 : decode prog_3_method_7_code 55 = .ok (.lload_n 2, 1) := by decide +kernel
theorem d_Field_reduce_56 : decode prog_3_method_7_code 56 = .ok (.aload_n 1, 1) := by decide +kernel
theorem d_Field_reduce_57 : decode prog_3_method_7_code 57 = .ok (.iload 4, 2) := by decide +kernel
theorem d_Field_reduce_59 : decode prog_3_method_7_code 59 = .ok (.laload, 1) := by decide +kernel
theorem d_Field_reduce_60 : decode prog_3_method_7_code 60 = .ok (.aload_n 0, 1) := by decide +kernel
theorem d_Field_reduce_61 : decode prog_3_method_7_code 61 = .ok (.getfield 31, 3) := by decide +kernel
theorem d_Field_reduce_64 : decode prog_3_method_7_code 64 = .ok (.iload 4, 2) := by decide +kernel
theorem d_Field_reduce_66 : decode prog_3_method_7_code 66 = .ok (.laload, 1) := by decide +kernel
theorem d_Field_reduce_67 : decode prog_3_method_7_code 67 = .ok (.lsub, 1) := by decide +kernel
theorem d_Field_reduce_68 : decode prog_3_method_7_code 68 = .ok (.ladd, 1) := by decide +kernel
theorem d_Field_reduce_69 : decode prog_3_method_7_code 69 = .ok (.lstore_n 2, 1) := by decide +kernel
theorem d_Field_reduce_70 : decode prog_3_method_7_code 70 = .ok (.aload_n 1, 1) := by decide +kernel
theorem d_Field_reduce_71 : decode prog_3_method_7_code 71 = .ok (.iload 4, 2) := by decide +kernel
theorem d_Field_reduce_73 : decode prog_3_method_7_code 73 = .ok (.lload_n 2, 1) := by decide +kernel
theorem d_Field_reduce_74 : decode prog_3_method_7_code 74 = .ok (.ldc2_w 59, 3) := by decide +kernel
theorem d_Field_reduce_77 : decode prog_3_method_7_code 77 = .ok (.land, 1) := by decide +kernel
theorem d_Field_reduce_78 : decode prog_3_method_7_code 78 = .ok (.lastore, 1) := by decide +kernel
theorem d_Field_reduce_79 : decode prog_3_method_7_code 79 = .ok (.lload_n 2, 1) := by decide +kernel
theorem d_Field_reduce_80 : decode prog_3_method_7_code 80 = .ok (.bipush 28, 2) := by decide +kernel
theorem d_Field_reduce_82 : decode prog_3_method_7_code 82 = .ok (.lshr, 1) := by decide +kernel
theorem d_Field_reduce_83 : decode prog_3_method_7_code 83 = .ok (.lstore_n 2, 1) := by decide +kernel
theorem d_Field_reduce_84 : decode prog_3_method_7_code 84 = .ok (.iinc 4 1, 3) := by decide +kernel
theorem d_Field_reduce_87 : decode prog_3_method_7_code 87 = .ok (.goto (-39), 3) := by decide +kernel
theorem d_Field_reduce_90 : decode prog_3_method_7_code 90 = .ok (.return_, 1) := by decide +kernel
set_option maxHeartbeats 4000000 in
set_option maxRecDepth 100000 in
/-- reduce: only n is written -/
theorem c_Field_reduce (l : Launch) (g : WG) (n0 : Nat → Prop) (o n : Nat) (F : Nat → Nat) (mi : Int64) : Ctr l y_Field_reduce (.code y_Field_reduce prog_3_method_7_code 5 none) 0 0 0 0 n0 g [.ref o, .ref n] (fun H => FD g n0 H o F mi ∧ J14 g n0 H n) (QV (fun H H' => KJ g (fun q => q = n) H H')) := by
  refine ctr_mk l (lv0 := [(0, .ref o), (1, .ref n)]) (by decide) (Nat.le_of_ble_eq_true rfl) rfl ?_
  intro p e s m below meth c ls E hr hlk hnm hl hP
  have hx := E.1
  have hb := E.2.1
  have hK := E.2.2.2.2.2
  have hF : ∀ q ∈ ([] : List Loc), n0 q.base := fun q hq => absurd hq List.not_mem_nil
  obtain ⟨hfd, hn⟩ := hP
  have loop2 : ∀ (k i : Nat) (H : Heap) (locs : List Loc) (ls : Array Slot) (cr : Int64), i + k = 14 → KJ g (fun q => q = n) s.heap H → (∀ q ∈ locs, n0 q.base) → lv_has ls 5 [(4, .int (nI i)), (2, .long cr), (0, .ref o), (1, .ref n)] → W p l e { frames := 0, cells := 0, slots := 0, locals := 0 } s m [.ref o, .ref n].toArray below meth c H locs 0 0 (MQ below (QcP (QV (fun H H' => KJ g (fun q => q = n) H H'))) [.ref o, .ref n].toArray s 0 0 (fun q => n0 q)) (F0 m 48 ls []) := by
    intro k
    induction k with
    | zero =>
      intro i H locs ls cr hi hk hF hl
      obtain rfl : i = 14 := by omega
      refine lv_iload hx hb d_Field_reduce_48 (lv_at hl 0 rfl) ?_
      refine lv_bipush (v := nI 14) hx hb d_Field_reduce_50 (by decide) ?_
      refine lv_icmp_ge (tgt := 90) hx hb d_Field_reduce_52 (by decide) (fun _ => ?_) (fun h9 => absurd (by decide) h9)
      exact q_vret E hr hlk (⟨rfl, hk⟩) hF d_Field_reduce_90
    | succ k ih =>
      intro i H locs ls cr hi hk hF hl
      have hi14 : i < 14 := by omega
      refine lv_iload hx hb d_Field_reduce_48 (lv_at hl 0 rfl) ?_
      refine lv_bipush (v := nI 14) hx hb d_Field_reduce_50 (by decide) ?_
      refine lv_icmp_ge (tgt := 90) hx hb d_Field_reduce_52 (by decide) (fun h9 => absurd h9 (nI_ge hi14 (by decide))) (fun _ => ?_)
      refine lv_lload_n hx hb d_Field_reduce_55 rfl (lv_at hl 1 rfl) ?_
      refine lv_aload_n hx hb d_Field_reduce_56 rfl (lv_at hl 3 rfl) ?_
      refine lv_iload hx hb d_Field_reduce_57 (lv_at hl 0 rfl) ?_
      refine q_laldS E (hk.j hn) i rfl hi14 d_Field_reduce_59 (fun v1 => ?_)
      refine lv_aload_n hx hb d_Field_reduce_60 rfl (lv_at hl 2 rfl) ?_
      refine q_get (C := "KateDesk$Field") (T := T_Field) (N := 7) (ci := 1) E ((hk.fd hK hfd).1) in_Field rfl 0 (by decide) w_170 rfl rfl d_Field_reduce_61 ?_
      refine lv_iload hx hb d_Field_reduce_64 (lv_at hl 0 rfl) ?_
      refine q_laldS E ((hk.fd hK hfd).2 0 (by decide)) i rfl hi14 d_Field_reduce_66 (fun v2 => ?_)
      refine lv_lsub hx hb d_Field_reduce_67 ?_
      refine lv_ladd hx hb d_Field_reduce_68 ?_
      refine lv_topl (fun v3 _ => ?_)
      refine lv_lstore_n (lv' := [(2, .long v3), (4, .int (nI i)), (0, .ref o), (1, .ref n)]) hx hb d_Field_reduce_69 rfl hl (by decide) rfl (fun ls hl => ?_)
      refine lv_aload_n hx hb d_Field_reduce_70 rfl (lv_at hl 3 rfl) ?_
      refine lv_iload hx hb d_Field_reduce_71 (lv_at hl 1 rfl) ?_
      refine lv_lload_n hx hb d_Field_reduce_73 rfl (lv_at hl 0 rfl) ?_
      refine lv_ldc2 (v := 268435455) hx hb E.2.2.2.1 (E.2.2.2.2.1 _ w_143) d_Field_reduce_74 ?_
      refine lv_land hx hb d_Field_reduce_77 ?_
      refine q_lastS E (hk.j hn) hF i rfl hi14 d_Field_reduce_78 (fun H1 locs hq hF => ?_)
      have hk := hk.tr hq
      refine lv_lload_n hx hb d_Field_reduce_79 rfl (lv_at hl 0 rfl) ?_
      refine lv_bipush (v := nI 28) hx hb d_Field_reduce_80 (by decide) ?_
      refine lv_lshr (v := v3 >>> ((nI 28).toInt64 &&& 63)) hx hb d_Field_reduce_82 rfl ?_
      refine lv_topl (fun v4 _ => ?_)
      refine lv_lstore_n (lv' := [(2, .long v4), (4, .int (nI i)), (0, .ref o), (1, .ref n)]) hx hb d_Field_reduce_83 rfl hl (by decide) rfl (fun ls hl => ?_)
      refine lv_iinc (k := 1) (v := nI (i + 1)) (lv' := [(4, .int (nI (i + 1))), (2, .long v4), (0, .ref o), (1, .ref n)]) hx hb d_Field_reduce_84 hl rfl (i_inc i) (by decide) rfl (fun ls hl => ?_)
      refine lv_goto (tgt := 48) hx hb d_Field_reduce_87 (by decide) ?_
      have hl : lv_has ls 5 [(4, .int (nI (i + 1))), (2, .long v4), (0, .ref o), (1, .ref n)] := lv_sub hl [0, 1, 2, 3] rfl
      exact ih (i + 1) H1 locs ls _ (by omega) hk hF hl
  have tail : ∀ (ls : Array Slot) (x : Int32), lv_has ls 5 [(2, .int x), (0, .ref o), (1, .ref n)] → W p l e { frames := 0, cells := 0, slots := 0, locals := 0 } s m [.ref o, .ref n].toArray below meth c s.heap [] 0 0 (MQ below (QcP (QV (fun H H' => KJ g (fun q => q = n) H H'))) [.ref o, .ref n].toArray s 0 0 (fun q => n0 q)) (F0 m 43 ls []) := by
    intro ls x hl
    refine lv_lconst (v := 0) hx hb d_Field_reduce_43 (by decide) ?_
    refine lv_lstore_n (lv' := [(2, .long 0), (0, .ref o), (1, .ref n)]) hx hb d_Field_reduce_44 rfl hl (by decide) rfl (fun ls hl => ?_)
    refine lv_iconst (v := nI 0) hx hb d_Field_reduce_45 (by decide) ?_
    refine lv_istore (lv' := [(4, .int (nI 0)), (2, .long 0), (0, .ref o), (1, .ref n)]) hx hb d_Field_reduce_46 hl (by decide) rfl (fun ls hl => ?_)
    have hl : lv_has ls 5 [(4, .int (nI 0)), (2, .long 0), (0, .ref o), (1, .ref n)] := lv_sub hl [0, 1, 2, 3] rfl
    exact loop2 14 0 s.heap [] ls 0 rfl KJ.rf hF hl
  have loop1 : ∀ (k : Nat) (ls : Array Slot) (x : Int32), k ≤ 14 → x = nI k - 1 → lv_has ls 5 [(2, .int x), (0, .ref o), (1, .ref n)] → W p l e { frames := 0, cells := 0, slots := 0, locals := 0 } s m [.ref o, .ref n].toArray below meth c s.heap [] 0 0 (MQ below (QcP (QV (fun H H' => KJ g (fun q => q = n) H H'))) [.ref o, .ref n].toArray s 0 0 (fun q => n0 q)) (F0 m 3 ls []) := by
    intro k
    induction k with
    | zero =>
      intro ls x _ hxx hl
      subst hxx
      refine lv_iload_n hx hb d_Field_reduce_3 rfl (lv_at hl 0 rfl) ?_
      refine lv_if_lt (tgt := 43) hx hb d_Field_reduce_4 (by decide) (fun _ => ?_) (fun h9 => absurd (by decide) h9)
      exact tail ls _ hl
    | succ k ih =>
      intro ls x hk14 hxx hl
      rw [nI_pred] at hxx
      subst hxx
      refine lv_iload_n hx hb d_Field_reduce_3 rfl (lv_at hl 0 rfl) ?_
      refine lv_if_lt (tgt := 43) hx hb d_Field_reduce_4 (by decide) (fun h9 => absurd h9 (nI_pos (by omega))) (fun _ => ?_)
      refine lv_aload_n hx hb d_Field_reduce_7 rfl (lv_at hl 2 rfl) ?_
      refine lv_iload_n hx hb d_Field_reduce_8 rfl (lv_at hl 0 rfl) ?_
      refine q_laldS E hn k rfl (by omega) d_Field_reduce_9 (fun v1 => ?_)
      refine lv_aload_n hx hb d_Field_reduce_10 rfl (lv_at hl 1 rfl) ?_
      refine q_get (C := "KateDesk$Field") (T := T_Field) (N := 7) (ci := 1) E hfd.1 in_Field rfl 0 (by decide) w_170 rfl rfl d_Field_reduce_11 ?_
      refine lv_iload_n hx hb d_Field_reduce_14 rfl (lv_at hl 0 rfl) ?_
      refine q_laldS E (hfd.2 0 (by decide)) k rfl (by omega) d_Field_reduce_15 (fun v2 => ?_)
      refine W.lcmp hx hb d_Field_reduce_16 ?_
      refine lv_if_ge (tgt := 21) hx hb d_Field_reduce_17 (by decide) (fun h => ?_) (fun h => ?_)
      rotate_left
      · skip
        exact q_vret E hr hlk (⟨rfl, KJ.rf⟩) hF d_Field_reduce_20
      refine lv_aload_n hx hb d_Field_reduce_21 rfl (lv_at hl 2 rfl) ?_
      refine lv_iload_n hx hb d_Field_reduce_22 rfl (lv_at hl 0 rfl) ?_
      refine q_laldS E hn k rfl (by omega) d_Field_reduce_23 (fun v3 => ?_)
      refine lv_aload_n hx hb d_Field_reduce_24 rfl (lv_at hl 1 rfl) ?_
      refine q_get (C := "KateDesk$Field") (T := T_Field) (N := 7) (ci := 1) E hfd.1 in_Field rfl 0 (by decide) w_170 rfl rfl d_Field_reduce_25 ?_
      refine lv_iload_n hx hb d_Field_reduce_28 rfl (lv_at hl 0 rfl) ?_
      refine q_laldS E (hfd.2 0 (by decide)) k rfl (by omega) d_Field_reduce_29 (fun v4 => ?_)
      refine W.lcmp hx hb d_Field_reduce_30 ?_
      refine lv_if_le (tgt := 37) hx hb d_Field_reduce_31 (by decide) (fun h => ?_) (fun h => ?_)
      rotate_left
      · skip
        refine lv_goto (tgt := 43) hx hb d_Field_reduce_34 (by decide) ?_
        exact tail ls _ hl
      refine lv_iinc (k := 0) (v := nI k - 1) (lv' := [(2, .int (nI k - 1)), (0, .ref o), (1, .ref n)]) hx hb d_Field_reduce_37 hl rfl (i_dec (nI k)) (by decide) rfl (fun ls hl => ?_)
      refine lv_goto (tgt := 3) hx hb d_Field_reduce_40 (by decide) ?_
      exact ih ls _ (by omega) rfl hl
  refine lv_bipush (v := nI 13) hx hb d_Field_reduce_0 (by decide) ?_
  refine lv_istore_n (lv' := [(2, .int (nI 13)), (0, .ref o), (1, .ref n)]) hx hb d_Field_reduce_2 rfl hl (by decide) rfl (fun ls hl => ?_)
  exact loop1 14 ls _ (by decide) (by decide) hl
