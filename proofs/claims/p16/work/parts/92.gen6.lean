theorem ne_464 {b : Nat} : b + 464 ≠ b + 463 := by omega
theorem ne_PA {b k : Nat} : kPA3 b k ≠ kPA2 b k := by unfold kPA3 kPA2; omega
theorem s_ge {v : Int64} (h : ¬ v < 0) : 0 ≤ lg_cmp v 0 := (lg_cmp_ge v 0).mpr (Int64.not_lt.mp h)
set_option maxHeartbeats 4000000 in
set_option maxRecDepth 100000 in
theorem G_Desk_set (l : Launch) (g : WG) (b pn tn wn : Nat) (mr mq : Int64) (a : Nat) (v : Int64) (ha : a < 32) (hv : ¬ v < 0) : Ctr l y_Desk_set (.code y_Desk_set prog_1_method_4_code 4 none) 3 66 0 0 (nD b) g [.ref b, .int (nI a), .long v] (fun H => DS g H H b pn tn wn mr mq) (QV (fun H H' => DS g H H' b pn tn wn mr mq)) := by
  refine ctr_mk l (lv0 := [(0, .ref b), (1, .int (nI a)), (2, .long v)]) (by decide) (Nat.le_of_ble_eq_true rfl) rfl ?_
  intro p e s m below meth c ls E hr hlk hnm hl hP
  have hx := E.1
  have hb := E.2.1
  have hK := E.2.2.2.2.2
  have hF : ∀ q ∈ ([] : List Loc), nD b q.base := fun q hq => absurd hq List.not_mem_nil
  have hd := hP
  refine lv_iload_n hx hb d_Desk_set_0 rfl (lv_at hl 1 rfl) ?_
  refine lv_iconst (v := nI 1) hx hb d_Desk_set_1 (by decide) ?_
  refine q_cS (rest := []) E (c_Desk_needScalars l g (nD b) (nI a) (nI 1) (okS_of (by decide) ha)) w_494 w_1 w_492 w_493 hd_Desk_needScalars rfl ⟨by decide, by decide⟩ trivial hF hl.1 rfl (Nat.le_of_ble_eq_true rfl) d_Desk_set_2 ⟨by decide, by decide⟩ (qv (fun H1 locs hq hF => ?_))
  have hq := hq.symm
  subst hq
  refine lv_lload_n hx hb d_Desk_set_5 rfl (lv_at hl 2 rfl) ?_
  refine lv_lconst (v := 0) hx hb d_Desk_set_6 (by decide) ?_
  refine W.lcmp hx hb d_Desk_set_7 ?_
  refine lv_if_ge (tgt := 21) hx hb d_Desk_set_8 (by decide) (fun _ => ?_) (fun h9 => absurd (s_ge hv) h9)
  refine lv_aload_n hx hb d_Desk_set_21 rfl (lv_at hl 0 rfl) ?_
  refine q_get (C := "KateDesk") (T := T_Desk) (N := 16) (ci := 5) E hd.x.ob in_Desk rfl 5 (by decide) w_344 rfl rfl d_Desk_set_22 ?_
  refine lv_iload_n hx hb d_Desk_set_25 rfl (lv_at hl 1 rfl) ?_
  refine q_aald (t := 4) E rfl rfl hd.x.rs.1 a rfl ha (by decide) d_Desk_set_26 ?_
  refine lv_lload_n hx hb d_Desk_set_27 rfl (lv_at hl 2 rfl) ?_
  refine q_cS (rest := []) E ((c_Limbs_fromLong l g (nJ b) (kSc b a) v).up nJ_D) w_523 w_5 w_521 w_522 hd_Limbs_fromLong rfl ⟨by decide, by decide⟩ (hd.x.rs.2 a ha) hF hl.1 rfl (Nat.le_of_ble_eq_true rfl) d_Desk_set_28 ⟨by decide, by decide⟩ (qv (fun H2 locs hq hF => ?_))
  have hd := hd.kj hK hq (fun q h => h ▸ ((hd.x.rs.2 a ha)).1)
  exact q_vret E hr hlk (⟨rfl, hd⟩) hF d_Desk_set_31
set_option maxHeartbeats 4000000 in
set_option maxRecDepth 100000 in
theorem G_Desk_word (l : Launch) (g : WG) (b pn tn wn : Nat) (mr mq : Int64) (a k : Nat) (ha : a < 32) (hk8 : k < 8) : Ctr l y_Desk_word (.code y_Desk_word prog_1_method_5_code 7 (some FieldType.long)) 1 26 0 0 (nD b) g [.ref b, .int (nI a), .int (nI k)] (fun H => DS g H H b pn tn wn mr mq) (QL (fun r H H' => DS g H H' b pn tn wn mr mq)) := by
  refine ctr_mk l (lv0 := [(0, .ref b), (1, .int (nI a)), (2, .int (nI k))]) (by decide) (Nat.le_of_ble_eq_true rfl) rfl ?_
  intro p e s m below meth c ls E hr hlk hnm hl hP
  have hx := E.1
  have hb := E.2.1
  have hK := E.2.2.2.2.2
  have hF : ∀ q ∈ ([] : List Loc), nD b q.base := fun q hq => absurd hq List.not_mem_nil
  have hd := hP
  refine lv_iload_n hx hb d_Desk_word_0 rfl (lv_at hl 1 rfl) ?_
  refine lv_iconst (v := nI 1) hx hb d_Desk_word_1 (by decide) ?_
  refine q_cS (rest := []) E (c_Desk_needScalars l g (nD b) (nI a) (nI 1) (okS_of (by decide) ha)) w_494 w_1 w_492 w_493 hd_Desk_needScalars rfl ⟨by decide, by decide⟩ trivial hF hl.1 rfl (Nat.le_of_ble_eq_true rfl) d_Desk_word_2 ⟨by decide, by decide⟩ (qv (fun H1 locs hq hF => ?_))
  have hq := hq.symm
  subst hq
  refine lv_iload_n hx hb d_Desk_word_5 rfl (lv_at hl 2 rfl) ?_
  refine lv_if_lt (tgt := 15) hx hb d_Desk_word_6 (by decide) (fun h9 => absurd h9 (nI_pos (by omega))) (fun _ => ?_)
  refine lv_iload_n hx hb d_Desk_word_9 rfl (lv_at hl 2 rfl) ?_
  refine lv_bipush (v := nI 8) hx hb d_Desk_word_10 (by decide) ?_
  refine lv_icmp_lt (tgt := 25) hx hb d_Desk_word_12 (by decide) (fun _ => ?_) (fun h9 => absurd (nI_lt hk8 (by decide)) h9)
  refine lv_aload_n hx hb d_Desk_word_25 rfl (lv_at hl 0 rfl) ?_
  refine q_get (C := "KateDesk") (T := T_Desk) (N := 16) (ci := 5) E hd.x.ob in_Desk rfl 5 (by decide) w_344 rfl rfl d_Desk_word_26 ?_
  refine lv_iload_n hx hb d_Desk_word_29 rfl (lv_at hl 1 rfl) ?_
  refine q_aald (t := 4) E rfl rfl hd.x.rs.1 a rfl ha (by decide) d_Desk_word_30 ?_
  refine lv_bipush (v := nI 32) hx hb d_Desk_word_31 (by decide) ?_
  refine lv_iload_n hx hb d_Desk_word_33 rfl (lv_at hl 2 rfl) ?_
  refine lv_imul hx hb d_Desk_word_34 ?_
  refine lv_bipush (v := nI 16) hx hb d_Desk_word_35 (by decide) ?_
  refine q_cS (rest := []) E ((c_Limbs_bits l g (nJ b) (kSc b a) ((nI 32) * (nI k)) (nI 16)).up nJ_D) w_271 w_5 w_533 w_270 hd_Limbs_bits rfl ⟨by decide, by decide⟩ (hd.x.rs.2 a ha) hF hl.1 rfl (Nat.le_of_ble_eq_true rfl) d_Desk_word_37 ⟨by decide, by decide⟩ (ql (fun rz1 H2 locs hq hF => ?_))
  have hq := hq.symm
  subst hq
  refine lv_lstore_n (lv' := [(3, .long rz1), (0, .ref b), (1, .int (nI a)), (2, .int (nI k))]) hx hb d_Desk_word_40 rfl hl (by decide) rfl (fun ls hl => ?_)
  refine lv_aload_n hx hb d_Desk_word_41 rfl (lv_at hl 1 rfl) ?_
  refine q_get (C := "KateDesk") (T := T_Desk) (N := 16) (ci := 5) E hd.x.ob in_Desk rfl 5 (by decide) w_344 rfl rfl d_Desk_word_42 ?_
  refine lv_iload_n hx hb d_Desk_word_45 rfl (lv_at hl 2 rfl) ?_
  refine q_aald (t := 4) E rfl rfl hd.x.rs.1 a rfl ha (by decide) d_Desk_word_46 ?_
  refine lv_bipush (v := nI 32) hx hb d_Desk_word_47 (by decide) ?_
  refine lv_iload_n hx hb d_Desk_word_49 rfl (lv_at hl 3 rfl) ?_
  refine lv_imul hx hb d_Desk_word_50 ?_
  refine lv_bipush (v := nI 16) hx hb d_Desk_word_51 (by decide) ?_
  refine lv_iadd hx hb d_Desk_word_53 ?_
  refine lv_bipush (v := nI 16) hx hb d_Desk_word_54 (by decide) ?_
  refine q_cS (rest := []) E ((c_Limbs_bits l g (nJ b) (kSc b a) (((nI 32) * (nI k)) + (nI 16)) (nI 16)).up nJ_D) w_271 w_5 w_533 w_270 hd_Limbs_bits rfl ⟨by decide, by decide⟩ (hd.x.rs.2 a ha) hF hl.1 rfl (Nat.le_of_ble_eq_true rfl) d_Desk_word_56 ⟨by decide, by decide⟩ (ql (fun rz2 H3 locs hq hF => ?_))
  have hq := hq.symm
  subst hq
  refine lv_lstore (lv' := [(5, .long rz2), (3, .long rz1), (0, .ref b), (1, .int (nI a)), (2, .int (nI k))]) hx hb d_Desk_word_59 hl (by decide) rfl (fun ls hl => ?_)
  refine lv_lload hx hb d_Desk_word_61 (lv_at hl 0 rfl) ?_
  refine lv_bipush (v := nI 16) hx hb d_Desk_word_63 (by decide) ?_
  refine lv_lshl (v := rz2 <<< ((nI 16).toInt64 &&& 63)) hx hb d_Desk_word_65 rfl ?_
  refine lv_lload_n hx hb d_Desk_word_66 rfl (lv_at hl 1 rfl) ?_
  refine lv_lor hx hb d_Desk_word_67 ?_
  exact q_lret E hr hlk (⟨_, rfl, hd⟩) hF d_Desk_word_68
set_option maxHeartbeats 4000000 in
set_option maxRecDepth 100000 in
theorem G_Desk_power (l : Launch) (g : WG) (b pn tn wn : Nat) (mr mq : Int64) (a a2 : Nat) (v : Int64) (ha : a < 32) (h2 : a2 < 32) (hv : ¬ v < 0) : Ctr l y_Desk_power (.code y_Desk_power prog_1_method_7_code 5 none) 3 160 0 0 (nD b) g [.ref b, .int (nI a), .int (nI a2), .long v] (fun H => DS g H H b pn tn wn mr mq) (QV (fun H H' => DS g H H' b pn tn wn mr mq)) := by
  refine ctr_mk l (lv0 := [(0, .ref b), (1, .int (nI a)), (2, .int (nI a2)), (3, .long v)]) (by decide) (Nat.le_of_ble_eq_true rfl) rfl ?_
  intro p e s m below meth c ls E hr hlk hnm hl hP
  have hx := E.1
  have hb := E.2.1
  have hK := E.2.2.2.2.2
  have hF : ∀ q ∈ ([] : List Loc), nD b q.base := fun q hq => absurd hq List.not_mem_nil
  have hd := hP
  refine lv_iload_n hx hb d_Desk_power_0 rfl (lv_at hl 1 rfl) ?_
  refine lv_iconst (v := nI 1) hx hb d_Desk_power_1 (by decide) ?_
  refine q_cS (rest := []) E (c_Desk_needScalars l g (nD b) (nI a) (nI 1) (okS_of (by decide) ha)) w_494 w_1 w_492 w_493 hd_Desk_needScalars rfl ⟨by decide, by decide⟩ trivial hF hl.1 rfl (Nat.le_of_ble_eq_true rfl) d_Desk_power_2 ⟨by decide, by decide⟩ (qv (fun H1 locs hq hF => ?_))
  have hq := hq.symm
  subst hq
  refine lv_iload_n hx hb d_Desk_power_5 rfl (lv_at hl 2 rfl) ?_
  refine lv_iconst (v := nI 1) hx hb d_Desk_power_6 (by decide) ?_
  refine q_cS (rest := []) E (c_Desk_needScalars l g (nD b) (nI a2) (nI 1) (okS_of (by decide) h2)) w_494 w_1 w_492 w_493 hd_Desk_needScalars rfl ⟨by decide, by decide⟩ trivial hF hl.1 rfl (Nat.le_of_ble_eq_true rfl) d_Desk_power_7 ⟨by decide, by decide⟩ (qv (fun H2 locs hq hF => ?_))
  have hq := hq.symm
  subst hq
  refine lv_lload_n hx hb d_Desk_power_10 rfl (lv_at hl 3 rfl) ?_
  refine lv_lconst (v := 0) hx hb d_Desk_power_11 (by decide) ?_
  refine W.lcmp hx hb d_Desk_power_12 ?_
  refine lv_if_ge (tgt := 26) hx hb d_Desk_power_13 (by decide) (fun _ => ?_) (fun h9 => absurd (s_ge hv) h9)
  refine lv_aload_n hx hb d_Desk_power_26 rfl (lv_at hl 0 rfl) ?_
  refine q_get (C := "KateDesk") (T := T_Desk) (N := 16) (ci := 5) E hd.x.ob in_Desk rfl 14 (by decide) w_353 rfl rfl d_Desk_power_27 ?_
  refine lv_lload_n hx hb d_Desk_power_30 rfl (lv_at hl 3 rfl) ?_
  refine q_cS (rest := []) E ((c_Limbs_fromLong l g (nJ b) (b + 160) v).up nJ_D) w_523 w_5 w_521 w_522 hd_Limbs_fromLong rfl ⟨by decide, by decide⟩ hd.x.hs hF hl.1 rfl (Nat.le_of_ble_eq_true rfl) d_Desk_power_31 ⟨by decide, by decide⟩ (qv (fun H3 locs hq hF => ?_))
  have hd := hd.kj hK hq (fun q h => h ▸ (hd.x.hs).1)
  refine lv_aload_n hx hb d_Desk_power_34 rfl (lv_at hl 0 rfl) ?_
  refine q_get (C := "KateDesk") (T := T_Desk) (N := 16) (ci := 5) E hd.x.ob in_Desk rfl 0 (by decide) w_339 rfl rfl d_Desk_power_35 ?_
  refine lv_aload_n hx hb d_Desk_power_38 rfl (lv_at hl 0 rfl) ?_
  refine q_get (C := "KateDesk") (T := T_Desk) (N := 16) (ci := 5) E hd.x.ob in_Desk rfl 15 (by decide) w_354 rfl rfl d_Desk_power_39 ?_
  refine lv_aload_n hx hb d_Desk_power_42 rfl (lv_at hl 0 rfl) ?_
  refine q_get (C := "KateDesk") (T := T_Desk) (N := 16) (ci := 5) E hd.x.ob in_Desk rfl 5 (by decide) w_344 rfl rfl d_Desk_power_43 ?_
  refine lv_iload_n hx hb d_Desk_power_46 rfl (lv_at hl 2 rfl) ?_
  refine q_aald (t := 4) E rfl rfl hd.x.rs.1 a2 rfl h2 (by decide) d_Desk_power_47 ?_
  refine q_cV (rest := []) E ((c_Field_lift l g (nJ b) (b + 162) (b + 161) (kSc b a2) (kFr b) mr).up nJ_D) w_302 w_4 w_336 w_300 w_301 hd_Field_lift rfl ⟨by decide, by decide⟩ (OB.recv E.2.2.2.2.2 (by rfl) ((hd.x.fr).1)) (⟨hd.x.fr, hd.x.fa, (hd.x.rs.2 a2 h2)⟩) hF hl.1 rfl (Nat.le_of_ble_eq_true rfl) d_Desk_power_48 ⟨by decide, by decide⟩ (qv (fun H4 locs hq hF => ?_))
  have hd := hd.kj hK hq (fun q h => h ▸ (hd.x.fa).1)
  refine lv_aload_n hx hb d_Desk_power_51 rfl (lv_at hl 0 rfl) ?_
  refine q_get (C := "KateDesk") (T := T_Desk) (N := 16) (ci := 5) E hd.x.ob in_Desk rfl 0 (by decide) w_339 rfl rfl d_Desk_power_52 ?_
  refine lv_aload_n hx hb d_Desk_power_55 rfl (lv_at hl 0 rfl) ?_
  refine q_get (C := "KateDesk") (T := T_Desk) (N := 16) (ci := 5) E hd.x.ob in_Desk rfl 15 (by decide) w_354 rfl rfl d_Desk_power_56 ?_
  refine lv_aload_n hx hb d_Desk_power_59 rfl (lv_at hl 0 rfl) ?_
  refine q_get (C := "KateDesk") (T := T_Desk) (N := 16) (ci := 5) E hd.x.ob in_Desk rfl 15 (by decide) w_354 rfl rfl d_Desk_power_60 ?_
  refine lv_aload_n hx hb d_Desk_power_63 rfl (lv_at hl 0 rfl) ?_
  refine q_get (C := "KateDesk") (T := T_Desk) (N := 16) (ci := 5) E hd.x.ob in_Desk rfl 14 (by decide) w_353 rfl rfl d_Desk_power_64 ?_
  refine q_cV (rest := []) E ((c_Field_raise l g (nJ b) (b + 162) (b + 161) (b + 161) (b + 160) (kFr b) mr).up nJ_D) w_574 w_4 w_585 w_572 w_573 hd_Field_raise rfl ⟨by decide, by decide⟩ (OB.recv E.2.2.2.2.2 (by rfl) ((hd.x.fr).1)) (⟨hd.x.fr, hd.x.fa, hd.x.fa, hd.x.hs⟩) hF hl.1 rfl (Nat.le_of_ble_eq_true rfl) d_Desk_power_67 ⟨by decide, by decide⟩ (qv (fun H5 locs hq hF => ?_))
  have hd := hd.kj hK hq (fun q h => h.elim (fun h => h ▸ (hd.x.fa).1) (fun h => h ▸ (hd.x.fr.2 5 (by decide)).1))
  refine lv_aload_n hx hb d_Desk_power_70 rfl (lv_at hl 0 rfl) ?_
  refine q_get (C := "KateDesk") (T := T_Desk) (N := 16) (ci := 5) E hd.x.ob in_Desk rfl 0 (by decide) w_339 rfl rfl d_Desk_power_71 ?_
  refine lv_aload_n hx hb d_Desk_power_74 rfl (lv_at hl 0 rfl) ?_
  refine q_get (C := "KateDesk") (T := T_Desk) (N := 16) (ci := 5) E hd.x.ob in_Desk rfl 5 (by decide) w_344 rfl rfl d_Desk_power_75 ?_
  refine lv_iload_n hx hb d_Desk_power_78 rfl (lv_at hl 1 rfl) ?_
  refine q_aald (t := 4) E rfl rfl hd.x.rs.1 a rfl ha (by decide) d_Desk_power_79 ?_
  refine lv_aload_n hx hb d_Desk_power_80 rfl (lv_at hl 0 rfl) ?_
  refine q_get (C := "KateDesk") (T := T_Desk) (N := 16) (ci := 5) E hd.x.ob in_Desk rfl 15 (by decide) w_354 rfl rfl d_Desk_power_81 ?_
  refine q_cV (rest := []) E ((c_Field_lower l g (nJ b) (b + 162) (kSc b a) (b + 161) (kFr b) mr).up nJ_D) w_589 w_4 w_586 w_587 w_588 hd_Field_lower rfl ⟨by decide, by decide⟩ (OB.recv E.2.2.2.2.2 (by rfl) ((hd.x.fr).1)) (⟨hd.x.fr, (hd.x.rs.2 a ha), hd.x.fa⟩) hF hl.1 rfl (Nat.le_of_ble_eq_true rfl) d_Desk_power_84 ⟨by decide, by decide⟩ (qv (fun H6 locs hq hF => ?_))
  have hd := hd.kj hK hq (fun q h => h ▸ ((hd.x.rs.2 a ha)).1)
  exact q_vret E hr hlk (⟨rfl, hd⟩) hF d_Desk_power_87
set_option maxHeartbeats 4000000 in
set_option maxRecDepth 100000 in
theorem G_Desk_unity (l : Launch) (g : WG) (b pn tn wn : Nat) (mr mq : Int64) (a k : Nat) (ha : a < 32) (hk32 : k ≤ 32) : Ctr l y_Desk_unity (.code y_Desk_unity prog_1_method_8_code 3 none) 5 182 0 0 (nD b) g [.ref b, .int (nI a), .int (nI k)] (fun H => DS g H H b pn tn wn mr mq) (QV (fun H H' => DS g H H' b pn tn wn mr mq)) := by
  refine ctr_mk l (lv0 := [(0, .ref b), (1, .int (nI a)), (2, .int (nI k))]) (by decide) (Nat.le_of_ble_eq_true rfl) rfl ?_
  intro p e s m below meth c ls E hr hlk hnm hl hP
  have hx := E.1
  have hb := E.2.1
  have hK := E.2.2.2.2.2
  have hF : ∀ q ∈ ([] : List Loc), nD b q.base := fun q hq => absurd hq List.not_mem_nil
  have hd := hP
  refine lv_iload_n hx hb d_Desk_unity_0 rfl (lv_at hl 1 rfl) ?_
  refine lv_iconst (v := nI 1) hx hb d_Desk_unity_1 (by decide) ?_
  refine q_cS (rest := []) E (c_Desk_needScalars l g (nD b) (nI a) (nI 1) (okS_of (by decide) ha)) w_494 w_1 w_492 w_493 hd_Desk_needScalars rfl ⟨by decide, by decide⟩ trivial hF hl.1 rfl (Nat.le_of_ble_eq_true rfl) d_Desk_unity_2 ⟨by decide, by decide⟩ (qv (fun H1 locs hq hF => ?_))
  have hq := hq.symm
  subst hq
  refine lv_iload_n hx hb d_Desk_unity_5 rfl (lv_at hl 2 rfl) ?_
  refine lv_if_lt (tgt := 15) hx hb d_Desk_unity_6 (by decide) (fun h9 => absurd h9 (nI_pos (by omega))) (fun _ => ?_)
  refine lv_iload_n hx hb d_Desk_unity_9 rfl (lv_at hl 2 rfl) ?_
  refine lv_bipush (v := nI 32) hx hb d_Desk_unity_10 (by decide) ?_
  refine lv_icmp_le (tgt := 25) hx hb d_Desk_unity_12 (by decide) (fun _ => ?_) (fun h9 => absurd (nI_le hk32 (by decide)) h9)
  refine lv_aload_n hx hb d_Desk_unity_25 rfl (lv_at hl 0 rfl) ?_
  refine q_get (C := "KateDesk") (T := T_Desk) (N := 16) (ci := 5) E hd.x.ob in_Desk rfl 4 (by decide) w_343 rfl rfl d_Desk_unity_26 ?_
  refine lv_aload_n hx hb d_Desk_unity_29 rfl (lv_at hl 0 rfl) ?_
  refine q_get (C := "KateDesk") (T := T_Desk) (N := 16) (ci := 5) E hd.x.ob in_Desk rfl 15 (by decide) w_354 rfl rfl d_Desk_unity_30 ?_
  refine lv_iload_n hx hb d_Desk_unity_33 rfl (lv_at hl 2 rfl) ?_
  refine q_cV (rest := []) E ((c_Polys_liftedRoot l g (nJ b) (b + 470) (b + 162) (b + 478) (kFr b) mr (kY b) (kV b) (b + 161) (nI k)).up nJ_D) w_601 w_14 w_598 w_599 w_600 hd_Polys_liftedRoot rfl ⟨by decide, by decide⟩ (OB.recv E.2.2.2.2.2 (by rfl) hd.x.po.1) (⟨hd.x.po, hd.x.fa⟩) hF hl.1 rfl (Nat.le_of_ble_eq_true rfl) d_Desk_unity_34 ⟨by decide, by decide⟩ (qv (fun H2 locs hq hF => ?_))
  have hd := hd.kj hK hq (fun q h => h)
  refine lv_aload_n hx hb d_Desk_unity_37 rfl (lv_at hl 0 rfl) ?_
  refine q_get (C := "KateDesk") (T := T_Desk) (N := 16) (ci := 5) E hd.x.ob in_Desk rfl 0 (by decide) w_339 rfl rfl d_Desk_unity_38 ?_
  refine lv_aload_n hx hb d_Desk_unity_41 rfl (lv_at hl 0 rfl) ?_
  refine q_get (C := "KateDesk") (T := T_Desk) (N := 16) (ci := 5) E hd.x.ob in_Desk rfl 5 (by decide) w_344 rfl rfl d_Desk_unity_42 ?_
  refine lv_iload_n hx hb d_Desk_unity_45 rfl (lv_at hl 1 rfl) ?_
  refine q_aald (t := 4) E rfl rfl hd.x.rs.1 a rfl ha (by decide) d_Desk_unity_46 ?_
  refine lv_aload_n hx hb d_Desk_unity_47 rfl (lv_at hl 0 rfl) ?_
  refine q_get (C := "KateDesk") (T := T_Desk) (N := 16) (ci := 5) E hd.x.ob in_Desk rfl 15 (by decide) w_354 rfl rfl d_Desk_unity_48 ?_
  refine q_cV (rest := []) E ((c_Field_lower l g (nJ b) (b + 162) (kSc b a) (b + 161) (kFr b) mr).up nJ_D) w_589 w_4 w_586 w_587 w_588 hd_Field_lower rfl ⟨by decide, by decide⟩ (OB.recv E.2.2.2.2.2 (by rfl) ((hd.x.fr).1)) (⟨hd.x.fr, (hd.x.rs.2 a ha), hd.x.fa⟩) hF hl.1 rfl (Nat.le_of_ble_eq_true rfl) d_Desk_unity_51 ⟨by decide, by decide⟩ (qv (fun H3 locs hq hF => ?_))
  have hd := hd.kj hK hq (fun q h => h ▸ ((hd.x.rs.2 a ha)).1)
  exact q_vret E hr hlk (⟨rfl, hd⟩) hF d_Desk_unity_54
set_option maxHeartbeats 4000000 in
set_option maxRecDepth 100000 in
theorem G_Desk_join (l : Launch) (g : WG) (b pn tn wn : Nat) (mr mq : Int64) (w0 a a2 a3 : Nat) (hw : w0 < 4) (ha : a < 12) (h2 : a2 < 12) (h3 : a3 < 12) : Ctr l y_Desk_join (.code y_Desk_join prog_1_method_12_code 5 none) 4 187 0 0 (nD b) g [.ref b, .int (nI w0), .int (nI a), .int (nI a2), .int (nI a3)] (fun H => DS g H H b pn tn wn mr mq) (QV (fun H H' => DS g H H' b pn tn wn mr mq)) := by
  refine ctr_mk l (lv0 := [(0, .ref b), (1, .int (nI w0)), (2, .int (nI a)), (3, .int (nI a2)), (4, .int (nI a3))]) (by decide) (Nat.le_of_ble_eq_true rfl) rfl ?_
  intro p e s m below meth c ls E hr hlk hnm hl hP
  have hx := E.1
  have hb := E.2.1
  have hK := E.2.2.2.2.2
  have hF : ∀ q ∈ ([] : List Loc), nD b q.base := fun q hq => absurd hq List.not_mem_nil
  have hd := hP
  refine lv_iload_n hx hb d_Desk_join_0 rfl (lv_at hl 1 rfl) ?_
  refine q_cS (rest := []) E (c_Desk_needKind l g (nD b) (nI w0) (⟨nI_pos (by omega), nI_le (Nat.le_of_lt_succ hw) (by decide)⟩)) w_544 w_1 w_542 w_543 hd_Desk_needKind rfl ⟨by decide, by decide⟩ trivial hF hl.1 rfl (Nat.le_of_ble_eq_true rfl) d_Desk_join_1 ⟨by decide, by decide⟩ (qv (fun H1 locs hq hF => ?_))
  have hq := hq.symm
  subst hq
  refine lv_iload_n hx hb d_Desk_join_4 rfl (lv_at hl 2 rfl) ?_
  refine lv_iconst (v := nI 1) hx hb d_Desk_join_5 (by decide) ?_
  refine q_cS (rest := []) E (c_Desk_needPoints l g (nD b) (nI a) (nI 1) (okP_of (by decide) ha)) w_622 w_1 w_620 w_621 hd_Desk_needPoints rfl ⟨by decide, by decide⟩ trivial hF hl.1 rfl (Nat.le_of_ble_eq_true rfl) d_Desk_join_6 ⟨by decide, by decide⟩ (qv (fun H2 locs hq hF => ?_))
  have hq := hq.symm
  subst hq
  refine lv_iload_n hx hb d_Desk_join_9 rfl (lv_at hl 3 rfl) ?_
  refine lv_iconst (v := nI 1) hx hb d_Desk_join_10 (by decide) ?_
  refine q_cS (rest := []) E (c_Desk_needPoints l g (nD b) (nI a2) (nI 1) (okP_of (by decide) h2)) w_622 w_1 w_620 w_621 hd_Desk_needPoints rfl ⟨by decide, by decide⟩ trivial hF hl.1 rfl (Nat.le_of_ble_eq_true rfl) d_Desk_join_11 ⟨by decide, by decide⟩ (qv (fun H3 locs hq hF => ?_))
  have hq := hq.symm
  subst hq
  refine lv_iload hx hb d_Desk_join_14 (lv_at hl 4 rfl) ?_
  refine lv_iconst (v := nI 1) hx hb d_Desk_join_16 (by decide) ?_
  refine q_cS (rest := []) E (c_Desk_needPoints l g (nD b) (nI a3) (nI 1) (okP_of (by decide) h3)) w_622 w_1 w_620 w_621 hd_Desk_needPoints rfl ⟨by decide, by decide⟩ trivial hF hl.1 rfl (Nat.le_of_ble_eq_true rfl) d_Desk_join_17 ⟨by decide, by decide⟩ (qv (fun H4 locs hq hF => ?_))
  have hq := hq.symm
  subst hq
  refine lv_iload_n hx hb d_Desk_join_20 rfl (lv_at hl 1 rfl) ?_
  refine lv_if_ne (tgt := 36) hx hb d_Desk_join_21 (by decide) (fun _ => ?_) (fun _ => ?_)
  · skip
    refine lv_iload_n hx hb d_Desk_join_36 rfl (lv_at hl 1 rfl) ?_
    refine lv_iconst (v := nI 1) hx hb d_Desk_join_37 (by decide) ?_
    refine lv_icmp_ne (tgt := 57) hx hb d_Desk_join_38 (by decide) (fun _ => ?_) (fun _ => ?_)
    · skip
      refine lv_aload_n hx hb d_Desk_join_57 rfl (lv_at hl 0 rfl) ?_
      refine q_get (C := "KateDesk") (T := T_Desk) (N := 16) (ci := 5) E hd.x.ob in_Desk rfl 1 (by decide) w_340 rfl rfl d_Desk_join_58 ?_
      refine lv_aload_n hx hb d_Desk_join_61 rfl (lv_at hl 0 rfl) ?_
      refine q_get (C := "KateDesk") (T := T_Desk) (N := 16) (ci := 5) E hd.x.ob in_Desk rfl 6 (by decide) w_345 rfl rfl d_Desk_join_62 ?_
      refine lv_iload_n hx hb d_Desk_join_65 rfl (lv_at hl 2 rfl) ?_
      refine q_aald (t := 3) E rfl rfl hd.x.pa a rfl ha (by decide) d_Desk_join_66 ?_
      refine lv_aload_n hx hb d_Desk_join_67 rfl (lv_at hl 0 rfl) ?_
      refine q_get (C := "KateDesk") (T := T_Desk) (N := 16) (ci := 5) E hd.x.ob in_Desk rfl 6 (by decide) w_345 rfl rfl d_Desk_join_68 ?_
      refine lv_iload_n hx hb d_Desk_join_71 rfl (lv_at hl 3 rfl) ?_
      refine q_aald (t := 3) E rfl rfl hd.x.pa a2 rfl h2 (by decide) d_Desk_join_72 ?_
      refine lv_aload_n hx hb d_Desk_join_73 rfl (lv_at hl 0 rfl) ?_
      refine q_get (C := "KateDesk") (T := T_Desk) (N := 16) (ci := 5) E hd.x.ob in_Desk rfl 6 (by decide) w_345 rfl rfl d_Desk_join_74 ?_
      refine lv_iload hx hb d_Desk_join_77 (lv_at hl 4 rfl) ?_
      refine q_aald (t := 3) E rfl rfl hd.x.pa a3 rfl h3 (by decide) d_Desk_join_79 ?_
      refine lv_iload_n hx hb d_Desk_join_80 rfl (lv_at hl 1 rfl) ?_
      refine lv_iconst (v := nI 3) hx hb d_Desk_join_81 (by decide) ?_
      refine lv_icmp_ne (tgt := 89) hx hb d_Desk_join_82 (by decide) (fun _ => ?_) (fun _ => ?_)
      · skip
        refine lv_iconst (v := nI 0) hx hb d_Desk_join_89 (by decide) ?_
        refine q_cV (rest := []) E ((c_Curve_add l g (nJ b) (b + 176) (b + 169) (kFq b) mq (kX b) (kPA b a) (kPA1 b a) (kPA2 b a) (kPA3 b a) (kPA b a2) (kPA1 b a2) (kPA2 b a2) (kPA3 b a2) (kPA b a3) (kPA1 b a3) (kPA2 b a3) (kPA3 b a3) (nI 0)).up nJ_D) w_711 w_11 w_781 w_709 w_710 hd_Curve_add rfl ⟨by decide, by decide⟩ (OB.recv E.2.2.2.2.2 (by rfl) hd.x.so.2.1.1) (⟨hd.x.so.2.1, (hd.x.pt a ha), (hd.x.pt a2 h2), (hd.x.pt a3 h3)⟩) hF hl.1 rfl (Nat.le_of_ble_eq_true rfl) d_Desk_join_90 ⟨by decide, by decide⟩ (qv (fun H5 locs hq hF => ?_))
        have hd := hd.kj hK hq (fun q h => h)
        exact q_vret E hr hlk (⟨rfl, hd⟩) hF d_Desk_join_93
      · skip
        refine lv_iconst (v := nI 1) hx hb d_Desk_join_85 (by decide) ?_
        refine lv_goto (tgt := 90) hx hb d_Desk_join_86 (by decide) ?_
        refine q_cV (rest := []) E ((c_Curve_add l g (nJ b) (b + 176) (b + 169) (kFq b) mq (kX b) (kPA b a) (kPA1 b a) (kPA2 b a) (kPA3 b a) (kPA b a2) (kPA1 b a2) (kPA2 b a2) (kPA3 b a2) (kPA b a3) (kPA1 b a3) (kPA2 b a3) (kPA3 b a3) (nI 1)).up nJ_D) w_711 w_11 w_781 w_709 w_710 hd_Curve_add rfl ⟨by decide, by decide⟩ (OB.recv E.2.2.2.2.2 (by rfl) hd.x.so.2.1.1) (⟨hd.x.so.2.1, (hd.x.pt a ha), (hd.x.pt a2 h2), (hd.x.pt a3 h3)⟩) hF hl.1 rfl (Nat.le_of_ble_eq_true rfl) d_Desk_join_90 ⟨by decide, by decide⟩ (qv (fun H5 locs hq hF => ?_))
        have hd := hd.kj hK hq (fun q h => h)
        exact q_vret E hr hlk (⟨rfl, hd⟩) hF d_Desk_join_93
    · skip
      refine lv_aload_n hx hb d_Desk_join_41 rfl (lv_at hl 0 rfl) ?_
      refine q_get (C := "KateDesk") (T := T_Desk) (N := 16) (ci := 5) E hd.x.ob in_Desk rfl 6 (by decide) w_345 rfl rfl d_Desk_join_42 ?_
      refine lv_iload_n hx hb d_Desk_join_45 rfl (lv_at hl 2 rfl) ?_
      refine q_aald (t := 3) E rfl rfl hd.x.pa a rfl ha (by decide) d_Desk_join_46 ?_
      refine lv_aload_n hx hb d_Desk_join_47 rfl (lv_at hl 0 rfl) ?_
      refine q_get (C := "KateDesk") (T := T_Desk) (N := 16) (ci := 5) E hd.x.ob in_Desk rfl 11 (by decide) w_350 rfl rfl d_Desk_join_48 ?_
      refine q_cV (rest := []) E ((c_Point_copy l g (nJ b) (kPA b a) (kPA1 b a) (kPA2 b a) (kPA3 b a) (b + 495) (b + 496) (b + 497) (b + 498)).up nJ_D) w_697 w_2 w_730 w_695 w_696 hd_Point_copy rfl ⟨by decide, by decide⟩ (OB.recv E.2.2.2.2.2 (by rfl) (((hd.x.pt a ha)).1)) (⟨(hd.x.pt a ha), hd.x.ge⟩) hF hl.1 rfl (Nat.le_of_ble_eq_true rfl) d_Desk_join_51 ⟨by decide, by decide⟩ (qv (fun H5 locs hq hF => ?_))
      have hd := hd.kj hK hq.1 (pt_le (hd.x.pt a ha))
      refine lv_goto (tgt := 93) hx hb d_Desk_join_54 (by decide) ?_
      exact q_vret E hr hlk (⟨rfl, hd⟩) hF d_Desk_join_93
  · skip
    refine lv_aload_n hx hb d_Desk_join_24 rfl (lv_at hl 0 rfl) ?_
    refine q_get (C := "KateDesk") (T := T_Desk) (N := 16) (ci := 5) E hd.x.ob in_Desk rfl 6 (by decide) w_345 rfl rfl d_Desk_join_25 ?_
    refine lv_iload_n hx hb d_Desk_join_28 rfl (lv_at hl 2 rfl) ?_
    refine q_aald (t := 3) E rfl rfl hd.x.pa a rfl ha (by decide) d_Desk_join_29 ?_
    refine q_cV (rest := []) E ((c_Point_becomeNothing l g (nJ b) (kPA b a) (kPA1 b a) (kPA2 b a) (kPA3 b a) ne_PA).up nJ_D) w_635 w_2 w_780 w_633 w_634 hd_Point_becomeNothing rfl ⟨by decide, by decide⟩ (OB.recv E.2.2.2.2.2 (by rfl) (((hd.x.pt a ha)).1)) (hd.x.pt a ha) hF hl.1 rfl (Nat.le_of_ble_eq_true rfl) d_Desk_join_30 ⟨by decide, by decide⟩ (qv (fun H5 locs hq hF => ?_))
    have hd := hd.kj hK hq.1 (pt_le (hd.x.pt a ha))
    refine lv_goto (tgt := 93) hx hb d_Desk_join_33 (by decide) ?_
    exact q_vret E hr hlk (⟨rfl, hd⟩) hF d_Desk_join_93
set_option maxHeartbeats 4000000 in
set_option maxRecDepth 100000 in
theorem G_Desk_times (l : Launch) (g : WG) (b pn tn wn : Nat) (mr mq : Int64) (a a2 a3 : Nat) (ha : a < 12) (h2 : a2 < 32) (h3 : a3 < 12) : Ctr l y_Desk_times (.code y_Desk_times prog_1_method_13_code 4 none) 6 234 0 0 (nD b) g [.ref b, .int (nI a), .int (nI a2), .int (nI a3)] (fun H => DS g H H b pn tn wn mr mq) (QV (fun H H' => DS g H H' b pn tn wn mr mq)) := by
  refine ctr_mk l (lv0 := [(0, .ref b), (1, .int (nI a)), (2, .int (nI a2)), (3, .int (nI a3))]) (by decide) (Nat.le_of_ble_eq_true rfl) rfl ?_
  intro p e s m below meth c ls E hr hlk hnm hl hP
  have hx := E.1
  have hb := E.2.1
  have hK := E.2.2.2.2.2
  have hF : ∀ q ∈ ([] : List Loc), nD b q.base := fun q hq => absurd hq List.not_mem_nil
  have hd := hP
  refine lv_iload_n hx hb d_Desk_times_0 rfl (lv_at hl 1 rfl) ?_
  refine lv_iconst (v := nI 1) hx hb d_Desk_times_1 (by decide) ?_
  refine q_cS (rest := []) E (c_Desk_needPoints l g (nD b) (nI a) (nI 1) (okP_of (by decide) ha)) w_622 w_1 w_620 w_621 hd_Desk_needPoints rfl ⟨by decide, by decide⟩ trivial hF hl.1 rfl (Nat.le_of_ble_eq_true rfl) d_Desk_times_2 ⟨by decide, by decide⟩ (qv (fun H1 locs hq hF => ?_))
  have hq := hq.symm
  subst hq
  refine lv_iload_n hx hb d_Desk_times_5 rfl (lv_at hl 2 rfl) ?_
  refine lv_iconst (v := nI 1) hx hb d_Desk_times_6 (by decide) ?_
  refine q_cS (rest := []) E (c_Desk_needScalars l g (nD b) (nI a2) (nI 1) (okS_of (by decide) h2)) w_494 w_1 w_492 w_493 hd_Desk_needScalars rfl ⟨by decide, by decide⟩ trivial hF hl.1 rfl (Nat.le_of_ble_eq_true rfl) d_Desk_times_7 ⟨by decide, by decide⟩ (qv (fun H2 locs hq hF => ?_))
  have hq := hq.symm
  subst hq
  refine lv_iload_n hx hb d_Desk_times_10 rfl (lv_at hl 3 rfl) ?_
  refine lv_iconst (v := nI 1) hx hb d_Desk_times_11 (by decide) ?_
  refine q_cS (rest := []) E (c_Desk_needPoints l g (nD b) (nI a3) (nI 1) (okP_of (by decide) h3)) w_622 w_1 w_620 w_621 hd_Desk_needPoints rfl ⟨by decide, by decide⟩ trivial hF hl.1 rfl (Nat.le_of_ble_eq_true rfl) d_Desk_times_12 ⟨by decide, by decide⟩ (qv (fun H3 locs hq hF => ?_))
  have hq := hq.symm
  subst hq
  refine lv_aload_n hx hb d_Desk_times_15 rfl (lv_at hl 0 rfl) ?_
  refine q_get (C := "KateDesk") (T := T_Desk) (N := 16) (ci := 5) E hd.x.ob in_Desk rfl 2 (by decide) w_341 rfl rfl d_Desk_times_16 ?_
  refine lv_iconst (v := nI 0) hx hb d_Desk_times_19 (by decide) ?_
  refine lv_aload_n hx hb d_Desk_times_20 rfl (lv_at hl 0 rfl) ?_
  refine q_get (C := "KateDesk") (T := T_Desk) (N := 16) (ci := 5) E hd.x.ob in_Desk rfl 5 (by decide) w_344 rfl rfl d_Desk_times_21 ?_
  refine lv_iload_n hx hb d_Desk_times_24 rfl (lv_at hl 2 rfl) ?_
  refine q_aald (t := 4) E rfl rfl hd.x.rs.1 a2 rfl h2 (by decide) d_Desk_times_25 ?_
  refine lv_aload_n hx hb d_Desk_times_26 rfl (lv_at hl 0 rfl) ?_
  refine q_get (C := "KateDesk") (T := T_Desk) (N := 16) (ci := 5) E hd.x.ob in_Desk rfl 6 (by decide) w_345 rfl rfl d_Desk_times_27 ?_
  refine lv_iload_n hx hb d_Desk_times_30 rfl (lv_at hl 3 rfl) ?_
  refine q_aald (t := 3) E rfl rfl hd.x.pa a3 rfl h3 (by decide) d_Desk_times_31 ?_
  refine q_cV (rest := []) E (v_Sums_place l g (nD b) (b + 186) (b + 176) (b + 187) (b + 444) (b + 461) (b + 462) (b + 463) (b + 464) (b + 169) (kFq b) mq (kX b) (kO b) (kO1 b) (kO2 b) (kO3 b) (kDG b) (nJ b) 0 (kSc b a2) (kPA b a3) (kPA1 b a3) (kPA2 b a3) (kPA3 b a3) (by decide) nJ_D (fun h => h.2.1 (nj_DG (by decide)))) w_677 w_12 w_674 w_675 w_676 hd_Sums_place rfl ⟨by decide, by decide⟩ (OB.recv E.2.2.2.2.2 (by rfl) hd.x.so.1) (⟨hd.x.so, hd.x.dr, ⟨(nx_DG (by decide)).1, (hd.x.dg 0 (by decide)).imp (fun f hf => hf.1)⟩, ⟨((hd.x.rs.2 a2 h2)).1.1, ((hd.x.rs.2 a2 h2)).2⟩, (hd.x.pt a3 h3)⟩) hF hl.1 rfl (Nat.le_of_ble_eq_true rfl) d_Desk_times_32 ⟨by decide, by decide⟩ (qv (fun H4 locs hq hF => ?_))
  have hd := hd.digit (by decide) hK hq.1 hq.2
  refine lv_aload_n hx hb d_Desk_times_35 rfl (lv_at hl 0 rfl) ?_
  refine q_get (C := "KateDesk") (T := T_Desk) (N := 16) (ci := 5) E hd.x.ob in_Desk rfl 2 (by decide) w_341 rfl rfl d_Desk_times_36 ?_
  refine lv_aload_n hx hb d_Desk_times_39 rfl (lv_at hl 0 rfl) ?_
  refine q_get (C := "KateDesk") (T := T_Desk) (N := 16) (ci := 5) E hd.x.ob in_Desk rfl 6 (by decide) w_345 rfl rfl d_Desk_times_40 ?_
  refine lv_iload_n hx hb d_Desk_times_43 rfl (lv_at hl 1 rfl) ?_
  refine q_aald (t := 3) E rfl rfl hd.x.pa a rfl ha (by decide) d_Desk_times_44 ?_
  refine lv_iconst (v := nI 1) hx hb d_Desk_times_45 (by decide) ?_
  refine q_cV (rest := []) E ((v_Sums_total l g (nJ b) (b + 186) (b + 176) (b + 187) (b + 444) (b + 461) (b + 462) (b + 463) (b + 464) (b + 169) (kFq b) mq (kX b) (kO b) (kO1 b) (kO2 b) (kO3 b) (kDG b) 1 (kPA b a) (kPA1 b a) (kPA2 b a) (kPA3 b a) (by decide) ne_464 (fun k hk h => h.2.1 (nj_DG hk))).up nJ_D) w_720 w_12 w_717 w_718 w_719 hd_Sums_total rfl ⟨by decide, by decide⟩ (OB.recv E.2.2.2.2.2 (by rfl) hd.x.so.1) (⟨hd.x.so, (hd.x.pt a ha), hd.x.dr, fun k hk => hd.x.dg k (Nat.lt_of_lt_of_le hk (by decide))⟩) hF hl.1 rfl (Nat.le_of_ble_eq_true rfl) d_Desk_times_46 ⟨by decide, by decide⟩ (qv (fun H5 locs hq hF => ?_))
  have hd := hd.kj hK hq (fun q h => h)
  exact q_vret E hr hlk (⟨rfl, hd⟩) hF d_Desk_times_49
set_option maxHeartbeats 4000000 in
set_option maxRecDepth 100000 in
theorem G_Desk_same (l : Launch) (g : WG) (b pn tn wn : Nat) (mr mq : Int64) (a a2 : Nat) (ha : a < 12) (h2 : a2 < 12) : Ctr l y_Desk_same (.code y_Desk_same prog_1_method_15_code 3 (some FieldType.boolean)) 4 181 0 0 (nD b) g [.ref b, .int (nI a), .int (nI a2)] (fun H => DS g H H b pn tn wn mr mq) (QI (fun r H H' => (r = 0 ∨ r = 1) ∧ DS g H H' b pn tn wn mr mq)) := by
  refine ctr_mk l (lv0 := [(0, .ref b), (1, .int (nI a)), (2, .int (nI a2))]) (by decide) (Nat.le_of_ble_eq_true rfl) rfl ?_
  intro p e s m below meth c ls E hr hlk hnm hl hP
  have hx := E.1
  have hb := E.2.1
  have hK := E.2.2.2.2.2
  have hF : ∀ q ∈ ([] : List Loc), nD b q.base := fun q hq => absurd hq List.not_mem_nil
  have hd := hP
  refine lv_iload_n hx hb d_Desk_same_0 rfl (lv_at hl 1 rfl) ?_
  refine lv_iconst (v := nI 1) hx hb d_Desk_same_1 (by decide) ?_
  refine q_cS (rest := []) E (c_Desk_needPoints l g (nD b) (nI a) (nI 1) (okP_of (by decide) ha)) w_622 w_1 w_620 w_621 hd_Desk_needPoints rfl ⟨by decide, by decide⟩ trivial hF hl.1 rfl (Nat.le_of_ble_eq_true rfl) d_Desk_same_2 ⟨by decide, by decide⟩ (qv (fun H1 locs hq hF => ?_))
  have hq := hq.symm
  subst hq
  refine lv_iload_n hx hb d_Desk_same_5 rfl (lv_at hl 2 rfl) ?_
  refine lv_iconst (v := nI 1) hx hb d_Desk_same_6 (by decide) ?_
  refine q_cS (rest := []) E (c_Desk_needPoints l g (nD b) (nI a2) (nI 1) (okP_of (by decide) h2)) w_622 w_1 w_620 w_621 hd_Desk_needPoints rfl ⟨by decide, by decide⟩ trivial hF hl.1 rfl (Nat.le_of_ble_eq_true rfl) d_Desk_same_7 ⟨by decide, by decide⟩ (qv (fun H2 locs hq hF => ?_))
  have hq := hq.symm
  subst hq
  refine lv_aload_n hx hb d_Desk_same_10 rfl (lv_at hl 0 rfl) ?_
  refine q_get (C := "KateDesk") (T := T_Desk) (N := 16) (ci := 5) E hd.x.ob in_Desk rfl 1 (by decide) w_340 rfl rfl d_Desk_same_11 ?_
  refine lv_aload_n hx hb d_Desk_same_14 rfl (lv_at hl 0 rfl) ?_
  refine q_get (C := "KateDesk") (T := T_Desk) (N := 16) (ci := 5) E hd.x.ob in_Desk rfl 6 (by decide) w_345 rfl rfl d_Desk_same_15 ?_
  refine lv_iload_n hx hb d_Desk_same_18 rfl (lv_at hl 1 rfl) ?_
  refine q_aald (t := 3) E rfl rfl hd.x.pa a rfl ha (by decide) d_Desk_same_19 ?_
  refine lv_aload_n hx hb d_Desk_same_20 rfl (lv_at hl 0 rfl) ?_
  refine q_get (C := "KateDesk") (T := T_Desk) (N := 16) (ci := 5) E hd.x.ob in_Desk rfl 6 (by decide) w_345 rfl rfl d_Desk_same_21 ?_
  refine lv_iload_n hx hb d_Desk_same_24 rfl (lv_at hl 2 rfl) ?_
  refine q_aald (t := 3) E rfl rfl hd.x.pa a2 rfl h2 (by decide) d_Desk_same_25 ?_
  refine q_cV (rest := []) E ((v_Curve_equal l g (nJ b) (b + 176) (b + 169) (kFq b) mq (kX b) (kPA b a) (kPA1 b a) (kPA2 b a) (kPA3 b a) (kPA b a2) (kPA1 b a2) (kPA2 b a2) (kPA3 b a2)).up nJ_D) w_810 w_11 w_807 w_808 w_809 hd_Curve_equal rfl ⟨by decide, by decide⟩ (OB.recv E.2.2.2.2.2 (by rfl) hd.x.so.2.1.1) (⟨hd.x.so.2.1, (hd.x.pt a ha), (hd.x.pt a2 h2)⟩) hF hl.1 rfl (Nat.le_of_ble_eq_true rfl) d_Desk_same_26 ⟨by decide, by decide⟩ (qi (fun rz1 H3 locs hq hF => ?_))
  obtain ⟨hbrz1, hq⟩ := hq
  have hd := hd.kj hK hq (fun q h => h.elim (fun h => h ▸ (hd.x.so.2.1.2.2 6 (by decide)).1) (fun h => h ▸ (hd.x.so.2.1.2.2 7 (by decide)).1))
  exact q_zret E hr (bool_n hbrz1) hlk (⟨_, rfl, hbrz1, hd⟩) hF d_Desk_same_29
set_option maxHeartbeats 4000000 in
set_option maxRecDepth 100000 in
theorem G_Desk_checks (l : Launch) (g : WG) (b pn tn wn : Nat) (mr mq : Int64) (a a2 a3 a4 a5 : Nat) (ha : a < 12) (h2 : a2 < 12) (h3 : a3 < 32) (h4 : a4 < 32) (h5 : a5 < 32) : Ctr l y_Desk_checks (.code y_Desk_checks prog_1_method_19_code 6 (some FieldType.boolean)) 6 234 0 0 (nD b) g [.ref b, .int (nI a), .int (nI a2), .int (nI a3), .int (nI a4), .int (nI a5)] (fun H => DS g H H b pn tn wn mr mq) (QI (fun r H H' => (r = 0 ∨ r = 1) ∧ DS g H H' b pn tn wn mr mq)) := by
  refine ctr_mk l (lv0 := [(0, .ref b), (1, .int (nI a)), (2, .int (nI a2)), (3, .int (nI a3)), (4, .int (nI a4)), (5, .int (nI a5))]) (by decide) (Nat.le_of_ble_eq_true rfl) rfl ?_
  intro p e s m below meth c ls E hr hlk hnm hl hP
  have hx := E.1
  have hb := E.2.1
  have hK := E.2.2.2.2.2
  have hF : ∀ q ∈ ([] : List Loc), nD b q.base := fun q hq => absurd hq List.not_mem_nil
  have hd := hP
  refine lv_iload_n hx hb d_Desk_checks_0 rfl (lv_at hl 1 rfl) ?_
  refine lv_iconst (v := nI 1) hx hb d_Desk_checks_1 (by decide) ?_
  refine q_cS (rest := []) E (c_Desk_needPoints l g (nD b) (nI a) (nI 1) (okP_of (by decide) ha)) w_622 w_1 w_620 w_621 hd_Desk_needPoints rfl ⟨by decide, by decide⟩ trivial hF hl.1 rfl (Nat.le_of_ble_eq_true rfl) d_Desk_checks_2 ⟨by decide, by decide⟩ (qv (fun H1 locs hq hF => ?_))
  have hq := hq.symm
  subst hq
  refine lv_iload_n hx hb d_Desk_checks_5 rfl (lv_at hl 2 rfl) ?_
  refine lv_iconst (v := nI 1) hx hb d_Desk_checks_6 (by decide) ?_
  refine q_cS (rest := []) E (c_Desk_needPoints l g (nD b) (nI a2) (nI 1) (okP_of (by decide) h2)) w_622 w_1 w_620 w_621 hd_Desk_needPoints rfl ⟨by decide, by decide⟩ trivial hF hl.1 rfl (Nat.le_of_ble_eq_true rfl) d_Desk_checks_7 ⟨by decide, by decide⟩ (qv (fun H2 locs hq hF => ?_))
  have hq := hq.symm
  subst hq
  refine lv_iload_n hx hb d_Desk_checks_10 rfl (lv_at hl 3 rfl) ?_
  refine lv_iconst (v := nI 1) hx hb d_Desk_checks_11 (by decide) ?_
  refine q_cS (rest := []) E (c_Desk_needScalars l g (nD b) (nI a3) (nI 1) (okS_of (by decide) h3)) w_494 w_1 w_492 w_493 hd_Desk_needScalars rfl ⟨by decide, by decide⟩ trivial hF hl.1 rfl (Nat.le_of_ble_eq_true rfl) d_Desk_checks_12 ⟨by decide, by decide⟩ (qv (fun H3 locs hq hF => ?_))
  have hq := hq.symm
  subst hq
  refine lv_iload hx hb d_Desk_checks_15 (lv_at hl 4 rfl) ?_
  refine lv_iconst (v := nI 1) hx hb d_Desk_checks_17 (by decide) ?_
  refine q_cS (rest := []) E (c_Desk_needScalars l g (nD b) (nI a4) (nI 1) (okS_of (by decide) h4)) w_494 w_1 w_492 w_493 hd_Desk_needScalars rfl ⟨by decide, by decide⟩ trivial hF hl.1 rfl (Nat.le_of_ble_eq_true rfl) d_Desk_checks_18 ⟨by decide, by decide⟩ (qv (fun H4 locs hq hF => ?_))
  have hq := hq.symm
  subst hq
  refine lv_iload hx hb d_Desk_checks_21 (lv_at hl 5 rfl) ?_
  refine lv_iconst (v := nI 1) hx hb d_Desk_checks_23 (by decide) ?_
  refine q_cS (rest := []) E (c_Desk_needScalars l g (nD b) (nI a5) (nI 1) (okS_of (by decide) h5)) w_494 w_1 w_492 w_493 hd_Desk_needScalars rfl ⟨by decide, by decide⟩ trivial hF hl.1 rfl (Nat.le_of_ble_eq_true rfl) d_Desk_checks_24 ⟨by decide, by decide⟩ (qv (fun H5 locs hq hF => ?_))
  have hq := hq.symm
  subst hq
  refine lv_aload_n hx hb d_Desk_checks_27 rfl (lv_at hl 0 rfl) ?_
  refine q_get (C := "KateDesk") (T := T_Desk) (N := 16) (ci := 5) E hd.x.ob in_Desk rfl 0 (by decide) w_339 rfl rfl d_Desk_checks_28 ?_
  refine lv_aload_n hx hb d_Desk_checks_31 rfl (lv_at hl 0 rfl) ?_
  refine q_get (C := "KateDesk") (T := T_Desk) (N := 16) (ci := 5) E hd.x.ob in_Desk rfl 14 (by decide) w_353 rfl rfl d_Desk_checks_32 ?_
  refine lv_aload_n hx hb d_Desk_checks_35 rfl (lv_at hl 0 rfl) ?_
  refine q_get (C := "KateDesk") (T := T_Desk) (N := 16) (ci := 5) E hd.x.ob in_Desk rfl 5 (by decide) w_344 rfl rfl d_Desk_checks_36 ?_
  refine lv_iload hx hb d_Desk_checks_39 (lv_at hl 5 rfl) ?_
  refine q_aald (t := 4) E rfl rfl hd.x.rs.1 a5 rfl h5 (by decide) d_Desk_checks_41 ?_
  refine lv_aload_n hx hb d_Desk_checks_42 rfl (lv_at hl 0 rfl) ?_
  refine q_get (C := "KateDesk") (T := T_Desk) (N := 16) (ci := 5) E hd.x.ob in_Desk rfl 5 (by decide) w_344 rfl rfl d_Desk_checks_43 ?_
  refine lv_iload_n hx hb d_Desk_checks_46 rfl (lv_at hl 3 rfl) ?_
  refine q_aald (t := 4) E rfl rfl hd.x.rs.1 a3 rfl h3 (by decide) d_Desk_checks_47 ?_
  refine q_cV (rest := []) E ((c_Field_subtract l g (nJ b) (b + 162) (b + 160) (kSc b a5) (kSc b a3) (kFr b) mr).up nJ_D) w_169 w_4 w_566 w_167 w_168 hd_Field_subtract rfl ⟨by decide, by decide⟩ (OB.recv E.2.2.2.2.2 (by rfl) ((hd.x.fr).1)) (⟨hd.x.fr, hd.x.hs, (hd.x.rs.2 a5 h5), (hd.x.rs.2 a3 h3)⟩) hF hl.1 rfl (Nat.le_of_ble_eq_true rfl) d_Desk_checks_48 ⟨by decide, by decide⟩ (qv (fun H6 locs hq hF => ?_))
  have hd := hd.kj hK hq (fun q h => h ▸ (hd.x.hs).1)
  refine lv_aload_n hx hb d_Desk_checks_51 rfl (lv_at hl 0 rfl) ?_
  refine q_get (C := "KateDesk") (T := T_Desk) (N := 16) (ci := 5) E hd.x.ob in_Desk rfl 2 (by decide) w_341 rfl rfl d_Desk_checks_52 ?_
  refine lv_iconst (v := nI 0) hx hb d_Desk_checks_55 (by decide) ?_
  refine lv_aload_n hx hb d_Desk_checks_56 rfl (lv_at hl 0 rfl) ?_
  refine q_get (C := "KateDesk") (T := T_Desk) (N := 16) (ci := 5) E hd.x.ob in_Desk rfl 5 (by decide) w_344 rfl rfl d_Desk_checks_57 ?_
  refine lv_iload hx hb d_Desk_checks_60 (lv_at hl 4 rfl) ?_
  refine q_aald (t := 4) E rfl rfl hd.x.rs.1 a4 rfl h4 (by decide) d_Desk_checks_62 ?_
  refine lv_aload_n hx hb d_Desk_checks_63 rfl (lv_at hl 0 rfl) ?_
  refine q_get (C := "KateDesk") (T := T_Desk) (N := 16) (ci := 5) E hd.x.ob in_Desk rfl 11 (by decide) w_350 rfl rfl d_Desk_checks_64 ?_
  refine q_cV (rest := []) E (v_Sums_place l g (nD b) (b + 186) (b + 176) (b + 187) (b + 444) (b + 461) (b + 462) (b + 463) (b + 464) (b + 169) (kFq b) mq (kX b) (kO b) (kO1 b) (kO2 b) (kO3 b) (kDG b) (nJ b) 0 (kSc b a4) (b + 495) (b + 496) (b + 497) (b + 498) (by decide) nJ_D (fun h => h.2.1 (nj_DG (by decide)))) w_677 w_12 w_674 w_675 w_676 hd_Sums_place rfl ⟨by decide, by decide⟩ (OB.recv E.2.2.2.2.2 (by rfl) hd.x.so.1) (⟨hd.x.so, hd.x.dr, ⟨(nx_DG (by decide)).1, (hd.x.dg 0 (by decide)).imp (fun f hf => hf.1)⟩, ⟨((hd.x.rs.2 a4 h4)).1.1, ((hd.x.rs.2 a4 h4)).2⟩, hd.x.ge⟩) hF hl.1 rfl (Nat.le_of_ble_eq_true rfl) d_Desk_checks_67 ⟨by decide, by decide⟩ (qv (fun H7 locs hq hF => ?_))
  have hd := hd.digit (by decide) hK hq.1 hq.2
  refine lv_aload_n hx hb d_Desk_checks_70 rfl (lv_at hl 0 rfl) ?_
  refine q_get (C := "KateDesk") (T := T_Desk) (N := 16) (ci := 5) E hd.x.ob in_Desk rfl 2 (by decide) w_341 rfl rfl d_Desk_checks_71 ?_
  refine lv_iconst (v := nI 1) hx hb d_Desk_checks_74 (by decide) ?_
  refine lv_aload_n hx hb d_Desk_checks_75 rfl (lv_at hl 0 rfl) ?_
  refine q_get (C := "KateDesk") (T := T_Desk) (N := 16) (ci := 5) E hd.x.ob in_Desk rfl 14 (by decide) w_353 rfl rfl d_Desk_checks_76 ?_
  refine lv_aload_n hx hb d_Desk_checks_79 rfl (lv_at hl 0 rfl) ?_
  refine q_get (C := "KateDesk") (T := T_Desk) (N := 16) (ci := 5) E hd.x.ob in_Desk rfl 6 (by decide) w_345 rfl rfl d_Desk_checks_80 ?_
  refine lv_iload_n hx hb d_Desk_checks_83 rfl (lv_at hl 2 rfl) ?_
  refine q_aald (t := 3) E rfl rfl hd.x.pa a2 rfl h2 (by decide) d_Desk_checks_84 ?_
  refine q_cV (rest := []) E (v_Sums_place l g (nD b) (b + 186) (b + 176) (b + 187) (b + 444) (b + 461) (b + 462) (b + 463) (b + 464) (b + 169) (kFq b) mq (kX b) (kO b) (kO1 b) (kO2 b) (kO3 b) (kDG b) (nJ b) 1 (b + 160) (kPA b a2) (kPA1 b a2) (kPA2 b a2) (kPA3 b a2) (by decide) nJ_D (fun h => h.2.1 (nj_DG (by decide)))) w_677 w_12 w_674 w_675 w_676 hd_Sums_place rfl ⟨by decide, by decide⟩ (OB.recv E.2.2.2.2.2 (by rfl) hd.x.so.1) (⟨hd.x.so, hd.x.dr, ⟨(nx_DG (by decide)).1, (hd.x.dg 1 (by decide)).imp (fun f hf => hf.1)⟩, ⟨(hd.x.hs).1.1, (hd.x.hs).2⟩, (hd.x.pt a2 h2)⟩) hF hl.1 rfl (Nat.le_of_ble_eq_true rfl) d_Desk_checks_85 ⟨by decide, by decide⟩ (qv (fun H8 locs hq hF => ?_))
  have hd := hd.digit (by decide) hK hq.1 hq.2
  refine lv_aload_n hx hb d_Desk_checks_88 rfl (lv_at hl 0 rfl) ?_
  refine q_get (C := "KateDesk") (T := T_Desk) (N := 16) (ci := 5) E hd.x.ob in_Desk rfl 2 (by decide) w_341 rfl rfl d_Desk_checks_89 ?_
  refine lv_aload_n hx hb d_Desk_checks_92 rfl (lv_at hl 0 rfl) ?_
  refine q_get (C := "KateDesk") (T := T_Desk) (N := 16) (ci := 5) E hd.x.ob in_Desk rfl 13 (by decide) w_352 rfl rfl d_Desk_checks_93 ?_
  refine lv_iconst (v := nI 2) hx hb d_Desk_checks_96 (by decide) ?_
  refine q_cV (rest := []) E ((v_Sums_total l g (nJ b) (b + 186) (b + 176) (b + 187) (b + 444) (b + 461) (b + 462) (b + 463) (b + 464) (b + 169) (kFq b) mq (kX b) (kO b) (kO1 b) (kO2 b) (kO3 b) (kDG b) 2 (b + 156) (b + 157) (b + 158) (b + 159) (by decide) ne_464 (fun k hk h => h.2.1 (nj_DG hk))).up nJ_D) w_720 w_12 w_717 w_718 w_719 hd_Sums_total rfl ⟨by decide, by decide⟩ (OB.recv E.2.2.2.2.2 (by rfl) hd.x.so.1) (⟨hd.x.so, hd.x.mu, hd.x.dr, fun k hk => hd.x.dg k (Nat.lt_of_lt_of_le hk (by decide))⟩) hF hl.1 rfl (Nat.le_of_ble_eq_true rfl) d_Desk_checks_97 ⟨by decide, by decide⟩ (qv (fun H9 locs hq hF => ?_))
  have hd := hd.kj hK hq (fun q h => h)
  refine lv_aload_n hx hb d_Desk_checks_100 rfl (lv_at hl 0 rfl) ?_
  refine q_get (C := "KateDesk") (T := T_Desk) (N := 16) (ci := 5) E hd.x.ob in_Desk rfl 1 (by decide) w_340 rfl rfl d_Desk_checks_101 ?_
  refine lv_aload_n hx hb d_Desk_checks_104 rfl (lv_at hl 0 rfl) ?_
  refine q_get (C := "KateDesk") (T := T_Desk) (N := 16) (ci := 5) E hd.x.ob in_Desk rfl 6 (by decide) w_345 rfl rfl d_Desk_checks_105 ?_
  refine lv_iload_n hx hb d_Desk_checks_108 rfl (lv_at hl 1 rfl) ?_
  refine q_aald (t := 3) E rfl rfl hd.x.pa a rfl ha (by decide) d_Desk_checks_109 ?_
  refine lv_aload_n hx hb d_Desk_checks_110 rfl (lv_at hl 0 rfl) ?_
  refine q_get (C := "KateDesk") (T := T_Desk) (N := 16) (ci := 5) E hd.x.ob in_Desk rfl 13 (by decide) w_352 rfl rfl d_Desk_checks_111 ?_
  refine q_cV (rest := []) E ((v_Curve_equal l g (nJ b) (b + 176) (b + 169) (kFq b) mq (kX b) (kPA b a) (kPA1 b a) (kPA2 b a) (kPA3 b a) (b + 156) (b + 157) (b + 158) (b + 159)).up nJ_D) w_810 w_11 w_807 w_808 w_809 hd_Curve_equal rfl ⟨by decide, by decide⟩ (OB.recv E.2.2.2.2.2 (by rfl) hd.x.so.2.1.1) (⟨hd.x.so.2.1, (hd.x.pt a ha), hd.x.mu⟩) hF hl.1 rfl (Nat.le_of_ble_eq_true rfl) d_Desk_checks_114 ⟨by decide, by decide⟩ (qi (fun rz1 H10 locs hq hF => ?_))
  obtain ⟨hbrz1, hq⟩ := hq
  have hd := hd.kj hK hq (fun q h => h.elim (fun h => h ▸ (hd.x.so.2.1.2.2 6 (by decide)).1) (fun h => h ▸ (hd.x.so.2.1.2.2 7 (by decide)).1))
  exact q_zret E hr (bool_n hbrz1) hlk (⟨_, rfl, hbrz1, hd⟩) hF d_Desk_checks_117
set_option maxHeartbeats 4000000 in
set_option maxRecDepth 100000 in
theorem G_Desk_open (l : Launch) (g : WG) (b pn tn wn : Nat) (mr mq : Int64) (a n z y : Nat) (h1 : 1 ≤ n) (h16 : n ≤ 16) (ha : a + n ≤ 32) (hz : z < 32) (hy : y < 32) : Ctr l y_Desk_open (.code y_Desk_open prog_1_method_18_code 5 none) 3 161 0 0 (nD b) g [.ref b, .int (nI a), .int (nI n), .int (nI z), .int (nI y)] (fun H => DS g H H b pn tn wn mr mq) (QV (fun H H' => DS g H H' b pn tn wn mr mq)) := by
  refine ctr_mk l (lv0 := [(0, .ref b), (1, .int (nI a)), (2, .int (nI n)), (3, .int (nI z)), (4, .int (nI y))]) (by decide) (Nat.le_of_ble_eq_true rfl) rfl ?_
  intro p e s m below meth c ls E hr hlk hnm hl hP
  have hx := E.1
  have hb := E.2.1
  have hK := E.2.2.2.2.2
  have hF : ∀ q ∈ ([] : List Loc), nD b q.base := fun q hq => absurd hq List.not_mem_nil
  have hd := hP
  refine lv_iload_n hx hb d_Desk_open_0 rfl (lv_at hl 2 rfl) ?_
  refine lv_iconst (v := nI 1) hx hb d_Desk_open_1 (by decide) ?_
  refine lv_bipush (v := nI 16) hx hb d_Desk_open_2 (by decide) ?_
  refine q_cS (rest := []) E (c_Desk_needCount l g (nD b) (nI n) (nI 1) (nI 16) (okC_of h1 h16 (by decide))) w_798 w_1 w_796 w_797 hd_Desk_needCount rfl ⟨by decide, by decide⟩ trivial hF hl.1 rfl (Nat.le_of_ble_eq_true rfl) d_Desk_open_4 ⟨by decide, by decide⟩ (qv (fun H1 locs hq hF => ?_))
  have hq := hq.symm
  subst hq
  refine lv_iload_n hx hb d_Desk_open_7 rfl (lv_at hl 1 rfl) ?_
  refine lv_iload_n hx hb d_Desk_open_8 rfl (lv_at hl 2 rfl) ?_
  refine q_cS (rest := []) E (c_Desk_needScalars l g (nD b) (nI a) (nI n) (okS_of h1 ha)) w_494 w_1 w_492 w_493 hd_Desk_needScalars rfl ⟨by decide, by decide⟩ trivial hF hl.1 rfl (Nat.le_of_ble_eq_true rfl) d_Desk_open_9 ⟨by decide, by decide⟩ (qv (fun H2 locs hq hF => ?_))
  have hq := hq.symm
  subst hq
  refine lv_iload_n hx hb d_Desk_open_12 rfl (lv_at hl 3 rfl) ?_
  refine lv_iconst (v := nI 1) hx hb d_Desk_open_13 (by decide) ?_
  refine q_cS (rest := []) E (c_Desk_needScalars l g (nD b) (nI z) (nI 1) (okS_of (by decide) hz)) w_494 w_1 w_492 w_493 hd_Desk_needScalars rfl ⟨by decide, by decide⟩ trivial hF hl.1 rfl (Nat.le_of_ble_eq_true rfl) d_Desk_open_14 ⟨by decide, by decide⟩ (qv (fun H3 locs hq hF => ?_))
  have hq := hq.symm
  subst hq
  refine lv_iload hx hb d_Desk_open_17 (lv_at hl 4 rfl) ?_
  refine lv_iconst (v := nI 1) hx hb d_Desk_open_19 (by decide) ?_
  refine q_cS (rest := []) E (c_Desk_needScalars l g (nD b) (nI y) (nI 1) (okS_of (by decide) hy)) w_494 w_1 w_492 w_493 hd_Desk_needScalars rfl ⟨by decide, by decide⟩ trivial hF hl.1 rfl (Nat.le_of_ble_eq_true rfl) d_Desk_open_20 ⟨by decide, by decide⟩ (qv (fun H4 locs hq hF => ?_))
  have hq := hq.symm
  subst hq
  refine lv_aload_n hx hb d_Desk_open_23 rfl (lv_at hl 0 rfl) ?_
  refine q_get (C := "KateDesk") (T := T_Desk) (N := 16) (ci := 5) E hd.x.ob in_Desk rfl 0 (by decide) w_339 rfl rfl d_Desk_open_24 ?_
  refine lv_aload_n hx hb d_Desk_open_27 rfl (lv_at hl 0 rfl) ?_
  refine q_get (C := "KateDesk") (T := T_Desk) (N := 16) (ci := 5) E hd.x.ob in_Desk rfl 15 (by decide) w_354 rfl rfl d_Desk_open_28 ?_
  refine lv_aload_n hx hb d_Desk_open_31 rfl (lv_at hl 0 rfl) ?_
  refine q_get (C := "KateDesk") (T := T_Desk) (N := 16) (ci := 5) E hd.x.ob in_Desk rfl 5 (by decide) w_344 rfl rfl d_Desk_open_32 ?_
  refine lv_iload_n hx hb d_Desk_open_35 rfl (lv_at hl 3 rfl) ?_
  refine q_aald (t := 4) E rfl rfl hd.x.rs.1 z rfl hz (by decide) d_Desk_open_36 ?_
  refine q_cV (rest := []) E ((c_Field_lift l g (nJ b) (b + 162) (b + 161) (kSc b z) (kFr b) mr).up nJ_D) w_302 w_4 w_336 w_300 w_301 hd_Field_lift rfl ⟨by decide, by decide⟩ (OB.recv E.2.2.2.2.2 (by rfl) ((hd.x.fr).1)) (⟨hd.x.fr, hd.x.fa, (hd.x.rs.2 z hz)⟩) hF hl.1 rfl (Nat.le_of_ble_eq_true rfl) d_Desk_open_37 ⟨by decide, by decide⟩ (qv (fun H5 locs hq hF => ?_))
  have hd := hd.kj hK hq (fun q h => h ▸ (hd.x.fa).1)
  refine lv_aload_n hx hb d_Desk_open_40 rfl (lv_at hl 0 rfl) ?_
  refine q_get (C := "KateDesk") (T := T_Desk) (N := 16) (ci := 5) E hd.x.ob in_Desk rfl 4 (by decide) w_343 rfl rfl d_Desk_open_41 ?_
  refine lv_aload_n hx hb d_Desk_open_44 rfl (lv_at hl 0 rfl) ?_
  refine q_get (C := "KateDesk") (T := T_Desk) (N := 16) (ci := 5) E hd.x.ob in_Desk rfl 14 (by decide) w_353 rfl rfl d_Desk_open_45 ?_
  refine lv_aload_n hx hb d_Desk_open_48 rfl (lv_at hl 0 rfl) ?_
  refine q_get (C := "KateDesk") (T := T_Desk) (N := 16) (ci := 5) E hd.x.ob in_Desk rfl 5 (by decide) w_344 rfl rfl d_Desk_open_49 ?_
  refine lv_iload_n hx hb d_Desk_open_52 rfl (lv_at hl 1 rfl) ?_
  refine lv_iload_n hx hb d_Desk_open_53 rfl (lv_at hl 2 rfl) ?_
  refine lv_aload_n hx hb d_Desk_open_54 rfl (lv_at hl 0 rfl) ?_
  refine q_get (C := "KateDesk") (T := T_Desk) (N := 16) (ci := 5) E hd.x.ob in_Desk rfl 15 (by decide) w_354 rfl rfl d_Desk_open_55 ?_
  refine q_cV (rest := []) E ((c_Polys_divide l g (nJ b) (b + 470) (b + 162) (b + 478) (kFr b) mr (kY b) (kV b) (b + 160) (b + 1) (b + 161) (kSc b) a n ha h1).up nJ_D) w_852 w_14 w_849 w_850 w_851 hd_Polys_divide rfl ⟨by decide, by decide⟩ (OB.recv E.2.2.2.2.2 (by rfl) hd.x.po.1) (⟨hd.x.po, hd.x.hs, hd.x.rs, hd.x.fa⟩) hF hl.1 rfl (Nat.le_of_ble_eq_true rfl) d_Desk_open_58 ⟨by decide, by decide⟩ (qv (fun H6 locs hq hF => ?_))
  have hd := hd.kj hK hq (fun q h => h)
  refine lv_aload_n hx hb d_Desk_open_61 rfl (lv_at hl 0 rfl) ?_
  refine q_get (C := "KateDesk") (T := T_Desk) (N := 16) (ci := 5) E hd.x.ob in_Desk rfl 5 (by decide) w_344 rfl rfl d_Desk_open_62 ?_
  refine lv_iload hx hb d_Desk_open_65 (lv_at hl 4 rfl) ?_
  refine q_aald (t := 4) E rfl rfl hd.x.rs.1 y rfl hy (by decide) d_Desk_open_67 ?_
  refine lv_aload_n hx hb d_Desk_open_68 rfl (lv_at hl 0 rfl) ?_
  refine q_get (C := "KateDesk") (T := T_Desk) (N := 16) (ci := 5) E hd.x.ob in_Desk rfl 14 (by decide) w_353 rfl rfl d_Desk_open_69 ?_
  obtain ⟨f1, hf1⟩ := (hd.x.hs).2
  refine q_cS (rest := []) E ((c_Limbs_copy l g (nJ b) (kSc b y) (b + 160) f1).up nJ_D) w_146 w_5 w_338 w_145 hd_Limbs_copy rfl ⟨by decide, by decide⟩ (⟨(hd.x.rs.2 y hy), hf1⟩) hF hl.1 rfl (Nat.le_of_ble_eq_true rfl) d_Desk_open_72 ⟨by decide, by decide⟩ (qv (fun H7 locs hq hF => ?_))
  have hd := hd.kj hK hq.1 (fun q h => h ▸ ((hd.x.rs.2 y hy)).1)
  exact q_vret E hr hlk (⟨rfl, hd⟩) hF d_Desk_open_75
