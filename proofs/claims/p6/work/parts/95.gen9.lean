theorem ds_w1 {b : Nat} : ∀ q, nJ b q → nD b q ∧ q ≠ b + 150 ∧ q ≠ b + 151 := fun q h => ⟨h.1, fun e => h.2.2 (by subst e; omega), fun e => h.2.2 (by subst e; omega)⟩
theorem nd_148 {b c : Nat} (h : c ≤ 500) : nD b (b + c) := ⟨Nat.le_add_right _ _, Nat.add_le_add_left h _⟩
theorem pa_150 {b k : Nat} (hk : k < 12) : kPA b k ≠ b + 150 ∧ kPA b k ≠ b + 151 := by unfold kPA; omega
set_option maxHeartbeats 4000000 in
set_option maxRecDepth 100000 in
theorem G_Desk_bytes (l : Launch) (g : WG) (b pn tn wn : Nat) (mr mq : Int64) (a : Nat) (sh : Int32) (ha : a < 12) : Ctr l y_Desk_bytes (.code y_Desk_bytes prog_1_method_10_code 3 none) 5 207 0 0 (nD b) g [.ref b, .int (nI a), .int sh] (fun H => DS g H H b pn tn wn mr mq) (QV (fun H H' => ∃ w9, DS g H H' b pn tn w9 mr mq)) := by
  refine ctr_mk l (lv0 := [(0, .ref b), (1, .int (nI a)), (2, .int sh)]) (by decide) (Nat.le_of_ble_eq_true rfl) rfl ?_
  intro p e s m below meth c ls E hr hlk hnm hl hP
  have hx := E.1
  have hb := E.2.1
  have hK := E.2.2.2.2.2
  have hF : ∀ q ∈ ([] : List Loc), nD b q.base := fun q hq => absurd hq List.not_mem_nil
  have hd := hP
  refine lv_iload_n hx hb d_Desk_bytes_0 rfl (lv_at hl 1 rfl) ?_
  refine lv_iconst (v := nI 1) hx hb d_Desk_bytes_1 (by decide) ?_
  refine q_cS (rest := []) E (c_Desk_needPoints l g (nD b) (nI a) (nI 1) (okP_of (by decide) ha)) w_622 w_1 w_620 w_621 hd_Desk_needPoints rfl ⟨by decide, by decide⟩ trivial hF hl.1 rfl (Nat.le_of_ble_eq_true rfl) d_Desk_bytes_2 ⟨by decide, by decide⟩ (qv (fun H1 locs hq hF => ?_))
  have hq := hq.symm
  subst hq
  refine lv_aload_n hx hb d_Desk_bytes_5 rfl (lv_at hl 0 rfl) ?_
  refine q_get (C := "KateDesk") (T := T_Desk) (N := 16) (ci := 5) E hd.x.ob in_Desk rfl 3 (by decide) w_342 rfl rfl d_Desk_bytes_6 ?_
  refine lv_aload_n hx hb d_Desk_bytes_9 rfl (lv_at hl 0 rfl) ?_
  refine q_get (C := "KateDesk") (T := T_Desk) (N := 16) (ci := 5) E hd.x.ob in_Desk rfl 10 (by decide) w_349 rfl rfl d_Desk_bytes_10 ?_
  refine lv_aload_n hx hb d_Desk_bytes_13 rfl (lv_at hl 0 rfl) ?_
  refine q_get (C := "KateDesk") (T := T_Desk) (N := 16) (ci := 5) E hd.x.ob in_Desk rfl 6 (by decide) w_345 rfl rfl d_Desk_bytes_14 ?_
  refine lv_iload_n hx hb d_Desk_bytes_17 rfl (lv_at hl 1 rfl) ?_
  refine q_aald (t := 3) E rfl rfl hd.x.pa a rfl ha (by decide) d_Desk_bytes_18 ?_
  refine lv_iload_n hx hb d_Desk_bytes_19 rfl (lv_at hl 2 rfl) ?_
  refine q_cV (rest := []) E (v_Forms_write l g (nD b) (b + 465) (b + 176) (b + 169) (kFq b) mq (kX b) (b + 466) (b + 467) (b + 468) (b + 469) (nJ b) (kPA b a) (kPA1 b a) (kPA2 b a) (kPA3 b a) (b + 150) (b + 151) wn sh (nd_148 (by decide)) (nd_148 (by decide)) ds_w1 ⟨by omega, by omega⟩ ⟨by omega, by omega⟩ ⟨by omega, by omega⟩ ⟨show b + 175 ≠ b + 150 by omega, show b + 175 ≠ b + 151 by omega⟩ (pa_150 ha) (by omega)) w_741 w_13 w_738 w_739 w_740 hd_Forms_write rfl ⟨by decide, by decide⟩ (OB.recv E.2.2.2.2.2 (by rfl) hd.x.fm.1) (⟨hd.x.fm, (hd.x.pt a ha), hd.wr⟩) hF hl.1 rfl (Nat.le_of_ble_eq_true rfl) d_Desk_bytes_20 ⟨by decide, by decide⟩ (qv (fun H2 locs hq hF => ?_))
  obtain ⟨_, _, w9, f1, k2, f3, h96, hrw⟩ := hq
  have hd := hd.wchain hK f1 k2 f3 hrw h96
  exact q_vret E hr hlk (⟨rfl, _, hd⟩) hF d_Desk_bytes_23
set_option maxHeartbeats 4000000 in
set_option maxRecDepth 100000 in
theorem G_Desk_feed (l : Launch) (g : WG) (b pn tn wn : Nat) (mr mq : Int64) (n : Nat) (v : Int64) (h1 : 1 ≤ n) (h8 : n ≤ 8) (hfit : tn + n ≤ 96) : Ctr l y_Desk_feed (.code y_Desk_feed prog_1_method_2_code 5 (some FieldType.int)) 1 21 0 0 (nD b) g [.ref b, .int (nI n), .long v] (fun H => DSF g H H b pn tn wn mr mq) (QI (fun r H H' => r = nI (tn + n) ∧ DSF g H H' b pn (tn + n) wn mr mq)) := by
  refine ctr_mk l (lv0 := [(0, .ref b), (1, .int (nI n)), (2, .long v)]) (by decide) (Nat.le_of_ble_eq_true rfl) rfl ?_
  intro p e s m below meth c ls E hr hlk hnm hl hP
  have hx := E.1
  have hb := E.2.1
  have hK := E.2.2.2.2.2
  have hF : ∀ q ∈ ([] : List Loc), nD b q.base := fun q hq => absurd hq List.not_mem_nil
  have hd := hP
  have lp : ∀ (k : Nat) (i : Nat) (H : Heap) (locs : List Loc) (ls : Array Slot), i + k = n → DSF g s.heap H b pn (tn + i) wn mr mq → (∀ q ∈ locs, nD b q.base) → lv_has ls 5 [(4, .int (nI i)), (0, .ref b), (1, .int (nI n)), (2, .long v)] → W p l e { frames := 1, cells := 0, slots := 0, locals := 21 } s m [.ref b, .int (nI n), .long v].toArray below meth c H locs 0 0 (MQ below (QcP (QI (fun r H H' => r = nI (tn + n) ∧ DSF g H H' b pn (tn + n) wn mr mq))) [.ref b, .int (nI n), .long v].toArray s 0 0 (fun q => nD b q)) (F0 m 48 ls []) := by
    intro k
    induction k with
    | zero =>
      intro  i   H   locs   ls hi hd hF hl
      obtain rfl : i = n := by omega
      refine lv_iload hx hb d_Desk_feed_48 (lv_at hl 0 rfl) ?_
      refine lv_iload_n hx hb d_Desk_feed_50 rfl (lv_at hl 2 rfl) ?_
      refine lv_icmp_ge (tgt := 75) hx hb d_Desk_feed_51 (by decide) (fun _ => ?_) (fun h9 => absurd (nI_le (Nat.le_refl _) (by omega)) h9)
      refine lv_aload_n hx hb d_Desk_feed_75 rfl (lv_at hl 1 rfl) ?_
      refine q_get (C := "KateDesk") (T := T_Desk) (N := 16) (ci := 5) E hd.x.ob in_Desk rfl 9 (by decide) w_348 rfl rfl d_Desk_feed_76 ?_
      refine q_get (C := "KateDesk$Row") (T := T_Row) (N := 2) (ci := 3) E hd.tp.1 in_Row rfl 1 (by decide) w_74 rfl rfl d_Desk_feed_79 ?_
      exact q_iret E hr hlk (⟨_, rfl, rfl, hd⟩) hF d_Desk_feed_82
    | succ k ih =>
      intro  i   H   locs   ls hi hd hF hl
      refine lv_iload hx hb d_Desk_feed_48 (lv_at hl 0 rfl) ?_
      refine lv_iload_n hx hb d_Desk_feed_50 rfl (lv_at hl 2 rfl) ?_
      refine lv_icmp_ge (tgt := 75) hx hb d_Desk_feed_51 (by decide) (fun h9 => absurd h9 (nI_ge (by omega) (by omega))) (fun _ => ?_)
      refine lv_aload_n hx hb d_Desk_feed_54 rfl (lv_at hl 1 rfl) ?_
      refine q_get (C := "KateDesk") (T := T_Desk) (N := 16) (ci := 5) E hd.x.ob in_Desk rfl 9 (by decide) w_348 rfl rfl d_Desk_feed_55 ?_
      refine lv_lload_n hx hb d_Desk_feed_58 rfl (lv_at hl 3 rfl) ?_
      refine lv_bipush (v := nI 8) hx hb d_Desk_feed_59 (by decide) ?_
      refine lv_iload hx hb d_Desk_feed_61 (lv_at hl 0 rfl) ?_
      refine lv_imul hx hb d_Desk_feed_63 ?_
      refine lv_lshr (v := v >>> (((nI 8) * (nI i)).toInt64 &&& 63)) hx hb d_Desk_feed_64 rfl ?_
      refine lv_l2i (v := (v >>> (((nI 8) * (nI i)).toInt64 &&& 63)).toInt32) hx hb d_Desk_feed_65 rfl ?_
      refine lv_topi (fun v1 _ => ?_)
      refine q_cV (rest := []) E (c_Row_append l g (nD b) (b + 148) (b + 149) (tn + i) v1 (by omega)) w_484 w_3 w_481 w_482 w_483 hd_Row_append rfl ⟨by decide, by decide⟩ (OB.recv E.2.2.2.2.2 (by rfl) hd.tp.1) (⟨hd.tp.1, hd.tp.2, nd_148 (by decide), nd_148 (by decide)⟩) hF hl.1 rfl (Nat.le_of_ble_eq_true rfl) d_Desk_feed_66 ⟨by decide, by decide⟩ (qv (fun H1 locs hq hF => ?_))
      have hd := hd.tape hq.1 ⟨hq.2.1, hq.2.2⟩ (by omega)
      refine lv_iinc (k := 0) (v := nI (i + 1)) (lv' := [(4, .int (nI (i + 1))), (0, .ref b), (1, .int (nI n)), (2, .long v)]) hx hb d_Desk_feed_69 hl rfl (i_inc i) (by decide) rfl (fun ls hl => ?_)
      refine lv_goto (tgt := 48) hx hb d_Desk_feed_72 (by decide) ?_
      have hl : lv_has ls 5 [(4, .int (nI (i + 1))), (0, .ref b), (1, .int (nI n)), (2, .long v)] := lv_sub hl [0, 1, 2, 3] rfl
      exact ih (i + 1) _ _ ls (by omega) hd hF hl
  refine lv_iload_n hx hb d_Desk_feed_0 rfl (lv_at hl 1 rfl) ?_
  refine lv_iconst (v := nI 1) hx hb d_Desk_feed_1 (by decide) ?_
  refine lv_icmp_lt (tgt := 11) hx hb d_Desk_feed_2 (by decide) (fun h9 => absurd h9 (nI_nlt h1 (by omega))) (fun _ => ?_)
  refine lv_iload_n hx hb d_Desk_feed_5 rfl (lv_at hl 1 rfl) ?_
  refine lv_bipush (v := nI 8) hx hb d_Desk_feed_6 (by decide) ?_
  refine lv_icmp_le (tgt := 21) hx hb d_Desk_feed_8 (by decide) (fun _ => ?_) (fun h9 => absurd (nI_le h8 (by decide)) h9)
  refine lv_aload_n hx hb d_Desk_feed_21 rfl (lv_at hl 0 rfl) ?_
  refine q_get (C := "KateDesk") (T := T_Desk) (N := 16) (ci := 5) E hd.x.ob in_Desk rfl 9 (by decide) w_348 rfl rfl d_Desk_feed_22 ?_
  refine q_get (C := "KateDesk$Row") (T := T_Row) (N := 2) (ci := 3) E hd.tp.1 in_Row rfl 1 (by decide) w_74 rfl rfl d_Desk_feed_25 ?_
  refine lv_iload_n hx hb d_Desk_feed_28 rfl (lv_at hl 1 rfl) ?_
  refine lv_iadd hx hb d_Desk_feed_29 ?_
  refine lv_bipush (v := nI 96) hx hb d_Desk_feed_30 (by decide) ?_
  refine lv_icmp_le (tgt := 45) hx hb d_Desk_feed_32 (by decide) (fun _ => ?_) (fun h9 => absurd (by rw [nI_add]; exact nI_le hfit (by decide)) h9)
  refine lv_iconst (v := nI 0) hx hb d_Desk_feed_45 (by decide) ?_
  refine lv_istore (lv' := [(4, .int (nI 0)), (0, .ref b), (1, .int (nI n)), (2, .long v)]) hx hb d_Desk_feed_46 hl (by decide) rfl (fun ls hl => ?_)
  have hl : lv_has ls 5 [(4, .int (nI 0)), (0, .ref b), (1, .int (nI n)), (2, .long v)] := lv_sub hl [0, 1, 2, 3] rfl
  exact lp n 0 _ _ ls (by omega) hd hF hl
set_option maxHeartbeats 4000000 in
set_option maxRecDepth 100000 in
theorem G_Desk_point (l : Launch) (g : WG) (b pn tn wn : Nat) (mr mq : Int64) (a : Nat) (ha : a < 12) (ht96 : tn ≤ 96) : Ctr l y_Desk_point (.code y_Desk_point prog_1_method_9_code 3 (some FieldType.int)) 7 255 0 0 (nD b) g [.ref b, .int (nI a)] (fun H => DS g H H b pn tn wn mr mq) (QI (fun r H H' => DS g H H' b pn 0 wn mr mq)) := by
  refine ctr_mk l (lv0 := [(0, .ref b), (1, .int (nI a))]) (by decide) (Nat.le_of_ble_eq_true rfl) rfl ?_
  intro p e s m below meth c ls E hr hlk hnm hl hP
  have hx := E.1
  have hb := E.2.1
  have hK := E.2.2.2.2.2
  have hF : ∀ q ∈ ([] : List Loc), nD b q.base := fun q hq => absurd hq List.not_mem_nil
  have hd := hP
  refine lv_iload_n hx hb d_Desk_point_0 rfl (lv_at hl 1 rfl) ?_
  refine lv_iconst (v := nI 1) hx hb d_Desk_point_1 (by decide) ?_
  refine q_cS (rest := []) E (c_Desk_needPoints l g (nD b) (nI a) (nI 1) (okP_of (by decide) ha)) w_622 w_1 w_620 w_621 hd_Desk_needPoints rfl ⟨by decide, by decide⟩ trivial hF hl.1 rfl (Nat.le_of_ble_eq_true rfl) d_Desk_point_2 ⟨by decide, by decide⟩ (qv (fun H1 locs hq hF => ?_))
  have hq := hq.symm
  subst hq
  refine lv_aload_n hx hb d_Desk_point_5 rfl (lv_at hl 0 rfl) ?_
  refine q_get (C := "KateDesk") (T := T_Desk) (N := 16) (ci := 5) E hd.x.ob in_Desk rfl 3 (by decide) w_342 rfl rfl d_Desk_point_6 ?_
  refine lv_aload_n hx hb d_Desk_point_9 rfl (lv_at hl 0 rfl) ?_
  refine q_get (C := "KateDesk") (T := T_Desk) (N := 16) (ci := 5) E hd.x.ob in_Desk rfl 12 (by decide) w_351 rfl rfl d_Desk_point_10 ?_
  refine lv_aload_n hx hb d_Desk_point_13 rfl (lv_at hl 0 rfl) ?_
  refine q_get (C := "KateDesk") (T := T_Desk) (N := 16) (ci := 5) E hd.x.ob in_Desk rfl 9 (by decide) w_348 rfl rfl d_Desk_point_14 ?_
  refine q_cV (rest := []) E ((v_Forms_read l g (nJ b) (b + 465) (b + 176) (b + 169) (kFq b) mq (kX b) (b + 466) (b + 467) (b + 468) (b + 469) (b + 152) (b + 153) (b + 154) (b + 155) (b + 148) (b + 149) tn ht96 (by omega)).up nJ_D) w_627 w_13 w_624 w_625 w_626 hd_Forms_read rfl ⟨by decide, by decide⟩ (OB.recv E.2.2.2.2.2 (by rfl) hd.x.fm.1) (⟨hd.x.fm, hd.x.hp, hd.tp⟩) hF hl.1 rfl (Nat.le_of_ble_eq_true rfl) d_Desk_point_17 ⟨by decide, by decide⟩ (qi (fun rz1 H2 locs hq hF => ?_))
  have hd := hd.kj hK hq (fun q h => h)
  refine lv_istore_n (lv' := [(2, .int rz1), (0, .ref b), (1, .int (nI a))]) hx hb d_Desk_point_20 rfl hl (by decide) rfl (fun ls hl => ?_)
  refine lv_aload_n hx hb d_Desk_point_21 rfl (lv_at hl 1 rfl) ?_
  refine q_get (C := "KateDesk") (T := T_Desk) (N := 16) (ci := 5) E hd.x.ob in_Desk rfl 9 (by decide) w_348 rfl rfl d_Desk_point_22 ?_
  refine lv_iconst (v := nI 0) hx hb d_Desk_point_25 (by decide) ?_
  refine q_put (C := "KateDesk$Row") (T := T_Row) (N := 2) (ci := 3) (ty := .int) E hd.tp.1 in_Row ty_Row tyok_Row nm_Row rfl 1 (by decide) w_74 rfl rfl (by decide +kernel) rfl rfl (Nat.le_of_ble_eq_true rfl) (nd_148 (by decide)) hF d_Desk_point_26 (fun H3 locs hq ho2 hF => ?_)
  have hd : DS g s.heap H3 b pn 0 wn mr mq := hd.tape hq ⟨ho2, hd.tp.2.imp (fun f hf => AB.off hq (show ¬ b + 149 = b + 148 from by omega) hf)⟩ (by decide)
  refine lv_iload_n hx hb d_Desk_point_29 rfl (lv_at hl 0 rfl) ?_
  refine lv_if_eq (tgt := 35) hx hb d_Desk_point_30 (by decide) (fun _ => ?_) (fun _ => ?_)
  · skip
    refine lv_aload_n hx hb d_Desk_point_35 rfl (lv_at hl 1 rfl) ?_
    refine lv_aload_n hx hb d_Desk_point_36 rfl (lv_at hl 1 rfl) ?_
    refine q_get (C := "KateDesk") (T := T_Desk) (N := 16) (ci := 5) E hd.x.ob in_Desk rfl 12 (by decide) w_351 rfl rfl d_Desk_point_37 ?_
    refine q_cV (rest := []) E (G_Desk_isGood l g b pn 0 wn mr mq) w_673 w_1 w_670 w_672 (bw_s 7 rfl) hd_Desk_isGood rfl ⟨by decide, by decide⟩ (OB.recv E.2.2.2.2.2 (by rfl) hd.x.ob) (⟨FRM.rf, hd.2⟩) hF hl.1 rfl (Nat.le_of_ble_eq_true rfl) d_Desk_point_40 ⟨by decide, by decide⟩ (qi (fun rz2 H4 locs hq hF => ?_))
    have hd : DS g s.heap H4 b pn 0 wn mr mq := ⟨hd.1.tr hq.2.1, hq.2.2⟩
    refine lv_if_ne (tgt := 49) hx hb d_Desk_point_43 (by decide) (fun _ => ?_) (fun _ => ?_)
    · skip
      refine lv_aload_n hx hb d_Desk_point_49 rfl (lv_at hl 1 rfl) ?_
      refine q_get (C := "KateDesk") (T := T_Desk) (N := 16) (ci := 5) E hd.x.ob in_Desk rfl 6 (by decide) w_345 rfl rfl d_Desk_point_50 ?_
      refine lv_iload_n hx hb d_Desk_point_53 rfl (lv_at hl 2 rfl) ?_
      refine q_aald (t := 3) E rfl rfl hd.x.pa a rfl ha (by decide) d_Desk_point_54 ?_
      refine lv_aload_n hx hb d_Desk_point_55 rfl (lv_at hl 1 rfl) ?_
      refine q_get (C := "KateDesk") (T := T_Desk) (N := 16) (ci := 5) E hd.x.ob in_Desk rfl 12 (by decide) w_351 rfl rfl d_Desk_point_56 ?_
      refine q_cV (rest := []) E ((c_Point_copy l g (nJ b) (kPA b a) (kPA1 b a) (kPA2 b a) (kPA3 b a) (b + 152) (b + 153) (b + 154) (b + 155)).up nJ_D) w_697 w_2 w_730 w_695 w_696 hd_Point_copy rfl ⟨by decide, by decide⟩ (OB.recv E.2.2.2.2.2 (by rfl) (((hd.x.pt a ha)).1)) (⟨(hd.x.pt a ha), hd.x.hp⟩) hF hl.1 rfl (Nat.le_of_ble_eq_true rfl) d_Desk_point_59 ⟨by decide, by decide⟩ (qv (fun H5 locs hq hF => ?_))
      have hd := hd.kj hK hq.1 (pt_le (hd.x.pt a ha))
      refine lv_iconst (v := nI 0) hx hb d_Desk_point_62 (by decide) ?_
      exact q_iret E hr hlk (⟨_, rfl, hd⟩) hF d_Desk_point_63
    · skip
      refine lv_bipush (v := nI 6) hx hb d_Desk_point_46 (by decide) ?_
      exact q_iret E hr hlk (⟨_, rfl, hd⟩) hF d_Desk_point_48
  · skip
    refine lv_iload_n hx hb d_Desk_point_33 rfl (lv_at hl 0 rfl) ?_
    exact q_iret E hr hlk (⟨_, rfl, hd⟩) hF d_Desk_point_34
set_option maxHeartbeats 4000000 in
set_option maxRecDepth 100000 in
theorem G_Desk_out (l : Launch) (g : WG) (b pn tn wn : Nat) (mr mq : Int64) (k9 : Nat) (hk9 : k9 < wn) (hw96 : wn ≤ 96) : Ctr l y_Desk_out (.code y_Desk_out prog_1_method_11_code 5 (some FieldType.long)) 1 21 0 0 (nD b) g [.ref b, .int (nI k9)] (fun H => DS g H H b pn tn wn mr mq) (QL (fun r H H' => DS g H H' b pn tn wn mr mq)) := by
  refine ctr_mk l (lv0 := [(0, .ref b), (1, .int (nI k9))]) (by decide) (Nat.le_of_ble_eq_true rfl) rfl ?_
  intro p e s m below meth c ls E hr hlk hnm hl hP
  have hx := E.1
  have hb := E.2.1
  have hK := E.2.2.2.2.2
  have hF : ∀ q ∈ ([] : List Loc), nD b q.base := fun q hq => absurd hq List.not_mem_nil
  have hd := hP
  have lp : ∀ (k : Nat) (i : Nat) (y : Int64) (H : Heap) (locs : List Loc) (ls : Array Slot), i + k = 8 → DS g s.heap H b pn tn wn mr mq → (∀ q ∈ locs, nD b q.base) → lv_has ls 5 [(4, .int (nI i)), (2, .long y), (0, .ref b), (1, .int (nI k9))] → W p l e { frames := 1, cells := 0, slots := 0, locals := 21 } s m [.ref b, .int (nI k9)].toArray below meth c H locs 0 0 (MQ below (QcP (QL (fun r H H' => DS g H H' b pn tn wn mr mq))) [.ref b, .int (nI k9)].toArray s 0 0 (fun q => nD b q)) (F0 m 30 ls []) := by
    intro k
    induction k with
    | zero =>
      intro  i   y   H   locs   ls hi hd hF hl
      obtain rfl : i = 8 := by omega
      refine lv_iload hx hb d_Desk_out_30 (lv_at hl 0 rfl) ?_
      refine lv_bipush (v := nI 8) hx hb d_Desk_out_32 (by decide) ?_
      refine lv_icmp_ge (tgt := 78) hx hb d_Desk_out_34 (by decide) (fun _ => ?_) (fun h9 => absurd (by decide) h9)
      refine lv_lload_n hx hb d_Desk_out_78 rfl (lv_at hl 1 rfl) ?_
      exact q_lret E hr hlk (⟨_, rfl, hd⟩) hF d_Desk_out_79
    | succ k ih =>
      intro  i   y   H   locs   ls hi hd hF hl
      refine lv_iload hx hb d_Desk_out_30 (lv_at hl 0 rfl) ?_
      refine lv_bipush (v := nI 8) hx hb d_Desk_out_32 (by decide) ?_
      refine lv_icmp_ge (tgt := 78) hx hb d_Desk_out_34 (by decide) (fun h9 => absurd h9 (nI_ge (by omega) (by decide))) (fun _ => ?_)
      refine lv_iload_n hx hb d_Desk_out_37 rfl (lv_at hl 3 rfl) ?_
      refine lv_iload hx hb d_Desk_out_38 (lv_at hl 0 rfl) ?_
      refine lv_iadd hx hb d_Desk_out_40 ?_
      refine lv_aload_n hx hb d_Desk_out_41 rfl (lv_at hl 2 rfl) ?_
      refine q_get (C := "KateDesk") (T := T_Desk) (N := 16) (ci := 5) E hd.x.ob in_Desk rfl 10 (by decide) w_349 rfl rfl d_Desk_out_42 ?_
      refine q_get (C := "KateDesk$Row") (T := T_Row) (N := 2) (ci := 3) E hd.wr.1 in_Row rfl 1 (by decide) w_74 rfl rfl d_Desk_out_45 ?_
      refine lv_icmp_ge (tgt := 78) hx hb d_Desk_out_48 (by decide) (fun _ => ?_) (fun _ => ?_)
      · skip
        refine lv_lload_n hx hb d_Desk_out_78 rfl (lv_at hl 1 rfl) ?_
        exact q_lret E hr hlk (⟨_, rfl, hd⟩) hF d_Desk_out_79
      · skip
        refine lv_lload_n hx hb d_Desk_out_51 rfl (lv_at hl 1 rfl) ?_
        refine lv_aload_n hx hb d_Desk_out_52 rfl (lv_at hl 2 rfl) ?_
        refine q_get (C := "KateDesk") (T := T_Desk) (N := 16) (ci := 5) E hd.x.ob in_Desk rfl 10 (by decide) w_349 rfl rfl d_Desk_out_53 ?_
        refine lv_iload_n hx hb d_Desk_out_56 rfl (lv_at hl 3 rfl) ?_
        refine lv_iload hx hb d_Desk_out_57 (lv_at hl 0 rfl) ?_
        refine lv_iadd hx hb d_Desk_out_59 ?_
        refine q_cV (rest := [.long y]) E (v_Row_at l g (nD b) (b + 150) (b + 151) wn ((nI k9) + (nI i)) hw96) w_505 w_3 w_502 w_503 w_504 hd_Row_at rfl ⟨by decide, by decide⟩ (OB.recv E.2.2.2.2.2 (by rfl) hd.wr.1) (⟨hd.wr.1, hd.wr.2⟩) hF hl.1 rfl (Nat.le_of_ble_eq_true rfl) d_Desk_out_60 ⟨by decide, by decide⟩ (qi (fun rz1 H1 locs hq hF => ?_))
        obtain ⟨-, hq⟩ := hq
        have hq := hq.symm
        subst hq
        refine lv_i2l (v := rz1.toInt64) hx hb d_Desk_out_63 rfl ?_
        refine lv_bipush (v := nI 8) hx hb d_Desk_out_64 (by decide) ?_
        refine lv_iload hx hb d_Desk_out_66 (lv_at hl 0 rfl) ?_
        refine lv_imul hx hb d_Desk_out_68 ?_
        refine lv_lshl (v := rz1.toInt64 <<< (((nI 8) * (nI i)).toInt64 &&& 63)) hx hb d_Desk_out_69 rfl ?_
        refine lv_lor hx hb d_Desk_out_70 ?_
        refine lv_topl (fun v2 _ => ?_)
        refine lv_lstore_n (lv' := [(2, .long v2), (4, .int (nI i)), (0, .ref b), (1, .int (nI k9))]) hx hb d_Desk_out_71 rfl hl (by decide) rfl (fun ls hl => ?_)
        refine lv_iinc (k := 1) (v := nI (i + 1)) (lv' := [(4, .int (nI (i + 1))), (2, .long v2), (0, .ref b), (1, .int (nI k9))]) hx hb d_Desk_out_72 hl rfl (i_inc i) (by decide) rfl (fun ls hl => ?_)
        refine lv_goto (tgt := 30) hx hb d_Desk_out_75 (by decide) ?_
        have hl : lv_has ls 5 [(4, .int (nI (i + 1))), (2, .long v2), (0, .ref b), (1, .int (nI k9))] := lv_sub hl [0, 1, 2, 3] rfl
        exact ih (i + 1) _ _ _ ls (by omega) hd hF hl
  refine lv_iload_n hx hb d_Desk_out_0 rfl (lv_at hl 1 rfl) ?_
  refine lv_if_lt (tgt := 15) hx hb d_Desk_out_1 (by decide) (fun h9 => absurd h9 (nI_pos (by omega))) (fun _ => ?_)
  refine lv_iload_n hx hb d_Desk_out_4 rfl (lv_at hl 1 rfl) ?_
  refine lv_aload_n hx hb d_Desk_out_5 rfl (lv_at hl 0 rfl) ?_
  refine q_get (C := "KateDesk") (T := T_Desk) (N := 16) (ci := 5) E hd.x.ob in_Desk rfl 10 (by decide) w_349 rfl rfl d_Desk_out_6 ?_
  refine q_get (C := "KateDesk$Row") (T := T_Row) (N := 2) (ci := 3) E hd.wr.1 in_Row rfl 1 (by decide) w_74 rfl rfl d_Desk_out_9 ?_
  refine lv_icmp_lt (tgt := 25) hx hb d_Desk_out_12 (by decide) (fun _ => ?_) (fun h9 => absurd (nI_lt hk9 (by omega)) h9)
  refine lv_lconst (v := 0) hx hb d_Desk_out_25 (by decide) ?_
  refine lv_lstore_n (lv' := [(2, .long 0), (0, .ref b), (1, .int (nI k9))]) hx hb d_Desk_out_26 rfl hl (by decide) rfl (fun ls hl => ?_)
  refine lv_iconst (v := nI 0) hx hb d_Desk_out_27 (by decide) ?_
  refine lv_istore (lv' := [(4, .int (nI 0)), (2, .long 0), (0, .ref b), (1, .int (nI k9))]) hx hb d_Desk_out_28 hl (by decide) rfl (fun ls hl => ?_)
  have hl : lv_has ls 5 [(4, .int (nI 0)), (2, .long 0), (0, .ref b), (1, .int (nI k9))] := lv_sub hl [0, 1, 2, 3] rfl
  exact lp 8 0 _ _ _ ls (by omega) hd hF hl
