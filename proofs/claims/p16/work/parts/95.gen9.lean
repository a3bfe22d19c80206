theorem ds_w1 {b : Nat} : ∀ q, nJ b q → nD b q ∧ q ≠ b + 150 ∧ q ≠ b + 151 := fun q h => ⟨h.1, fun e => h.2.2 (by subst e; omega), fun e => h.2.2 (by subst e; omega)⟩
theorem nd_148 {b c : Nat} (h : c ≤ 500) : nD b (b + c) := ⟨Nat.le_add_right _ _, Nat.add_le_add_left h _⟩
theorem pa_150 {b k : Nat} (hk : k < 12) : kPA b k ≠ b + 150 ∧ kPA b k ≠ b + 151 := by unfold kPA; omega
set_option maxHeartbeats 4000000 in
set_option maxRecDepth 100000 in
theorem G_Desk_bytes (l : Launch) (g : WG) (b pn tn wn : Nat) (mr mq : Int64) (a : Nat) (sh : Int32) (ha : a < 12) : Ctr l y_Desk_bytes (.code y_Desk_bytes prog_1_method_10_code 3 none) 5 207 0 0 (nD b) g [.ref b, .int (nI a), .int sh] (fun H => DS g H H b pn tn wn mr mq) (QV (fun H H' => ∃ w9, DS g H H' b pn tn w9 mr mq)) := by
  refine ctr_mk l (lv0 := [(0, .ref b), (1, .int (nI a)), (2, .int sh)]) (by decide) (Nat.le_of_ble_eq_true rfl) rfl ?_
  intro p e s m below meth c ls E hr hlk hnm hl hP
  have hx := E.1
  have hb := E.2.1
  have hK := E.2.2.2.2.2
  have hF : ∀ q ∈ ([] : List Loc), nD b q.base := fun q hq => absurd hq List.not_mem_nil
  have hd := hP
  refine lv_iload_n hx hb d_Desk_bytes_0 rfl (lv_at hl 1 rfl) ?_
  refine lv_iconst (v := nI 1) hx hb d_Desk_bytes_1 (by decide) ?_
  refine q_cS (rest := []) E (c_Desk_needPoints l g (nD b) (nI a) (nI 1) (okP_of (by decide) ha)) w_622 w_1 w_620 w_621 hd_Desk_needPoints rfl ⟨by decide, by decide⟩ trivial hF hl.1 rfl (Nat.le_of_ble_eq_true rfl) d_Desk_bytes_2 ⟨by decide, by decide⟩ (qv (fun H1 locs hq hF => ?_))
  have hq := hq.symm
  subst hq
  refine lv_aload_n hx hb d_Desk_bytes_5 rfl (lv_at hl 0 rfl) ?_
  refine q_get (C := "KateDesk") (T := T_Desk) (N := 16) (ci := 5) E hd.x.ob in_Desk rfl 3 (by decide) w_342 rfl rfl d_Desk_bytes_6 ?_
  refine lv_aload_n hx hb d_Desk_bytes_9 rfl (lv_at hl 0 rfl) ?_
  refine q_get (C := "KateDesk") (T := T_Desk) (N := 16) (ci := 5) E hd.x.ob in_Desk rfl 10 (by decide) w_349 rfl rfl d_Desk_bytes_10 ?_
  refine lv_aload_n hx hb d_Desk_bytes_13 rfl (lv_at hl 0 rfl) ?_
  refine q_get (C := "KateDesk") (T := T_Desk) (N := 16) (ci := 5) E hd.x.ob in_Desk rfl 6 (by decide) w_345 rfl rfl d_Desk_bytes_14 ?_
  refine lv_iload_n hx hb d_Desk_bytes_17 rfl (lv_at hl 1 rfl) ?_
  refine q_aald (t := 3) E rfl rfl hd.x.pa a rfl ha (by decide) d_Desk_bytes_18 ?_
  refine lv_iload_n hx hb d_Desk_bytes_19 rfl (lv_at hl 2 rfl) ?_
  refine q_cV (rest := []) E (v_Forms_write l g (nD b) (b + 465) (b + 176) (b + 169) (kFq b) mq (kX b) (b + 466) (b + 467) (b + 468) (b + 469) (nJ b) (kPA b a) (kPA1 b a) (kPA2 b a) (kPA3 b a) (b + 150) (b + 151) wn sh (nd_148 (by decide)) (nd_148 (by decide)) ds_w1 ⟨by omega, by omega⟩ ⟨by omega, by omega⟩ ⟨by omega, by omega⟩ (pa_150 ha) (by omega)) w_741 w_13 w_738 w_739 w_740 hd_Forms_write rfl ⟨by decide, by decide⟩ (OB.recv E.2.2.2.2.2 (by rfl) hd.x.fm.1) (⟨hd.x.fm, (hd.x.pt a ha), hd.wr⟩) hF hl.1 rfl (Nat.le_of_ble_eq_true rfl) d_Desk_bytes_20 ⟨by decide, by decide⟩ (qv (fun H2 locs hq hF => ?_))
  obtain ⟨_, _, w9, f1, k2, f3, h96, hrw⟩ := hq
  have hd := hd.wchain hK f1 k2 f3 hrw h96
  exact q_vret E hr hlk (⟨rfl, _, hd⟩) hF d_Desk_bytes_23
set_option maxHeartbeats 4000000 in
set_option maxRecDepth 100000 in
theorem G_Desk_feed (l : Launch) (g : WG) (b pn tn wn : Nat) (mr mq : Int64) (n : Nat) (v : Int64) (h1 : 1 ≤ n) (h8 : n ≤ 8) (hfit : tn + n ≤ 96) : Ctr l y_Desk_feed (.code y_Desk_feed prog_1_method_2_code 5 (some FieldType.int)) 1 21 0 0 (nD b) g [.ref b, .int (nI n), .long v] (fun H => DS g H H b pn tn wn mr mq) (QI (fun r H H' => r = nI (tn + n) ∧ DS g H H' b pn (tn + n) wn mr mq)) := by
  refine ctr_mk l (lv0 := [(0, .ref b), (1, .int (nI n)), (2, .long v)]) (by decide) (Nat.le_of_ble_eq_true rfl) rfl ?_
  intro p e s m below meth c ls E hr hlk hnm hl hP
  have hx := E.1
  have hb := E.2.1
  have hK := E.2.2.2.2.2
  have hF : ∀ q ∈ ([] : List Loc), nD b q.base := fun q hq => absurd hq List.not_mem_nil
  have hd := hP
  have lp : ∀ (k : Nat) (i : Nat) (H : Heap) (locs : List Loc) (ls : Array Slot), i + k = n → DS g s.heap H b pn (tn + i) wn mr mq → (∀ q ∈ locs, nD b q.base) → lv_has ls 5 [(4, .int (nI i)), (0, .ref b), (1, .int (nI n)), (2, .long v)] → W p l e { frames := 1, cells := 0, slots := 0, locals := 21 } s m [.ref b, .int (nI n), .long v].toArray below meth c H locs 0 0 (MQ below (QcP (QI (fun r H H' => r = nI (tn + n) ∧ DS g H H' b pn (tn + n) wn mr mq))) [.ref b, .int (nI n), .long v].toArray s 0 0 (fun q => nD b q)) (F0 m 48 ls []) := by
    intro k
    induction k with
    | zero =>
      intro  i   H   locs   ls hi hd hF hl
      obtain rfl : i = n := by omega
      refine lv_iload hx hb d_Desk_feed_48 (lv_at hl 0 rfl) ?_
      refine lv_iload_n hx hb d_Desk_feed_50 rfl (lv_at hl 2 rfl) ?_
      refine lv_icmp_ge (tgt := 75) hx hb d_Desk_feed_51 (by decide) (fun _ => ?_) (fun h9 => absurd (nI_le (Nat.le_refl _) (by omega)) h9)
      refine lv_aload_n hx hb d_Desk_feed_75 rfl (lv_at hl 1 rfl) ?_
      refine q_get (C := "KateDesk") (T := T_Desk) (N := 16) (ci := 5) E hd.x.ob in_Desk rfl 9 (by decide) w_348 rfl rfl d_Desk_feed_76 ?_
      refine q_get (C := "KateDesk$Row") (T := T_Row) (N := 2) (ci := 3) E hd.tp.1 in_Row rfl 1 (by decide) w_74 rfl rfl d_Desk_feed_79 ?_
      exact q_iret E hr hlk (⟨_, rfl, rfl, hd⟩) hF d_Desk_feed_82
    | succ k ih =>
      intro  i   H   locs   ls hi hd hF hl
      refine lv_iload hx hb d_Desk_feed_48 (lv_at hl 0 rfl) ?_
      refine lv_iload_n hx hb d_Desk_feed_50 rfl (lv_at hl 2 rfl) ?_
      refine lv_icmp_ge (tgt := 75) hx hb d_Desk_feed_51 (by decide) (fun h9 => absurd h9 (nI_ge (by omega) (by omega))) (fun _ => ?_)
      refine lv_aload_n hx hb d_Desk_feed_54 rfl (lv_at hl 1 rfl) ?_
      refine q_get (C := "KateDesk") (T := T_Desk) (N := 16) (ci := 5) E hd.x.ob in_Desk rfl 9 (by decide) w_348 rfl rfl d_Desk_feed_55 ?_
      refine lv_lload_n hx hb d_Desk_feed_58 rfl (lv_at hl 3 rfl) ?_
      refine lv_bipush (v := nI 8) hx hb d_Desk_feed_59 (by decide) ?_
      refine lv_iload hx hb d_Desk_feed_61 (lv_at hl 0 rfl) ?_
      refine lv_imul hx hb d_Desk_feed_63 ?_
      refine lv_lshr (v := v >>> (((nI 8) * (nI i)).toInt64 &&& 63)) hx hb d_Desk_feed_64 rfl ?_
      refine lv_l2i (v := (v >>> (((nI 8) * (nI i)).toInt64 &&& 63)).toInt32) hx hb d_Desk_feed_65 rfl ?_
      refine lv_topi (fun v1 _ => ?_)
      refine q_cV (rest := []) E (c_Row_append l g (nD b) (b + 148) (b + 149) (tn + i) v1 (by omega)) w_484 w_3 w_481 w_482 w_483 hd_Row_append rfl ⟨by decide, by decide⟩ (OB.recv E.2.2.2.2.2 (by rfl) hd.tp.1) (⟨hd.tp.1, hd.tp.2, nd_148 (by decide), nd_148 (by decide)⟩) hF hl.1 rfl (Nat.le_of_ble_eq_true rfl) d_Desk_feed_66 ⟨by decide, by decide⟩ (qv (fun H1 locs hq hF => ?_))
      have hd := hd.tape hq.1 ⟨hq.2.1, hq.2.2⟩ (by omega)
      refine lv_iinc (k := 0) (v := nI (i + 1)) (lv' := [(4, .int (nI (i + 1))), (0, .ref b), (1, .int (nI n)), (2, .long v)]) hx hb d_Desk_feed_69 hl rfl (i_inc i) (by decide) rfl (fun ls hl => ?_)
      refine lv_goto (tgt := 48) hx hb d_Desk_feed_72 (by decide) ?_
      have hl : lv_has ls 5 [(4, .int (nI (i + 1))), (0, .ref b), (1, .int (nI n)), (2, .long v)] := lv_sub hl [0, 1, 2, 3] rfl
      exact ih (i + 1) _ _ ls (by omega) hd hF hl
  refine lv_iload_n hx hb d_Desk_feed_0 rfl (lv_at hl 1 rfl) ?_
  refine lv_iconst (v := nI 1) hx hb d_Desk_feed_1 (by decide) ?_
  refine lv_icmp_lt (tgt := 11) hx hb d_Desk_feed_2 (by decide) (fun h9 => absurd h9 (nI_nlt h1 (by omega))) (fun _ => ?_)
  refine lv_iload_n hx hb d_Desk_feed_5 rfl (lv_at hl 1 rfl) ?_
  refine lv_bipush (v := nI 8) hx hb d_Desk_feed_6 (by decide) ?_
  refine lv_icmp_le (tgt := 21) hx hb d_Desk_feed_8 (by decide) (fun _ => ?_) (fun h9 => absurd (nI_le h8 (by decide)) h9)
  refine lv_aload_n hx hb d_Desk_feed_21 rfl (lv_at hl 0 rfl) ?_
  refine q_get (C := "KateDesk") (T := T_Desk) (N := 16) (ci := 5) E hd.x.ob in_Desk rfl 9 (by decide) w_348 rfl rfl d_Desk_feed_22 ?_
  refine q_get (C := "KateDesk$Row") (T := T_Row) (N := 2) (ci := 3) E hd.tp.1 in_Row rfl 1 (by decide) w_74 rfl rfl d_Desk_feed_25 ?_
  refine lv_iload_n hx hb d_Desk_feed_28 rfl (lv_at hl 1 rfl) ?_
  refine lv_iadd hx hb d_Desk_feed_29 ?_
  refine lv_bipush (v := nI 96) hx hb d_Desk_feed_30 (by decide) ?_
  refine lv_icmp_le (tgt := 45) hx hb d_Desk_feed_32 (by decide) (fun _ => ?_) (fun h9 => absurd (by rw [nI_add]; exact nI_le hfit (by decide)) h9)
  refine lv_iconst (v := nI 0) hx hb d_Desk_feed_45 (by decide) ?_
  refine lv_istore (lv' := [(4, .int (nI 0)), (0, .ref b), (1, .int (nI n)), (2, .long v)]) hx hb d_Desk_feed_46 hl (by decide) rfl (fun ls hl => ?_)
  have hl : lv_has ls 5 [(4, .int (nI 0)), (0, .ref b), (1, .int (nI n)), (2, .long v)] := lv_sub hl [0, 1, 2, 3] rfl
  exact lp n 0 _ _ ls (by omega) hd hF hl
set_option maxHeartbeats 4000000 in
set_option maxRecDepth 100000 in
theorem G_Desk_number (l : Launch) (g : WG) (b pn tn wn : Nat) (mr mq : Int64) (a : Nat) (ha : a < 32) (ht96 : tn ≤ 96) : Ctr l y_Desk_number (.code y_Desk_number prog_1_method_3_code 3 (some FieldType.boolean)) 2 81 0 0 (nD b) g [.ref b, .int (nI a)] (fun H => DS g H H b pn tn wn mr mq) (QI (fun r H H' => (r = 0 ∨ r = 1) ∧ DS g H H' b pn 0 wn mr mq)) := by
  refine ctr_mk l (lv0 := [(0, .ref b), (1, .int (nI a))]) (by decide) (Nat.le_of_ble_eq_true rfl) rfl ?_
  intro p e s m below meth c ls E hr hlk hnm hl hP
  have hx := E.1
  have hb := E.2.1
  have hK := E.2.2.2.2.2
  have hF : ∀ q ∈ ([] : List Loc), nD b q.base := fun q hq => absurd hq List.not_mem_nil
  have hd := hP
  have lp : ∀ (k : Nat) (i : Nat) (H : Heap) (locs : List Loc) (ls : Array Slot), i + k = tn → DS g s.heap H b pn tn wn mr mq → (∀ q ∈ locs, nD b q.base) → lv_has ls 3 [(2, .int (nI i)), (0, .ref b), (1, .int (nI a))] → W p l e { frames := 2, cells := 0, slots := 0, locals := 81 } s m [.ref b, .int (nI a)].toArray below meth c H locs 0 0 (MQ below (QcP (QI (fun r H H' => (r = 0 ∨ r = 1) ∧ DS g H H' b pn 0 wn mr mq))) [.ref b, .int (nI a)].toArray s 0 0 (fun q => nD b q)) (F0 m 14 ls []) := by
    intro k
    induction k with
    | zero =>
      intro  i   H   locs   ls hi hd hF hl
      obtain rfl : i = tn := by omega
      refine lv_iload_n hx hb d_Desk_number_14 rfl (lv_at hl 0 rfl) ?_
      refine lv_aload_n hx hb d_Desk_number_15 rfl (lv_at hl 1 rfl) ?_
      refine q_get (C := "KateDesk") (T := T_Desk) (N := 16) (ci := 5) E hd.x.ob in_Desk rfl 9 (by decide) w_348 rfl rfl d_Desk_number_16 ?_
      refine q_get (C := "KateDesk$Row") (T := T_Row) (N := 2) (ci := 3) E hd.tp.1 in_Row rfl 1 (by decide) w_74 rfl rfl d_Desk_number_19 ?_
      refine lv_icmp_ge (tgt := 47) hx hb d_Desk_number_22 (by decide) (fun _ => ?_) (fun h9 => absurd (nI_le (Nat.le_refl _) (by omega)) h9)
      refine lv_aload_n hx hb d_Desk_number_47 rfl (lv_at hl 1 rfl) ?_
      refine q_get (C := "KateDesk") (T := T_Desk) (N := 16) (ci := 5) E hd.x.ob in_Desk rfl 9 (by decide) w_348 rfl rfl d_Desk_number_48 ?_
      refine q_get (C := "KateDesk$Row") (T := T_Row) (N := 2) (ci := 3) E hd.tp.1 in_Row rfl 1 (by decide) w_74 rfl rfl d_Desk_number_51 ?_
      refine lv_bipush (v := nI 32) hx hb d_Desk_number_54 (by decide) ?_
      refine lv_icmp_gt (tgt := 80) hx hb d_Desk_number_56 (by decide) (fun _ => ?_) (fun _ => ?_)
      · skip
        refine lv_iconst (v := nI 0) hx hb d_Desk_number_80 (by decide) ?_
        refine lv_istore_n (lv' := [(2, .int (nI 0)), (0, .ref b), (1, .int (nI a))]) hx hb d_Desk_number_81 rfl hl (by decide) rfl (fun ls hl => ?_)
        refine lv_aload_n hx hb d_Desk_number_82 rfl (lv_at hl 1 rfl) ?_
        refine q_get (C := "KateDesk") (T := T_Desk) (N := 16) (ci := 5) E hd.x.ob in_Desk rfl 9 (by decide) w_348 rfl rfl d_Desk_number_83 ?_
        refine lv_iconst (v := nI 0) hx hb d_Desk_number_86 (by decide) ?_
        refine q_put (C := "KateDesk$Row") (T := T_Row) (N := 2) (ci := 3) (ty := .int) E hd.tp.1 in_Row ty_Row tyok_Row nm_Row rfl 1 (by decide) w_74 rfl rfl (by decide +kernel) rfl rfl (Nat.le_of_ble_eq_true rfl) (nd_148 (by decide)) hF d_Desk_number_87 (fun H1 locs hq ho2 hF => ?_)
        have hd : DS g s.heap H1 b pn 0 wn mr mq := hd.tape (hq.mono (fun q h => Or.inl h)) ⟨ho2, hd.tp.2.imp (fun f hf => AB.off hq (show ¬ b + 149 = b + 148 from by omega) hf)⟩ (by decide)
        refine lv_iload_n hx hb d_Desk_number_90 rfl (lv_at hl 0 rfl) ?_
        refine lv_if_eq (tgt := 107) hx hb d_Desk_number_91 (by decide) (fun _ => ?_) (fun _ => ?_)
        · skip
          refine lv_iload_n hx hb d_Desk_number_107 rfl (lv_at hl 0 rfl) ?_
          exact q_zret E hr rfl hlk (⟨_, rfl, Or.inl rfl, hd⟩) hF d_Desk_number_108
        · skip
          refine lv_aload_n hx hb d_Desk_number_94 rfl (lv_at hl 1 rfl) ?_
          refine q_get (C := "KateDesk") (T := T_Desk) (N := 16) (ci := 5) E hd.x.ob in_Desk rfl 5 (by decide) w_344 rfl rfl d_Desk_number_95 ?_
          refine lv_iload_n hx hb d_Desk_number_98 rfl (lv_at hl 2 rfl) ?_
          refine q_aald (t := 4) E rfl rfl hd.x.rs.1 a rfl ha (by decide) d_Desk_number_99 ?_
          refine lv_aload_n hx hb d_Desk_number_100 rfl (lv_at hl 1 rfl) ?_
          refine q_get (C := "KateDesk") (T := T_Desk) (N := 16) (ci := 5) E hd.x.ob in_Desk rfl 14 (by decide) w_353 rfl rfl d_Desk_number_101 ?_
          obtain ⟨f1, hf1⟩ := (hd.x.hs).2
          refine q_cS (rest := []) E ((c_Limbs_copy l g (nJ b) (kSc b a) (b + 160) f1).up nJ_D) w_146 w_5 w_338 w_145 hd_Limbs_copy rfl ⟨by decide, by decide⟩ (⟨(hd.x.rs.2 a ha), hf1⟩) hF hl.1 rfl (Nat.le_of_ble_eq_true rfl) d_Desk_number_104 ⟨by decide, by decide⟩ (qv (fun H2 locs hq hF => ?_))
          have hd := hd.kj hK hq.1 (fun q h => h ▸ ((hd.x.rs.2 a ha)).1)
          refine lv_iload_n hx hb d_Desk_number_107 rfl (lv_at hl 0 rfl) ?_
          exact q_zret E hr rfl hlk (⟨_, rfl, Or.inl rfl, hd⟩) hF d_Desk_number_108
      · skip
        refine lv_aload_n hx hb d_Desk_number_59 rfl (lv_at hl 1 rfl) ?_
        refine q_get (C := "KateDesk") (T := T_Desk) (N := 16) (ci := 5) E hd.x.ob in_Desk rfl 14 (by decide) w_353 rfl rfl d_Desk_number_60 ?_
        refine lv_aload_n hx hb d_Desk_number_63 rfl (lv_at hl 1 rfl) ?_
        refine q_get (C := "KateDesk") (T := T_Desk) (N := 16) (ci := 5) E hd.x.ob in_Desk rfl 0 (by decide) w_339 rfl rfl d_Desk_number_64 ?_
        refine q_get (C := "KateDesk$Field") (T := T_Field) (N := 7) (ci := 1) E hd.x.fr.1 in_Field rfl 0 (by decide) w_172 rfl rfl d_Desk_number_67 ?_
        refine q_cS (rest := []) E ((v_Limbs_less l g (nJ b) (b + 160) (kFr b 0)).up nJ_D) w_512 w_5 w_510 w_511 hd_Limbs_less rfl ⟨by decide, by decide⟩ (⟨hd.x.hs, (hd.x.fr.2 0 (by decide))⟩) hF hl.1 rfl (Nat.le_of_ble_eq_true rfl) d_Desk_number_70 ⟨by decide, by decide⟩ (qi (fun rz1 H1 locs hq hF => ?_))
        obtain ⟨hbrz1, hq⟩ := hq
        have hq := hq.symm
        subst hq
        refine lv_if_eq (tgt := 80) hx hb d_Desk_number_73 (by decide) (fun _ => ?_) (fun _ => ?_)
        · skip
          refine lv_iconst (v := nI 0) hx hb d_Desk_number_80 (by decide) ?_
          refine lv_istore_n (lv' := [(2, .int (nI 0)), (0, .ref b), (1, .int (nI a))]) hx hb d_Desk_number_81 rfl hl (by decide) rfl (fun ls hl => ?_)
          refine lv_aload_n hx hb d_Desk_number_82 rfl (lv_at hl 1 rfl) ?_
          refine q_get (C := "KateDesk") (T := T_Desk) (N := 16) (ci := 5) E hd.x.ob in_Desk rfl 9 (by decide) w_348 rfl rfl d_Desk_number_83 ?_
          refine lv_iconst (v := nI 0) hx hb d_Desk_number_86 (by decide) ?_
          refine q_put (C := "KateDesk$Row") (T := T_Row) (N := 2) (ci := 3) (ty := .int) E hd.tp.1 in_Row ty_Row tyok_Row nm_Row rfl 1 (by decide) w_74 rfl rfl (by decide +kernel) rfl rfl (Nat.le_of_ble_eq_true rfl) (nd_148 (by decide)) hF d_Desk_number_87 (fun H2 locs hq ho2 hF => ?_)
          have hd : DS g s.heap H2 b pn 0 wn mr mq := hd.tape (hq.mono (fun q h => Or.inl h)) ⟨ho2, hd.tp.2.imp (fun f hf => AB.off hq (show ¬ b + 149 = b + 148 from by omega) hf)⟩ (by decide)
          refine lv_iload_n hx hb d_Desk_number_90 rfl (lv_at hl 0 rfl) ?_
          refine lv_if_eq (tgt := 107) hx hb d_Desk_number_91 (by decide) (fun _ => ?_) (fun _ => ?_)
          · skip
            refine lv_iload_n hx hb d_Desk_number_107 rfl (lv_at hl 0 rfl) ?_
            exact q_zret E hr rfl hlk (⟨_, rfl, Or.inl rfl, hd⟩) hF d_Desk_number_108
          · skip
            refine lv_aload_n hx hb d_Desk_number_94 rfl (lv_at hl 1 rfl) ?_
            refine q_get (C := "KateDesk") (T := T_Desk) (N := 16) (ci := 5) E hd.x.ob in_Desk rfl 5 (by decide) w_344 rfl rfl d_Desk_number_95 ?_
            refine lv_iload_n hx hb d_Desk_number_98 rfl (lv_at hl 2 rfl) ?_
            refine q_aald (t := 4) E rfl rfl hd.x.rs.1 a rfl ha (by decide) d_Desk_number_99 ?_
            refine lv_aload_n hx hb d_Desk_number_100 rfl (lv_at hl 1 rfl) ?_
            refine q_get (C := "KateDesk") (T := T_Desk) (N := 16) (ci := 5) E hd.x.ob in_Desk rfl 14 (by decide) w_353 rfl rfl d_Desk_number_101 ?_
            obtain ⟨f2, hf2⟩ := (hd.x.hs).2
            refine q_cS (rest := []) E ((c_Limbs_copy l g (nJ b) (kSc b a) (b + 160) f2).up nJ_D) w_146 w_5 w_338 w_145 hd_Limbs_copy rfl ⟨by decide, by decide⟩ (⟨(hd.x.rs.2 a ha), hf2⟩) hF hl.1 rfl (Nat.le_of_ble_eq_true rfl) d_Desk_number_104 ⟨by decide, by decide⟩ (qv (fun H3 locs hq hF => ?_))
            have hd := hd.kj hK hq.1 (fun q h => h ▸ ((hd.x.rs.2 a ha)).1)
            refine lv_iload_n hx hb d_Desk_number_107 rfl (lv_at hl 0 rfl) ?_
            exact q_zret E hr rfl hlk (⟨_, rfl, Or.inl rfl, hd⟩) hF d_Desk_number_108
        · skip
          refine lv_iconst (v := nI 1) hx hb d_Desk_number_76 (by decide) ?_
          refine lv_goto (tgt := 81) hx hb d_Desk_number_77 (by decide) ?_
          refine lv_istore_n (lv' := [(2, .int (nI 1)), (0, .ref b), (1, .int (nI a))]) hx hb d_Desk_number_81 rfl hl (by decide) rfl (fun ls hl => ?_)
          refine lv_aload_n hx hb d_Desk_number_82 rfl (lv_at hl 1 rfl) ?_
          refine q_get (C := "KateDesk") (T := T_Desk) (N := 16) (ci := 5) E hd.x.ob in_Desk rfl 9 (by decide) w_348 rfl rfl d_Desk_number_83 ?_
          refine lv_iconst (v := nI 0) hx hb d_Desk_number_86 (by decide) ?_
          refine q_put (C := "KateDesk$Row") (T := T_Row) (N := 2) (ci := 3) (ty := .int) E hd.tp.1 in_Row ty_Row tyok_Row nm_Row rfl 1 (by decide) w_74 rfl rfl (by decide +kernel) rfl rfl (Nat.le_of_ble_eq_true rfl) (nd_148 (by decide)) hF d_Desk_number_87 (fun H2 locs hq ho2 hF => ?_)
          have hd : DS g s.heap H2 b pn 0 wn mr mq := hd.tape (hq.mono (fun q h => Or.inl h)) ⟨ho2, hd.tp.2.imp (fun f hf => AB.off hq (show ¬ b + 149 = b + 148 from by omega) hf)⟩ (by decide)
          refine lv_iload_n hx hb d_Desk_number_90 rfl (lv_at hl 0 rfl) ?_
          refine lv_if_eq (tgt := 107) hx hb d_Desk_number_91 (by decide) (fun _ => ?_) (fun _ => ?_)
          · skip
            refine lv_iload_n hx hb d_Desk_number_107 rfl (lv_at hl 0 rfl) ?_
            exact q_zret E hr rfl hlk (⟨_, rfl, Or.inr rfl, hd⟩) hF d_Desk_number_108
          · skip
            refine lv_aload_n hx hb d_Desk_number_94 rfl (lv_at hl 1 rfl) ?_
            refine q_get (C := "KateDesk") (T := T_Desk) (N := 16) (ci := 5) E hd.x.ob in_Desk rfl 5 (by decide) w_344 rfl rfl d_Desk_number_95 ?_
            refine lv_iload_n hx hb d_Desk_number_98 rfl (lv_at hl 2 rfl) ?_
            refine q_aald (t := 4) E rfl rfl hd.x.rs.1 a rfl ha (by decide) d_Desk_number_99 ?_
            refine lv_aload_n hx hb d_Desk_number_100 rfl (lv_at hl 1 rfl) ?_
            refine q_get (C := "KateDesk") (T := T_Desk) (N := 16) (ci := 5) E hd.x.ob in_Desk rfl 14 (by decide) w_353 rfl rfl d_Desk_number_101 ?_
            obtain ⟨f2, hf2⟩ := (hd.x.hs).2
            refine q_cS (rest := []) E ((c_Limbs_copy l g (nJ b) (kSc b a) (b + 160) f2).up nJ_D) w_146 w_5 w_338 w_145 hd_Limbs_copy rfl ⟨by decide, by decide⟩ (⟨(hd.x.rs.2 a ha), hf2⟩) hF hl.1 rfl (Nat.le_of_ble_eq_true rfl) d_Desk_number_104 ⟨by decide, by decide⟩ (qv (fun H3 locs hq hF => ?_))
            have hd := hd.kj hK hq.1 (fun q h => h ▸ ((hd.x.rs.2 a ha)).1)
            refine lv_iload_n hx hb d_Desk_number_107 rfl (lv_at hl 0 rfl) ?_
            exact q_zret E hr rfl hlk (⟨_, rfl, Or.inr rfl, hd⟩) hF d_Desk_number_108
    | succ k ih =>
      intro  i   H   locs   ls hi hd hF hl
      refine lv_iload_n hx hb d_Desk_number_14 rfl (lv_at hl 0 rfl) ?_
      refine lv_aload_n hx hb d_Desk_number_15 rfl (lv_at hl 1 rfl) ?_
      refine q_get (C := "KateDesk") (T := T_Desk) (N := 16) (ci := 5) E hd.x.ob in_Desk rfl 9 (by decide) w_348 rfl rfl d_Desk_number_16 ?_
      refine q_get (C := "KateDesk$Row") (T := T_Row) (N := 2) (ci := 3) E hd.tp.1 in_Row rfl 1 (by decide) w_74 rfl rfl d_Desk_number_19 ?_
      refine lv_icmp_ge (tgt := 47) hx hb d_Desk_number_22 (by decide) (fun h9 => absurd h9 (nI_ge (by omega) (by omega))) (fun _ => ?_)
      refine lv_aload_n hx hb d_Desk_number_25 rfl (lv_at hl 1 rfl) ?_
      refine q_get (C := "KateDesk") (T := T_Desk) (N := 16) (ci := 5) E hd.x.ob in_Desk rfl 14 (by decide) w_353 rfl rfl d_Desk_number_26 ?_
      refine lv_iload_n hx hb d_Desk_number_29 rfl (lv_at hl 0 rfl) ?_
      refine lv_aload_n hx hb d_Desk_number_30 rfl (lv_at hl 1 rfl) ?_
      refine q_get (C := "KateDesk") (T := T_Desk) (N := 16) (ci := 5) E hd.x.ob in_Desk rfl 9 (by decide) w_348 rfl rfl d_Desk_number_31 ?_
      refine lv_iload_n hx hb d_Desk_number_34 rfl (lv_at hl 0 rfl) ?_
      refine q_cV (rest := [.int (nI i), .ref (b + 160)]) E (v_Row_at l g (nD b) (b + 148) (b + 149) tn (nI i) ht96) w_505 w_3 w_502 w_503 w_504 hd_Row_at rfl ⟨by decide, by decide⟩ (OB.recv E.2.2.2.2.2 (by rfl) hd.tp.1) (⟨hd.tp.1, hd.tp.2⟩) hF hl.1 rfl (Nat.le_of_ble_eq_true rfl) d_Desk_number_35 ⟨by decide, by decide⟩ (qi (fun rz1 H1 locs hq hF => ?_))
      obtain ⟨-, hq⟩ := hq
      have hq := hq.symm
      subst hq
      refine q_cS (rest := []) E ((v_Limbs_orByte l g (nJ b) (b + 160) i rz1 (by omega)).up nJ_D) w_508 w_5 w_506 w_507 hd_Limbs_orByte rfl ⟨by decide, by decide⟩ hd.x.hs hF hl.1 rfl (Nat.le_of_ble_eq_true rfl) d_Desk_number_38 ⟨by decide, by decide⟩ (qv (fun H2 locs hq hF => ?_))
      have hd := hd.kj hK hq (fun q h => h ▸ (hd.x.hs).1)
      refine lv_iinc (k := 0) (v := nI (i + 1)) (lv' := [(2, .int (nI (i + 1))), (0, .ref b), (1, .int (nI a))]) hx hb d_Desk_number_41 hl rfl (i_inc i) (by decide) rfl (fun ls hl => ?_)
      refine lv_goto (tgt := 14) hx hb d_Desk_number_44 (by decide) ?_
      have hl : lv_has ls 3 [(2, .int (nI (i + 1))), (0, .ref b), (1, .int (nI a))] := lv_sub hl [0, 1, 2] rfl
      exact ih (i + 1) _ _ ls (by omega) hd hF hl
  refine lv_iload_n hx hb d_Desk_number_0 rfl (lv_at hl 1 rfl) ?_
  refine lv_iconst (v := nI 1) hx hb d_Desk_number_1 (by decide) ?_
  refine q_cS (rest := []) E (c_Desk_needScalars l g (nD b) (nI a) (nI 1) (okS_of (by decide) ha)) w_494 w_1 w_492 w_493 hd_Desk_needScalars rfl ⟨by decide, by decide⟩ trivial hF hl.1 rfl (Nat.le_of_ble_eq_true rfl) d_Desk_number_2 ⟨by decide, by decide⟩ (qv (fun H1 locs hq hF => ?_))
  have hq := hq.symm
  subst hq
  refine lv_aload_n hx hb d_Desk_number_5 rfl (lv_at hl 0 rfl) ?_
  refine q_get (C := "KateDesk") (T := T_Desk) (N := 16) (ci := 5) E hd.x.ob in_Desk rfl 14 (by decide) w_353 rfl rfl d_Desk_number_6 ?_
  refine q_cS (rest := []) E ((c_Limbs_clear l g (nJ b) (b + 160)).up nJ_D) w_498 w_5 w_496 w_497 hd_Limbs_clear rfl ⟨by decide, by decide⟩ hd.x.hs hF hl.1 rfl (Nat.le_of_ble_eq_true rfl) d_Desk_number_9 ⟨by decide, by decide⟩ (qv (fun H2 locs hq hF => ?_))
  have hd := hd.kj hK hq.1 (fun q h => h ▸ (hd.x.hs).1)
  refine lv_iconst (v := nI 0) hx hb d_Desk_number_12 (by decide) ?_
  refine lv_istore_n (lv' := [(2, .int (nI 0)), (0, .ref b), (1, .int (nI a))]) hx hb d_Desk_number_13 rfl hl (by decide) rfl (fun ls hl => ?_)
  have hl : lv_has ls 3 [(2, .int (nI 0)), (0, .ref b), (1, .int (nI a))] := lv_sub hl [0, 1, 2] rfl
  exact lp tn 0 _ _ ls (by omega) hd hF hl
set_option maxHeartbeats 4000000 in
set_option maxRecDepth 100000 in
theorem G_Desk_point (l : Launch) (g : WG) (b pn tn wn : Nat) (mr mq : Int64) (a : Nat) (ha : a < 12) (ht96 : tn ≤ 96) : Ctr l y_Desk_point (.code y_Desk_point prog_1_method_9_code 3 (some FieldType.int)) 7 255 0 0 (nD b) g [.ref b, .int (nI a)] (fun H => DS g H H b pn tn wn mr mq) (QI (fun r H H' => DS g H H' b pn 0 wn mr mq)) := by
  refine ctr_mk l (lv0 := [(0, .ref b), (1, .int (nI a))]) (by decide) (Nat.le_of_ble_eq_true rfl) rfl ?_
  intro p e s m below meth c ls E hr hlk hnm hl hP
  have hx := E.1
  have hb := E.2.1
  have hK := E.2.2.2.2.2
  have hF : ∀ q ∈ ([] : List Loc), nD b q.base := fun q hq => absurd hq List.not_mem_nil
  have hd := hP
  refine lv_iload_n hx hb d_Desk_point_0 rfl (lv_at hl 1 rfl) ?_
  refine lv_iconst (v := nI 1) hx hb d_Desk_point_1 (by decide) ?_
  refine q_cS (rest := []) E (c_Desk_needPoints l g (nD b) (nI a) (nI 1) (okP_of (by decide) ha)) w_622 w_1 w_620 w_621 hd_Desk_needPoints rfl ⟨by decide, by decide⟩ trivial hF hl.1 rfl (Nat.le_of_ble_eq_true rfl) d_Desk_point_2 ⟨by decide, by decide⟩ (qv (fun H1 locs hq hF => ?_))
  have hq := hq.symm
  subst hq
  refine lv_aload_n hx hb d_Desk_point_5 rfl (lv_at hl 0 rfl) ?_
  refine q_get (C := "KateDesk") (T := T_Desk) (N := 16) (ci := 5) E hd.x.ob in_Desk rfl 3 (by decide) w_342 rfl rfl d_Desk_point_6 ?_
  refine lv_aload_n hx hb d_Desk_point_9 rfl (lv_at hl 0 rfl) ?_
  refine q_get (C := "KateDesk") (T := T_Desk) (N := 16) (ci := 5) E hd.x.ob in_Desk rfl 12 (by decide) w_351 rfl rfl d_Desk_point_10 ?_
  refine lv_aload_n hx hb d_Desk_point_13 rfl (lv_at hl 0 rfl) ?_
  refine q_get (C := "KateDesk") (T := T_Desk) (N := 16) (ci := 5) E hd.x.ob in_Desk rfl 9 (by decide) w_348 rfl rfl d_Desk_point_14 ?_
  refine q_cV (rest := []) E ((v_Forms_read l g (nJ b) (b + 465) (b + 176) (b + 169) (kFq b) mq (kX b) (b + 466) (b + 467) (b + 468) (b + 469) (b + 152) (b + 153) (b + 154) (b + 155) (b + 148) (b + 149) tn ht96 (by omega)).up nJ_D) w_627 w_13 w_624 w_625 w_626 hd_Forms_read rfl ⟨by decide, by decide⟩ (OB.recv E.2.2.2.2.2 (by rfl) hd.x.fm.1) (⟨hd.x.fm, hd.x.hp, hd.tp⟩) hF hl.1 rfl (Nat.le_of_ble_eq_true rfl) d_Desk_point_17 ⟨by decide, by decide⟩ (qi (fun rz1 H2 locs hq hF => ?_))
  have hd := hd.kj hK hq (fun q h => h)
  refine lv_istore_n (lv' := [(2, .int rz1), (0, .ref b), (1, .int (nI a))]) hx hb d_Desk_point_20 rfl hl (by decide) rfl (fun ls hl => ?_)
  refine lv_aload_n hx hb d_Desk_point_21 rfl (lv_at hl 1 rfl) ?_
  refine q_get (C := "KateDesk") (T := T_Desk) (N := 16) (ci := 5) E hd.x.ob in_Desk rfl 9 (by decide) w_348 rfl rfl d_Desk_point_22 ?_
  refine lv_iconst (v := nI 0) hx hb d_Desk_point_25 (by decide) ?_
  refine q_put (C := "KateDesk$Row") (T := T_Row) (N := 2) (ci := 3) (ty := .int) E hd.tp.1 in_Row ty_Row tyok_Row nm_Row rfl 1 (by decide) w_74 rfl rfl (by decide +kernel) rfl rfl (Nat.le_of_ble_eq_true rfl) (nd_148 (by decide)) hF d_Desk_point_26 (fun H3 locs hq ho2 hF => ?_)
  have hd : DS g s.heap H3 b pn 0 wn mr mq := hd.tape (hq.mono (fun q h => Or.inl h)) ⟨ho2, hd.tp.2.imp (fun f hf => AB.off hq (show ¬ b + 149 = b + 148 from by omega) hf)⟩ (by decide)
  refine lv_iload_n hx hb d_Desk_point_29 rfl (lv_at hl 0 rfl) ?_
  refine lv_if_eq (tgt := 35) hx hb d_Desk_point_30 (by decide) (fun _ => ?_) (fun _ => ?_)
  · skip
    refine lv_aload_n hx hb d_Desk_point_35 rfl (lv_at hl 1 rfl) ?_
    refine lv_aload_n hx hb d_Desk_point_36 rfl (lv_at hl 1 rfl) ?_
    refine q_get (C := "KateDesk") (T := T_Desk) (N := 16) (ci := 5) E hd.x.ob in_Desk rfl 12 (by decide) w_351 rfl rfl d_Desk_point_37 ?_
    refine q_cV (rest := []) E (G_Desk_isGood l g b pn 0 wn mr mq) w_673 w_1 w_670 w_672 (bw_s 7 rfl) hd_Desk_isGood rfl ⟨by decide, by decide⟩ (OB.recv E.2.2.2.2.2 (by rfl) hd.x.ob) (⟨FRM.rf, hd.2⟩) hF hl.1 rfl (Nat.le_of_ble_eq_true rfl) d_Desk_point_40 ⟨by decide, by decide⟩ (qi (fun rz2 H4 locs hq hF => ?_))
    have hd : DS g s.heap H4 b pn 0 wn mr mq := ⟨hd.1.tr hq.2.1, hq.2.2⟩
    refine lv_if_ne (tgt := 49) hx hb d_Desk_point_43 (by decide) (fun _ => ?_) (fun _ => ?_)
    · skip
      refine lv_aload_n hx hb d_Desk_point_49 rfl (lv_at hl 1 rfl) ?_
      refine q_get (C := "KateDesk") (T := T_Desk) (N := 16) (ci := 5) E hd.x.ob in_Desk rfl 6 (by decide) w_345 rfl rfl d_Desk_point_50 ?_
      refine lv_iload_n hx hb d_Desk_point_53 rfl (lv_at hl 2 rfl) ?_
      refine q_aald (t := 3) E rfl rfl hd.x.pa a rfl ha (by decide) d_Desk_point_54 ?_
      refine lv_aload_n hx hb d_Desk_point_55 rfl (lv_at hl 1 rfl) ?_
      refine q_get (C := "KateDesk") (T := T_Desk) (N := 16) (ci := 5) E hd.x.ob in_Desk rfl 12 (by decide) w_351 rfl rfl d_Desk_point_56 ?_
      refine q_cV (rest := []) E ((c_Point_copy l g (nJ b) (kPA b a) (kPA1 b a) (kPA2 b a) (kPA3 b a) (b + 152) (b + 153) (b + 154) (b + 155)).up nJ_D) w_697 w_2 w_730 w_695 w_696 hd_Point_copy rfl ⟨by decide, by decide⟩ (OB.recv E.2.2.2.2.2 (by rfl) (((hd.x.pt a ha)).1)) (⟨(hd.x.pt a ha), hd.x.hp⟩) hF hl.1 rfl (Nat.le_of_ble_eq_true rfl) d_Desk_point_59 ⟨by decide, by decide⟩ (qv (fun H5 locs hq hF => ?_))
      have hd := hd.kj hK hq.1 (pt_le (hd.x.pt a ha))
      refine lv_iconst (v := nI 0) hx hb d_Desk_point_62 (by decide) ?_
      exact q_iret E hr hlk (⟨_, rfl, hd⟩) hF d_Desk_point_63
    · skip
      refine lv_bipush (v := nI 6) hx hb d_Desk_point_46 (by decide) ?_
      exact q_iret E hr hlk (⟨_, rfl, hd⟩) hF d_Desk_point_48
  · skip
    refine lv_iload_n hx hb d_Desk_point_33 rfl (lv_at hl 0 rfl) ?_
    exact q_iret E hr hlk (⟨_, rfl, hd⟩) hF d_Desk_point_34
set_option maxHeartbeats 4000000 in
set_option maxRecDepth 100000 in
theorem G_Desk_out (l : Launch) (g : WG) (b pn tn wn : Nat) (mr mq : Int64) (k9 : Nat) (hk9 : k9 < wn) (hw96 : wn ≤ 96) : Ctr l y_Desk_out (.code y_Desk_out prog_1_method_11_code 5 (some FieldType.long)) 1 21 0 0 (nD b) g [.ref b, .int (nI k9)] (fun H => DS g H H b pn tn wn mr mq) (QL (fun r H H' => DS g H H' b pn tn wn mr mq)) := by
  refine ctr_mk l (lv0 := [(0, .ref b), (1, .int (nI k9))]) (by decide) (Nat.le_of_ble_eq_true rfl) rfl ?_
  intro p e s m below meth c ls E hr hlk hnm hl hP
  have hx := E.1
  have hb := E.2.1
  have hK := E.2.2.2.2.2
  have hF : ∀ q ∈ ([] : List Loc), nD b q.base := fun q hq => absurd hq List.not_mem_nil
  have hd := hP
  have lp : ∀ (k : Nat) (i : Nat) (y : Int64) (H : Heap) (locs : List Loc) (ls : Array Slot), i + k = 8 → DS g s.heap H b pn tn wn mr mq → (∀ q ∈ locs, nD b q.base) → lv_has ls 5 [(4, .int (nI i)), (2, .long y), (0, .ref b), (1, .int (nI k9))] → W p l e { frames := 1, cells := 0, slots := 0, locals := 21 } s m [.ref b, .int (nI k9)].toArray below meth c H locs 0 0 (MQ below (QcP (QL (fun r H H' => DS g H H' b pn tn wn mr mq))) [.ref b, .int (nI k9)].toArray s 0 0 (fun q => nD b q)) (F0 m 30 ls []) := by
    intro k
    induction k with
    | zero =>
      intro  i   y   H   locs   ls hi hd hF hl
      obtain rfl : i = 8 := by omega
      refine lv_iload hx hb d_Desk_out_30 (lv_at hl 0 rfl) ?_
      refine lv_bipush (v := nI 8) hx hb d_Desk_out_32 (by decide) ?_
      refine lv_icmp_ge (tgt := 78) hx hb d_Desk_out_34 (by decide) (fun _ => ?_) (fun h9 => absurd (by decide) h9)
      refine lv_lload_n hx hb d_Desk_out_78 rfl (lv_at hl 1 rfl) ?_
      exact q_lret E hr hlk (⟨_, rfl, hd⟩) hF d_Desk_out_79
    | succ k ih =>
      intro  i   y   H   locs   ls hi hd hF hl
      refine lv_iload hx hb d_Desk_out_30 (lv_at hl 0 rfl) ?_
      refine lv_bipush (v := nI 8) hx hb d_Desk_out_32 (by decide) ?_
      refine lv_icmp_ge (tgt := 78) hx hb d_Desk_out_34 (by decide) (fun h9 => absurd h9 (nI_ge (by omega) (by decide))) (fun _ => ?_)
      refine lv_iload_n hx hb d_Desk_out_37 rfl (lv_at hl 3 rfl) ?_
      refine lv_iload hx hb d_Desk_out_38 (lv_at hl 0 rfl) ?_
      refine lv_iadd hx hb d_Desk_out_40 ?_
      refine lv_aload_n hx hb d_Desk_out_41 rfl (lv_at hl 2 rfl) ?_
      refine q_get (C := "KateDesk") (T := T_Desk) (N := 16) (ci := 5) E hd.x.ob in_Desk rfl 10 (by decide) w_349 rfl rfl d_Desk_out_42 ?_
      refine q_get (C := "KateDesk$Row") (T := T_Row) (N := 2) (ci := 3) E hd.wr.1 in_Row rfl 1 (by decide) w_74 rfl rfl d_Desk_out_45 ?_
      refine lv_icmp_ge (tgt := 78) hx hb d_Desk_out_48 (by decide) (fun _ => ?_) (fun _ => ?_)
      · skip
        refine lv_lload_n hx hb d_Desk_out_78 rfl (lv_at hl 1 rfl) ?_
        exact q_lret E hr hlk (⟨_, rfl, hd⟩) hF d_Desk_out_79
      · skip
        refine lv_lload_n hx hb d_Desk_out_51 rfl (lv_at hl 1 rfl) ?_
        refine lv_aload_n hx hb d_Desk_out_52 rfl (lv_at hl 2 rfl) ?_
        refine q_get (C := "KateDesk") (T := T_Desk) (N := 16) (ci := 5) E hd.x.ob in_Desk rfl 10 (by decide) w_349 rfl rfl d_Desk_out_53 ?_
        refine lv_iload_n hx hb d_Desk_out_56 rfl (lv_at hl 3 rfl) ?_
        refine lv_iload hx hb d_Desk_out_57 (lv_at hl 0 rfl) ?_
        refine lv_iadd hx hb d_Desk_out_59 ?_
        refine q_cV (rest := [.long y]) E (v_Row_at l g (nD b) (b + 150) (b + 151) wn ((nI k9) + (nI i)) hw96) w_505 w_3 w_502 w_503 w_504 hd_Row_at rfl ⟨by decide, by decide⟩ (OB.recv E.2.2.2.2.2 (by rfl) hd.wr.1) (⟨hd.wr.1, hd.wr.2⟩) hF hl.1 rfl (Nat.le_of_ble_eq_true rfl) d_Desk_out_60 ⟨by decide, by decide⟩ (qi (fun rz1 H1 locs hq hF => ?_))
        obtain ⟨-, hq⟩ := hq
        have hq := hq.symm
        subst hq
        refine lv_i2l (v := rz1.toInt64) hx hb d_Desk_out_63 rfl ?_
        refine lv_bipush (v := nI 8) hx hb d_Desk_out_64 (by decide) ?_
        refine lv_iload hx hb d_Desk_out_66 (lv_at hl 0 rfl) ?_
        refine lv_imul hx hb d_Desk_out_68 ?_
        refine lv_lshl (v := rz1.toInt64 <<< (((nI 8) * (nI i)).toInt64 &&& 63)) hx hb d_Desk_out_69 rfl ?_
        refine lv_lor hx hb d_Desk_out_70 ?_
        refine lv_topl (fun v2 _ => ?_)
        refine lv_lstore_n (lv' := [(2, .long v2), (4, .int (nI i)), (0, .ref b), (1, .int (nI k9))]) hx hb d_Desk_out_71 rfl hl (by decide) rfl (fun ls hl => ?_)
        refine lv_iinc (k := 1) (v := nI (i + 1)) (lv' := [(4, .int (nI (i + 1))), (2, .long v2), (0, .ref b), (1, .int (nI k9))]) hx hb d_Desk_out_72 hl rfl (i_inc i) (by decide) rfl (fun ls hl => ?_)
        refine lv_goto (tgt := 30) hx hb d_Desk_out_75 (by decide) ?_
        have hl : lv_has ls 5 [(4, .int (nI (i + 1))), (2, .long v2), (0, .ref b), (1, .int (nI k9))] := lv_sub hl [0, 1, 2, 3] rfl
        exact ih (i + 1) _ _ _ ls (by omega) hd hF hl
  refine lv_iload_n hx hb d_Desk_out_0 rfl (lv_at hl 1 rfl) ?_
  refine lv_if_lt (tgt := 15) hx hb d_Desk_out_1 (by decide) (fun h9 => absurd h9 (nI_pos (by omega))) (fun _ => ?_)
  refine lv_iload_n hx hb d_Desk_out_4 rfl (lv_at hl 1 rfl) ?_
  refine lv_aload_n hx hb d_Desk_out_5 rfl (lv_at hl 0 rfl) ?_
  refine q_get (C := "KateDesk") (T := T_Desk) (N := 16) (ci := 5) E hd.x.ob in_Desk rfl 10 (by decide) w_349 rfl rfl d_Desk_out_6 ?_
  refine q_get (C := "KateDesk$Row") (T := T_Row) (N := 2) (ci := 3) E hd.wr.1 in_Row rfl 1 (by decide) w_74 rfl rfl d_Desk_out_9 ?_
  refine lv_icmp_lt (tgt := 25) hx hb d_Desk_out_12 (by decide) (fun _ => ?_) (fun h9 => absurd (nI_lt hk9 (by omega)) h9)
  refine lv_lconst (v := 0) hx hb d_Desk_out_25 (by decide) ?_
  refine lv_lstore_n (lv' := [(2, .long 0), (0, .ref b), (1, .int (nI k9))]) hx hb d_Desk_out_26 rfl hl (by decide) rfl (fun ls hl => ?_)
  refine lv_iconst (v := nI 0) hx hb d_Desk_out_27 (by decide) ?_
  refine lv_istore (lv' := [(4, .int (nI 0)), (2, .long 0), (0, .ref b), (1, .int (nI k9))]) hx hb d_Desk_out_28 hl (by decide) rfl (fun ls hl => ?_)
  have hl : lv_has ls 5 [(4, .int (nI 0)), (2, .long 0), (0, .ref b), (1, .int (nI k9))] := lv_sub hl [0, 1, 2, 3] rfl
  exact lp 8 0 _ _ _ ls (by omega) hd hF hl
set_option maxHeartbeats 4000000 in
set_option maxRecDepth 100000 in
theorem G_Desk_reckon (l : Launch) (g : WG) (b pn tn wn : Nat) (mr mq : Int64) (w0 a a2 a3 : Nat) (hw : w0 < 3) (ha : a < 32) (h2 : a2 < 32) (h3 : a3 < 32) : Ctr l y_Desk_reckon (.code y_Desk_reckon prog_1_method_6_code 5 none) 4 182 0 0 (nD b) g [.ref b, .int (nI w0), .int (nI a), .int (nI a2), .int (nI a3)] (fun H => DS g H H b pn tn wn mr mq) (QV (fun H H' => DS g H H' b pn tn wn mr mq)) := by
  refine ctr_mk l (lv0 := [(0, .ref b), (1, .int (nI w0)), (2, .int (nI a)), (3, .int (nI a2)), (4, .int (nI a3))]) (by decide) (Nat.le_of_ble_eq_true rfl) rfl ?_
  intro p e s m below meth c ls E hr hlk hnm hl hP
  have hx := E.1
  have hb := E.2.1
  have hK := E.2.2.2.2.2
  have hF : ∀ q ∈ ([] : List Loc), nD b q.base := fun q hq => absurd hq List.not_mem_nil
  have hd := hP
  refine lv_iload_n hx hb d_Desk_reckon_0 rfl (lv_at hl 1 rfl) ?_
  refine q_cS (rest := []) E (c_Desk_needKind l g (nD b) (nI w0) (⟨nI_pos (by omega), nI_le (by omega) (by decide)⟩)) w_544 w_1 w_542 w_543 hd_Desk_needKind rfl ⟨by decide, by decide⟩ trivial hF hl.1 rfl (Nat.le_of_ble_eq_true rfl) d_Desk_reckon_1 ⟨by decide, by decide⟩ (qv (fun H1 locs hq hF => ?_))
  have hq := hq.symm
  subst hq
  refine lv_iload_n hx hb d_Desk_reckon_4 rfl (lv_at hl 2 rfl) ?_
  refine lv_iconst (v := nI 1) hx hb d_Desk_reckon_5 (by decide) ?_
  refine q_cS (rest := []) E (c_Desk_needScalars l g (nD b) (nI a) (nI 1) (okS_of (by decide) ha)) w_494 w_1 w_492 w_493 hd_Desk_needScalars rfl ⟨by decide, by decide⟩ trivial hF hl.1 rfl (Nat.le_of_ble_eq_true rfl) d_Desk_reckon_6 ⟨by decide, by decide⟩ (qv (fun H2 locs hq hF => ?_))
  have hq := hq.symm
  subst hq
  refine lv_iload_n hx hb d_Desk_reckon_9 rfl (lv_at hl 3 rfl) ?_
  refine lv_iconst (v := nI 1) hx hb d_Desk_reckon_10 (by decide) ?_
  refine q_cS (rest := []) E (c_Desk_needScalars l g (nD b) (nI a2) (nI 1) (okS_of (by decide) h2)) w_494 w_1 w_492 w_493 hd_Desk_needScalars rfl ⟨by decide, by decide⟩ trivial hF hl.1 rfl (Nat.le_of_ble_eq_true rfl) d_Desk_reckon_11 ⟨by decide, by decide⟩ (qv (fun H3 locs hq hF => ?_))
  have hq := hq.symm
  subst hq
  refine lv_iload hx hb d_Desk_reckon_14 (lv_at hl 4 rfl) ?_
  refine lv_iconst (v := nI 1) hx hb d_Desk_reckon_16 (by decide) ?_
  refine q_cS (rest := []) E (c_Desk_needScalars l g (nD b) (nI a3) (nI 1) (okS_of (by decide) h3)) w_494 w_1 w_492 w_493 hd_Desk_needScalars rfl ⟨by decide, by decide⟩ trivial hF hl.1 rfl (Nat.le_of_ble_eq_true rfl) d_Desk_reckon_17 ⟨by decide, by decide⟩ (qv (fun H4 locs hq hF => ?_))
  have hq := hq.symm
  subst hq
  refine lv_iload_n hx hb d_Desk_reckon_20 rfl (lv_at hl 1 rfl) ?_
  refine lv_iconst (v := nI 3) hx hb d_Desk_reckon_21 (by decide) ?_
  refine lv_icmp_ne (tgt := 48) hx hb d_Desk_reckon_22 (by decide) (fun _ => ?_) (fun h9 => absurd h9 (fun h => absurd ((nI_eq (by omega) (by decide)).mp h) (by omega)))
  refine lv_iload_n hx hb d_Desk_reckon_48 rfl (lv_at hl 1 rfl) ?_
  refine lv_if_ne (tgt := 81) hx hb d_Desk_reckon_49 (by decide) (fun _ => ?_) (fun _ => ?_)
  · skip
    refine lv_iload_n hx hb d_Desk_reckon_81 rfl (lv_at hl 1 rfl) ?_
    refine lv_iconst (v := nI 1) hx hb d_Desk_reckon_82 (by decide) ?_
    refine lv_icmp_ne (tgt := 115) hx hb d_Desk_reckon_83 (by decide) (fun _ => ?_) (fun _ => ?_)
    · skip
      refine lv_aload_n hx hb d_Desk_reckon_115 rfl (lv_at hl 0 rfl) ?_
      refine q_get (C := "KateDesk") (T := T_Desk) (N := 16) (ci := 5) E hd.x.ob in_Desk rfl 0 (by decide) w_339 rfl rfl d_Desk_reckon_116 ?_
      refine lv_aload_n hx hb d_Desk_reckon_119 rfl (lv_at hl 0 rfl) ?_
      refine q_get (C := "KateDesk") (T := T_Desk) (N := 16) (ci := 5) E hd.x.ob in_Desk rfl 15 (by decide) w_354 rfl rfl d_Desk_reckon_120 ?_
      refine lv_aload_n hx hb d_Desk_reckon_123 rfl (lv_at hl 0 rfl) ?_
      refine q_get (C := "KateDesk") (T := T_Desk) (N := 16) (ci := 5) E hd.x.ob in_Desk rfl 5 (by decide) w_344 rfl rfl d_Desk_reckon_124 ?_
      refine lv_iload hx hb d_Desk_reckon_127 (lv_at hl 4 rfl) ?_
      refine q_aald (t := 4) E rfl rfl hd.x.rs.1 a3 rfl h3 (by decide) d_Desk_reckon_129 ?_
      refine q_cV (rest := []) E ((c_Field_lift l g (nJ b) (b + 162) (b + 161) (kSc b a3) (kFr b) mr).up nJ_D) w_302 w_4 w_336 w_300 w_301 hd_Field_lift rfl ⟨by decide, by decide⟩ (OB.recv E.2.2.2.2.2 (by rfl) ((hd.x.fr).1)) (⟨hd.x.fr, hd.x.fa, (hd.x.rs.2 a3 h3)⟩) hF hl.1 rfl (Nat.le_of_ble_eq_true rfl) d_Desk_reckon_130 ⟨by decide, by decide⟩ (qv (fun H5 locs hq hF => ?_))
      have hd := hd.kj hK hq (fun q h => h ▸ (hd.x.fa).1)
      refine lv_iload_n hx hb d_Desk_reckon_133 rfl (lv_at hl 1 rfl) ?_
      refine lv_iconst (v := nI 3) hx hb d_Desk_reckon_134 (by decide) ?_
      refine lv_icmp_ne (tgt := 153) hx hb d_Desk_reckon_135 (by decide) (fun _ => ?_) (fun _ => ?_)
      · skip
        refine lv_aload_n hx hb d_Desk_reckon_153 rfl (lv_at hl 0 rfl) ?_
        refine q_get (C := "KateDesk") (T := T_Desk) (N := 16) (ci := 5) E hd.x.ob in_Desk rfl 0 (by decide) w_339 rfl rfl d_Desk_reckon_154 ?_
        refine lv_aload_n hx hb d_Desk_reckon_157 rfl (lv_at hl 0 rfl) ?_
        refine q_get (C := "KateDesk") (T := T_Desk) (N := 16) (ci := 5) E hd.x.ob in_Desk rfl 5 (by decide) w_344 rfl rfl d_Desk_reckon_158 ?_
        refine lv_iload_n hx hb d_Desk_reckon_161 rfl (lv_at hl 2 rfl) ?_
        refine q_aald (t := 4) E rfl rfl hd.x.rs.1 a rfl ha (by decide) d_Desk_reckon_162 ?_
        refine lv_aload_n hx hb d_Desk_reckon_163 rfl (lv_at hl 0 rfl) ?_
        refine q_get (C := "KateDesk") (T := T_Desk) (N := 16) (ci := 5) E hd.x.ob in_Desk rfl 5 (by decide) w_344 rfl rfl d_Desk_reckon_164 ?_
        refine lv_iload_n hx hb d_Desk_reckon_167 rfl (lv_at hl 3 rfl) ?_
        refine q_aald (t := 4) E rfl rfl hd.x.rs.1 a2 rfl h2 (by decide) d_Desk_reckon_168 ?_
        refine lv_aload_n hx hb d_Desk_reckon_169 rfl (lv_at hl 0 rfl) ?_
        refine q_get (C := "KateDesk") (T := T_Desk) (N := 16) (ci := 5) E hd.x.ob in_Desk rfl 15 (by decide) w_354 rfl rfl d_Desk_reckon_170 ?_
        refine q_cV (rest := []) E ((c_Field_multiply l g (nJ b) (b + 162) (kSc b a) (kSc b a2) (b + 161) (kFr b) mr).up nJ_D) w_165 w_4 w_576 w_163 w_164 hd_Field_multiply rfl ⟨by decide, by decide⟩ (OB.recv E.2.2.2.2.2 (by rfl) ((hd.x.fr).1)) (⟨hd.x.fr, (hd.x.rs.2 a ha), (hd.x.rs.2 a2 h2), hd.x.fa⟩) hF hl.1 rfl (Nat.le_of_ble_eq_true rfl) d_Desk_reckon_173 ⟨by decide, by decide⟩ (qv (fun H6 locs hq hF => ?_))
        have hd := hd.kj hK hq (fun q h => h ▸ ((hd.x.rs.2 a ha)).1)
        exact q_vret E hr hlk (⟨rfl, hd⟩) hF d_Desk_reckon_176
      · skip
        refine lv_aload_n hx hb d_Desk_reckon_138 rfl (lv_at hl 0 rfl) ?_
        refine q_get (C := "KateDesk") (T := T_Desk) (N := 16) (ci := 5) E hd.x.ob in_Desk rfl 0 (by decide) w_339 rfl rfl d_Desk_reckon_139 ?_
        refine lv_aload_n hx hb d_Desk_reckon_142 rfl (lv_at hl 0 rfl) ?_
        refine q_get (C := "KateDesk") (T := T_Desk) (N := 16) (ci := 5) E hd.x.ob in_Desk rfl 15 (by decide) w_354 rfl rfl d_Desk_reckon_143 ?_
        refine lv_aload_n hx hb d_Desk_reckon_146 rfl (lv_at hl 0 rfl) ?_
        refine q_get (C := "KateDesk") (T := T_Desk) (N := 16) (ci := 5) E hd.x.ob in_Desk rfl 15 (by decide) w_354 rfl rfl d_Desk_reckon_147 ?_
        refine q_cV (rest := []) E ((v_Field_invert l g (nJ b) (b + 162) (b + 161) (b + 161) (kFr b) mr).up nJ_D) w_570 w_4 w_567 w_568 w_569 hd_Field_invert rfl ⟨by decide, by decide⟩ (OB.recv E.2.2.2.2.2 (by rfl) ((hd.x.fr).1)) (⟨hd.x.fr, hd.x.fa, hd.x.fa⟩) hF hl.1 rfl (Nat.le_of_ble_eq_true rfl) d_Desk_reckon_150 ⟨by decide, by decide⟩ (qv (fun H6 locs hq hF => ?_))
        have hd := hd.kj hK hq (fun q h => h.elim (fun h => h ▸ (hd.x.fa).1) (fun h => h ▸ (hd.x.fr.2 5 (by decide)).1))
        refine lv_aload_n hx hb d_Desk_reckon_153 rfl (lv_at hl 0 rfl) ?_
        refine q_get (C := "KateDesk") (T := T_Desk) (N := 16) (ci := 5) E hd.x.ob in_Desk rfl 0 (by decide) w_339 rfl rfl d_Desk_reckon_154 ?_
        refine lv_aload_n hx hb d_Desk_reckon_157 rfl (lv_at hl 0 rfl) ?_
        refine q_get (C := "KateDesk") (T := T_Desk) (N := 16) (ci := 5) E hd.x.ob in_Desk rfl 5 (by decide) w_344 rfl rfl d_Desk_reckon_158 ?_
        refine lv_iload_n hx hb d_Desk_reckon_161 rfl (lv_at hl 2 rfl) ?_
        refine q_aald (t := 4) E rfl rfl hd.x.rs.1 a rfl ha (by decide) d_Desk_reckon_162 ?_
        refine lv_aload_n hx hb d_Desk_reckon_163 rfl (lv_at hl 0 rfl) ?_
        refine q_get (C := "KateDesk") (T := T_Desk) (N := 16) (ci := 5) E hd.x.ob in_Desk rfl 5 (by decide) w_344 rfl rfl d_Desk_reckon_164 ?_
        refine lv_iload_n hx hb d_Desk_reckon_167 rfl (lv_at hl 3 rfl) ?_
        refine q_aald (t := 4) E rfl rfl hd.x.rs.1 a2 rfl h2 (by decide) d_Desk_reckon_168 ?_
        refine lv_aload_n hx hb d_Desk_reckon_169 rfl (lv_at hl 0 rfl) ?_
        refine q_get (C := "KateDesk") (T := T_Desk) (N := 16) (ci := 5) E hd.x.ob in_Desk rfl 15 (by decide) w_354 rfl rfl d_Desk_reckon_170 ?_
        refine q_cV (rest := []) E ((c_Field_multiply l g (nJ b) (b + 162) (kSc b a) (kSc b a2) (b + 161) (kFr b) mr).up nJ_D) w_165 w_4 w_576 w_163 w_164 hd_Field_multiply rfl ⟨by decide, by decide⟩ (OB.recv E.2.2.2.2.2 (by rfl) ((hd.x.fr).1)) (⟨hd.x.fr, (hd.x.rs.2 a ha), (hd.x.rs.2 a2 h2), hd.x.fa⟩) hF hl.1 rfl (Nat.le_of_ble_eq_true rfl) d_Desk_reckon_173 ⟨by decide, by decide⟩ (qv (fun H7 locs hq hF => ?_))
        have hd := hd.kj hK hq (fun q h => h ▸ ((hd.x.rs.2 a ha)).1)
        exact q_vret E hr hlk (⟨rfl, hd⟩) hF d_Desk_reckon_176
    · skip
      refine lv_aload_n hx hb d_Desk_reckon_86 rfl (lv_at hl 0 rfl) ?_
      refine q_get (C := "KateDesk") (T := T_Desk) (N := 16) (ci := 5) E hd.x.ob in_Desk rfl 0 (by decide) w_339 rfl rfl d_Desk_reckon_87 ?_
      refine lv_aload_n hx hb d_Desk_reckon_90 rfl (lv_at hl 0 rfl) ?_
      refine q_get (C := "KateDesk") (T := T_Desk) (N := 16) (ci := 5) E hd.x.ob in_Desk rfl 5 (by decide) w_344 rfl rfl d_Desk_reckon_91 ?_
      refine lv_iload_n hx hb d_Desk_reckon_94 rfl (lv_at hl 2 rfl) ?_
      refine q_aald (t := 4) E rfl rfl hd.x.rs.1 a rfl ha (by decide) d_Desk_reckon_95 ?_
      refine lv_aload_n hx hb d_Desk_reckon_96 rfl (lv_at hl 0 rfl) ?_
      refine q_get (C := "KateDesk") (T := T_Desk) (N := 16) (ci := 5) E hd.x.ob in_Desk rfl 5 (by decide) w_344 rfl rfl d_Desk_reckon_97 ?_
      refine lv_iload_n hx hb d_Desk_reckon_100 rfl (lv_at hl 3 rfl) ?_
      refine q_aald (t := 4) E rfl rfl hd.x.rs.1 a2 rfl h2 (by decide) d_Desk_reckon_101 ?_
      refine lv_aload_n hx hb d_Desk_reckon_102 rfl (lv_at hl 0 rfl) ?_
      refine q_get (C := "KateDesk") (T := T_Desk) (N := 16) (ci := 5) E hd.x.ob in_Desk rfl 5 (by decide) w_344 rfl rfl d_Desk_reckon_103 ?_
      refine lv_iload hx hb d_Desk_reckon_106 (lv_at hl 4 rfl) ?_
      refine q_aald (t := 4) E rfl rfl hd.x.rs.1 a3 rfl h3 (by decide) d_Desk_reckon_108 ?_
      refine q_cV (rest := []) E ((c_Field_subtract l g (nJ b) (b + 162) (kSc b a) (kSc b a2) (kSc b a3) (kFr b) mr).up nJ_D) w_169 w_4 w_566 w_167 w_168 hd_Field_subtract rfl ⟨by decide, by decide⟩ (OB.recv E.2.2.2.2.2 (by rfl) ((hd.x.fr).1)) (⟨hd.x.fr, (hd.x.rs.2 a ha), (hd.x.rs.2 a2 h2), (hd.x.rs.2 a3 h3)⟩) hF hl.1 rfl (Nat.le_of_ble_eq_true rfl) d_Desk_reckon_109 ⟨by decide, by decide⟩ (qv (fun H5 locs hq hF => ?_))
      have hd := hd.kj hK hq (fun q h => h ▸ ((hd.x.rs.2 a ha)).1)
      refine lv_goto (tgt := 176) hx hb d_Desk_reckon_112 (by decide) ?_
      exact q_vret E hr hlk (⟨rfl, hd⟩) hF d_Desk_reckon_176
  · skip
    refine lv_aload_n hx hb d_Desk_reckon_52 rfl (lv_at hl 0 rfl) ?_
    refine q_get (C := "KateDesk") (T := T_Desk) (N := 16) (ci := 5) E hd.x.ob in_Desk rfl 0 (by decide) w_339 rfl rfl d_Desk_reckon_53 ?_
    refine lv_aload_n hx hb d_Desk_reckon_56 rfl (lv_at hl 0 rfl) ?_
    refine q_get (C := "KateDesk") (T := T_Desk) (N := 16) (ci := 5) E hd.x.ob in_Desk rfl 5 (by decide) w_344 rfl rfl d_Desk_reckon_57 ?_
    refine lv_iload_n hx hb d_Desk_reckon_60 rfl (lv_at hl 2 rfl) ?_
    refine q_aald (t := 4) E rfl rfl hd.x.rs.1 a rfl ha (by decide) d_Desk_reckon_61 ?_
    refine lv_aload_n hx hb d_Desk_reckon_62 rfl (lv_at hl 0 rfl) ?_
    refine q_get (C := "KateDesk") (T := T_Desk) (N := 16) (ci := 5) E hd.x.ob in_Desk rfl 5 (by decide) w_344 rfl rfl d_Desk_reckon_63 ?_
    refine lv_iload_n hx hb d_Desk_reckon_66 rfl (lv_at hl 3 rfl) ?_
    refine q_aald (t := 4) E rfl rfl hd.x.rs.1 a2 rfl h2 (by decide) d_Desk_reckon_67 ?_
    refine lv_aload_n hx hb d_Desk_reckon_68 rfl (lv_at hl 0 rfl) ?_
    refine q_get (C := "KateDesk") (T := T_Desk) (N := 16) (ci := 5) E hd.x.ob in_Desk rfl 5 (by decide) w_344 rfl rfl d_Desk_reckon_69 ?_
    refine lv_iload hx hb d_Desk_reckon_72 (lv_at hl 4 rfl) ?_
    refine q_aald (t := 4) E rfl rfl hd.x.rs.1 a3 rfl h3 (by decide) d_Desk_reckon_74 ?_
    refine q_cV (rest := []) E ((c_Field_add l g (nJ b) (b + 162) (kSc b a) (kSc b a2) (kSc b a3) (kFr b) mr).up nJ_D) w_157 w_4 w_565 w_155 w_156 hd_Field_add rfl ⟨by decide, by decide⟩ (OB.recv E.2.2.2.2.2 (by rfl) ((hd.x.fr).1)) (⟨hd.x.fr, (hd.x.rs.2 a ha), (hd.x.rs.2 a2 h2), (hd.x.rs.2 a3 h3)⟩) hF hl.1 rfl (Nat.le_of_ble_eq_true rfl) d_Desk_reckon_75 ⟨by decide, by decide⟩ (qv (fun H5 locs hq hF => ?_))
    have hd := hd.kj hK hq (fun q h => h ▸ ((hd.x.rs.2 a ha)).1)
    refine lv_goto (tgt := 176) hx hb d_Desk_reckon_78 (by decide) ?_
    exact q_vret E hr hlk (⟨rfl, hd⟩) hF d_Desk_reckon_176
