theorem kd_cmp_ge {v : Int64} (h : ¬ v < 0) : 0 ≤ lg_cmp v 0 := by
  unfold lg_cmp
  by_cases h1 : v > 0
  · rw [if_pos h1]; decide
  · rw [if_neg h1]
    by_cases h2 : v = 0
    · rw [if_pos h2]; decide
    · exact absurd (Int64.lt_of_le_of_ne (Int64.not_lt.mp h1) h2) h
set_option maxHeartbeats 4000000 in
set_option maxRecDepth 100000 in
theorem c_Desk_feed (l : Launch) (g : WG) (n0 : Nat → Prop) (b : Nat) (mr mq : Int64) (n : Nat) (v : Int64) (h1 : 1 ≤ n) (h8 : n ≤ 8) : Ctr l y_Desk_feed (.code y_Desk_feed prog_1_method_2_code 5 (some FieldType.int)) 1 21 0 0 n0 g [.ref b, .int (nI n), .long v] (fun H => DK g n0 H b 0 0 0 mr mq ∧ FRESH g H b) (QI (fun r H H' => r = nI n ∧ FRM n0 H H')) := by
  refine ctr_mk l (lv0 := [(0, .ref b), (1, .int (nI n)), (2, .long v)]) (by decide) (Nat.le_of_ble_eq_true rfl) rfl ?_
  intro p e s m below meth c ls E hr hlk hnm hl hP
  have hx := E.1
  have hb := E.2.1
  have hK := E.2.2.2.2.2
  have hF : ∀ q ∈ ([] : List Loc), n0 q.base := fun q hq => absurd hq List.not_mem_nil
  obtain ⟨hdk, hfs⟩ := hP
  have hk : KJ g (fun q => n0 q) s.heap s.heap := KJ.rf
  refine lv_iload_n hx hb d_Desk_feed_0 rfl (lv_at hl 1 rfl) ?_
  refine lv_iconst (v := nI 1) hx hb d_Desk_feed_1 (by decide) ?_
  refine lv_icmp_lt (tgt := 11) hx hb d_Desk_feed_2 (by decide) (fun h9 => absurd h9 (nI_nlt h1 (by omega))) (fun _ => ?_)
  refine lv_iload_n hx hb d_Desk_feed_5 rfl (lv_at hl 1 rfl) ?_
  refine lv_bipush (v := nI 8) hx hb d_Desk_feed_6 (by decide) ?_
  refine lv_icmp_le (tgt := 21) hx hb d_Desk_feed_8 (by decide) (fun _ => ?_) (fun h9 => absurd (nI_le h8 (by decide)) h9)
  refine lv_aload_n hx hb d_Desk_feed_21 rfl (lv_at hl 0 rfl) ?_
  refine q_get (C := "KateDesk") (T := T_Desk) (N := 16) (ci := 5) E ((hk.dk hK hdk).ob) in_Desk rfl 9 (by decide) w_348 rfl rfl d_Desk_feed_22 ?_
  refine q_get (C := "KateDesk$Row") (T := T_Row) (N := 2) (ci := 3) E ((hk.dk hK hdk).tp) in_Row rfl 1 (by decide) w_74 rfl rfl d_Desk_feed_25 ?_
  refine lv_iload_n hx hb d_Desk_feed_28 rfl (lv_at hl 1 rfl) ?_
  refine lv_iadd hx hb d_Desk_feed_29 ?_
  refine lv_topi (fun t9 e9 => ?_)
  obtain rfl : t9 = nI n := e9.trans (Int32.zero_add _)
  refine lv_bipush (v := nI 96) hx hb d_Desk_feed_30 (by decide) ?_
  refine lv_icmp_le (tgt := 45) hx hb d_Desk_feed_32 (by decide) (fun _ => ?_) (fun h9 => absurd (nI_le (by omega) (by decide)) h9)
  refine lv_iconst (v := nI 0) hx hb d_Desk_feed_45 (by decide) ?_
  refine lv_istore (lv' := [(4, .int (nI 0)), (0, .ref b), (1, .int (nI n)), (2, .long v)]) hx hb d_Desk_feed_46 hl (by decide) rfl (fun ls hl => ?_)
  have hl : lv_has ls 5 [(4, .int (nI 0)), (0, .ref b), (1, .int (nI n)), (2, .long v)] := lv_sub hl [0, 1, 2, 3] rfl
  have loop : ∀ (k : Nat) (i : Nat) (H : Heap) (locs : List Loc) (ls : Array Slot), i + k = n → FRM n0 s.heap H → OB g H b 5 [.ref (b + 162), .ref (b + 176), .ref (b + 186), .ref (b + 465), .ref (b + 470), .ref (b + 1), .ref (b + 34), .ref (b + 83), .int 0, .ref (b + 148), .ref (b + 150), .ref (b + 495), .ref (b + 152), .ref (b + 156), .ref (b + 160), .ref (b + 161)] → OB g H (b + 148) 3 [.ref (b + 149), .int (nI i)] → (∃ f, AB g H (b + 149) 96 f) → (∀ q ∈ locs, n0 q.base) → lv_has ls 5 [(4, .int (nI i)), (0, .ref b), (1, .int (nI n)), (2, .long v)] → W p l e { frames := 1, cells := 0, slots := 0, locals := 21 } s m [.ref b, .int (nI n), .long v].toArray below meth c H locs 0 0 (MQ below (QcP (QI (fun r H H' => r = nI n ∧ FRM n0 H H'))) [.ref b, .int (nI n), .long v].toArray s 0 0 (fun q => n0 q)) (F0 m 48 ls []) := by
    intro k
    induction k with
    | zero =>
      intro  i   H   locs   ls hi hfr hob htp htc hF hl
      obtain rfl : i = n := by omega
      refine lv_iload hx hb d_Desk_feed_48 (lv_at hl 0 rfl) ?_
      refine lv_iload_n hx hb d_Desk_feed_50 rfl (lv_at hl 2 rfl) ?_
      refine lv_icmp_ge (tgt := 75) hx hb d_Desk_feed_51 (by decide) (fun _ => ?_) (fun h9 => absurd (nI_le (Nat.le_refl _) (by omega)) h9)
      refine lv_aload_n hx hb d_Desk_feed_75 rfl (lv_at hl 1 rfl) ?_
      refine q_get (C := "KateDesk") (T := T_Desk) (N := 16) (ci := 5) E hob in_Desk rfl 9 (by decide) w_348 rfl rfl d_Desk_feed_76 ?_
      refine q_get (C := "KateDesk$Row") (T := T_Row) (N := 2) (ci := 3) E htp in_Row rfl 1 (by decide) w_74 rfl rfl d_Desk_feed_79 ?_
      exact q_iret E hr hlk (⟨_, rfl, rfl, hfr⟩) hF d_Desk_feed_82
    | succ k ih =>
      intro  i   H   locs   ls hi hfr hob htp htc hF hl
      refine lv_iload hx hb d_Desk_feed_48 (lv_at hl 0 rfl) ?_
      refine lv_iload_n hx hb d_Desk_feed_50 rfl (lv_at hl 2 rfl) ?_
      refine lv_icmp_ge (tgt := 75) hx hb d_Desk_feed_51 (by decide) (fun h9 => absurd h9 (nI_ge (by omega) (by omega))) (fun _ => ?_)
      refine lv_aload_n hx hb d_Desk_feed_54 rfl (lv_at hl 1 rfl) ?_
      refine q_get (C := "KateDesk") (T := T_Desk) (N := 16) (ci := 5) E hob in_Desk rfl 9 (by decide) w_348 rfl rfl d_Desk_feed_55 ?_
      refine lv_lload_n hx hb d_Desk_feed_58 rfl (lv_at hl 3 rfl) ?_
      refine lv_bipush (v := nI 8) hx hb d_Desk_feed_59 (by decide) ?_
      refine lv_iload hx hb d_Desk_feed_61 (lv_at hl 0 rfl) ?_
      refine lv_imul hx hb d_Desk_feed_63 ?_
      refine lv_lshr (v := v >>> (((nI 8) * (nI i)).toInt64 &&& 63)) hx hb d_Desk_feed_64 rfl ?_
      refine lv_l2i (v := (v >>> (((nI 8) * (nI i)).toInt64 &&& 63)).toInt32) hx hb d_Desk_feed_65 rfl ?_
      refine q_cV (rest := []) E (c_Row_append l g n0 (b + 148) (b + 149) i _ (by omega)) w_484 w_3 w_481 w_482 w_483 hd_Row_append rfl ⟨by decide, by decide⟩ (OB.recv E.2.2.2.2.2 (by rfl) htp) (⟨htp, htc, hdk.no.2.1, hdk.no.2.2.1⟩) hF hl.1 rfl (Nat.le_of_ble_eq_true rfl) d_Desk_feed_66 ⟨by decide, by decide⟩ (qv (fun H1 locs hq hF => ?_))
      have hob := OB.off hq.1 (fun h => h.elim (fun e => by omega) (fun e => by omega)) hob
      have hfr := hfr.tr (hq.1.mono (fun q h => h.elim (fun e => e ▸ hdk.no.2.1) (fun e => e ▸ hdk.no.2.2.1)))
      refine lv_iinc (k := 0) (v := nI (i + 1)) (lv' := [(4, .int (nI (i + 1))), (0, .ref b), (1, .int (nI n)), (2, .long v)]) hx hb d_Desk_feed_69 hl rfl (i_inc i) (by decide) rfl (fun ls hl => ?_)
      refine lv_goto (tgt := 48) hx hb d_Desk_feed_72 (by decide) ?_
      have hl : lv_has ls 5 [(4, .int (nI (i + 1))), (0, .ref b), (1, .int (nI n)), (2, .long v)] := lv_sub hl [0, 1, 2, 3] rfl
      exact ih (i + 1) H1 locs ls (by omega) hfr hob hq.2.1 hq.2.2 hF hl
  exact loop n 0 s.heap [] ls (by omega) FRM.rf hdk.ob hdk.tp hdk.tc hF hl
set_option maxHeartbeats 4000000 in
set_option maxRecDepth 100000 in
theorem c_Desk_number (l : Launch) (g : WG) (n0 : Nat → Prop) (b : Nat) (mr mq : Int64) (a : Nat) (ha : a < 32) : Ctr l y_Desk_number (.code y_Desk_number prog_1_method_3_code 3 (some FieldType.boolean)) 2 81 0 0 n0 g [.ref b, .int (nI a)] (fun H => DK g n0 H b 0 0 0 mr mq ∧ FRESH g H b) (QI (fun r H H' => r = 1 ∧ FRM n0 H H')) := by
  refine ctr_mk l (lv0 := [(0, .ref b), (1, .int (nI a))]) (by decide) (Nat.le_of_ble_eq_true rfl) rfl ?_
  intro p e s m below meth c ls E hr hlk hnm hl hP
  have hx := E.1
  have hb := E.2.1
  have hK := E.2.2.2.2.2
  have hF : ∀ q ∈ ([] : List Loc), n0 q.base := fun q hq => absurd hq List.not_mem_nil
  obtain ⟨hdk, hfs⟩ := hP
  have hk : KJ g (fun q => n0 q) s.heap s.heap := KJ.rf
  refine lv_iload_n hx hb d_Desk_number_0 rfl (lv_at hl 1 rfl) ?_
  refine lv_iconst (v := nI 1) hx hb d_Desk_number_1 (by decide) ?_
  refine q_cS (rest := []) E (c_Desk_needScalars l g n0 _ _ (okS_of (by omega) (by omega))) w_494 w_1 w_492 w_493 hd_Desk_needScalars rfl ⟨by decide, by decide⟩ trivial hF hl.1 rfl (Nat.le_of_ble_eq_true rfl) d_Desk_number_2 ⟨by decide, by decide⟩ (qv (fun H1 locs hq hF => ?_))
  obtain rfl := hq
  refine lv_aload_n hx hb d_Desk_number_5 rfl (lv_at hl 0 rfl) ?_
  refine q_get (C := "KateDesk") (T := T_Desk) (N := 16) (ci := 5) E ((hk.dk hK hdk).ob) in_Desk rfl 14 (by decide) w_353 rfl rfl d_Desk_number_6 ?_
  refine q_cS (rest := []) E (c_Limbs_clear l g n0 (b + 160)) w_498 w_5 w_496 w_497 hd_Limbs_clear rfl ⟨by decide, by decide⟩ ((hk.dk hK hdk).hs) hF hl.1 rfl (Nat.le_of_ble_eq_true rfl) d_Desk_number_9 ⟨by decide, by decide⟩ (qv (fun H2 locs hq hF => ?_))
  have hz := hq.2
  have hq := hq.1
  have hmd := (hfs.2.2.1 : MD g s.heap (b + 168))
  obtain ⟨fm, hfm, hm0, hm1⟩ := hq.md (a := b + 168) (by omega) hmd
  have hk := hk.tr (hq.w1 (hk.dk hK hdk).hs.1)
  refine lv_iconst (v := nI 0) hx hb d_Desk_number_12 (by decide) ?_
  refine lv_istore_n (lv' := [(2, .int (nI 0)), (0, .ref b), (1, .int (nI a))]) hx hb d_Desk_number_13 rfl hl (by decide) rfl (fun ls hl => ?_)
  refine lv_iload_n hx hb d_Desk_number_14 rfl (lv_at hl 0 rfl) ?_
  refine lv_aload_n hx hb d_Desk_number_15 rfl (lv_at hl 1 rfl) ?_
  refine q_get (C := "KateDesk") (T := T_Desk) (N := 16) (ci := 5) E ((hk.dk hK hdk).ob) in_Desk rfl 9 (by decide) w_348 rfl rfl d_Desk_number_16 ?_
  refine q_get (C := "KateDesk$Row") (T := T_Row) (N := 2) (ci := 3) E ((hk.dk hK hdk).tp) in_Row rfl 1 (by decide) w_74 rfl rfl d_Desk_number_19 ?_
  refine lv_icmp_ge (tgt := 47) hx hb d_Desk_number_22 (by decide) (fun _ => ?_) (fun h9 => absurd (by decide) h9)
  refine lv_aload_n hx hb d_Desk_number_47 rfl (lv_at hl 1 rfl) ?_
  refine q_get (C := "KateDesk") (T := T_Desk) (N := 16) (ci := 5) E ((hk.dk hK hdk).ob) in_Desk rfl 9 (by decide) w_348 rfl rfl d_Desk_number_48 ?_
  refine q_get (C := "KateDesk$Row") (T := T_Row) (N := 2) (ci := 3) E ((hk.dk hK hdk).tp) in_Row rfl 1 (by decide) w_74 rfl rfl d_Desk_number_51 ?_
  refine lv_bipush (v := nI 32) hx hb d_Desk_number_54 (by decide) ?_
  refine lv_icmp_gt (tgt := 80) hx hb d_Desk_number_56 (by decide) (fun h9 => absurd h9 (by decide)) (fun _ => ?_)
  refine lv_aload_n hx hb d_Desk_number_59 rfl (lv_at hl 1 rfl) ?_
  refine q_get (C := "KateDesk") (T := T_Desk) (N := 16) (ci := 5) E ((hk.dk hK hdk).ob) in_Desk rfl 14 (by decide) w_353 rfl rfl d_Desk_number_60 ?_
  refine lv_aload_n hx hb d_Desk_number_63 rfl (lv_at hl 1 rfl) ?_
  refine q_get (C := "KateDesk") (T := T_Desk) (N := 16) (ci := 5) E ((hk.dk hK hdk).ob) in_Desk rfl 0 (by decide) w_339 rfl rfl d_Desk_number_64 ?_
  refine q_get (C := "KateDesk$Field") (T := T_Field) (N := 7) (ci := 1) E ((hk.dk hK hdk).fr.1) in_Field rfl 0 (by decide) w_172 rfl rfl d_Desk_number_67 ?_
  refine q_cS (rest := []) E (z_Limbs_less l g n0 (b + 160) (b + 168) fm hm0 hm1) w_512 w_5 w_510 w_511 hd_Limbs_less rfl ⟨by decide, by decide⟩ (⟨hz, hfm⟩) hF hl.1 rfl (Nat.le_of_ble_eq_true rfl) d_Desk_number_70 ⟨by decide, by decide⟩ (qi (fun r H3 locs hq hF => ?_))
  obtain ⟨rfl, hq⟩ := hq
  obtain rfl := hq
  refine lv_if_eq (tgt := 80) hx hb d_Desk_number_73 (by decide) (fun h9 => absurd h9 (by decide)) (fun _ => ?_)
  refine lv_iconst (v := nI 1) hx hb d_Desk_number_76 (by decide) ?_
  refine lv_goto (tgt := 81) hx hb d_Desk_number_77 (by decide) ?_
  refine lv_istore_n (lv' := [(2, .int (nI 1)), (0, .ref b), (1, .int (nI a))]) hx hb d_Desk_number_81 rfl hl (by decide) rfl (fun ls hl => ?_)
  refine lv_aload_n hx hb d_Desk_number_82 rfl (lv_at hl 1 rfl) ?_
  refine q_get (C := "KateDesk") (T := T_Desk) (N := 16) (ci := 5) E ((hk.dk hK hdk).ob) in_Desk rfl 9 (by decide) w_348 rfl rfl d_Desk_number_83 ?_
  refine lv_iconst (v := nI 0) hx hb d_Desk_number_86 (by decide) ?_
  refine q_put (C := "KateDesk$Row") (T := T_Row) (N := 2) (ci := 3) (ty := .int) E ((hk.dk hK hdk).tp) in_Row ty_Row tyok_Row nm_Row rfl 1 (by decide) w_74 rfl rfl (by decide +kernel) rfl rfl (Nat.le_of_ble_eq_true rfl) hdk.no.2.1 hF d_Desk_number_87 (fun H4 locs hq ho2 hF => ?_)
  have hfr := hk.frm.tr (hq.mono (S' := n0) (fun q h => h ▸ hdk.no.2.1))
  refine lv_iload_n hx hb d_Desk_number_90 rfl (lv_at hl 0 rfl) ?_
  refine lv_if_eq (tgt := 107) hx hb d_Desk_number_91 (by decide) (fun h9 => absurd h9 (by decide)) (fun _ => ?_)
  refine lv_aload_n hx hb d_Desk_number_94 rfl (lv_at hl 1 rfl) ?_
  refine q_get (C := "KateDesk") (T := T_Desk) (N := 16) (ci := 5) E (OB.off hq (by omega) (hk.dk hK hdk).ob) in_Desk rfl 5 (by decide) w_344 rfl rfl d_Desk_number_95 ?_
  refine lv_iload_n hx hb d_Desk_number_98 rfl (lv_at hl 2 rfl) ?_
  have hne : kSc b a ≠ b + 148 := by unfold kSc; omega
  refine q_aald (t := 4) E rfl rfl (show AR g.2.2.2.2.2.1 H4 (b + 1) 32 (kSc b) by unfold AR; rw [hq.2 _ (by omega)]; exact (hk.dk hK hdk).rs.1) a rfl ha (by decide) d_Desk_number_99 ?_
  refine lv_aload_n hx hb d_Desk_number_100 rfl (lv_at hl 1 rfl) ?_
  refine q_get (C := "KateDesk") (T := T_Desk) (N := 16) (ci := 5) E (OB.off hq (by omega) (hk.dk hK hdk).ob) in_Desk rfl 14 (by decide) w_353 rfl rfl d_Desk_number_101 ?_
  obtain ⟨hs0, fs, hfs1⟩ := (hk.dk hK hdk).rs.2 a ha
  refine q_cS (rest := []) E (c_Limbs_copy l g n0 (kSc b a) (b + 160) (fun _ => 0)) w_146 w_5 w_338 w_145 hd_Limbs_copy rfl ⟨by decide, by decide⟩ (⟨⟨hs0, fs, AJ.off hq hne hfs1⟩, AJ.off hq (by omega) hz⟩) hF hl.1 rfl (Nat.le_of_ble_eq_true rfl) d_Desk_number_104 ⟨by decide, by decide⟩ (qv (fun H5 locs hq hF => ?_))
  have hfr := hfr.tr (hq.1.frm.mono (fun q h => h ▸ hs0))
  refine lv_iload_n hx hb d_Desk_number_107 rfl (lv_at hl 0 rfl) ?_
  exact q_zret E hr rfl hlk (⟨_, rfl, rfl, hfr⟩) hF d_Desk_number_108
set_option maxHeartbeats 4000000 in
set_option maxRecDepth 100000 in
theorem c_Desk_set (l : Launch) (g : WG) (n0 : Nat → Prop) (b : Nat) (mr mq : Int64) (a : Nat) (v : Int64) (ha : a < 32) (hv : ¬ v < 0) : Ctr l y_Desk_set (.code y_Desk_set prog_1_method_4_code 4 none) 3 66 0 0 n0 g [.ref b, .int (nI a), .long v] (fun H => DK g n0 H b 0 0 0 mr mq ∧ FRESH g H b) (QV (fun H H' => FRM n0 H H')) := by
  refine ctr_mk l (lv0 := [(0, .ref b), (1, .int (nI a)), (2, .long v)]) (by decide) (Nat.le_of_ble_eq_true rfl) rfl ?_
  intro p e s m below meth c ls E hr hlk hnm hl hP
  have hx := E.1
  have hb := E.2.1
  have hK := E.2.2.2.2.2
  have hF : ∀ q ∈ ([] : List Loc), n0 q.base := fun q hq => absurd hq List.not_mem_nil
  obtain ⟨hdk, hfs⟩ := hP
  have hk : KJ g (fun q => n0 q) s.heap s.heap := KJ.rf
  refine lv_iload_n hx hb d_Desk_set_0 rfl (lv_at hl 1 rfl) ?_
  refine lv_iconst (v := nI 1) hx hb d_Desk_set_1 (by decide) ?_
  refine q_cS (rest := []) E (c_Desk_needScalars l g n0 _ _ (okS_of (by omega) (by omega))) w_494 w_1 w_492 w_493 hd_Desk_needScalars rfl ⟨by decide, by decide⟩ trivial hF hl.1 rfl (Nat.le_of_ble_eq_true rfl) d_Desk_set_2 ⟨by decide, by decide⟩ (qv (fun H1 locs hq hF => ?_))
  obtain rfl := hq
  refine lv_lload_n hx hb d_Desk_set_5 rfl (lv_at hl 2 rfl) ?_
  refine lv_lconst (v := 0) hx hb d_Desk_set_6 (by decide) ?_
  refine W.lcmp hx hb d_Desk_set_7 ?_
  refine lv_if_ge (tgt := 21) hx hb d_Desk_set_8 (by decide) (fun _ => ?_) (fun h9 => absurd (kd_cmp_ge hv) h9)
  refine lv_aload_n hx hb d_Desk_set_21 rfl (lv_at hl 0 rfl) ?_
  refine q_get (C := "KateDesk") (T := T_Desk) (N := 16) (ci := 5) E ((hk.dk hK hdk).ob) in_Desk rfl 5 (by decide) w_344 rfl rfl d_Desk_set_22 ?_
  refine lv_iload_n hx hb d_Desk_set_25 rfl (lv_at hl 1 rfl) ?_
  refine q_aald (t := 4) E rfl rfl ((hk.dk hK hdk).rs.1) a rfl (by omega) (by decide) d_Desk_set_26 ?_
  refine lv_lload_n hx hb d_Desk_set_27 rfl (lv_at hl 2 rfl) ?_
  refine q_cS (rest := []) E (c_Limbs_fromLong l g n0 (kSc b a) v) w_523 w_5 w_521 w_522 hd_Limbs_fromLong rfl ⟨by decide, by decide⟩ ((hk.dk hK hdk).rs.2 a (by omega)) hF hl.1 rfl (Nat.le_of_ble_eq_true rfl) d_Desk_set_28 ⟨by decide, by decide⟩ (qv (fun H2 locs hq hF => ?_))
  have hk := hk.tr (hq.w1 ((hk.dk hK hdk).rs.2 a (by omega)).1)
  exact q_vret E hr hlk (⟨rfl, hk.frm⟩) hF d_Desk_set_31
set_option maxHeartbeats 4000000 in
set_option maxRecDepth 100000 in
theorem c_Desk_word (l : Launch) (g : WG) (n0 : Nat → Prop) (b : Nat) (mr mq : Int64) (a k : Nat) (ha : a < 32) (hk8 : k < 8) : Ctr l y_Desk_word (.code y_Desk_word prog_1_method_5_code 7 (some FieldType.long)) 1 26 0 0 n0 g [.ref b, .int (nI a), .int (nI k)] (fun H => DK g n0 H b 0 0 0 mr mq ∧ FRESH g H b) (QL (fun r H H' => r = 0 ∧ FRM n0 H H')) := by
  refine ctr_mk l (lv0 := [(0, .ref b), (1, .int (nI a)), (2, .int (nI k))]) (by decide) (Nat.le_of_ble_eq_true rfl) rfl ?_
  intro p e s m below meth c ls E hr hlk hnm hl hP
  have hx := E.1
  have hb := E.2.1
  have hK := E.2.2.2.2.2
  have hF : ∀ q ∈ ([] : List Loc), n0 q.base := fun q hq => absurd hq List.not_mem_nil
  obtain ⟨hdk, hfs⟩ := hP
  have hk : KJ g (fun q => n0 q) s.heap s.heap := KJ.rf
  refine lv_iload_n hx hb d_Desk_word_0 rfl (lv_at hl 1 rfl) ?_
  refine lv_iconst (v := nI 1) hx hb d_Desk_word_1 (by decide) ?_
  refine q_cS (rest := []) E (c_Desk_needScalars l g n0 _ _ (okS_of (by omega) (by omega))) w_494 w_1 w_492 w_493 hd_Desk_needScalars rfl ⟨by decide, by decide⟩ trivial hF hl.1 rfl (Nat.le_of_ble_eq_true rfl) d_Desk_word_2 ⟨by decide, by decide⟩ (qv (fun H1 locs hq hF => ?_))
  obtain rfl := hq
  refine lv_iload_n hx hb d_Desk_word_5 rfl (lv_at hl 2 rfl) ?_
  refine lv_if_lt (tgt := 15) hx hb d_Desk_word_6 (by decide) (fun h9 => absurd h9 (nI_pos (by omega))) (fun _ => ?_)
  refine lv_iload_n hx hb d_Desk_word_9 rfl (lv_at hl 2 rfl) ?_
  refine lv_bipush (v := nI 8) hx hb d_Desk_word_10 (by decide) ?_
  refine lv_icmp_lt (tgt := 25) hx hb d_Desk_word_12 (by decide) (fun _ => ?_) (fun h9 => absurd (nI_lt hk8 (by decide)) h9)
  refine lv_aload_n hx hb d_Desk_word_25 rfl (lv_at hl 0 rfl) ?_
  refine q_get (C := "KateDesk") (T := T_Desk) (N := 16) (ci := 5) E ((hk.dk hK hdk).ob) in_Desk rfl 5 (by decide) w_344 rfl rfl d_Desk_word_26 ?_
  refine lv_iload_n hx hb d_Desk_word_29 rfl (lv_at hl 1 rfl) ?_
  refine q_aald (t := 4) E rfl rfl ((hk.dk hK hdk).rs.1) a rfl (by omega) (by decide) d_Desk_word_30 ?_
  refine lv_bipush (v := nI 32) hx hb d_Desk_word_31 (by decide) ?_
  refine lv_iload_n hx hb d_Desk_word_33 rfl (lv_at hl 2 rfl) ?_
  refine lv_imul hx hb d_Desk_word_34 ?_
  refine lv_bipush (v := nI 16) hx hb d_Desk_word_35 (by decide) ?_
  refine q_cS (rest := []) E (z_Limbs_bits l g n0 (kSc b a) _ _) w_271 w_5 w_533 w_270 hd_Limbs_bits rfl ⟨by decide, by decide⟩ (hfs.1 a ha) hF hl.1 rfl (Nat.le_of_ble_eq_true rfl) d_Desk_word_37 ⟨by decide, by decide⟩ (ql (fun r H2 locs hq hF => ?_))
  obtain ⟨rfl, hq⟩ := hq
  obtain rfl := hq
  refine lv_lstore_n (lv' := [(3, .long (0 : Int64)), (0, .ref b), (1, .int (nI a)), (2, .int (nI k))]) hx hb d_Desk_word_40 rfl hl (by decide) rfl (fun ls hl => ?_)
  refine lv_aload_n hx hb d_Desk_word_41 rfl (lv_at hl 1 rfl) ?_
  refine q_get (C := "KateDesk") (T := T_Desk) (N := 16) (ci := 5) E ((hk.dk hK hdk).ob) in_Desk rfl 5 (by decide) w_344 rfl rfl d_Desk_word_42 ?_
  refine lv_iload_n hx hb d_Desk_word_45 rfl (lv_at hl 2 rfl) ?_
  refine q_aald (t := 4) E rfl rfl ((hk.dk hK hdk).rs.1) a rfl (by omega) (by decide) d_Desk_word_46 ?_
  refine lv_bipush (v := nI 32) hx hb d_Desk_word_47 (by decide) ?_
  refine lv_iload_n hx hb d_Desk_word_49 rfl (lv_at hl 3 rfl) ?_
  refine lv_imul hx hb d_Desk_word_50 ?_
  refine lv_bipush (v := nI 16) hx hb d_Desk_word_51 (by decide) ?_
  refine lv_iadd hx hb d_Desk_word_53 ?_
  refine lv_bipush (v := nI 16) hx hb d_Desk_word_54 (by decide) ?_
  refine q_cS (rest := []) E (z_Limbs_bits l g n0 (kSc b a) _ _) w_271 w_5 w_533 w_270 hd_Limbs_bits rfl ⟨by decide, by decide⟩ (hfs.1 a ha) hF hl.1 rfl (Nat.le_of_ble_eq_true rfl) d_Desk_word_56 ⟨by decide, by decide⟩ (ql (fun r H3 locs hq hF => ?_))
  obtain ⟨rfl, hq⟩ := hq
  obtain rfl := hq
  refine lv_lstore (lv' := [(5, .long (0 : Int64)), (3, .long (0 : Int64)), (0, .ref b), (1, .int (nI a)), (2, .int (nI k))]) hx hb d_Desk_word_59 hl (by decide) rfl (fun ls hl => ?_)
  refine lv_lload hx hb d_Desk_word_61 (lv_at hl 0 rfl) ?_
  refine lv_bipush (v := nI 16) hx hb d_Desk_word_63 (by decide) ?_
  refine lv_lshl (v := (0 : Int64) <<< ((nI 16).toInt64 &&& 63)) hx hb d_Desk_word_65 rfl ?_
  refine lv_lload_n hx hb d_Desk_word_66 rfl (lv_at hl 1 rfl) ?_
  refine lv_lor hx hb d_Desk_word_67 ?_
  refine lv_topl (fun t9 e9 => ?_)
  obtain rfl : t9 = 0 := e9.trans (by decide)
  exact q_lret E hr hlk (⟨_, rfl, rfl, FRM.rf⟩) hF d_Desk_word_68
set_option maxHeartbeats 4000000 in
set_option maxRecDepth 100000 in
theorem c_Desk_reckon (l : Launch) (g : WG) (n0 : Nat → Prop) (b : Nat) (mr mq : Int64) (w0 a a2 a3 : Nat) (hw : w0 < 3) (ha : a < 32) (hc : a2 < 32) (hd : a3 < 32) : Ctr l y_Desk_reckon (.code y_Desk_reckon prog_1_method_6_code 5 none) 3 157 0 0 n0 g [.ref b, .int (nI w0), .int (nI a), .int (nI a2), .int (nI a3)] (fun H => DK g n0 H b 0 0 0 mr mq ∧ FRESH g H b) (QV (fun H H' => FRM n0 H H')) := by
  refine ctr_mk l (lv0 := [(0, .ref b), (1, .int (nI w0)), (2, .int (nI a)), (3, .int (nI a2)), (4, .int (nI a3))]) (by decide) (Nat.le_of_ble_eq_true rfl) rfl ?_
  intro p e s m below meth c ls E hr hlk hnm hl hP
  have hx := E.1
  have hb := E.2.1
  have hK := E.2.2.2.2.2
  have hF : ∀ q ∈ ([] : List Loc), n0 q.base := fun q hq => absurd hq List.not_mem_nil
  obtain ⟨hdk, hfs⟩ := hP
  have hk : KJ g (fun q => n0 q) s.heap s.heap := KJ.rf
  refine lv_iload_n hx hb d_Desk_reckon_0 rfl (lv_at hl 1 rfl) ?_
  refine q_cS (rest := []) E (c_Desk_needKind l g n0 _ (⟨nI_pos (by omega), nI_le (by omega) (by decide)⟩)) w_544 w_1 w_542 w_543 hd_Desk_needKind rfl ⟨by decide, by decide⟩ trivial hF hl.1 rfl (Nat.le_of_ble_eq_true rfl) d_Desk_reckon_1 ⟨by decide, by decide⟩ (qv (fun H1 locs hq hF => ?_))
  obtain rfl := hq
  refine lv_iload_n hx hb d_Desk_reckon_4 rfl (lv_at hl 2 rfl) ?_
  refine lv_iconst (v := nI 1) hx hb d_Desk_reckon_5 (by decide) ?_
  refine q_cS (rest := []) E (c_Desk_needScalars l g n0 _ _ (okS_of (by omega) (by omega))) w_494 w_1 w_492 w_493 hd_Desk_needScalars rfl ⟨by decide, by decide⟩ trivial hF hl.1 rfl (Nat.le_of_ble_eq_true rfl) d_Desk_reckon_6 ⟨by decide, by decide⟩ (qv (fun H2 locs hq hF => ?_))
  obtain rfl := hq
  refine lv_iload_n hx hb d_Desk_reckon_9 rfl (lv_at hl 3 rfl) ?_
  refine lv_iconst (v := nI 1) hx hb d_Desk_reckon_10 (by decide) ?_
  refine q_cS (rest := []) E (c_Desk_needScalars l g n0 _ _ (okS_of (by omega) (by omega))) w_494 w_1 w_492 w_493 hd_Desk_needScalars rfl ⟨by decide, by decide⟩ trivial hF hl.1 rfl (Nat.le_of_ble_eq_true rfl) d_Desk_reckon_11 ⟨by decide, by decide⟩ (qv (fun H3 locs hq hF => ?_))
  obtain rfl := hq
  refine lv_iload hx hb d_Desk_reckon_14 (lv_at hl 4 rfl) ?_
  refine lv_iconst (v := nI 1) hx hb d_Desk_reckon_16 (by decide) ?_
  refine q_cS (rest := []) E (c_Desk_needScalars l g n0 _ _ (okS_of (by omega) (by omega))) w_494 w_1 w_492 w_493 hd_Desk_needScalars rfl ⟨by decide, by decide⟩ trivial hF hl.1 rfl (Nat.le_of_ble_eq_true rfl) d_Desk_reckon_17 ⟨by decide, by decide⟩ (qv (fun H4 locs hq hF => ?_))
  obtain rfl := hq
  refine lv_iload_n hx hb d_Desk_reckon_20 rfl (lv_at hl 1 rfl) ?_
  refine lv_iconst (v := nI 3) hx hb d_Desk_reckon_21 (by decide) ?_
  refine lv_icmp_ne (tgt := 48) hx hb d_Desk_reckon_22 (by decide) (fun _ => ?_) (fun h9 => absurd h9 (fun e => absurd ((nI_eq (by omega) (by decide)).mp e) (by omega)))
  refine lv_iload_n hx hb d_Desk_reckon_48 rfl (lv_at hl 1 rfl) ?_
  refine lv_if_ne (tgt := 81) hx hb d_Desk_reckon_49 (by decide) (fun h0 => ?_) (fun h0 => ?_)
  rotate_left
  · skip
    refine lv_aload_n hx hb d_Desk_reckon_52 rfl (lv_at hl 0 rfl) ?_
    refine q_get (C := "KateDesk") (T := T_Desk) (N := 16) (ci := 5) E ((hk.dk hK hdk).ob) in_Desk rfl 0 (by decide) w_339 rfl rfl d_Desk_reckon_53 ?_
    refine lv_aload_n hx hb d_Desk_reckon_56 rfl (lv_at hl 0 rfl) ?_
    refine q_get (C := "KateDesk") (T := T_Desk) (N := 16) (ci := 5) E ((hk.dk hK hdk).ob) in_Desk rfl 5 (by decide) w_344 rfl rfl d_Desk_reckon_57 ?_
    refine lv_iload_n hx hb d_Desk_reckon_60 rfl (lv_at hl 2 rfl) ?_
    refine q_aald (t := 4) E rfl rfl ((hk.dk hK hdk).rs.1) a rfl (by omega) (by decide) d_Desk_reckon_61 ?_
    refine lv_aload_n hx hb d_Desk_reckon_62 rfl (lv_at hl 0 rfl) ?_
    refine q_get (C := "KateDesk") (T := T_Desk) (N := 16) (ci := 5) E ((hk.dk hK hdk).ob) in_Desk rfl 5 (by decide) w_344 rfl rfl d_Desk_reckon_63 ?_
    refine lv_iload_n hx hb d_Desk_reckon_66 rfl (lv_at hl 3 rfl) ?_
    refine q_aald (t := 4) E rfl rfl ((hk.dk hK hdk).rs.1) a2 rfl (by omega) (by decide) d_Desk_reckon_67 ?_
    refine lv_aload_n hx hb d_Desk_reckon_68 rfl (lv_at hl 0 rfl) ?_
    refine q_get (C := "KateDesk") (T := T_Desk) (N := 16) (ci := 5) E ((hk.dk hK hdk).ob) in_Desk rfl 5 (by decide) w_344 rfl rfl d_Desk_reckon_69 ?_
    refine lv_iload hx hb d_Desk_reckon_72 (lv_at hl 4 rfl) ?_
    refine q_aald (t := 4) E rfl rfl ((hk.dk hK hdk).rs.1) a3 rfl (by omega) (by decide) d_Desk_reckon_74 ?_
    refine q_cV (rest := []) E (c_Field_add l g n0 (b + 162) (kSc b a) (kSc b a2) (kSc b a3) (kFr b) mr) w_157 w_4 w_565 w_155 w_156 hd_Field_add rfl ⟨by decide, by decide⟩ (OB.recv E.2.2.2.2.2 (by rfl) (((hk.dk hK hdk).fr).1)) (⟨(hk.dk hK hdk).fr, (hk.dk hK hdk).rs.2 a (by omega), (hk.dk hK hdk).rs.2 a2 (by omega), (hk.dk hK hdk).rs.2 a3 (by omega)⟩) hF hl.1 rfl (Nat.le_of_ble_eq_true rfl) d_Desk_reckon_75 ⟨by decide, by decide⟩ (qv (fun H5 locs hq hF => ?_))
    have hk := hk.tr (hq.w1 ((hk.dk hK hdk).rs.2 a (by omega)).1)
    refine lv_goto (tgt := 176) hx hb d_Desk_reckon_78 (by decide) ?_
    exact q_vret E hr hlk (⟨rfl, hk.frm⟩) hF d_Desk_reckon_176
  refine lv_iload_n hx hb d_Desk_reckon_81 rfl (lv_at hl 1 rfl) ?_
  refine lv_iconst (v := nI 1) hx hb d_Desk_reckon_82 (by decide) ?_
  refine lv_icmp_ne (tgt := 115) hx hb d_Desk_reckon_83 (by decide) (fun h1 => ?_) (fun h1 => ?_)
  rotate_left
  · skip
    refine lv_aload_n hx hb d_Desk_reckon_86 rfl (lv_at hl 0 rfl) ?_
    refine q_get (C := "KateDesk") (T := T_Desk) (N := 16) (ci := 5) E ((hk.dk hK hdk).ob) in_Desk rfl 0 (by decide) w_339 rfl rfl d_Desk_reckon_87 ?_
    refine lv_aload_n hx hb d_Desk_reckon_90 rfl (lv_at hl 0 rfl) ?_
    refine q_get (C := "KateDesk") (T := T_Desk) (N := 16) (ci := 5) E ((hk.dk hK hdk).ob) in_Desk rfl 5 (by decide) w_344 rfl rfl d_Desk_reckon_91 ?_
    refine lv_iload_n hx hb d_Desk_reckon_94 rfl (lv_at hl 2 rfl) ?_
    refine q_aald (t := 4) E rfl rfl ((hk.dk hK hdk).rs.1) a rfl (by omega) (by decide) d_Desk_reckon_95 ?_
    refine lv_aload_n hx hb d_Desk_reckon_96 rfl (lv_at hl 0 rfl) ?_
    refine q_get (C := "KateDesk") (T := T_Desk) (N := 16) (ci := 5) E ((hk.dk hK hdk).ob) in_Desk rfl 5 (by decide) w_344 rfl rfl d_Desk_reckon_97 ?_
    refine lv_iload_n hx hb d_Desk_reckon_100 rfl (lv_at hl 3 rfl) ?_
    refine q_aald (t := 4) E rfl rfl ((hk.dk hK hdk).rs.1) a2 rfl (by omega) (by decide) d_Desk_reckon_101 ?_
    refine lv_aload_n hx hb d_Desk_reckon_102 rfl (lv_at hl 0 rfl) ?_
    refine q_get (C := "KateDesk") (T := T_Desk) (N := 16) (ci := 5) E ((hk.dk hK hdk).ob) in_Desk rfl 5 (by decide) w_344 rfl rfl d_Desk_reckon_103 ?_
    refine lv_iload hx hb d_Desk_reckon_106 (lv_at hl 4 rfl) ?_
    refine q_aald (t := 4) E rfl rfl ((hk.dk hK hdk).rs.1) a3 rfl (by omega) (by decide) d_Desk_reckon_108 ?_
    refine q_cV (rest := []) E (c_Field_subtract l g n0 (b + 162) (kSc b a) (kSc b a2) (kSc b a3) (kFr b) mr) w_169 w_4 w_566 w_167 w_168 hd_Field_subtract rfl ⟨by decide, by decide⟩ (OB.recv E.2.2.2.2.2 (by rfl) (((hk.dk hK hdk).fr).1)) (⟨(hk.dk hK hdk).fr, (hk.dk hK hdk).rs.2 a (by omega), (hk.dk hK hdk).rs.2 a2 (by omega), (hk.dk hK hdk).rs.2 a3 (by omega)⟩) hF hl.1 rfl (Nat.le_of_ble_eq_true rfl) d_Desk_reckon_109 ⟨by decide, by decide⟩ (qv (fun H5 locs hq hF => ?_))
    have hk := hk.tr (hq.w1 ((hk.dk hK hdk).rs.2 a (by omega)).1)
    refine lv_goto (tgt := 176) hx hb d_Desk_reckon_112 (by decide) ?_
    exact q_vret E hr hlk (⟨rfl, hk.frm⟩) hF d_Desk_reckon_176
  refine lv_aload_n hx hb d_Desk_reckon_115 rfl (lv_at hl 0 rfl) ?_
  refine q_get (C := "KateDesk") (T := T_Desk) (N := 16) (ci := 5) E ((hk.dk hK hdk).ob) in_Desk rfl 0 (by decide) w_339 rfl rfl d_Desk_reckon_116 ?_
  refine lv_aload_n hx hb d_Desk_reckon_119 rfl (lv_at hl 0 rfl) ?_
  refine q_get (C := "KateDesk") (T := T_Desk) (N := 16) (ci := 5) E ((hk.dk hK hdk).ob) in_Desk rfl 15 (by decide) w_354 rfl rfl d_Desk_reckon_120 ?_
  refine lv_aload_n hx hb d_Desk_reckon_123 rfl (lv_at hl 0 rfl) ?_
  refine q_get (C := "KateDesk") (T := T_Desk) (N := 16) (ci := 5) E ((hk.dk hK hdk).ob) in_Desk rfl 5 (by decide) w_344 rfl rfl d_Desk_reckon_124 ?_
  refine lv_iload hx hb d_Desk_reckon_127 (lv_at hl 4 rfl) ?_
  refine q_aald (t := 4) E rfl rfl ((hk.dk hK hdk).rs.1) a3 rfl (by omega) (by decide) d_Desk_reckon_129 ?_
  refine q_cV (rest := []) E (c_Field_lift l g n0 (b + 162) (b + 161) (kSc b a3) (kFr b) mr) w_302 w_4 w_336 w_300 w_301 hd_Field_lift rfl ⟨by decide, by decide⟩ (OB.recv E.2.2.2.2.2 (by rfl) (((hk.dk hK hdk).fr).1)) (⟨(hk.dk hK hdk).fr, (hk.dk hK hdk).fa, (hk.dk hK hdk).rs.2 a3 (by omega)⟩) hF hl.1 rfl (Nat.le_of_ble_eq_true rfl) d_Desk_reckon_130 ⟨by decide, by decide⟩ (qv (fun H5 locs hq hF => ?_))
  have hk := hk.tr (hq.w1 ((hk.dk hK hdk).fa).1)
  refine lv_iload_n hx hb d_Desk_reckon_133 rfl (lv_at hl 1 rfl) ?_
  refine lv_iconst (v := nI 3) hx hb d_Desk_reckon_134 (by decide) ?_
  refine lv_icmp_ne (tgt := 153) hx hb d_Desk_reckon_135 (by decide) (fun _ => ?_) (fun h9 => absurd h9 (fun e => absurd ((nI_eq (by omega) (by decide)).mp e) (by omega)))
  refine lv_aload_n hx hb d_Desk_reckon_153 rfl (lv_at hl 0 rfl) ?_
  refine q_get (C := "KateDesk") (T := T_Desk) (N := 16) (ci := 5) E ((hk.dk hK hdk).ob) in_Desk rfl 0 (by decide) w_339 rfl rfl d_Desk_reckon_154 ?_
  refine lv_aload_n hx hb d_Desk_reckon_157 rfl (lv_at hl 0 rfl) ?_
  refine q_get (C := "KateDesk") (T := T_Desk) (N := 16) (ci := 5) E ((hk.dk hK hdk).ob) in_Desk rfl 5 (by decide) w_344 rfl rfl d_Desk_reckon_158 ?_
  refine lv_iload_n hx hb d_Desk_reckon_161 rfl (lv_at hl 2 rfl) ?_
  refine q_aald (t := 4) E rfl rfl ((hk.dk hK hdk).rs.1) a rfl (by omega) (by decide) d_Desk_reckon_162 ?_
  refine lv_aload_n hx hb d_Desk_reckon_163 rfl (lv_at hl 0 rfl) ?_
  refine q_get (C := "KateDesk") (T := T_Desk) (N := 16) (ci := 5) E ((hk.dk hK hdk).ob) in_Desk rfl 5 (by decide) w_344 rfl rfl d_Desk_reckon_164 ?_
  refine lv_iload_n hx hb d_Desk_reckon_167 rfl (lv_at hl 3 rfl) ?_
  refine q_aald (t := 4) E rfl rfl ((hk.dk hK hdk).rs.1) a2 rfl (by omega) (by decide) d_Desk_reckon_168 ?_
  refine lv_aload_n hx hb d_Desk_reckon_169 rfl (lv_at hl 0 rfl) ?_
  refine q_get (C := "KateDesk") (T := T_Desk) (N := 16) (ci := 5) E ((hk.dk hK hdk).ob) in_Desk rfl 15 (by decide) w_354 rfl rfl d_Desk_reckon_170 ?_
  refine q_cV (rest := []) E (c_Field_multiply l g n0 (b + 162) (kSc b a) (kSc b a2) (b + 161) (kFr b) mr) w_165 w_4 w_576 w_163 w_164 hd_Field_multiply rfl ⟨by decide, by decide⟩ (OB.recv E.2.2.2.2.2 (by rfl) (((hk.dk hK hdk).fr).1)) (⟨(hk.dk hK hdk).fr, (hk.dk hK hdk).rs.2 a (by omega), (hk.dk hK hdk).rs.2 a2 (by omega), (hk.dk hK hdk).fa⟩) hF hl.1 rfl (Nat.le_of_ble_eq_true rfl) d_Desk_reckon_173 ⟨by decide, by decide⟩ (qv (fun H6 locs hq hF => ?_))
  have hk := hk.tr (hq.w1 ((hk.dk hK hdk).rs.2 a (by omega)).1)
  exact q_vret E hr hlk (⟨rfl, hk.frm⟩) hF d_Desk_reckon_176
set_option maxHeartbeats 4000000 in
set_option maxRecDepth 100000 in
theorem c_Desk_power (l : Launch) (g : WG) (n0 : Nat → Prop) (b : Nat) (mr mq : Int64) (a a2 : Nat) (v : Int64) (ha : a < 32) (hc : a2 < 32) (hv : ¬ v < 0) : Ctr l y_Desk_power (.code y_Desk_power prog_1_method_7_code 5 none) 3 160 0 0 n0 g [.ref b, .int (nI a), .int (nI a2), .long v] (fun H => DK g n0 H b 0 0 0 mr mq ∧ FRESH g H b) (QV (fun H H' => FRM n0 H H')) := by
  refine ctr_mk l (lv0 := [(0, .ref b), (1, .int (nI a)), (2, .int (nI a2)), (3, .long v)]) (by decide) (Nat.le_of_ble_eq_true rfl) rfl ?_
  intro p e s m below meth c ls E hr hlk hnm hl hP
  have hx := E.1
  have hb := E.2.1
  have hK := E.2.2.2.2.2
  have hF : ∀ q ∈ ([] : List Loc), n0 q.base := fun q hq => absurd hq List.not_mem_nil
  obtain ⟨hdk, hfs⟩ := hP
  have hk : KJ g (fun q => n0 q) s.heap s.heap := KJ.rf
  refine lv_iload_n hx hb d_Desk_power_0 rfl (lv_at hl 1 rfl) ?_
  refine lv_iconst (v := nI 1) hx hb d_Desk_power_1 (by decide) ?_
  refine q_cS (rest := []) E (c_Desk_needScalars l g n0 _ _ (okS_of (by omega) (by omega))) w_494 w_1 w_492 w_493 hd_Desk_needScalars rfl ⟨by decide, by decide⟩ trivial hF hl.1 rfl (Nat.le_of_ble_eq_true rfl) d_Desk_power_2 ⟨by decide, by decide⟩ (qv (fun H1 locs hq hF => ?_))
  obtain rfl := hq
  refine lv_iload_n hx hb d_Desk_power_5 rfl (lv_at hl 2 rfl) ?_
  refine lv_iconst (v := nI 1) hx hb d_Desk_power_6 (by decide) ?_
  refine q_cS (rest := []) E (c_Desk_needScalars l g n0 _ _ (okS_of (by omega) (by omega))) w_494 w_1 w_492 w_493 hd_Desk_needScalars rfl ⟨by decide, by decide⟩ trivial hF hl.1 rfl (Nat.le_of_ble_eq_true rfl) d_Desk_power_7 ⟨by decide, by decide⟩ (qv (fun H2 locs hq hF => ?_))
  obtain rfl := hq
  refine lv_lload_n hx hb d_Desk_power_10 rfl (lv_at hl 3 rfl) ?_
  refine lv_lconst (v := 0) hx hb d_Desk_power_11 (by decide) ?_
  refine W.lcmp hx hb d_Desk_power_12 ?_
  refine lv_if_ge (tgt := 26) hx hb d_Desk_power_13 (by decide) (fun _ => ?_) (fun h9 => absurd (kd_cmp_ge hv) h9)
  refine lv_aload_n hx hb d_Desk_power_26 rfl (lv_at hl 0 rfl) ?_
  refine q_get (C := "KateDesk") (T := T_Desk) (N := 16) (ci := 5) E ((hk.dk hK hdk).ob) in_Desk rfl 14 (by decide) w_353 rfl rfl d_Desk_power_27 ?_
  refine lv_lload_n hx hb d_Desk_power_30 rfl (lv_at hl 3 rfl) ?_
  refine q_cS (rest := []) E (c_Limbs_fromLong l g n0 (b + 160) v) w_523 w_5 w_521 w_522 hd_Limbs_fromLong rfl ⟨by decide, by decide⟩ ((hk.dk hK hdk).hs) hF hl.1 rfl (Nat.le_of_ble_eq_true rfl) d_Desk_power_31 ⟨by decide, by decide⟩ (qv (fun H3 locs hq hF => ?_))
  have hk := hk.tr (hq.w1 ((hk.dk hK hdk).hs).1)
  refine lv_aload_n hx hb d_Desk_power_34 rfl (lv_at hl 0 rfl) ?_
  refine q_get (C := "KateDesk") (T := T_Desk) (N := 16) (ci := 5) E ((hk.dk hK hdk).ob) in_Desk rfl 0 (by decide) w_339 rfl rfl d_Desk_power_35 ?_
  refine lv_aload_n hx hb d_Desk_power_38 rfl (lv_at hl 0 rfl) ?_
  refine q_get (C := "KateDesk") (T := T_Desk) (N := 16) (ci := 5) E ((hk.dk hK hdk).ob) in_Desk rfl 15 (by decide) w_354 rfl rfl d_Desk_power_39 ?_
  refine lv_aload_n hx hb d_Desk_power_42 rfl (lv_at hl 0 rfl) ?_
  refine q_get (C := "KateDesk") (T := T_Desk) (N := 16) (ci := 5) E ((hk.dk hK hdk).ob) in_Desk rfl 5 (by decide) w_344 rfl rfl d_Desk_power_43 ?_
  refine lv_iload_n hx hb d_Desk_power_46 rfl (lv_at hl 2 rfl) ?_
  refine q_aald (t := 4) E rfl rfl ((hk.dk hK hdk).rs.1) a2 rfl (by omega) (by decide) d_Desk_power_47 ?_
  refine q_cV (rest := []) E (c_Field_lift l g n0 (b + 162) (b + 161) (kSc b a2) (kFr b) mr) w_302 w_4 w_336 w_300 w_301 hd_Field_lift rfl ⟨by decide, by decide⟩ (OB.recv E.2.2.2.2.2 (by rfl) (((hk.dk hK hdk).fr).1)) (⟨(hk.dk hK hdk).fr, (hk.dk hK hdk).fa, (hk.dk hK hdk).rs.2 a2 (by omega)⟩) hF hl.1 rfl (Nat.le_of_ble_eq_true rfl) d_Desk_power_48 ⟨by decide, by decide⟩ (qv (fun H4 locs hq hF => ?_))
  have hk := hk.tr (hq.w1 ((hk.dk hK hdk).fa).1)
  refine lv_aload_n hx hb d_Desk_power_51 rfl (lv_at hl 0 rfl) ?_
  refine q_get (C := "KateDesk") (T := T_Desk) (N := 16) (ci := 5) E ((hk.dk hK hdk).ob) in_Desk rfl 0 (by decide) w_339 rfl rfl d_Desk_power_52 ?_
  refine lv_aload_n hx hb d_Desk_power_55 rfl (lv_at hl 0 rfl) ?_
  refine q_get (C := "KateDesk") (T := T_Desk) (N := 16) (ci := 5) E ((hk.dk hK hdk).ob) in_Desk rfl 15 (by decide) w_354 rfl rfl d_Desk_power_56 ?_
  refine lv_aload_n hx hb d_Desk_power_59 rfl (lv_at hl 0 rfl) ?_
  refine q_get (C := "KateDesk") (T := T_Desk) (N := 16) (ci := 5) E ((hk.dk hK hdk).ob) in_Desk rfl 15 (by decide) w_354 rfl rfl d_Desk_power_60 ?_
  refine lv_aload_n hx hb d_Desk_power_63 rfl (lv_at hl 0 rfl) ?_
  refine q_get (C := "KateDesk") (T := T_Desk) (N := 16) (ci := 5) E ((hk.dk hK hdk).ob) in_Desk rfl 14 (by decide) w_353 rfl rfl d_Desk_power_64 ?_
  refine q_cV (rest := []) E (c_Field_raise l g n0 (b + 162) (b + 161) (b + 161) (b + 160) (kFr b) mr) w_574 w_4 w_585 w_572 w_573 hd_Field_raise rfl ⟨by decide, by decide⟩ (OB.recv E.2.2.2.2.2 (by rfl) (((hk.dk hK hdk).fr).1)) (⟨(hk.dk hK hdk).fr, (hk.dk hK hdk).fa, (hk.dk hK hdk).fa, (hk.dk hK hdk).hs⟩) hF hl.1 rfl (Nat.le_of_ble_eq_true rfl) d_Desk_power_67 ⟨by decide, by decide⟩ (qv (fun H5 locs hq hF => ?_))
  have hk := hk.tr (hq.w2 ((hk.dk hK hdk).fa).1 ((hk.dk hK hdk).fr.2 5 (by decide)).1)
  refine lv_aload_n hx hb d_Desk_power_70 rfl (lv_at hl 0 rfl) ?_
  refine q_get (C := "KateDesk") (T := T_Desk) (N := 16) (ci := 5) E ((hk.dk hK hdk).ob) in_Desk rfl 0 (by decide) w_339 rfl rfl d_Desk_power_71 ?_
  refine lv_aload_n hx hb d_Desk_power_74 rfl (lv_at hl 0 rfl) ?_
  refine q_get (C := "KateDesk") (T := T_Desk) (N := 16) (ci := 5) E ((hk.dk hK hdk).ob) in_Desk rfl 5 (by decide) w_344 rfl rfl d_Desk_power_75 ?_
  refine lv_iload_n hx hb d_Desk_power_78 rfl (lv_at hl 1 rfl) ?_
  refine q_aald (t := 4) E rfl rfl ((hk.dk hK hdk).rs.1) a rfl (by omega) (by decide) d_Desk_power_79 ?_
  refine lv_aload_n hx hb d_Desk_power_80 rfl (lv_at hl 0 rfl) ?_
  refine q_get (C := "KateDesk") (T := T_Desk) (N := 16) (ci := 5) E ((hk.dk hK hdk).ob) in_Desk rfl 15 (by decide) w_354 rfl rfl d_Desk_power_81 ?_
  refine q_cV (rest := []) E (c_Field_lower l g n0 (b + 162) (kSc b a) (b + 161) (kFr b) mr) w_589 w_4 w_586 w_587 w_588 hd_Field_lower rfl ⟨by decide, by decide⟩ (OB.recv E.2.2.2.2.2 (by rfl) (((hk.dk hK hdk).fr).1)) (⟨(hk.dk hK hdk).fr, (hk.dk hK hdk).rs.2 a (by omega), (hk.dk hK hdk).fa⟩) hF hl.1 rfl (Nat.le_of_ble_eq_true rfl) d_Desk_power_84 ⟨by decide, by decide⟩ (qv (fun H6 locs hq hF => ?_))
  have hk := hk.tr (hq.w1 ((hk.dk hK hdk).rs.2 a (by omega)).1)
  exact q_vret E hr hlk (⟨rfl, hk.frm⟩) hF d_Desk_power_87
set_option maxHeartbeats 4000000 in
set_option maxRecDepth 100000 in
theorem c_Desk_unity (l : Launch) (g : WG) (n0 : Nat → Prop) (b : Nat) (mr mq : Int64) (a k : Nat) (ha : a < 32) (hk32 : k ≤ 32) : Ctr l y_Desk_unity (.code y_Desk_unity prog_1_method_8_code 3 none) 5 182 0 0 n0 g [.ref b, .int (nI a), .int (nI k)] (fun H => DK g n0 H b 0 0 0 mr mq ∧ FRESH g H b) (QV (fun H H' => FRM n0 H H')) := by
  refine ctr_mk l (lv0 := [(0, .ref b), (1, .int (nI a)), (2, .int (nI k))]) (by decide) (Nat.le_of_ble_eq_true rfl) rfl ?_
  intro p e s m below meth c ls E hr hlk hnm hl hP
  have hx := E.1
  have hb := E.2.1
  have hK := E.2.2.2.2.2
  have hF : ∀ q ∈ ([] : List Loc), n0 q.base := fun q hq => absurd hq List.not_mem_nil
  obtain ⟨hdk, hfs⟩ := hP
  have hk : KJ g (fun q => n0 q) s.heap s.heap := KJ.rf
  refine lv_iload_n hx hb d_Desk_unity_0 rfl (lv_at hl 1 rfl) ?_
  refine lv_iconst (v := nI 1) hx hb d_Desk_unity_1 (by decide) ?_
  refine q_cS (rest := []) E (c_Desk_needScalars l g n0 _ _ (okS_of (by omega) (by omega))) w_494 w_1 w_492 w_493 hd_Desk_needScalars rfl ⟨by decide, by decide⟩ trivial hF hl.1 rfl (Nat.le_of_ble_eq_true rfl) d_Desk_unity_2 ⟨by decide, by decide⟩ (qv (fun H1 locs hq hF => ?_))
  obtain rfl := hq
  refine lv_iload_n hx hb d_Desk_unity_5 rfl (lv_at hl 2 rfl) ?_
  refine lv_if_lt (tgt := 15) hx hb d_Desk_unity_6 (by decide) (fun h9 => absurd h9 (nI_pos (by omega))) (fun _ => ?_)
  refine lv_iload_n hx hb d_Desk_unity_9 rfl (lv_at hl 2 rfl) ?_
  refine lv_bipush (v := nI 32) hx hb d_Desk_unity_10 (by decide) ?_
  refine lv_icmp_le (tgt := 25) hx hb d_Desk_unity_12 (by decide) (fun _ => ?_) (fun h9 => absurd (nI_le hk32 (by decide)) h9)
  refine lv_aload_n hx hb d_Desk_unity_25 rfl (lv_at hl 0 rfl) ?_
  refine q_get (C := "KateDesk") (T := T_Desk) (N := 16) (ci := 5) E ((hk.dk hK hdk).ob) in_Desk rfl 4 (by decide) w_343 rfl rfl d_Desk_unity_26 ?_
  refine lv_aload_n hx hb d_Desk_unity_29 rfl (lv_at hl 0 rfl) ?_
  refine q_get (C := "KateDesk") (T := T_Desk) (N := 16) (ci := 5) E ((hk.dk hK hdk).ob) in_Desk rfl 15 (by decide) w_354 rfl rfl d_Desk_unity_30 ?_
  refine lv_iload_n hx hb d_Desk_unity_33 rfl (lv_at hl 2 rfl) ?_
  refine q_cV (rest := []) E (c_Polys_liftedRoot l g n0 (b + 470) (b + 162) (b + 478) (kFr b) mr (kY b) (kV b) (b + 161) (nI k)) w_601 w_14 w_598 w_599 w_600 hd_Polys_liftedRoot rfl ⟨by decide, by decide⟩ (OB.recv E.2.2.2.2.2 (by rfl) ((hk.dk hK hdk).po.1)) (⟨(hk.dk hK hdk).po, (hk.dk hK hdk).fa⟩) hF hl.1 rfl (Nat.le_of_ble_eq_true rfl) d_Desk_unity_34 ⟨by decide, by decide⟩ (qv (fun H2 locs hq hF => ?_))
  have hk := hk.tr hq
  refine lv_aload_n hx hb d_Desk_unity_37 rfl (lv_at hl 0 rfl) ?_
  refine q_get (C := "KateDesk") (T := T_Desk) (N := 16) (ci := 5) E ((hk.dk hK hdk).ob) in_Desk rfl 0 (by decide) w_339 rfl rfl d_Desk_unity_38 ?_
  refine lv_aload_n hx hb d_Desk_unity_41 rfl (lv_at hl 0 rfl) ?_
  refine q_get (C := "KateDesk") (T := T_Desk) (N := 16) (ci := 5) E ((hk.dk hK hdk).ob) in_Desk rfl 5 (by decide) w_344 rfl rfl d_Desk_unity_42 ?_
  refine lv_iload_n hx hb d_Desk_unity_45 rfl (lv_at hl 1 rfl) ?_
  refine q_aald (t := 4) E rfl rfl ((hk.dk hK hdk).rs.1) a rfl (by omega) (by decide) d_Desk_unity_46 ?_
  refine lv_aload_n hx hb d_Desk_unity_47 rfl (lv_at hl 0 rfl) ?_
  refine q_get (C := "KateDesk") (T := T_Desk) (N := 16) (ci := 5) E ((hk.dk hK hdk).ob) in_Desk rfl 15 (by decide) w_354 rfl rfl d_Desk_unity_48 ?_
  refine q_cV (rest := []) E (c_Field_lower l g n0 (b + 162) (kSc b a) (b + 161) (kFr b) mr) w_589 w_4 w_586 w_587 w_588 hd_Field_lower rfl ⟨by decide, by decide⟩ (OB.recv E.2.2.2.2.2 (by rfl) (((hk.dk hK hdk).fr).1)) (⟨(hk.dk hK hdk).fr, (hk.dk hK hdk).rs.2 a (by omega), (hk.dk hK hdk).fa⟩) hF hl.1 rfl (Nat.le_of_ble_eq_true rfl) d_Desk_unity_51 ⟨by decide, by decide⟩ (qv (fun H3 locs hq hF => ?_))
  have hk := hk.tr (hq.w1 ((hk.dk hK hdk).rs.2 a (by omega)).1)
  exact q_vret E hr hlk (⟨rfl, hk.frm⟩) hF d_Desk_unity_54
set_option maxHeartbeats 4000000 in
set_option maxRecDepth 100000 in
theorem c_Desk_point (l : Launch) (g : WG) (n0 : Nat → Prop) (b : Nat) (mr mq : Int64) (a : Nat) (ha : a < 12) : Ctr l y_Desk_point (.code y_Desk_point prog_1_method_9_code 3 (some FieldType.int)) 1 24 0 0 n0 g [.ref b, .int (nI a)] (fun H => DK g n0 H b 0 0 0 mr mq ∧ FRESH g H b) (QI (fun r H H' => r = 1 ∧ FRM n0 H H')) := by
  refine ctr_mk l (lv0 := [(0, .ref b), (1, .int (nI a))]) (by decide) (Nat.le_of_ble_eq_true rfl) rfl ?_
  intro p e s m below meth c ls E hr hlk hnm hl hP
  have hx := E.1
  have hb := E.2.1
  have hK := E.2.2.2.2.2
  have hF : ∀ q ∈ ([] : List Loc), n0 q.base := fun q hq => absurd hq List.not_mem_nil
  obtain ⟨hdk, hfs⟩ := hP
  have hk : KJ g (fun q => n0 q) s.heap s.heap := KJ.rf
  refine lv_iload_n hx hb d_Desk_point_0 rfl (lv_at hl 1 rfl) ?_
  refine lv_iconst (v := nI 1) hx hb d_Desk_point_1 (by decide) ?_
  refine q_cS (rest := []) E (c_Desk_needPoints l g n0 _ _ (okP_of (by omega) (by omega))) w_622 w_1 w_620 w_621 hd_Desk_needPoints rfl ⟨by decide, by decide⟩ trivial hF hl.1 rfl (Nat.le_of_ble_eq_true rfl) d_Desk_point_2 ⟨by decide, by decide⟩ (qv (fun H1 locs hq hF => ?_))
  obtain rfl := hq
  refine lv_aload_n hx hb d_Desk_point_5 rfl (lv_at hl 0 rfl) ?_
  refine q_get (C := "KateDesk") (T := T_Desk) (N := 16) (ci := 5) E ((hk.dk hK hdk).ob) in_Desk rfl 3 (by decide) w_342 rfl rfl d_Desk_point_6 ?_
  refine lv_aload_n hx hb d_Desk_point_9 rfl (lv_at hl 0 rfl) ?_
  refine q_get (C := "KateDesk") (T := T_Desk) (N := 16) (ci := 5) E ((hk.dk hK hdk).ob) in_Desk rfl 12 (by decide) w_351 rfl rfl d_Desk_point_10 ?_
  refine lv_aload_n hx hb d_Desk_point_13 rfl (lv_at hl 0 rfl) ?_
  refine q_get (C := "KateDesk") (T := T_Desk) (N := 16) (ci := 5) E ((hk.dk hK hdk).ob) in_Desk rfl 9 (by decide) w_348 rfl rfl d_Desk_point_14 ?_
  refine q_cV (rest := []) E (z_Forms_read l g n0 (b + 465) (b + 152) (b + 148) (b + 149)) w_627 w_13 w_624 w_625 w_626 hd_Forms_read rfl ⟨by decide, by decide⟩ (OB.recv E.2.2.2.2.2 (by rfl) hdk.fm) hdk.tp hF hl.1 rfl (Nat.le_of_ble_eq_true rfl) d_Desk_point_17 ⟨by decide, by decide⟩ (qi (fun r H2 locs hq hF => ?_))
  obtain ⟨rfl, hq⟩ := hq
  obtain rfl := hq
  refine lv_istore_n (lv' := [(2, .int 1), (0, .ref b), (1, .int (nI a))]) hx hb d_Desk_point_20 rfl hl (by decide) rfl (fun ls hl => ?_)
  refine lv_aload_n hx hb d_Desk_point_21 rfl (lv_at hl 1 rfl) ?_
  refine q_get (C := "KateDesk") (T := T_Desk) (N := 16) (ci := 5) E ((hk.dk hK hdk).ob) in_Desk rfl 9 (by decide) w_348 rfl rfl d_Desk_point_22 ?_
  refine lv_iconst (v := nI 0) hx hb d_Desk_point_25 (by decide) ?_
  refine q_put (C := "KateDesk$Row") (T := T_Row) (N := 2) (ci := 3) (ty := .int) E hdk.tp in_Row ty_Row tyok_Row nm_Row rfl 1 (by decide) w_74 rfl rfl (by decide +kernel) rfl rfl (Nat.le_of_ble_eq_true rfl) hdk.no.2.1 hF d_Desk_point_26 (fun H3 locs hq ho2 hF => ?_)
  refine lv_iload_n hx hb d_Desk_point_29 rfl (lv_at hl 0 rfl) ?_
  refine lv_if_eq (tgt := 35) hx hb d_Desk_point_30 (by decide) (fun h9 => absurd h9 (by decide)) (fun _ => ?_)
  refine lv_iload_n hx hb d_Desk_point_33 rfl (lv_at hl 0 rfl) ?_
  exact q_iret E hr hlk (⟨_, rfl, rfl, hq.mono (fun q h => h ▸ hdk.no.2.1)⟩) hF d_Desk_point_34
set_option maxHeartbeats 4000000 in
set_option maxRecDepth 100000 in
theorem c_Desk_bytes (l : Launch) (g : WG) (n0 : Nat → Prop) (b : Nat) (mr mq : Int64) (a : Nat) (sh : Int32) (ha : a < 12) : Ctr l y_Desk_bytes (.code y_Desk_bytes prog_1_method_10_code 3 none) 3 66 0 0 n0 g [.ref b, .int (nI a), .int sh] (fun H => DK g n0 H b 0 0 0 mr mq ∧ FRESH g H b) (QV (fun H H' => FRM n0 H H')) := by
  refine ctr_mk l (lv0 := [(0, .ref b), (1, .int (nI a)), (2, .int sh)]) (by decide) (Nat.le_of_ble_eq_true rfl) rfl ?_
  intro p e s m below meth c ls E hr hlk hnm hl hP
  have hx := E.1
  have hb := E.2.1
  have hK := E.2.2.2.2.2
  have hF : ∀ q ∈ ([] : List Loc), n0 q.base := fun q hq => absurd hq List.not_mem_nil
  obtain ⟨hdk, hfs⟩ := hP
  have hk : KJ g (fun q => n0 q) s.heap s.heap := KJ.rf
  refine lv_iload_n hx hb d_Desk_bytes_0 rfl (lv_at hl 1 rfl) ?_
  refine lv_iconst (v := nI 1) hx hb d_Desk_bytes_1 (by decide) ?_
  refine q_cS (rest := []) E (c_Desk_needPoints l g n0 _ _ (okP_of (by omega) (by omega))) w_622 w_1 w_620 w_621 hd_Desk_needPoints rfl ⟨by decide, by decide⟩ trivial hF hl.1 rfl (Nat.le_of_ble_eq_true rfl) d_Desk_bytes_2 ⟨by decide, by decide⟩ (qv (fun H1 locs hq hF => ?_))
  obtain rfl := hq
  refine lv_aload_n hx hb d_Desk_bytes_5 rfl (lv_at hl 0 rfl) ?_
  refine q_get (C := "KateDesk") (T := T_Desk) (N := 16) (ci := 5) E ((hk.dk hK hdk).ob) in_Desk rfl 3 (by decide) w_342 rfl rfl d_Desk_bytes_6 ?_
  refine lv_aload_n hx hb d_Desk_bytes_9 rfl (lv_at hl 0 rfl) ?_
  refine q_get (C := "KateDesk") (T := T_Desk) (N := 16) (ci := 5) E ((hk.dk hK hdk).ob) in_Desk rfl 10 (by decide) w_349 rfl rfl d_Desk_bytes_10 ?_
  refine lv_aload_n hx hb d_Desk_bytes_13 rfl (lv_at hl 0 rfl) ?_
  refine q_get (C := "KateDesk") (T := T_Desk) (N := 16) (ci := 5) E ((hk.dk hK hdk).ob) in_Desk rfl 6 (by decide) w_345 rfl rfl d_Desk_bytes_14 ?_
  refine lv_iload_n hx hb d_Desk_bytes_17 rfl (lv_at hl 1 rfl) ?_
  refine q_aald (t := 3) E rfl rfl ((hk.dk hK hdk).pa) a rfl (by omega) (by decide) d_Desk_bytes_18 ?_
  refine lv_iload_n hx hb d_Desk_bytes_19 rfl (lv_at hl 2 rfl) ?_
  refine q_cV (rest := []) E (z_Forms_write l g n0 (b + 465) (b + 150) (b + 151) (kPA b a) (kPA1 b a) (kPA2 b a) (kPA3 b a) 0 sh (by unfold kPA; omega) (by unfold kPA3; omega)) w_741 w_13 w_738 w_739 w_740 hd_Forms_write rfl ⟨by decide, by decide⟩ (OB.recv E.2.2.2.2.2 (by rfl) hdk.fm) (⟨hdk.wr, hdk.wc, hdk.no.2.2.2.1, hdk.no.2.2.2.2, hdk.pt a ha, hfs.2.1 a ha⟩) hF hl.1 rfl (Nat.le_of_ble_eq_true rfl) d_Desk_bytes_20 ⟨by decide, by decide⟩ (qv (fun H2 locs hq hF => ?_))
  exact q_vret E hr hlk (⟨rfl, hq.mono (fun q h => h.elim (fun e => e ▸ hdk.no.2.2.2.1) (fun e => e ▸ hdk.no.2.2.2.2))⟩) hF d_Desk_bytes_23
