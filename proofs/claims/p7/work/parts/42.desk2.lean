set_option maxHeartbeats 4000000 in
set_option maxRecDepth 100000 in
theorem c_Desk_same (l : Launch) (g : WG) (n0 : Nat → Prop) (b : Nat) (mr mq : Int64) (a a2 : Nat) (ha : a < 12) (h2 : a2 < 12) : Ctr l y_Desk_same (.code y_Desk_same prog_1_method_15_code 3 (some FieldType.boolean)) 4 181 0 0 n0 g [.ref b, .int (nI a), .int (nI a2)] (fun H => DK g n0 H b 0 0 0 mr mq ∧ FRESH g H b) (QI (fun r H H' => r = 1 ∧ FRM n0 H H')) := by
  refine ctr_mk l (lv0 := [(0, .ref b), (1, .int (nI a)), (2, .int (nI a2))]) (by decide) (Nat.le_of_ble_eq_true rfl) rfl ?_
  intro p e s m below meth c ls E hr hlk hnm hl hP
  have hx := E.1
  have hb := E.2.1
  have hK := E.2.2.2.2.2
  have hF : ∀ q ∈ ([] : List Loc), n0 q.base := fun q hq => absurd hq List.not_mem_nil
  obtain ⟨hdk, hfs⟩ := hP
  have hk : KJ g (fun q => n0 q) s.heap s.heap := KJ.rf
  refine lv_iload_n hx hb d_Desk_same_0 rfl (lv_at hl 1 rfl) ?_
  refine lv_iconst (v := nI 1) hx hb d_Desk_same_1 (by decide) ?_
  refine q_cS (rest := []) E (c_Desk_needPoints l g n0 _ _ (okP_of (by omega) (by omega))) w_622 w_1 w_620 w_621 hd_Desk_needPoints rfl ⟨by decide, by decide⟩ trivial hF hl.1 rfl (Nat.le_of_ble_eq_true rfl) d_Desk_same_2 ⟨by decide, by decide⟩ (qv (fun H1 locs hq hF => ?_))
  obtain rfl := hq
  refine lv_iload_n hx hb d_Desk_same_5 rfl (lv_at hl 2 rfl) ?_
  refine lv_iconst (v := nI 1) hx hb d_Desk_same_6 (by decide) ?_
  refine q_cS (rest := []) E (c_Desk_needPoints l g n0 _ _ (okP_of (by omega) (by omega))) w_622 w_1 w_620 w_621 hd_Desk_needPoints rfl ⟨by decide, by decide⟩ trivial hF hl.1 rfl (Nat.le_of_ble_eq_true rfl) d_Desk_same_7 ⟨by decide, by decide⟩ (qv (fun H2 locs hq hF => ?_))
  obtain rfl := hq
  refine lv_aload_n hx hb d_Desk_same_10 rfl (lv_at hl 0 rfl) ?_
  refine q_get (C := "KateDesk") (T := T_Desk) (N := 16) (ci := 5) E ((hk.dk hK hdk).ob) in_Desk rfl 1 (by decide) w_340 rfl rfl d_Desk_same_11 ?_
  refine lv_aload_n hx hb d_Desk_same_14 rfl (lv_at hl 0 rfl) ?_
  refine q_get (C := "KateDesk") (T := T_Desk) (N := 16) (ci := 5) E ((hk.dk hK hdk).ob) in_Desk rfl 6 (by decide) w_345 rfl rfl d_Desk_same_15 ?_
  refine lv_iload_n hx hb d_Desk_same_18 rfl (lv_at hl 1 rfl) ?_
  refine q_aald (t := 3) E rfl rfl ((hk.dk hK hdk).pa) a rfl (by omega) (by decide) d_Desk_same_19 ?_
  refine lv_aload_n hx hb d_Desk_same_20 rfl (lv_at hl 0 rfl) ?_
  refine q_get (C := "KateDesk") (T := T_Desk) (N := 16) (ci := 5) E ((hk.dk hK hdk).ob) in_Desk rfl 6 (by decide) w_345 rfl rfl d_Desk_same_21 ?_
  refine lv_iload_n hx hb d_Desk_same_24 rfl (lv_at hl 2 rfl) ?_
  refine q_aald (t := 3) E rfl rfl ((hk.dk hK hdk).pa) a2 rfl (by omega) (by decide) d_Desk_same_25 ?_
  refine q_cV (rest := []) E (z_Curve_equal l g n0 (b + 176) (b + 169) (kFq b) mq (kX b) (kPA b a) (kPA1 b a) (kPA2 b a) (kPA3 b a) (kPA b a2) (kPA1 b a2) (kPA2 b a2) (kPA3 b a2) (by unfold kX; omega) (by unfold kFq kX; simp <;> omega) (by unfold kFq kX; simp <;> omega) (by unfold kPA3 kX; omega) (by unfold kPA3 kX; omega) (by unfold kPA3 kX; omega) (by unfold kPA3 kX; omega)) w_810 w_11 w_807 w_808 w_809 hd_Curve_equal rfl ⟨by decide, by decide⟩ (OB.recv E.2.2.2.2.2 (by rfl) ((hdk.su.2.1).1)) (⟨hdk.su.2.1, hfs.2.2.2, hdk.pt a ha, hdk.pt a2 h2, hfs.2.1 a ha, hfs.2.1 a2 h2⟩) hF hl.1 rfl (Nat.le_of_ble_eq_true rfl) d_Desk_same_26 ⟨by decide, by decide⟩ (qi (fun r H3 locs hq hF => ?_))
  obtain ⟨rfl, hq⟩ := hq
  have xin : ∀ q, (q = kX b 6 ∨ q = kX b 7) → n0 q := fun q h => h.elim (fun e => e ▸ (hdk.su.2.1.2.2 6 (by decide)).1) (fun e => e ▸ (hdk.su.2.1.2.2 7 (by decide)).1)
  exact q_zret E hr rfl hlk (⟨_, rfl, rfl, (hq.mono xin).frm⟩) hF d_Desk_same_29
set_option maxHeartbeats 4000000 in
set_option maxRecDepth 100000 in
theorem c_Desk_join (l : Launch) (g : WG) (n0 : Nat → Prop) (b : Nat) (mr mq : Int64) (w0 a a2 a3 : Nat) (hw : w0 < 4) (ha : a < 12) (h2 : a2 < 12) (h3 : a3 < 12) : Ctr l y_Desk_join (.code y_Desk_join prog_1_method_12_code 5 none) 4 187 0 0 n0 g [.ref b, .int (nI w0), .int (nI a), .int (nI a2), .int (nI a3)] (fun H => DK g n0 H b 0 0 0 mr mq ∧ FRESH g H b) (QV (fun H H' => FRM n0 H H')) := by
  refine ctr_mk l (lv0 := [(0, .ref b), (1, .int (nI w0)), (2, .int (nI a)), (3, .int (nI a2)), (4, .int (nI a3))]) (by decide) (Nat.le_of_ble_eq_true rfl) rfl ?_
  intro p e s m below meth c ls E hr hlk hnm hl hP
  have hx := E.1
  have hb := E.2.1
  have hK := E.2.2.2.2.2
  have hF : ∀ q ∈ ([] : List Loc), n0 q.base := fun q hq => absurd hq List.not_mem_nil
  obtain ⟨hdk, hfs⟩ := hP
  have hk : KJ g (fun q => n0 q) s.heap s.heap := KJ.rf
  refine lv_iload_n hx hb d_Desk_join_0 rfl (lv_at hl 1 rfl) ?_
  refine q_cS (rest := []) E (c_Desk_needKind l g n0 _ (⟨nI_pos (by omega), nI_le (by omega) (by decide)⟩)) w_544 w_1 w_542 w_543 hd_Desk_needKind rfl ⟨by decide, by decide⟩ trivial hF hl.1 rfl (Nat.le_of_ble_eq_true rfl) d_Desk_join_1 ⟨by decide, by decide⟩ (qv (fun H1 locs hq hF => ?_))
  obtain rfl := hq
  refine lv_iload_n hx hb d_Desk_join_4 rfl (lv_at hl 2 rfl) ?_
  refine lv_iconst (v := nI 1) hx hb d_Desk_join_5 (by decide) ?_
  refine q_cS (rest := []) E (c_Desk_needPoints l g n0 _ _ (okP_of (by omega) (by omega))) w_622 w_1 w_620 w_621 hd_Desk_needPoints rfl ⟨by decide, by decide⟩ trivial hF hl.1 rfl (Nat.le_of_ble_eq_true rfl) d_Desk_join_6 ⟨by decide, by decide⟩ (qv (fun H2 locs hq hF => ?_))
  obtain rfl := hq
  refine lv_iload_n hx hb d_Desk_join_9 rfl (lv_at hl 3 rfl) ?_
  refine lv_iconst (v := nI 1) hx hb d_Desk_join_10 (by decide) ?_
  refine q_cS (rest := []) E (c_Desk_needPoints l g n0 _ _ (okP_of (by omega) (by omega))) w_622 w_1 w_620 w_621 hd_Desk_needPoints rfl ⟨by decide, by decide⟩ trivial hF hl.1 rfl (Nat.le_of_ble_eq_true rfl) d_Desk_join_11 ⟨by decide, by decide⟩ (qv (fun H3 locs hq hF => ?_))
  obtain rfl := hq
  refine lv_iload hx hb d_Desk_join_14 (lv_at hl 4 rfl) ?_
  refine lv_iconst (v := nI 1) hx hb d_Desk_join_16 (by decide) ?_
  refine q_cS (rest := []) E (c_Desk_needPoints l g n0 _ _ (okP_of (by omega) (by omega))) w_622 w_1 w_620 w_621 hd_Desk_needPoints rfl ⟨by decide, by decide⟩ trivial hF hl.1 rfl (Nat.le_of_ble_eq_true rfl) d_Desk_join_17 ⟨by decide, by decide⟩ (qv (fun H4 locs hq hF => ?_))
  obtain rfl := hq
  refine lv_iload_n hx hb d_Desk_join_20 rfl (lv_at hl 1 rfl) ?_
  refine lv_if_ne (tgt := 36) hx hb d_Desk_join_21 (by decide) (fun h0 => ?_) (fun h0 => ?_)
  rotate_left
  · skip
    refine lv_aload_n hx hb d_Desk_join_24 rfl (lv_at hl 0 rfl) ?_
    refine q_get (C := "KateDesk") (T := T_Desk) (N := 16) (ci := 5) E ((hk.dk hK hdk).ob) in_Desk rfl 6 (by decide) w_345 rfl rfl d_Desk_join_25 ?_
    refine lv_iload_n hx hb d_Desk_join_28 rfl (lv_at hl 2 rfl) ?_
    refine q_aald (t := 3) E rfl rfl ((hk.dk hK hdk).pa) a rfl (by omega) (by decide) d_Desk_join_29 ?_
    refine q_cV (rest := []) E (c_Point_becomeNothing l g n0 (kPA b a) (kPA1 b a) (kPA2 b a) (kPA3 b a) (by unfold kPA3 kPA2; omega)) w_635 w_2 w_780 w_633 w_634 hd_Point_becomeNothing rfl ⟨by decide, by decide⟩ (OB.recv E.2.2.2.2.2 (by rfl) ((hdk.pt a ha).1)) (hdk.pt a ha) hF hl.1 rfl (Nat.le_of_ble_eq_true rfl) d_Desk_join_30 ⟨by decide, by decide⟩ (qv (fun H5 locs hq hF => ?_))
    refine lv_goto (tgt := 93) hx hb d_Desk_join_33 (by decide) ?_
    exact q_vret E hr hlk (⟨rfl, (hq.1.mono (pt_le (hdk.pt a ha))).frm⟩) hF d_Desk_join_93
  refine lv_iload_n hx hb d_Desk_join_36 rfl (lv_at hl 1 rfl) ?_
  refine lv_iconst (v := nI 1) hx hb d_Desk_join_37 (by decide) ?_
  refine lv_icmp_ne (tgt := 57) hx hb d_Desk_join_38 (by decide) (fun h1 => ?_) (fun h1 => ?_)
  rotate_left
  · skip
    refine lv_aload_n hx hb d_Desk_join_41 rfl (lv_at hl 0 rfl) ?_
    refine q_get (C := "KateDesk") (T := T_Desk) (N := 16) (ci := 5) E ((hk.dk hK hdk).ob) in_Desk rfl 6 (by decide) w_345 rfl rfl d_Desk_join_42 ?_
    refine lv_iload_n hx hb d_Desk_join_45 rfl (lv_at hl 2 rfl) ?_
    refine q_aald (t := 3) E rfl rfl ((hk.dk hK hdk).pa) a rfl (by omega) (by decide) d_Desk_join_46 ?_
    refine lv_aload_n hx hb d_Desk_join_47 rfl (lv_at hl 0 rfl) ?_
    refine q_get (C := "KateDesk") (T := T_Desk) (N := 16) (ci := 5) E ((hk.dk hK hdk).ob) in_Desk rfl 11 (by decide) w_350 rfl rfl d_Desk_join_48 ?_
    refine q_cV (rest := []) E (c_Point_copy l g n0 (kPA b a) (kPA1 b a) (kPA2 b a) (kPA3 b a) (b + 495) (b + 496) (b + 497) (b + 498)) w_697 w_2 w_730 w_695 w_696 hd_Point_copy rfl ⟨by decide, by decide⟩ (OB.recv E.2.2.2.2.2 (by rfl) ((hdk.pt a ha).1)) (⟨hdk.pt a ha, hdk.ge⟩) hF hl.1 rfl (Nat.le_of_ble_eq_true rfl) d_Desk_join_51 ⟨by decide, by decide⟩ (qv (fun H5 locs hq hF => ?_))
    refine lv_goto (tgt := 93) hx hb d_Desk_join_54 (by decide) ?_
    exact q_vret E hr hlk (⟨rfl, (hq.1.mono (pt_le (hdk.pt a ha))).frm⟩) hF d_Desk_join_93
  refine lv_aload_n hx hb d_Desk_join_57 rfl (lv_at hl 0 rfl) ?_
  refine q_get (C := "KateDesk") (T := T_Desk) (N := 16) (ci := 5) E ((hk.dk hK hdk).ob) in_Desk rfl 1 (by decide) w_340 rfl rfl d_Desk_join_58 ?_
  refine lv_aload_n hx hb d_Desk_join_61 rfl (lv_at hl 0 rfl) ?_
  refine q_get (C := "KateDesk") (T := T_Desk) (N := 16) (ci := 5) E ((hk.dk hK hdk).ob) in_Desk rfl 6 (by decide) w_345 rfl rfl d_Desk_join_62 ?_
  refine lv_iload_n hx hb d_Desk_join_65 rfl (lv_at hl 2 rfl) ?_
  refine q_aald (t := 3) E rfl rfl ((hk.dk hK hdk).pa) a rfl (by omega) (by decide) d_Desk_join_66 ?_
  refine lv_aload_n hx hb d_Desk_join_67 rfl (lv_at hl 0 rfl) ?_
  refine q_get (C := "KateDesk") (T := T_Desk) (N := 16) (ci := 5) E ((hk.dk hK hdk).ob) in_Desk rfl 6 (by decide) w_345 rfl rfl d_Desk_join_68 ?_
  refine lv_iload_n hx hb d_Desk_join_71 rfl (lv_at hl 3 rfl) ?_
  refine q_aald (t := 3) E rfl rfl ((hk.dk hK hdk).pa) a2 rfl (by omega) (by decide) d_Desk_join_72 ?_
  refine lv_aload_n hx hb d_Desk_join_73 rfl (lv_at hl 0 rfl) ?_
  refine q_get (C := "KateDesk") (T := T_Desk) (N := 16) (ci := 5) E ((hk.dk hK hdk).ob) in_Desk rfl 6 (by decide) w_345 rfl rfl d_Desk_join_74 ?_
  refine lv_iload hx hb d_Desk_join_77 (lv_at hl 4 rfl) ?_
  refine q_aald (t := 3) E rfl rfl ((hk.dk hK hdk).pa) a3 rfl (by omega) (by decide) d_Desk_join_79 ?_
  refine lv_iload_n hx hb d_Desk_join_80 rfl (lv_at hl 1 rfl) ?_
  refine lv_iconst (v := nI 3) hx hb d_Desk_join_81 (by decide) ?_
  refine lv_icmp_ne (tgt := 89) hx hb d_Desk_join_82 (by decide) (fun h33 => ?_) (fun h33 => ?_)
  rotate_left
  · skip
    refine lv_iconst (v := nI 1) hx hb d_Desk_join_85 (by decide) ?_
    refine lv_goto (tgt := 90) hx hb d_Desk_join_86 (by decide) ?_
    refine q_cV (rest := []) E (c_Curve_add l g n0 (b + 176) (b + 169) (kFq b) mq (kX b) (kPA b a) (kPA1 b a) (kPA2 b a) (kPA3 b a) (kPA b a2) (kPA1 b a2) (kPA2 b a2) (kPA3 b a2) (kPA b a3) (kPA1 b a3) (kPA2 b a3) (kPA3 b a3) (nI 1)) w_711 w_11 w_781 w_709 w_710 hd_Curve_add rfl ⟨by decide, by decide⟩ (OB.recv E.2.2.2.2.2 (by rfl) hdk.su.2.1.1) (⟨hdk.su.2.1, hdk.pt a ha, hdk.pt a2 h2, hdk.pt a3 h3⟩) hF hl.1 rfl (Nat.le_of_ble_eq_true rfl) d_Desk_join_90 ⟨by decide, by decide⟩ (qv (fun H5 locs hq hF => ?_))
    exact q_vret E hr hlk (⟨rfl, hq.frm⟩) hF d_Desk_join_93
  refine lv_iconst (v := nI 0) hx hb d_Desk_join_89 (by decide) ?_
  refine q_cV (rest := []) E (c_Curve_add l g n0 (b + 176) (b + 169) (kFq b) mq (kX b) (kPA b a) (kPA1 b a) (kPA2 b a) (kPA3 b a) (kPA b a2) (kPA1 b a2) (kPA2 b a2) (kPA3 b a2) (kPA b a3) (kPA1 b a3) (kPA2 b a3) (kPA3 b a3) (nI 0)) w_711 w_11 w_781 w_709 w_710 hd_Curve_add rfl ⟨by decide, by decide⟩ (OB.recv E.2.2.2.2.2 (by rfl) hdk.su.2.1.1) (⟨hdk.su.2.1, hdk.pt a ha, hdk.pt a2 h2, hdk.pt a3 h3⟩) hF hl.1 rfl (Nat.le_of_ble_eq_true rfl) d_Desk_join_90 ⟨by decide, by decide⟩ (qv (fun H5 locs hq hF => ?_))
  exact q_vret E hr hlk (⟨rfl, hq.frm⟩) hF d_Desk_join_93
set_option maxHeartbeats 4000000 in
set_option maxRecDepth 100000 in
theorem c_Desk_times (l : Launch) (g : WG) (n0 : Nat → Prop) (b : Nat) (mr mq : Int64) (a a2 a3 : Nat) (ha : a < 12) (h2 : a2 < 32) (h3 : a3 < 12) : Ctr l y_Desk_times (.code y_Desk_times prog_1_method_13_code 4 none) 4 128 0 0 n0 g [.ref b, .int (nI a), .int (nI a2), .int (nI a3)] (fun H => DK g n0 H b 0 0 0 mr mq ∧ FRESH g H b) (QV (fun H H' => FRM n0 H H')) := by
  refine ctr_mk l (lv0 := [(0, .ref b), (1, .int (nI a)), (2, .int (nI a2)), (3, .int (nI a3))]) (by decide) (Nat.le_of_ble_eq_true rfl) rfl ?_
  intro p e s m below meth c ls E hr hlk hnm hl hP
  have hx := E.1
  have hb := E.2.1
  have hK := E.2.2.2.2.2
  have hF : ∀ q ∈ ([] : List Loc), n0 q.base := fun q hq => absurd hq List.not_mem_nil
  obtain ⟨hdk, hfs⟩ := hP
  have hk : KJ g (fun q => n0 q) s.heap s.heap := KJ.rf
  have tin : ∀ (t1 t2 t3 : Nat), n0 t1 → n0 t2 → n0 t3 → ∀ q, (q = b + 462 ∨ q = b + 463 ∨ q = b + 464 ∨ q = t1 ∨ q = t2 ∨ q = t3) → n0 q := fun t1 t2 t3 e1 e2 e3 q h => by rcases h with rfl | rfl | rfl | rfl | rfl | rfl; exact hdk.su.2.2.1.2.1.1; exact hdk.su.2.2.1.2.2.1.1; exact hdk.su.2.2.1.2.2.2.1; exact e1; exact e2; exact e3
  refine lv_iload_n hx hb d_Desk_times_0 rfl (lv_at hl 1 rfl) ?_
  refine lv_iconst (v := nI 1) hx hb d_Desk_times_1 (by decide) ?_
  refine q_cS (rest := []) E (c_Desk_needPoints l g n0 _ _ (okP_of (by omega) (by omega))) w_622 w_1 w_620 w_621 hd_Desk_needPoints rfl ⟨by decide, by decide⟩ trivial hF hl.1 rfl (Nat.le_of_ble_eq_true rfl) d_Desk_times_2 ⟨by decide, by decide⟩ (qv (fun H1 locs hq hF => ?_))
  obtain rfl := hq
  refine lv_iload_n hx hb d_Desk_times_5 rfl (lv_at hl 2 rfl) ?_
  refine lv_iconst (v := nI 1) hx hb d_Desk_times_6 (by decide) ?_
  refine q_cS (rest := []) E (c_Desk_needScalars l g n0 _ _ (okS_of (by omega) (by omega))) w_494 w_1 w_492 w_493 hd_Desk_needScalars rfl ⟨by decide, by decide⟩ trivial hF hl.1 rfl (Nat.le_of_ble_eq_true rfl) d_Desk_times_7 ⟨by decide, by decide⟩ (qv (fun H2 locs hq hF => ?_))
  obtain rfl := hq
  refine lv_iload_n hx hb d_Desk_times_10 rfl (lv_at hl 3 rfl) ?_
  refine lv_iconst (v := nI 1) hx hb d_Desk_times_11 (by decide) ?_
  refine q_cS (rest := []) E (c_Desk_needPoints l g n0 _ _ (okP_of (by omega) (by omega))) w_622 w_1 w_620 w_621 hd_Desk_needPoints rfl ⟨by decide, by decide⟩ trivial hF hl.1 rfl (Nat.le_of_ble_eq_true rfl) d_Desk_times_12 ⟨by decide, by decide⟩ (qv (fun H3 locs hq hF => ?_))
  obtain rfl := hq
  refine lv_aload_n hx hb d_Desk_times_15 rfl (lv_at hl 0 rfl) ?_
  refine q_get (C := "KateDesk") (T := T_Desk) (N := 16) (ci := 5) E ((hk.dk hK hdk).ob) in_Desk rfl 2 (by decide) w_341 rfl rfl d_Desk_times_16 ?_
  refine lv_iconst (v := nI 0) hx hb d_Desk_times_19 (by decide) ?_
  refine lv_aload_n hx hb d_Desk_times_20 rfl (lv_at hl 0 rfl) ?_
  refine q_get (C := "KateDesk") (T := T_Desk) (N := 16) (ci := 5) E ((hk.dk hK hdk).ob) in_Desk rfl 5 (by decide) w_344 rfl rfl d_Desk_times_21 ?_
  refine lv_iload_n hx hb d_Desk_times_24 rfl (lv_at hl 2 rfl) ?_
  refine q_aald (t := 4) E rfl rfl ((hk.dk hK hdk).rs.1) a2 rfl (by omega) (by decide) d_Desk_times_25 ?_
  refine lv_aload_n hx hb d_Desk_times_26 rfl (lv_at hl 0 rfl) ?_
  refine q_get (C := "KateDesk") (T := T_Desk) (N := 16) (ci := 5) E ((hk.dk hK hdk).ob) in_Desk rfl 6 (by decide) w_345 rfl rfl d_Desk_times_27 ?_
  refine lv_iload_n hx hb d_Desk_times_30 rfl (lv_at hl 3 rfl) ?_
  refine q_aald (t := 3) E rfl rfl ((hk.dk hK hdk).pa) a3 rfl (by omega) (by decide) d_Desk_times_31 ?_
  refine q_cV (rest := []) E (z_Sums_place l g n0 (b + 186) (b + 176) (b + 187) (b + 444) (b + 461) (b + 462) (b + 463) (b + 464) (b + 169) (kFq b) mq (kX b) (kO b) (kO1 b) (kO2 b) (kO3 b) (kDG b) 0 (kSc b a2) (kPA b a3) (by omega)) w_677 w_12 w_674 w_675 w_676 hd_Sums_place rfl ⟨by decide, by decide⟩ (OB.recv E.2.2.2.2.2 (by rfl) ((hk.dk hK hdk).su.1)) (⟨(hk.dk hK hdk).su, hfs.1 a2 h2⟩) hF hl.1 rfl (Nat.le_of_ble_eq_true rfl) d_Desk_times_32 ⟨by decide, by decide⟩ (qv (fun H4 locs hq hF => ?_))
  have hk := hk.tr (hq.1.mono (fun q e => e ▸ (hdk.su.2.2.2.2.2.2 0 (by decide)).1))
  have hz0 := hq.2
  refine lv_aload_n hx hb d_Desk_times_35 rfl (lv_at hl 0 rfl) ?_
  refine q_get (C := "KateDesk") (T := T_Desk) (N := 16) (ci := 5) E ((hk.dk hK hdk).ob) in_Desk rfl 2 (by decide) w_341 rfl rfl d_Desk_times_36 ?_
  refine lv_aload_n hx hb d_Desk_times_39 rfl (lv_at hl 0 rfl) ?_
  refine q_get (C := "KateDesk") (T := T_Desk) (N := 16) (ci := 5) E ((hk.dk hK hdk).ob) in_Desk rfl 6 (by decide) w_345 rfl rfl d_Desk_times_40 ?_
  refine lv_iload_n hx hb d_Desk_times_43 rfl (lv_at hl 1 rfl) ?_
  refine q_aald (t := 3) E rfl rfl ((hk.dk hK hdk).pa) a rfl (by omega) (by decide) d_Desk_times_44 ?_
  refine lv_iconst (v := nI 1) hx hb d_Desk_times_45 (by decide) ?_
  refine q_cV (rest := []) E (z_Sums_total l g n0 (b + 186) (b + 176) (b + 187) (b + 444) (b + 461) (b + 462) (b + 463) (b + 464) (b + 169) (kFq b) mq (kX b) (kO b) (kO1 b) (kO2 b) (kO3 b) (kDG b) 1 (kPA b a) (kPA1 b a) (kPA2 b a) (kPA3 b a) (by decide) (by omega) (by unfold kPA1; omega) (by unfold kPA2; omega)) w_720 w_12 w_717 w_718 w_719 hd_Sums_total rfl ⟨by decide, by decide⟩ (OB.recv E.2.2.2.2.2 (by rfl) (((hk.dk hK hdk).su).1)) (⟨(hk.dk hK hdk).su, (hk.dk hK hdk).pt a ha, (fun k hk1 => by have e1 : k = 0 := Nat.lt_one_iff.mp hk1; rw [e1]; exact hz0)⟩) hF hl.1 rfl (Nat.le_of_ble_eq_true rfl) d_Desk_times_46 ⟨by decide, by decide⟩ (qv (fun H5 locs hq hF => ?_))
  have hk := hk.tr (hq.1.mono (tin _ _ _ (hdk.pt a ha).2.1.1 (hdk.pt a ha).2.2.1.1 (hdk.pt a ha).2.2.2.1))
  exact q_vret E hr hlk (⟨rfl, hk.frm⟩) hF d_Desk_times_49
set_option maxHeartbeats 4000000 in
set_option maxRecDepth 100000 in
theorem c_Desk_combine (l : Launch) (g : WG) (n0 : Nat → Prop) (b : Nat) (mr mq : Int64) (a a2 a3 n : Nat) (ha : a < 12) (hn : n ≤ 12) (h2 : 0 < n → a2 + n ≤ 32) (h3 : 0 < n → a3 + n ≤ 12) : Ctr l y_Desk_combine (.code y_Desk_combine prog_1_method_14_code 6 none) 4 128 0 0 n0 g [.ref b, .int (nI a), .int (nI a2), .int (nI a3), .int (nI n)] (fun H => DK g n0 H b 0 0 0 mr mq ∧ FRESH g H b) (QV (fun H H' => FRM n0 H H')) := by
  refine ctr_mk l (lv0 := [(0, .ref b), (1, .int (nI a)), (2, .int (nI a2)), (3, .int (nI a3)), (4, .int (nI n))]) (by decide) (Nat.le_of_ble_eq_true rfl) rfl ?_
  intro p e s m below meth c ls E hr hlk hnm hl hP
  have hx := E.1
  have hb := E.2.1
  have hK := E.2.2.2.2.2
  have hF : ∀ q ∈ ([] : List Loc), n0 q.base := fun q hq => absurd hq List.not_mem_nil
  obtain ⟨hdk, hfs⟩ := hP
  have hk : KJ g (fun q => n0 q) s.heap s.heap := KJ.rf
  have tin : ∀ (t1 t2 t3 : Nat), n0 t1 → n0 t2 → n0 t3 → ∀ q, (q = b + 462 ∨ q = b + 463 ∨ q = b + 464 ∨ q = t1 ∨ q = t2 ∨ q = t3) → n0 q := fun t1 t2 t3 e1 e2 e3 q h => by rcases h with rfl | rfl | rfl | rfl | rfl | rfl; exact hdk.su.2.2.1.2.1.1; exact hdk.su.2.2.1.2.2.1.1; exact hdk.su.2.2.1.2.2.2.1; exact e1; exact e2; exact e3
  refine lv_iload_n hx hb d_Desk_combine_0 rfl (lv_at hl 1 rfl) ?_
  refine lv_iconst (v := nI 1) hx hb d_Desk_combine_1 (by decide) ?_
  refine q_cS (rest := []) E (c_Desk_needPoints l g n0 _ _ (okP_of (by omega) (by omega))) w_622 w_1 w_620 w_621 hd_Desk_needPoints rfl ⟨by decide, by decide⟩ trivial hF hl.1 rfl (Nat.le_of_ble_eq_true rfl) d_Desk_combine_2 ⟨by decide, by decide⟩ (qv (fun H1 locs hq hF => ?_))
  obtain rfl := hq
  refine lv_iload hx hb d_Desk_combine_5 (lv_at hl 4 rfl) ?_
  refine lv_iconst (v := nI 0) hx hb d_Desk_combine_7 (by decide) ?_
  refine lv_bipush (v := nI 12) hx hb d_Desk_combine_8 (by decide) ?_
  refine q_cS (rest := []) E (c_Desk_needCount l g n0 _ _ _ (okC_of (by omega) hn (by decide))) w_798 w_1 w_796 w_797 hd_Desk_needCount rfl ⟨by decide, by decide⟩ trivial hF hl.1 rfl (Nat.le_of_ble_eq_true rfl) d_Desk_combine_10 ⟨by decide, by decide⟩ (qv (fun H2 locs hq hF => ?_))
  obtain rfl := hq
  refine lv_iload_n hx hb d_Desk_combine_13 rfl (lv_at hl 2 rfl) ?_
  refine lv_iload hx hb d_Desk_combine_14 (lv_at hl 4 rfl) ?_
  refine q_cS (rest := []) E (c_Desk_needScalars l g n0 _ _ (by by_cases h : 0 < n; exact okS_of h (h2 h); exact Or.inl (by rw [show n = 0 by omega]; decide))) w_494 w_1 w_492 w_493 hd_Desk_needScalars rfl ⟨by decide, by decide⟩ trivial hF hl.1 rfl (Nat.le_of_ble_eq_true rfl) d_Desk_combine_16 ⟨by decide, by decide⟩ (qv (fun H3 locs hq hF => ?_))
  obtain rfl := hq
  refine lv_iload_n hx hb d_Desk_combine_19 rfl (lv_at hl 3 rfl) ?_
  refine lv_iload hx hb d_Desk_combine_20 (lv_at hl 4 rfl) ?_
  refine q_cS (rest := []) E (c_Desk_needPoints l g n0 _ _ (by by_cases h : 0 < n; exact okP_of h (h3 h); exact Or.inl (by rw [show n = 0 by omega]; decide))) w_622 w_1 w_620 w_621 hd_Desk_needPoints rfl ⟨by decide, by decide⟩ trivial hF hl.1 rfl (Nat.le_of_ble_eq_true rfl) d_Desk_combine_22 ⟨by decide, by decide⟩ (qv (fun H4 locs hq hF => ?_))
  obtain rfl := hq
  refine lv_iconst (v := nI 0) hx hb d_Desk_combine_25 (by decide) ?_
  refine lv_istore (lv' := [(5, .int (nI 0)), (0, .ref b), (1, .int (nI a)), (2, .int (nI a2)), (3, .int (nI a3)), (4, .int (nI n))]) hx hb d_Desk_combine_26 hl (by decide) rfl (fun ls hl => ?_)
  have hl : lv_has ls 6 [(5, .int (nI 0)), (0, .ref b), (1, .int (nI a)), (2, .int (nI a2)), (3, .int (nI a3)), (4, .int (nI n))] := lv_sub hl [0, 1, 2, 3, 4, 5] rfl
  have loop : ∀ (k : Nat) (i : Nat) (H : Heap) (locs : List Loc) (ls : Array Slot), i + k = n → KJ g (fun q => n0 q) s.heap H → FRM (fun q => kDG b 0 ≤ q ∧ q < kDG b 16) s.heap H → (∀ j, j < i → AB g H (kDG b j) 257 (fun _ => 0)) → (∀ q ∈ locs, n0 q.base) → lv_has ls 6 [(5, .int (nI i)), (0, .ref b), (1, .int (nI a)), (2, .int (nI a2)), (3, .int (nI a3)), (4, .int (nI n))] → W p l e { frames := 4, cells := 0, slots := 0, locals := 128 } s m [.ref b, .int (nI a), .int (nI a2), .int (nI a3), .int (nI n)].toArray below meth c H locs 0 0 (MQ below (QcP (QV (fun H H' => FRM n0 H H'))) [.ref b, .int (nI a), .int (nI a2), .int (nI a3), .int (nI n)].toArray s 0 0 (fun q => n0 q)) (F0 m 28 ls []) := by
    intro k
    induction k with
    | zero =>
      intro  i   H   locs   ls hi hk hbf hdz hF hl
      obtain rfl : i = n := by omega
      refine lv_iload hx hb d_Desk_combine_28 (lv_at hl 0 rfl) ?_
      refine lv_iload hx hb d_Desk_combine_30 (lv_at hl 5 rfl) ?_
      refine lv_icmp_ge (tgt := 68) hx hb d_Desk_combine_32 (by decide) (fun _ => ?_) (fun h9 => absurd (nI_le (Nat.le_refl _) (by omega)) h9)
      refine lv_aload_n hx hb d_Desk_combine_68 rfl (lv_at hl 1 rfl) ?_
      refine q_get (C := "KateDesk") (T := T_Desk) (N := 16) (ci := 5) E ((hk.dk hK hdk).ob) in_Desk rfl 2 (by decide) w_341 rfl rfl d_Desk_combine_69 ?_
      refine lv_aload_n hx hb d_Desk_combine_72 rfl (lv_at hl 1 rfl) ?_
      refine q_get (C := "KateDesk") (T := T_Desk) (N := 16) (ci := 5) E ((hk.dk hK hdk).ob) in_Desk rfl 6 (by decide) w_345 rfl rfl d_Desk_combine_73 ?_
      refine lv_iload_n hx hb d_Desk_combine_76 rfl (lv_at hl 2 rfl) ?_
      refine q_aald (t := 3) E rfl rfl ((hk.dk hK hdk).pa) a rfl (by omega) (by decide) d_Desk_combine_77 ?_
      refine lv_iload hx hb d_Desk_combine_78 (lv_at hl 5 rfl) ?_
      refine q_cV (rest := []) E (z_Sums_total l g n0 (b + 186) (b + 176) (b + 187) (b + 444) (b + 461) (b + 462) (b + 463) (b + 464) (b + 169) (kFq b) mq (kX b) (kO b) (kO1 b) (kO2 b) (kO3 b) (kDG b) i (kPA b a) (kPA1 b a) (kPA2 b a) (kPA3 b a) (by omega) (by omega) (by unfold kPA1; omega) (by unfold kPA2; omega)) w_720 w_12 w_717 w_718 w_719 hd_Sums_total rfl ⟨by decide, by decide⟩ (OB.recv E.2.2.2.2.2 (by rfl) (((hk.dk hK hdk).su).1)) (⟨(hk.dk hK hdk).su, (hk.dk hK hdk).pt a ha, hdz⟩) hF hl.1 rfl (Nat.le_of_ble_eq_true rfl) d_Desk_combine_80 ⟨by decide, by decide⟩ (qv (fun H1 locs hq hF => ?_))
      have hk := hk.tr (hq.1.mono (tin _ _ _ (hdk.pt a ha).2.1.1 (hdk.pt a ha).2.2.1.1 (hdk.pt a ha).2.2.2.1))
      exact q_vret E hr hlk (⟨rfl, hk.frm⟩) hF d_Desk_combine_83
    | succ k ih =>
      intro  i   H   locs   ls hi hk hbf hdz hF hl
      refine lv_iload hx hb d_Desk_combine_28 (lv_at hl 0 rfl) ?_
      refine lv_iload hx hb d_Desk_combine_30 (lv_at hl 5 rfl) ?_
      refine lv_icmp_ge (tgt := 68) hx hb d_Desk_combine_32 (by decide) (fun h9 => absurd h9 (nI_ge (by omega) (by omega))) (fun _ => ?_)
      refine lv_aload_n hx hb d_Desk_combine_35 rfl (lv_at hl 1 rfl) ?_
      refine q_get (C := "KateDesk") (T := T_Desk) (N := 16) (ci := 5) E ((hk.dk hK hdk).ob) in_Desk rfl 2 (by decide) w_341 rfl rfl d_Desk_combine_36 ?_
      refine lv_iload hx hb d_Desk_combine_39 (lv_at hl 0 rfl) ?_
      refine lv_aload_n hx hb d_Desk_combine_41 rfl (lv_at hl 1 rfl) ?_
      refine q_get (C := "KateDesk") (T := T_Desk) (N := 16) (ci := 5) E ((hk.dk hK hdk).ob) in_Desk rfl 5 (by decide) w_344 rfl rfl d_Desk_combine_42 ?_
      refine lv_iload_n hx hb d_Desk_combine_45 rfl (lv_at hl 3 rfl) ?_
      refine lv_iload hx hb d_Desk_combine_46 (lv_at hl 0 rfl) ?_
      refine lv_iadd hx hb d_Desk_combine_48 ?_
      refine q_aald (t := 4) E rfl rfl ((hk.dk hK hdk).rs.1) (a2 + i) (nI_add _ _) (by omega) (by decide) d_Desk_combine_49 ?_
      refine lv_aload_n hx hb d_Desk_combine_50 rfl (lv_at hl 1 rfl) ?_
      refine q_get (C := "KateDesk") (T := T_Desk) (N := 16) (ci := 5) E ((hk.dk hK hdk).ob) in_Desk rfl 6 (by decide) w_345 rfl rfl d_Desk_combine_51 ?_
      refine lv_iload_n hx hb d_Desk_combine_54 rfl (lv_at hl 4 rfl) ?_
      refine lv_iload hx hb d_Desk_combine_55 (lv_at hl 0 rfl) ?_
      refine lv_iadd hx hb d_Desk_combine_57 ?_
      refine q_aald (t := 3) E rfl rfl ((hk.dk hK hdk).pa) (a3 + i) (nI_add _ _) (by omega) (by decide) d_Desk_combine_58 ?_
      have hsz : AJ g H (kSc b (a2 + i)) 14 (fun _ => 0) := AJ.off hbf (by unfold kSc kDG; omega) (hfs.1 (a2 + i) (by omega))
      refine q_cV (rest := []) E (z_Sums_place l g n0 (b + 186) (b + 176) (b + 187) (b + 444) (b + 461) (b + 462) (b + 463) (b + 464) (b + 169) (kFq b) mq (kX b) (kO b) (kO1 b) (kO2 b) (kO3 b) (kDG b) i (kSc b (a2 + i)) (kPA b (a3 + i)) (by omega)) w_677 w_12 w_674 w_675 w_676 hd_Sums_place rfl ⟨by decide, by decide⟩ (OB.recv E.2.2.2.2.2 (by rfl) ((hk.dk hK hdk).su.1)) (⟨(hk.dk hK hdk).su, hsz⟩) hF hl.1 rfl (Nat.le_of_ble_eq_true rfl) d_Desk_combine_59 ⟨by decide, by decide⟩ (qv (fun H1 locs hq hF => ?_))
      have hk := hk.tr (hq.1.mono (fun q e => e ▸ (hdk.su.2.2.2.2.2.2 i (by omega)).1))
      have hbf := hbf.tr (hq.1.frm.mono (S' := fun q => kDG b 0 ≤ q ∧ q < kDG b 16) (fun q e => by subst e; unfold kDG; omega))
      have hdz : ∀ j, j < i + 1 → AB g H1 (kDG b j) 257 (fun _ => 0) := fun j hj => if e : j = i then by subst e; exact hq.2 else hq.1.abo (by unfold kDG; omega) (hdz j (by omega))
      refine lv_iinc (k := 0) (v := nI (i + 1)) (lv' := [(5, .int (nI (i + 1))), (0, .ref b), (1, .int (nI a)), (2, .int (nI a2)), (3, .int (nI a3)), (4, .int (nI n))]) hx hb d_Desk_combine_62 hl rfl (i_inc i) (by decide) rfl (fun ls hl => ?_)
      refine lv_goto (tgt := 28) hx hb d_Desk_combine_65 (by decide) ?_
      have hl : lv_has ls 6 [(5, .int (nI (i + 1))), (0, .ref b), (1, .int (nI a)), (2, .int (nI a2)), (3, .int (nI a3)), (4, .int (nI n))] := lv_sub hl [0, 1, 2, 3, 4, 5] rfl
      exact ih (i + 1) H1 locs ls (by omega) hk hbf hdz hF hl
  exact loop n 0 _ _ ls (by omega) hk FRM.rf (fun j hj => absurd hj (Nat.not_lt_zero _)) hF hl
set_option maxHeartbeats 4000000 in
set_option maxRecDepth 100000 in
theorem c_Desk_commit (l : Launch) (g : WG) (n0 : Nat → Prop) (b : Nat) (mr mq : Int64) (a : Nat) (a2 : Int32) (ha : a < 12) : Ctr l y_Desk_commit (.code y_Desk_commit prog_1_method_17_code 5 none) 4 128 0 0 n0 g [.ref b, .int (nI a), .int a2, .int (nI 0)] (fun H => DK g n0 H b 0 0 0 mr mq ∧ FRESH g H b) (QV (fun H H' => FRM n0 H H')) := by
  refine ctr_mk l (lv0 := [(0, .ref b), (1, .int (nI a)), (2, .int a2), (3, .int (nI 0))]) (by decide) (Nat.le_of_ble_eq_true rfl) rfl ?_
  intro p e s m below meth c ls E hr hlk hnm hl hP
  have hx := E.1
  have hb := E.2.1
  have hK := E.2.2.2.2.2
  have hF : ∀ q ∈ ([] : List Loc), n0 q.base := fun q hq => absurd hq List.not_mem_nil
  obtain ⟨hdk, hfs⟩ := hP
  have hk : KJ g (fun q => n0 q) s.heap s.heap := KJ.rf
  have tin : ∀ (t1 t2 t3 : Nat), n0 t1 → n0 t2 → n0 t3 → ∀ q, (q = b + 462 ∨ q = b + 463 ∨ q = b + 464 ∨ q = t1 ∨ q = t2 ∨ q = t3) → n0 q := fun t1 t2 t3 e1 e2 e3 q h => by rcases h with rfl | rfl | rfl | rfl | rfl | rfl; exact hdk.su.2.2.1.2.1.1; exact hdk.su.2.2.1.2.2.1.1; exact hdk.su.2.2.1.2.2.2.1; exact e1; exact e2; exact e3
  refine lv_iload_n hx hb d_Desk_commit_0 rfl (lv_at hl 1 rfl) ?_
  refine lv_iconst (v := nI 1) hx hb d_Desk_commit_1 (by decide) ?_
  refine q_cS (rest := []) E (c_Desk_needPoints l g n0 _ _ (okP_of (by omega) (by omega))) w_622 w_1 w_620 w_621 hd_Desk_needPoints rfl ⟨by decide, by decide⟩ trivial hF hl.1 rfl (Nat.le_of_ble_eq_true rfl) d_Desk_commit_2 ⟨by decide, by decide⟩ (qv (fun H1 locs hq hF => ?_))
  obtain rfl := hq
  refine lv_iload_n hx hb d_Desk_commit_5 rfl (lv_at hl 3 rfl) ?_
  refine lv_iconst (v := nI 0) hx hb d_Desk_commit_6 (by decide) ?_
  refine lv_bipush (v := nI 16) hx hb d_Desk_commit_7 (by decide) ?_
  refine q_cS (rest := []) E (c_Desk_needCount l g n0 _ _ _ (okC_of (by omega) (by omega) (by decide))) w_798 w_1 w_796 w_797 hd_Desk_needCount rfl ⟨by decide, by decide⟩ trivial hF hl.1 rfl (Nat.le_of_ble_eq_true rfl) d_Desk_commit_9 ⟨by decide, by decide⟩ (qv (fun H2 locs hq hF => ?_))
  obtain rfl := hq
  refine lv_iload_n hx hb d_Desk_commit_12 rfl (lv_at hl 2 rfl) ?_
  refine lv_iload_n hx hb d_Desk_commit_13 rfl (lv_at hl 3 rfl) ?_
  refine q_cS (rest := []) E (c_Desk_needScalars l g n0 _ _ (Or.inl (by decide))) w_494 w_1 w_492 w_493 hd_Desk_needScalars rfl ⟨by decide, by decide⟩ trivial hF hl.1 rfl (Nat.le_of_ble_eq_true rfl) d_Desk_commit_14 ⟨by decide, by decide⟩ (qv (fun H3 locs hq hF => ?_))
  obtain rfl := hq
  refine lv_aload_n hx hb d_Desk_commit_17 rfl (lv_at hl 0 rfl) ?_
  refine q_get (C := "KateDesk") (T := T_Desk) (N := 16) (ci := 5) E ((hk.dk hK hdk).ob) in_Desk rfl 8 (by decide) w_347 rfl rfl d_Desk_commit_18 ?_
  refine lv_iload_n hx hb d_Desk_commit_21 rfl (lv_at hl 3 rfl) ?_
  refine lv_icmp_ge (tgt := 36) hx hb d_Desk_commit_22 (by decide) (fun _ => ?_) (fun h9 => absurd (by decide) h9)
  refine lv_iconst (v := nI 0) hx hb d_Desk_commit_36 (by decide) ?_
  refine lv_istore (lv' := [(4, .int (nI 0)), (0, .ref b), (1, .int (nI a)), (2, .int a2), (3, .int (nI 0))]) hx hb d_Desk_commit_37 hl (by decide) rfl (fun ls hl => ?_)
  refine lv_iload hx hb d_Desk_commit_39 (lv_at hl 0 rfl) ?_
  refine lv_iload_n hx hb d_Desk_commit_41 rfl (lv_at hl 4 rfl) ?_
  refine lv_icmp_ge (tgt := 76) hx hb d_Desk_commit_42 (by decide) (fun _ => ?_) (fun h9 => absurd (by decide) h9)
  refine lv_aload_n hx hb d_Desk_commit_76 rfl (lv_at hl 1 rfl) ?_
  refine q_get (C := "KateDesk") (T := T_Desk) (N := 16) (ci := 5) E ((hk.dk hK hdk).ob) in_Desk rfl 2 (by decide) w_341 rfl rfl d_Desk_commit_77 ?_
  refine lv_aload_n hx hb d_Desk_commit_80 rfl (lv_at hl 1 rfl) ?_
  refine q_get (C := "KateDesk") (T := T_Desk) (N := 16) (ci := 5) E ((hk.dk hK hdk).ob) in_Desk rfl 6 (by decide) w_345 rfl rfl d_Desk_commit_81 ?_
  refine lv_iload_n hx hb d_Desk_commit_84 rfl (lv_at hl 2 rfl) ?_
  refine q_aald (t := 3) E rfl rfl ((hk.dk hK hdk).pa) a rfl (by omega) (by decide) d_Desk_commit_85 ?_
  refine lv_iload_n hx hb d_Desk_commit_86 rfl (lv_at hl 4 rfl) ?_
  refine q_cV (rest := []) E (z_Sums_total l g n0 (b + 186) (b + 176) (b + 187) (b + 444) (b + 461) (b + 462) (b + 463) (b + 464) (b + 169) (kFq b) mq (kX b) (kO b) (kO1 b) (kO2 b) (kO3 b) (kDG b) 0 (kPA b a) (kPA1 b a) (kPA2 b a) (kPA3 b a) (by omega) (by omega) (by unfold kPA1; omega) (by unfold kPA2; omega)) w_720 w_12 w_717 w_718 w_719 hd_Sums_total rfl ⟨by decide, by decide⟩ (OB.recv E.2.2.2.2.2 (by rfl) (((hk.dk hK hdk).su).1)) (⟨(hk.dk hK hdk).su, (hk.dk hK hdk).pt a ha, (fun k hk1 => absurd hk1 (Nat.not_lt_zero _))⟩) hF hl.1 rfl (Nat.le_of_ble_eq_true rfl) d_Desk_commit_87 ⟨by decide, by decide⟩ (qv (fun H4 locs hq hF => ?_))
  have hk := hk.tr (hq.1.mono (tin _ _ _ (hdk.pt a ha).2.1.1 (hdk.pt a ha).2.2.1.1 (hdk.pt a ha).2.2.2.1))
  exact q_vret E hr hlk (⟨rfl, hk.frm⟩) hF d_Desk_commit_90
