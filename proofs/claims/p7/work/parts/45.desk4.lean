set_option maxHeartbeats 4000000 in
set_option maxRecDepth 100000 in
theorem c_Desk_open (l : Launch) (g : WG) (n0 : Nat → Prop) (b : Nat) (mr mq : Int64) (a n z y : Nat) (h1 : 1 ≤ n) (h16 : n ≤ 16) (ha : a + n ≤ 32) (hz : z < 32) (hy : y < 32) : Ctr l y_Desk_open (.code y_Desk_open prog_1_method_18_code 5 none) 3 161 0 0 n0 g [.ref b, .int (nI a), .int (nI n), .int (nI z), .int (nI y)] (fun H => DK g n0 H b 0 0 0 mr mq ∧ FRESH g H b) (QV (fun H H' => FRM n0 H H')) := by
  refine ctr_mk l (lv0 := [(0, .ref b), (1, .int (nI a)), (2, .int (nI n)), (3, .int (nI z)), (4, .int (nI y))]) (by decide) (Nat.le_of_ble_eq_true rfl) rfl ?_
  intro p e s m below meth c ls E hr hlk hnm hl hP
  have hx := E.1
  have hb := E.2.1
  have hK := E.2.2.2.2.2
  have hF : ∀ q ∈ ([] : List Loc), n0 q.base := fun q hq => absurd hq List.not_mem_nil
  obtain ⟨hdk, hfs⟩ := hP
  have hk : KJ g (fun q => n0 q) s.heap s.heap := KJ.rf
  refine lv_iload_n hx hb d_Desk_open_0 rfl (lv_at hl 2 rfl) ?_
  refine lv_iconst (v := nI 1) hx hb d_Desk_open_1 (by decide) ?_
  refine lv_bipush (v := nI 16) hx hb d_Desk_open_2 (by decide) ?_
  refine q_cS (rest := []) E (c_Desk_needCount l g n0 _ _ _ (okC_of h1 h16 (by decide))) w_798 w_1 w_796 w_797 hd_Desk_needCount rfl ⟨by decide, by decide⟩ trivial hF hl.1 rfl (Nat.le_of_ble_eq_true rfl) d_Desk_open_4 ⟨by decide, by decide⟩ (qv (fun H1 locs hq hF => ?_))
  obtain rfl := hq
  refine lv_iload_n hx hb d_Desk_open_7 rfl (lv_at hl 1 rfl) ?_
  refine lv_iload_n hx hb d_Desk_open_8 rfl (lv_at hl 2 rfl) ?_
  refine q_cS (rest := []) E (c_Desk_needScalars l g n0 _ _ (okS_of (by omega) ha)) w_494 w_1 w_492 w_493 hd_Desk_needScalars rfl ⟨by decide, by decide⟩ trivial hF hl.1 rfl (Nat.le_of_ble_eq_true rfl) d_Desk_open_9 ⟨by decide, by decide⟩ (qv (fun H2 locs hq hF => ?_))
  obtain rfl := hq
  refine lv_iload_n hx hb d_Desk_open_12 rfl (lv_at hl 3 rfl) ?_
  refine lv_iconst (v := nI 1) hx hb d_Desk_open_13 (by decide) ?_
  refine q_cS (rest := []) E (c_Desk_needScalars l g n0 _ _ (okS_of (by omega) (by omega))) w_494 w_1 w_492 w_493 hd_Desk_needScalars rfl ⟨by decide, by decide⟩ trivial hF hl.1 rfl (Nat.le_of_ble_eq_true rfl) d_Desk_open_14 ⟨by decide, by decide⟩ (qv (fun H3 locs hq hF => ?_))
  obtain rfl := hq
  refine lv_iload hx hb d_Desk_open_17 (lv_at hl 4 rfl) ?_
  refine lv_iconst (v := nI 1) hx hb d_Desk_open_19 (by decide) ?_
  refine q_cS (rest := []) E (c_Desk_needScalars l g n0 _ _ (okS_of (by omega) (by omega))) w_494 w_1 w_492 w_493 hd_Desk_needScalars rfl ⟨by decide, by decide⟩ trivial hF hl.1 rfl (Nat.le_of_ble_eq_true rfl) d_Desk_open_20 ⟨by decide, by decide⟩ (qv (fun H4 locs hq hF => ?_))
  obtain rfl := hq
  refine lv_aload_n hx hb d_Desk_open_23 rfl (lv_at hl 0 rfl) ?_
  refine q_get (C := "KateDesk") (T := T_Desk) (N := 16) (ci := 5) E ((hk.dk hK hdk).ob) in_Desk rfl 0 (by decide) w_339 rfl rfl d_Desk_open_24 ?_
  refine lv_aload_n hx hb d_Desk_open_27 rfl (lv_at hl 0 rfl) ?_
  refine q_get (C := "KateDesk") (T := T_Desk) (N := 16) (ci := 5) E ((hk.dk hK hdk).ob) in_Desk rfl 15 (by decide) w_354 rfl rfl d_Desk_open_28 ?_
  refine lv_aload_n hx hb d_Desk_open_31 rfl (lv_at hl 0 rfl) ?_
  refine q_get (C := "KateDesk") (T := T_Desk) (N := 16) (ci := 5) E ((hk.dk hK hdk).ob) in_Desk rfl 5 (by decide) w_344 rfl rfl d_Desk_open_32 ?_
  refine lv_iload_n hx hb d_Desk_open_35 rfl (lv_at hl 3 rfl) ?_
  refine q_aald (t := 4) E rfl rfl ((hk.dk hK hdk).rs.1) z rfl (by omega) (by decide) d_Desk_open_36 ?_
  refine q_cV (rest := []) E (c_Field_lift l g n0 (b + 162) (b + 161) (kSc b z) (kFr b) mr) w_302 w_4 w_336 w_300 w_301 hd_Field_lift rfl ⟨by decide, by decide⟩ (OB.recv E.2.2.2.2.2 (by rfl) (((hk.dk hK hdk).fr).1)) (⟨(hk.dk hK hdk).fr, (hk.dk hK hdk).fa, (hk.dk hK hdk).rs.2 z (by omega)⟩) hF hl.1 rfl (Nat.le_of_ble_eq_true rfl) d_Desk_open_37 ⟨by decide, by decide⟩ (qv (fun H5 locs hq hF => ?_))
  have hk := hk.tr (hq.w1 ((hk.dk hK hdk).fa).1)
  refine lv_aload_n hx hb d_Desk_open_40 rfl (lv_at hl 0 rfl) ?_
  refine q_get (C := "KateDesk") (T := T_Desk) (N := 16) (ci := 5) E ((hk.dk hK hdk).ob) in_Desk rfl 4 (by decide) w_343 rfl rfl d_Desk_open_41 ?_
  refine lv_aload_n hx hb d_Desk_open_44 rfl (lv_at hl 0 rfl) ?_
  refine q_get (C := "KateDesk") (T := T_Desk) (N := 16) (ci := 5) E ((hk.dk hK hdk).ob) in_Desk rfl 14 (by decide) w_353 rfl rfl d_Desk_open_45 ?_
  refine lv_aload_n hx hb d_Desk_open_48 rfl (lv_at hl 0 rfl) ?_
  refine q_get (C := "KateDesk") (T := T_Desk) (N := 16) (ci := 5) E ((hk.dk hK hdk).ob) in_Desk rfl 5 (by decide) w_344 rfl rfl d_Desk_open_49 ?_
  refine lv_iload_n hx hb d_Desk_open_52 rfl (lv_at hl 1 rfl) ?_
  refine lv_iload_n hx hb d_Desk_open_53 rfl (lv_at hl 2 rfl) ?_
  refine lv_aload_n hx hb d_Desk_open_54 rfl (lv_at hl 0 rfl) ?_
  refine q_get (C := "KateDesk") (T := T_Desk) (N := 16) (ci := 5) E ((hk.dk hK hdk).ob) in_Desk rfl 15 (by decide) w_354 rfl rfl d_Desk_open_55 ?_
  refine q_cV (rest := []) E (c_Polys_divide l g n0 (b + 470) (b + 162) (b + 478) (kFr b) mr (kY b) (kV b) (b + 160) (b + 1) (b + 161) (kSc b) a n ha h1) w_852 w_14 w_849 w_850 w_851 hd_Polys_divide rfl ⟨by decide, by decide⟩ (OB.recv E.2.2.2.2.2 (by rfl) ((hk.dk hK hdk).po.1)) (⟨(hk.dk hK hdk).po, (hk.dk hK hdk).hs, (hk.dk hK hdk).rs, (hk.dk hK hdk).fa⟩) hF hl.1 rfl (Nat.le_of_ble_eq_true rfl) d_Desk_open_58 ⟨by decide, by decide⟩ (qv (fun H6 locs hq hF => ?_))
  have hk := hk.tr hq
  refine lv_aload_n hx hb d_Desk_open_61 rfl (lv_at hl 0 rfl) ?_
  refine q_get (C := "KateDesk") (T := T_Desk) (N := 16) (ci := 5) E ((hk.dk hK hdk).ob) in_Desk rfl 5 (by decide) w_344 rfl rfl d_Desk_open_62 ?_
  refine lv_iload hx hb d_Desk_open_65 (lv_at hl 4 rfl) ?_
  refine q_aald (t := 4) E rfl rfl ((hk.dk hK hdk).rs.1) y rfl (by omega) (by decide) d_Desk_open_67 ?_
  refine lv_aload_n hx hb d_Desk_open_68 rfl (lv_at hl 0 rfl) ?_
  refine q_get (C := "KateDesk") (T := T_Desk) (N := 16) (ci := 5) E ((hk.dk hK hdk).ob) in_Desk rfl 14 (by decide) w_353 rfl rfl d_Desk_open_69 ?_
  obtain ⟨f1, hf1⟩ := ((hk.dk hK hdk).hs).2
  refine q_cS (rest := []) E (c_Limbs_copy l g n0 (kSc b y) (b + 160) f1) w_146 w_5 w_338 w_145 hd_Limbs_copy rfl ⟨by decide, by decide⟩ (⟨(hk.dk hK hdk).rs.2 y (by omega), hf1⟩) hF hl.1 rfl (Nat.le_of_ble_eq_true rfl) d_Desk_open_72 ⟨by decide, by decide⟩ (qv (fun H7 locs hq hF => ?_))
  have hq := hq.1
  have hk := hk.tr (hq.w1 ((hk.dk hK hdk).rs.2 y (by omega)).1)
  exact q_vret E hr hlk (⟨rfl, hk.frm⟩) hF d_Desk_open_75
set_option maxHeartbeats 4000000 in
set_option maxRecDepth 100000 in
theorem c_Desk_checks (l : Launch) (g : WG) (n0 : Nat → Prop) (b : Nat) (mr mq : Int64) (p0 q0 z y t : Nat) (hp : p0 < 12) (hq0 : q0 < 12) (hz : z < 32) (hy : y < 32) (ht : t < 32) : Ctr l y_Desk_checks (.code y_Desk_checks prog_1_method_19_code 6 (some FieldType.boolean)) 4 181 0 0 n0 g [.ref b, .int (nI p0), .int (nI q0), .int (nI z), .int (nI y), .int (nI t)] (fun H => DK g n0 H b 0 0 0 mr mq ∧ FRESH g H b) (QI (fun r H H' => r = 1 ∧ FRM n0 H H')) := by
  refine ctr_mk l (lv0 := [(0, .ref b), (1, .int (nI p0)), (2, .int (nI q0)), (3, .int (nI z)), (4, .int (nI y)), (5, .int (nI t))]) (by decide) (Nat.le_of_ble_eq_true rfl) rfl ?_
  intro p e s m below meth c ls E hr hlk hnm hl hP
  have hx := E.1
  have hb := E.2.1
  have hK := E.2.2.2.2.2
  have hF : ∀ q ∈ ([] : List Loc), n0 q.base := fun q hq => absurd hq List.not_mem_nil
  obtain ⟨hdk, hfs⟩ := hP
  have hk : KJ g (fun q => n0 q) s.heap s.heap := KJ.rf
  have tin : ∀ (t1 t2 t3 : Nat), n0 t1 → n0 t2 → n0 t3 → ∀ q, (q = b + 462 ∨ q = b + 463 ∨ q = b + 464 ∨ q = t1 ∨ q = t2 ∨ q = t3) → n0 q := fun t1 t2 t3 e1 e2 e3 q h => by rcases h with rfl | rfl | rfl | rfl | rfl | rfl; exact hdk.su.2.2.1.2.1.1; exact hdk.su.2.2.1.2.2.1.1; exact hdk.su.2.2.1.2.2.2.1; exact e1; exact e2; exact e3
  refine lv_iload_n hx hb d_Desk_checks_0 rfl (lv_at hl 1 rfl) ?_
  refine lv_iconst (v := nI 1) hx hb d_Desk_checks_1 (by decide) ?_
  refine q_cS (rest := []) E (c_Desk_needPoints l g n0 _ _ (okP_of (by omega) (by omega))) w_622 w_1 w_620 w_621 hd_Desk_needPoints rfl ⟨by decide, by decide⟩ trivial hF hl.1 rfl (Nat.le_of_ble_eq_true rfl) d_Desk_checks_2 ⟨by decide, by decide⟩ (qv (fun H1 locs hq hF => ?_))
  obtain rfl := hq
  refine lv_iload_n hx hb d_Desk_checks_5 rfl (lv_at hl 2 rfl) ?_
  refine lv_iconst (v := nI 1) hx hb d_Desk_checks_6 (by decide) ?_
  refine q_cS (rest := []) E (c_Desk_needPoints l g n0 _ _ (okP_of (by omega) (by omega))) w_622 w_1 w_620 w_621 hd_Desk_needPoints rfl ⟨by decide, by decide⟩ trivial hF hl.1 rfl (Nat.le_of_ble_eq_true rfl) d_Desk_checks_7 ⟨by decide, by decide⟩ (qv (fun H2 locs hq hF => ?_))
  obtain rfl := hq
  refine lv_iload_n hx hb d_Desk_checks_10 rfl (lv_at hl 3 rfl) ?_
  refine lv_iconst (v := nI 1) hx hb d_Desk_checks_11 (by decide) ?_
  refine q_cS (rest := []) E (c_Desk_needScalars l g n0 _ _ (okS_of (by omega) (by omega))) w_494 w_1 w_492 w_493 hd_Desk_needScalars rfl ⟨by decide, by decide⟩ trivial hF hl.1 rfl (Nat.le_of_ble_eq_true rfl) d_Desk_checks_12 ⟨by decide, by decide⟩ (qv (fun H3 locs hq hF => ?_))
  obtain rfl := hq
  refine lv_iload hx hb d_Desk_checks_15 (lv_at hl 4 rfl) ?_
  refine lv_iconst (v := nI 1) hx hb d_Desk_checks_17 (by decide) ?_
  refine q_cS (rest := []) E (c_Desk_needScalars l g n0 _ _ (okS_of (by omega) (by omega))) w_494 w_1 w_492 w_493 hd_Desk_needScalars rfl ⟨by decide, by decide⟩ trivial hF hl.1 rfl (Nat.le_of_ble_eq_true rfl) d_Desk_checks_18 ⟨by decide, by decide⟩ (qv (fun H4 locs hq hF => ?_))
  obtain rfl := hq
  refine lv_iload hx hb d_Desk_checks_21 (lv_at hl 5 rfl) ?_
  refine lv_iconst (v := nI 1) hx hb d_Desk_checks_23 (by decide) ?_
  refine q_cS (rest := []) E (c_Desk_needScalars l g n0 _ _ (okS_of (by omega) (by omega))) w_494 w_1 w_492 w_493 hd_Desk_needScalars rfl ⟨by decide, by decide⟩ trivial hF hl.1 rfl (Nat.le_of_ble_eq_true rfl) d_Desk_checks_24 ⟨by decide, by decide⟩ (qv (fun H5 locs hq hF => ?_))
  obtain rfl := hq
  refine lv_aload_n hx hb d_Desk_checks_27 rfl (lv_at hl 0 rfl) ?_
  refine q_get (C := "KateDesk") (T := T_Desk) (N := 16) (ci := 5) E ((hk.dk hK hdk).ob) in_Desk rfl 0 (by decide) w_339 rfl rfl d_Desk_checks_28 ?_
  refine lv_aload_n hx hb d_Desk_checks_31 rfl (lv_at hl 0 rfl) ?_
  refine q_get (C := "KateDesk") (T := T_Desk) (N := 16) (ci := 5) E ((hk.dk hK hdk).ob) in_Desk rfl 14 (by decide) w_353 rfl rfl d_Desk_checks_32 ?_
  refine lv_aload_n hx hb d_Desk_checks_35 rfl (lv_at hl 0 rfl) ?_
  refine q_get (C := "KateDesk") (T := T_Desk) (N := 16) (ci := 5) E ((hk.dk hK hdk).ob) in_Desk rfl 5 (by decide) w_344 rfl rfl d_Desk_checks_36 ?_
  refine lv_iload hx hb d_Desk_checks_39 (lv_at hl 5 rfl) ?_
  refine q_aald (t := 4) E rfl rfl ((hk.dk hK hdk).rs.1) t rfl (by omega) (by decide) d_Desk_checks_41 ?_
  refine lv_aload_n hx hb d_Desk_checks_42 rfl (lv_at hl 0 rfl) ?_
  refine q_get (C := "KateDesk") (T := T_Desk) (N := 16) (ci := 5) E ((hk.dk hK hdk).ob) in_Desk rfl 5 (by decide) w_344 rfl rfl d_Desk_checks_43 ?_
  refine lv_iload_n hx hb d_Desk_checks_46 rfl (lv_at hl 3 rfl) ?_
  refine q_aald (t := 4) E rfl rfl ((hk.dk hK hdk).rs.1) z rfl (by omega) (by decide) d_Desk_checks_47 ?_
  refine q_cV (rest := []) E (z_Field_subtract l g n0 (b + 162) (b + 160) (kSc b t) (kSc b z) (by unfold kSc; omega) (by unfold kSc; omega)) w_169 w_4 w_566 w_167 w_168 hd_Field_subtract rfl ⟨by decide, by decide⟩ (OB.recv E.2.2.2.2.2 (by rfl) ((hk.dk hK hdk).fr.1)) (⟨(hk.dk hK hdk).hs, hfs.1 t ht, hfs.1 z hz⟩) hF hl.1 rfl (Nat.le_of_ble_eq_true rfl) d_Desk_checks_48 ⟨by decide, by decide⟩ (qv (fun H6 locs hq hF => ?_))
  have hh := hq.2
  have hsy := hq.1.ajo (a := kSc b y) (by unfold kSc; omega) (hfs.1 y hy)
  have hpz := hq.1.ajo (a := kPA3 b p0) (by unfold kPA3; omega) (hfs.2.1 p0 hp)
  have hmd := hq.1.md (a := b + 175) (by omega) hfs.2.2.2
  have hk := hk.tr (hq.1.w1 (hk.dk hK hdk).hs.1)
  refine lv_aload_n hx hb d_Desk_checks_51 rfl (lv_at hl 0 rfl) ?_
  refine q_get (C := "KateDesk") (T := T_Desk) (N := 16) (ci := 5) E ((hk.dk hK hdk).ob) in_Desk rfl 2 (by decide) w_341 rfl rfl d_Desk_checks_52 ?_
  refine lv_iconst (v := nI 0) hx hb d_Desk_checks_55 (by decide) ?_
  refine lv_aload_n hx hb d_Desk_checks_56 rfl (lv_at hl 0 rfl) ?_
  refine q_get (C := "KateDesk") (T := T_Desk) (N := 16) (ci := 5) E ((hk.dk hK hdk).ob) in_Desk rfl 5 (by decide) w_344 rfl rfl d_Desk_checks_57 ?_
  refine lv_iload hx hb d_Desk_checks_60 (lv_at hl 4 rfl) ?_
  refine q_aald (t := 4) E rfl rfl ((hk.dk hK hdk).rs.1) y rfl (by omega) (by decide) d_Desk_checks_62 ?_
  refine lv_aload_n hx hb d_Desk_checks_63 rfl (lv_at hl 0 rfl) ?_
  refine q_get (C := "KateDesk") (T := T_Desk) (N := 16) (ci := 5) E ((hk.dk hK hdk).ob) in_Desk rfl 11 (by decide) w_350 rfl rfl d_Desk_checks_64 ?_
  refine q_cV (rest := []) E (z_Sums_place l g n0 (b + 186) (b + 176) (b + 187) (b + 444) (b + 461) (b + 462) (b + 463) (b + 464) (b + 169) (kFq b) mq (kX b) (kO b) (kO1 b) (kO2 b) (kO3 b) (kDG b) 0 (kSc b y) (b + 495) (by omega)) w_677 w_12 w_674 w_675 w_676 hd_Sums_place rfl ⟨by decide, by decide⟩ (OB.recv E.2.2.2.2.2 (by rfl) ((hk.dk hK hdk).su.1)) (⟨(hk.dk hK hdk).su, hsy⟩) hF hl.1 rfl (Nat.le_of_ble_eq_true rfl) d_Desk_checks_67 ⟨by decide, by decide⟩ (qv (fun H7 locs hq hF => ?_))
  have hz0 := hq.2
  have hh := hq.1.ajo (by unfold kDG; omega) hh
  have hpz := hq.1.ajo (by unfold kDG kPA3; omega) hpz
  have hmd := hq.1.md (by unfold kDG; omega) hmd
  have hk := hk.tr (hq.1.mono (fun q e => e ▸ (hdk.su.2.2.2.2.2.2 0 (by decide)).1))
  refine lv_aload_n hx hb d_Desk_checks_70 rfl (lv_at hl 0 rfl) ?_
  refine q_get (C := "KateDesk") (T := T_Desk) (N := 16) (ci := 5) E ((hk.dk hK hdk).ob) in_Desk rfl 2 (by decide) w_341 rfl rfl d_Desk_checks_71 ?_
  refine lv_iconst (v := nI 1) hx hb d_Desk_checks_74 (by decide) ?_
  refine lv_aload_n hx hb d_Desk_checks_75 rfl (lv_at hl 0 rfl) ?_
  refine q_get (C := "KateDesk") (T := T_Desk) (N := 16) (ci := 5) E ((hk.dk hK hdk).ob) in_Desk rfl 14 (by decide) w_353 rfl rfl d_Desk_checks_76 ?_
  refine lv_aload_n hx hb d_Desk_checks_79 rfl (lv_at hl 0 rfl) ?_
  refine q_get (C := "KateDesk") (T := T_Desk) (N := 16) (ci := 5) E ((hk.dk hK hdk).ob) in_Desk rfl 6 (by decide) w_345 rfl rfl d_Desk_checks_80 ?_
  refine lv_iload_n hx hb d_Desk_checks_83 rfl (lv_at hl 2 rfl) ?_
  refine q_aald (t := 3) E rfl rfl ((hk.dk hK hdk).pa) q0 rfl (by omega) (by decide) d_Desk_checks_84 ?_
  refine q_cV (rest := []) E (z_Sums_place l g n0 (b + 186) (b + 176) (b + 187) (b + 444) (b + 461) (b + 462) (b + 463) (b + 464) (b + 169) (kFq b) mq (kX b) (kO b) (kO1 b) (kO2 b) (kO3 b) (kDG b) 1 (b + 160) (kPA b q0) (by omega)) w_677 w_12 w_674 w_675 w_676 hd_Sums_place rfl ⟨by decide, by decide⟩ (OB.recv E.2.2.2.2.2 (by rfl) ((hk.dk hK hdk).su.1)) (⟨(hk.dk hK hdk).su, hh⟩) hF hl.1 rfl (Nat.le_of_ble_eq_true rfl) d_Desk_checks_85 ⟨by decide, by decide⟩ (qv (fun H8 locs hq hF => ?_))
  have hz1 := hq.2
  have hz0 := hq.1.abo (by unfold kDG; omega) hz0
  have hpz := hq.1.ajo (by unfold kDG kPA3; omega) hpz
  have hmd := hq.1.md (by unfold kDG; omega) hmd
  have hk := hk.tr (hq.1.mono (fun q e => e ▸ (hdk.su.2.2.2.2.2.2 1 (by decide)).1))
  refine lv_aload_n hx hb d_Desk_checks_88 rfl (lv_at hl 0 rfl) ?_
  refine q_get (C := "KateDesk") (T := T_Desk) (N := 16) (ci := 5) E ((hk.dk hK hdk).ob) in_Desk rfl 2 (by decide) w_341 rfl rfl d_Desk_checks_89 ?_
  refine lv_aload_n hx hb d_Desk_checks_92 rfl (lv_at hl 0 rfl) ?_
  refine q_get (C := "KateDesk") (T := T_Desk) (N := 16) (ci := 5) E ((hk.dk hK hdk).ob) in_Desk rfl 13 (by decide) w_352 rfl rfl d_Desk_checks_93 ?_
  refine lv_iconst (v := nI 2) hx hb d_Desk_checks_96 (by decide) ?_
  refine q_cV (rest := []) E (z_Sums_total l g n0 (b + 186) (b + 176) (b + 187) (b + 444) (b + 461) (b + 462) (b + 463) (b + 464) (b + 169) (kFq b) mq (kX b) (kO b) (kO1 b) (kO2 b) (kO3 b) (kDG b) 2 (b + 156) (b + 157) (b + 158) (b + 159) (by decide) (by omega) (by omega) (by omega)) w_720 w_12 w_717 w_718 w_719 hd_Sums_total rfl ⟨by decide, by decide⟩ (OB.recv E.2.2.2.2.2 (by rfl) (((hk.dk hK hdk).su).1)) (⟨(hk.dk hK hdk).su, (hk.dk hK hdk).mu, (fun k hk1 => by rcases (show k = 0 ∨ k = 1 by omega) with rfl | rfl; exact hz0; exact hz1)⟩) hF hl.1 rfl (Nat.le_of_ble_eq_true rfl) d_Desk_checks_97 ⟨by decide, by decide⟩ (qv (fun H9 locs hq hF => ?_))
  have hmz := hq.2
  have hpz := hq.1.ajo (by unfold kPA3; omega) hpz
  have hmd := hq.1.md (by omega) hmd
  have hk := hk.tr (hq.1.mono (tin _ _ _ hdk.mu.2.1.1 hdk.mu.2.2.1.1 hdk.mu.2.2.2.1))
  refine lv_aload_n hx hb d_Desk_checks_100 rfl (lv_at hl 0 rfl) ?_
  refine q_get (C := "KateDesk") (T := T_Desk) (N := 16) (ci := 5) E ((hk.dk hK hdk).ob) in_Desk rfl 1 (by decide) w_340 rfl rfl d_Desk_checks_101 ?_
  refine lv_aload_n hx hb d_Desk_checks_104 rfl (lv_at hl 0 rfl) ?_
  refine q_get (C := "KateDesk") (T := T_Desk) (N := 16) (ci := 5) E ((hk.dk hK hdk).ob) in_Desk rfl 6 (by decide) w_345 rfl rfl d_Desk_checks_105 ?_
  refine lv_iload_n hx hb d_Desk_checks_108 rfl (lv_at hl 1 rfl) ?_
  refine q_aald (t := 3) E rfl rfl ((hk.dk hK hdk).pa) p0 rfl (by omega) (by decide) d_Desk_checks_109 ?_
  refine lv_aload_n hx hb d_Desk_checks_110 rfl (lv_at hl 0 rfl) ?_
  refine q_get (C := "KateDesk") (T := T_Desk) (N := 16) (ci := 5) E ((hk.dk hK hdk).ob) in_Desk rfl 13 (by decide) w_352 rfl rfl d_Desk_checks_111 ?_
  refine q_cV (rest := []) E (z_Curve_equal l g n0 (b + 176) (b + 169) (kFq b) mq (kX b) (kPA b p0) (kPA1 b p0) (kPA2 b p0) (kPA3 b p0) (b + 156) (b + 157) (b + 158) (b + 159) (by unfold kX; omega) (by unfold kFq kX; simp <;> omega) (by unfold kFq kX; simp <;> omega) (by unfold kPA3 kX; omega) (by unfold kPA3 kX; omega) (by unfold kX; omega) (by unfold kX; omega)) w_810 w_11 w_807 w_808 w_809 hd_Curve_equal rfl ⟨by decide, by decide⟩ (OB.recv E.2.2.2.2.2 (by rfl) (((hk.dk hK hdk).su.2.1).1)) (⟨(hk.dk hK hdk).su.2.1, hmd, (hk.dk hK hdk).pt p0 hp, (hk.dk hK hdk).mu, hpz, hmz⟩) hF hl.1 rfl (Nat.le_of_ble_eq_true rfl) d_Desk_checks_114 ⟨by decide, by decide⟩ (qi (fun r H10 locs hq hF => ?_))
  obtain ⟨rfl, hq⟩ := hq
  have xin : ∀ q, (q = kX b 6 ∨ q = kX b 7) → n0 q := fun q h => h.elim (fun e => e ▸ (hdk.su.2.1.2.2 6 (by decide)).1) (fun e => e ▸ (hdk.su.2.1.2.2 7 (by decide)).1)
  exact q_zret E hr rfl hlk (⟨_, rfl, rfl, (hk.tr (hq.mono xin)).frm⟩) hF d_Desk_checks_117
set_option maxHeartbeats 4000000 in
set_option maxRecDepth 100000 in
theorem c_Desk_transform (l : Launch) (g : WG) (n0 : Nat → Prop) (b : Nat) (mr mq : Int64) (a k : Nat) (bk : Int32) (hk5 : k < 5) (ha : a + 2 ^ k ≤ 32) : Ctr l y_Desk_transform (.code y_Desk_transform prog_1_method_20_code 4 none) 7 233 0 0 n0 g [.ref b, .int (nI a), .int (nI k), .int bk] (fun H => DK g n0 H b 0 0 0 mr mq ∧ FRESH g H b) (QV (fun H H' => FRM n0 H H')) := by
  refine ctr_mk l (lv0 := [(0, .ref b), (1, .int (nI a)), (2, .int (nI k)), (3, .int bk)]) (by decide) (Nat.le_of_ble_eq_true rfl) rfl ?_
  intro p e s m below meth c ls E hr hlk hnm hl hP
  have hx := E.1
  have hb := E.2.1
  have hK := E.2.2.2.2.2
  have hF : ∀ q ∈ ([] : List Loc), n0 q.base := fun q hq => absurd hq List.not_mem_nil
  obtain ⟨hdk, hfs⟩ := hP
  have hk : KJ g (fun q => n0 q) s.heap s.heap := KJ.rf
  obtain ⟨hp1, hp16⟩ := pw16 hk5
  refine lv_iload_n hx hb d_Desk_transform_0 rfl (lv_at hl 2 rfl) ?_
  refine lv_iconst (v := nI 0) hx hb d_Desk_transform_1 (by decide) ?_
  refine lv_iconst (v := nI 4) hx hb d_Desk_transform_2 (by decide) ?_
  refine q_cS (rest := []) E (c_Desk_needCount l g n0 _ _ _ (okC_of (by omega) (by omega) (by decide))) w_798 w_1 w_796 w_797 hd_Desk_needCount rfl ⟨by decide, by decide⟩ trivial hF hl.1 rfl (Nat.le_of_ble_eq_true rfl) d_Desk_transform_3 ⟨by decide, by decide⟩ (qv (fun H1 locs hq hF => ?_))
  obtain rfl := hq
  refine lv_iload_n hx hb d_Desk_transform_6 rfl (lv_at hl 1 rfl) ?_
  refine lv_iconst (v := nI 1) hx hb d_Desk_transform_7 (by decide) ?_
  refine lv_iload_n hx hb d_Desk_transform_8 rfl (lv_at hl 2 rfl) ?_
  refine lv_ishl hx hb d_Desk_transform_9 ?_
  refine lv_topi (fun t9 e9 => ?_)
  obtain rfl : t9 = nI (2 ^ k) := e9.trans (sh1 k hk5)
  refine q_cS (rest := []) E (c_Desk_needScalars l g n0 _ _ (okS_of hp1 ha)) w_494 w_1 w_492 w_493 hd_Desk_needScalars rfl ⟨by decide, by decide⟩ trivial hF hl.1 rfl (Nat.le_of_ble_eq_true rfl) d_Desk_transform_10 ⟨by decide, by decide⟩ (qv (fun H2 locs hq hF => ?_))
  obtain rfl := hq
  refine lv_iload_n hx hb d_Desk_transform_13 rfl (lv_at hl 3 rfl) ?_
  refine lv_if_eq (tgt := 33) hx hb d_Desk_transform_14 (by decide) (fun h => ?_) (fun h => ?_)
  rotate_left
  · skip
    refine lv_aload_n hx hb d_Desk_transform_17 rfl (lv_at hl 0 rfl) ?_
    refine q_get (C := "KateDesk") (T := T_Desk) (N := 16) (ci := 5) E ((hk.dk hK hdk).ob) in_Desk rfl 4 (by decide) w_343 rfl rfl d_Desk_transform_18 ?_
    refine lv_aload_n hx hb d_Desk_transform_21 rfl (lv_at hl 0 rfl) ?_
    refine q_get (C := "KateDesk") (T := T_Desk) (N := 16) (ci := 5) E ((hk.dk hK hdk).ob) in_Desk rfl 5 (by decide) w_344 rfl rfl d_Desk_transform_22 ?_
    refine lv_iload_n hx hb d_Desk_transform_25 rfl (lv_at hl 1 rfl) ?_
    refine lv_iload_n hx hb d_Desk_transform_26 rfl (lv_at hl 2 rfl) ?_
    refine q_cV (rest := []) E (c_Polys_interpolate l g n0 (b + 470) (b + 162) (b + 478) (kFr b) mr (kY b) (kV b) (b + 1) (kSc b) a k hk5 ha) w_874 w_14 w_871 w_872 w_873 hd_Polys_interpolate rfl ⟨by decide, by decide⟩ (OB.recv E.2.2.2.2.2 (by rfl) ((hk.dk hK hdk).po.1)) (⟨(hk.dk hK hdk).po, (hk.dk hK hdk).rs⟩) hF hl.1 rfl (Nat.le_of_ble_eq_true rfl) d_Desk_transform_27 ⟨by decide, by decide⟩ (qv (fun H3 locs hq hF => ?_))
    have hk := hk.tr hq
    refine lv_goto (tgt := 46) hx hb d_Desk_transform_30 (by decide) ?_
    exact q_vret E hr hlk (⟨rfl, hk.frm⟩) hF d_Desk_transform_46
  refine lv_aload_n hx hb d_Desk_transform_33 rfl (lv_at hl 0 rfl) ?_
  refine q_get (C := "KateDesk") (T := T_Desk) (N := 16) (ci := 5) E ((hk.dk hK hdk).ob) in_Desk rfl 4 (by decide) w_343 rfl rfl d_Desk_transform_34 ?_
  refine lv_aload_n hx hb d_Desk_transform_37 rfl (lv_at hl 0 rfl) ?_
  refine q_get (C := "KateDesk") (T := T_Desk) (N := 16) (ci := 5) E ((hk.dk hK hdk).ob) in_Desk rfl 5 (by decide) w_344 rfl rfl d_Desk_transform_38 ?_
  refine lv_iload_n hx hb d_Desk_transform_41 rfl (lv_at hl 1 rfl) ?_
  refine lv_iload_n hx hb d_Desk_transform_42 rfl (lv_at hl 2 rfl) ?_
  refine q_cV (rest := []) E (c_Polys_evaluate l g n0 (b + 470) (b + 162) (b + 478) (kFr b) mr (kY b) (kV b) (b + 1) (kSc b) a k hk5 ha) w_887 w_14 w_884 w_885 w_886 hd_Polys_evaluate rfl ⟨by decide, by decide⟩ (OB.recv E.2.2.2.2.2 (by rfl) ((hk.dk hK hdk).po.1)) (⟨(hk.dk hK hdk).po, (hk.dk hK hdk).rs⟩) hF hl.1 rfl (Nat.le_of_ble_eq_true rfl) d_Desk_transform_43 ⟨by decide, by decide⟩ (qv (fun H3 locs hq hF => ?_))
  have hk := hk.tr hq
  exact q_vret E hr hlk (⟨rfl, hk.frm⟩) hF d_Desk_transform_46
set_option maxHeartbeats 4000000 in
set_option maxRecDepth 100000 in
theorem c_Desk_lagrange (l : Launch) (g : WG) (n0 : Nat → Prop) (b : Nat) (mr mq : Int64) (a k i z : Nat) (hk5 : k < 5) (hi : i < 2 ^ k) (ha : a < 32) (hz : z < 32) : Ctr l y_Desk_lagrange (.code y_Desk_lagrange prog_1_method_21_code 5 none) 6 208 0 0 n0 g [.ref b, .int (nI a), .int (nI k), .int (nI i), .int (nI z)] (fun H => DK g n0 H b 0 0 0 mr mq ∧ FRESH g H b) (QV (fun H H' => FRM n0 H H')) := by
  refine ctr_mk l (lv0 := [(0, .ref b), (1, .int (nI a)), (2, .int (nI k)), (3, .int (nI i)), (4, .int (nI z))]) (by decide) (Nat.le_of_ble_eq_true rfl) rfl ?_
  intro p e s m below meth c ls E hr hlk hnm hl hP
  have hx := E.1
  have hb := E.2.1
  have hK := E.2.2.2.2.2
  have hF : ∀ q ∈ ([] : List Loc), n0 q.base := fun q hq => absurd hq List.not_mem_nil
  obtain ⟨hdk, hfs⟩ := hP
  have hk : KJ g (fun q => n0 q) s.heap s.heap := KJ.rf
  obtain ⟨hp1, hp16⟩ := pw16 hk5
  refine lv_iload_n hx hb d_Desk_lagrange_0 rfl (lv_at hl 2 rfl) ?_
  refine lv_iconst (v := nI 0) hx hb d_Desk_lagrange_1 (by decide) ?_
  refine lv_iconst (v := nI 4) hx hb d_Desk_lagrange_2 (by decide) ?_
  refine q_cS (rest := []) E (c_Desk_needCount l g n0 _ _ _ (okC_of (by omega) (by omega) (by decide))) w_798 w_1 w_796 w_797 hd_Desk_needCount rfl ⟨by decide, by decide⟩ trivial hF hl.1 rfl (Nat.le_of_ble_eq_true rfl) d_Desk_lagrange_3 ⟨by decide, by decide⟩ (qv (fun H1 locs hq hF => ?_))
  obtain rfl := hq
  refine lv_iload_n hx hb d_Desk_lagrange_6 rfl (lv_at hl 3 rfl) ?_
  refine lv_iconst (v := nI 0) hx hb d_Desk_lagrange_7 (by decide) ?_
  refine lv_iconst (v := nI 1) hx hb d_Desk_lagrange_8 (by decide) ?_
  refine lv_iload_n hx hb d_Desk_lagrange_9 rfl (lv_at hl 2 rfl) ?_
  refine lv_ishl hx hb d_Desk_lagrange_10 ?_
  refine lv_topi (fun t9 e9 => ?_)
  obtain rfl : t9 = nI (2 ^ k) := e9.trans (sh1 k hk5)
  refine lv_iconst (v := nI 1) hx hb d_Desk_lagrange_11 (by decide) ?_
  refine lv_isub hx hb d_Desk_lagrange_12 ?_
  refine lv_topi (fun t9 e9 => ?_)
  obtain rfl : t9 = nI (2 ^ k - 1) := e9.trans (pk_sub (by omega))
  refine q_cS (rest := []) E (c_Desk_needCount l g n0 _ _ _ (okC_of (by omega) (by omega) (by omega))) w_798 w_1 w_796 w_797 hd_Desk_needCount rfl ⟨by decide, by decide⟩ trivial hF hl.1 rfl (Nat.le_of_ble_eq_true rfl) d_Desk_lagrange_13 ⟨by decide, by decide⟩ (qv (fun H2 locs hq hF => ?_))
  obtain rfl := hq
  refine lv_iload_n hx hb d_Desk_lagrange_16 rfl (lv_at hl 1 rfl) ?_
  refine lv_iconst (v := nI 1) hx hb d_Desk_lagrange_17 (by decide) ?_
  refine q_cS (rest := []) E (c_Desk_needScalars l g n0 _ _ (okS_of (by omega) (by omega))) w_494 w_1 w_492 w_493 hd_Desk_needScalars rfl ⟨by decide, by decide⟩ trivial hF hl.1 rfl (Nat.le_of_ble_eq_true rfl) d_Desk_lagrange_18 ⟨by decide, by decide⟩ (qv (fun H3 locs hq hF => ?_))
  obtain rfl := hq
  refine lv_iload hx hb d_Desk_lagrange_21 (lv_at hl 4 rfl) ?_
  refine lv_iconst (v := nI 1) hx hb d_Desk_lagrange_23 (by decide) ?_
  refine q_cS (rest := []) E (c_Desk_needScalars l g n0 _ _ (okS_of (by omega) (by omega))) w_494 w_1 w_492 w_493 hd_Desk_needScalars rfl ⟨by decide, by decide⟩ trivial hF hl.1 rfl (Nat.le_of_ble_eq_true rfl) d_Desk_lagrange_24 ⟨by decide, by decide⟩ (qv (fun H4 locs hq hF => ?_))
  obtain rfl := hq
  refine lv_aload_n hx hb d_Desk_lagrange_27 rfl (lv_at hl 0 rfl) ?_
  refine q_get (C := "KateDesk") (T := T_Desk) (N := 16) (ci := 5) E ((hk.dk hK hdk).ob) in_Desk rfl 0 (by decide) w_339 rfl rfl d_Desk_lagrange_28 ?_
  refine lv_aload_n hx hb d_Desk_lagrange_31 rfl (lv_at hl 0 rfl) ?_
  refine q_get (C := "KateDesk") (T := T_Desk) (N := 16) (ci := 5) E ((hk.dk hK hdk).ob) in_Desk rfl 15 (by decide) w_354 rfl rfl d_Desk_lagrange_32 ?_
  refine lv_aload_n hx hb d_Desk_lagrange_35 rfl (lv_at hl 0 rfl) ?_
  refine q_get (C := "KateDesk") (T := T_Desk) (N := 16) (ci := 5) E ((hk.dk hK hdk).ob) in_Desk rfl 5 (by decide) w_344 rfl rfl d_Desk_lagrange_36 ?_
  refine lv_iload hx hb d_Desk_lagrange_39 (lv_at hl 4 rfl) ?_
  refine q_aald (t := 4) E rfl rfl ((hk.dk hK hdk).rs.1) z rfl (by omega) (by decide) d_Desk_lagrange_41 ?_
  refine q_cV (rest := []) E (c_Field_lift l g n0 (b + 162) (b + 161) (kSc b z) (kFr b) mr) w_302 w_4 w_336 w_300 w_301 hd_Field_lift rfl ⟨by decide, by decide⟩ (OB.recv E.2.2.2.2.2 (by rfl) (((hk.dk hK hdk).fr).1)) (⟨(hk.dk hK hdk).fr, (hk.dk hK hdk).fa, (hk.dk hK hdk).rs.2 z (by omega)⟩) hF hl.1 rfl (Nat.le_of_ble_eq_true rfl) d_Desk_lagrange_42 ⟨by decide, by decide⟩ (qv (fun H5 locs hq hF => ?_))
  have hk := hk.tr (hq.w1 ((hk.dk hK hdk).fa).1)
  refine lv_aload_n hx hb d_Desk_lagrange_45 rfl (lv_at hl 0 rfl) ?_
  refine q_get (C := "KateDesk") (T := T_Desk) (N := 16) (ci := 5) E ((hk.dk hK hdk).ob) in_Desk rfl 4 (by decide) w_343 rfl rfl d_Desk_lagrange_46 ?_
  refine lv_aload_n hx hb d_Desk_lagrange_49 rfl (lv_at hl 0 rfl) ?_
  refine q_get (C := "KateDesk") (T := T_Desk) (N := 16) (ci := 5) E ((hk.dk hK hdk).ob) in_Desk rfl 5 (by decide) w_344 rfl rfl d_Desk_lagrange_50 ?_
  refine lv_iload_n hx hb d_Desk_lagrange_53 rfl (lv_at hl 1 rfl) ?_
  refine q_aald (t := 4) E rfl rfl ((hk.dk hK hdk).rs.1) a rfl (by omega) (by decide) d_Desk_lagrange_54 ?_
  refine lv_iload_n hx hb d_Desk_lagrange_55 rfl (lv_at hl 2 rfl) ?_
  refine lv_iload_n hx hb d_Desk_lagrange_56 rfl (lv_at hl 3 rfl) ?_
  refine lv_aload_n hx hb d_Desk_lagrange_57 rfl (lv_at hl 0 rfl) ?_
  refine q_get (C := "KateDesk") (T := T_Desk) (N := 16) (ci := 5) E ((hk.dk hK hdk).ob) in_Desk rfl 15 (by decide) w_354 rfl rfl d_Desk_lagrange_58 ?_
  refine q_cV (rest := []) E (c_Polys_basis l g n0 (b + 470) (b + 162) (b + 478) (kFr b) mr (kY b) (kV b) (kSc b a) (b + 161) k i hk5 hi) w_898 w_14 w_895 w_896 w_897 hd_Polys_basis rfl ⟨by decide, by decide⟩ (OB.recv E.2.2.2.2.2 (by rfl) ((hk.dk hK hdk).po.1)) (⟨(hk.dk hK hdk).po, (hk.dk hK hdk).rs.2 a ha, (hk.dk hK hdk).fa⟩) hF hl.1 rfl (Nat.le_of_ble_eq_true rfl) d_Desk_lagrange_61 ⟨by decide, by decide⟩ (qv (fun H6 locs hq hF => ?_))
  have hk := hk.tr hq
  exact q_vret E hr hlk (⟨rfl, hk.frm⟩) hF d_Desk_lagrange_64
set_option maxHeartbeats 4000000 in
set_option maxRecDepth 100000 in
theorem c_Desk_look (l : Launch) (g : WG) (n0 : Nat → Prop) (b : Nat) (mr mq : Int64) (w0 : Nat) (hw : w0 < 3) : Ctr l y_Desk_look (.code y_Desk_look prog_1_method_22_code 2 (some FieldType.int)) 0 0 0 0 n0 g [.ref b, .int (nI w0)] (fun H => DK g n0 H b 0 0 0 mr mq ∧ FRESH g H b) (QI (fun r H H' => r = 0 ∧ FRM n0 H H')) := by
  refine ctr_mk l (lv0 := [(0, .ref b), (1, .int (nI w0))]) (by decide) (Nat.le_of_ble_eq_true rfl) rfl ?_
  intro p e s m below meth c ls E hr hlk hnm hl hP
  have hx := E.1
  have hb := E.2.1
  have hK := E.2.2.2.2.2
  have hF : ∀ q ∈ ([] : List Loc), n0 q.base := fun q hq => absurd hq List.not_mem_nil
  obtain ⟨hdk, hfs⟩ := hP
  have hk : KJ g (fun q => n0 q) s.heap s.heap := KJ.rf
  refine lv_iload_n hx hb d_Desk_look_0 rfl (lv_at hl 1 rfl) ?_
  refine lv_if_ne (tgt := 9) hx hb d_Desk_look_1 (by decide) (fun h0 => ?_) (fun h0 => ?_)
  rotate_left
  · skip
    refine lv_aload_n hx hb d_Desk_look_4 rfl (lv_at hl 0 rfl) ?_
    refine q_get (C := "KateDesk") (T := T_Desk) (N := 16) (ci := 5) E ((hk.dk hK hdk).ob) in_Desk rfl 8 (by decide) w_347 rfl rfl d_Desk_look_5 ?_
    exact q_iret E hr hlk (⟨_, rfl, rfl, FRM.rf⟩) hF d_Desk_look_8
  refine lv_iload_n hx hb d_Desk_look_9 rfl (lv_at hl 1 rfl) ?_
  refine lv_iconst (v := nI 1) hx hb d_Desk_look_10 (by decide) ?_
  refine lv_icmp_ne (tgt := 22) hx hb d_Desk_look_11 (by decide) (fun h1 => ?_) (fun h1 => ?_)
  rotate_left
  · skip
    refine lv_aload_n hx hb d_Desk_look_14 rfl (lv_at hl 0 rfl) ?_
    refine q_get (C := "KateDesk") (T := T_Desk) (N := 16) (ci := 5) E ((hk.dk hK hdk).ob) in_Desk rfl 9 (by decide) w_348 rfl rfl d_Desk_look_15 ?_
    refine q_get (C := "KateDesk$Row") (T := T_Row) (N := 2) (ci := 3) E ((hk.dk hK hdk).tp) in_Row rfl 1 (by decide) w_74 rfl rfl d_Desk_look_18 ?_
    exact q_iret E hr hlk (⟨_, rfl, rfl, FRM.rf⟩) hF d_Desk_look_21
  refine lv_iload_n hx hb d_Desk_look_22 rfl (lv_at hl 1 rfl) ?_
  refine lv_iconst (v := nI 2) hx hb d_Desk_look_23 (by decide) ?_
  refine lv_icmp_ne (tgt := 35) hx hb d_Desk_look_24 (by decide) (fun h9 => absurd ((nI_eq (by omega) (by decide)).mpr (by have h00 : w0 ≠ 0 := fun e => h0 (by rw [e]; rfl); have h11 : w0 ≠ 1 := fun e => h1 (by rw [e]); omega)) h9) (fun _ => ?_)
  refine lv_aload_n hx hb d_Desk_look_27 rfl (lv_at hl 0 rfl) ?_
  refine q_get (C := "KateDesk") (T := T_Desk) (N := 16) (ci := 5) E ((hk.dk hK hdk).ob) in_Desk rfl 10 (by decide) w_349 rfl rfl d_Desk_look_28 ?_
  refine q_get (C := "KateDesk$Row") (T := T_Row) (N := 2) (ci := 3) E ((hk.dk hK hdk).wr) in_Row rfl 1 (by decide) w_74 rfl rfl d_Desk_look_31 ?_
  exact q_iret E hr hlk (⟨_, rfl, rfl, FRM.rf⟩) hF d_Desk_look_34
