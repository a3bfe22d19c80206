theorem tr_ok {a k : Nat} (hk5 : k < 5) (ha : a + 2 ^ k ≤ 32) : okS (nI a) (nI 1 <<< (nI k &&& 31)) := by rw [sh1 k hk5]; exact okS_of (pw16 hk5).1 ha
theorem lg_ok {i k : Nat} (hk5 : k < 5) (hi : i < 2 ^ k) : okC (nI i) (nI 0) ((nI 1 <<< (nI k &&& 31)) - nI 1) := by
  have h := (pw16 hk5)
  rw [sh1 k hk5, pk_sub h.1]
  exact okC_of (Nat.zero_le _) (by omega) (by omega)
theorem cm_S {a n : Nat} (h : 0 < n → a + n ≤ 32) : okS (nI a) (nI n) := by
  rcases Nat.eq_zero_or_pos n with rfl | h0
  · exact Or.inl (by decide)
  · exact okS_of h0 (h h0)
theorem cm_P {a n : Nat} (h : 0 < n → a + n ≤ 12) : okP (nI a) (nI n) := by
  rcases Nat.eq_zero_or_pos n with rfl | h0
  · exact Or.inl (by decide)
  · exact okP_of h0 (h h0)
/-- the written row became another, by way of other changes -/
theorem DS.wchain {g : WG} {H0 H H1 H2 H' : Heap} {U : State} {b p t w w2 : Nat} {mr mq : Int64} (d : DS g H0 H b p t w mr mq) (hK : KW g U) (h1 : FRM (fun q => q = b + 150 ∨ q = b + 151) H H1) (h2 : KJ g (nJ b) H1 H2) (h3 : FRM (fun q => q = b + 150 ∨ q = b + 151) H2 H') (hr : RW9 g H' (b + 150) (b + 151) w2) (h96 : w2 ≤ 96) : DS g H0 H' b p t w2 mr mq :=
  ⟨((d.1.tr (h1.mono (fun q h => by rcases h with rfl | rfl <;> exact ⟨by omega, by omega⟩))).tr (h2.frq nJ_D)).tr (h3.mono (fun q h => by rcases h with rfl | rfl <;> exact ⟨by omega, by omega⟩)), ((d.2.1.on (fun q hq => h1.2 q (nx_row hq).2)).kj hK h2).on (fun q hq => h3.2 q (nx_row hq).2), (h2.rw9 hK (d.2.2.1.frm h1 (by omega) (by omega))).frm h3 (by omega) (by omega), hr, d.2.2.2.2.1, d.2.2.2.2.2.1, h96⟩
set_option maxHeartbeats 4000000 in
set_option maxRecDepth 100000 in
theorem G_Desk_transform (l : Launch) (g : WG) (b pn tn wn : Nat) (mr mq : Int64) (a k : Nat) (bk : Int32) (hk5 : k < 5) (ha : a + 2 ^ k ≤ 32) : Ctr l y_Desk_transform (.code y_Desk_transform prog_1_method_20_code 4 none) 7 233 0 0 (nD b) g [.ref b, .int (nI a), .int (nI k), .int bk] (fun H => DS g H H b pn tn wn mr mq) (QV (fun H H' => DS g H H' b pn tn wn mr mq)) := by
  refine ctr_mk l (lv0 := [(0, .ref b), (1, .int (nI a)), (2, .int (nI k)), (3, .int bk)]) (by decide) (Nat.le_of_ble_eq_true rfl) rfl ?_
  intro p e s m below meth c ls E hr hlk hnm hl hP
  have hx := E.1
  have hb := E.2.1
  have hK := E.2.2.2.2.2
  have hF : ∀ q ∈ ([] : List Loc), nD b q.base := fun q hq => absurd hq List.not_mem_nil
  have hd := hP
  refine lv_iload_n hx hb d_Desk_transform_0 rfl (lv_at hl 2 rfl) ?_
  refine lv_iconst (v := nI 0) hx hb d_Desk_transform_1 (by decide) ?_
  refine lv_iconst (v := nI 4) hx hb d_Desk_transform_2 (by decide) ?_
  refine q_cS (rest := []) E (c_Desk_needCount l g (nD b) (nI k) (nI 0) (nI 4) (okC_of (Nat.zero_le _) (Nat.le_of_lt_succ hk5) (by decide))) w_798 w_1 w_796 w_797 hd_Desk_needCount rfl ⟨by decide, by decide⟩ trivial hF hl.1 rfl (Nat.le_of_ble_eq_true rfl) d_Desk_transform_3 ⟨by decide, by decide⟩ (qv (fun H1 locs hq hF => ?_))
  have hq := hq.symm
  subst hq
  refine lv_iload_n hx hb d_Desk_transform_6 rfl (lv_at hl 1 rfl) ?_
  refine lv_iconst (v := nI 1) hx hb d_Desk_transform_7 (by decide) ?_
  refine lv_iload_n hx hb d_Desk_transform_8 rfl (lv_at hl 2 rfl) ?_
  refine lv_ishl hx hb d_Desk_transform_9 ?_
  refine q_cS (rest := []) E (c_Desk_needScalars l g (nD b) (nI a) ((nI 1) <<< ((nI k) &&& 31)) (tr_ok hk5 ha)) w_494 w_1 w_492 w_493 hd_Desk_needScalars rfl ⟨by decide, by decide⟩ trivial hF hl.1 rfl (Nat.le_of_ble_eq_true rfl) d_Desk_transform_10 ⟨by decide, by decide⟩ (qv (fun H2 locs hq hF => ?_))
  have hq := hq.symm
  subst hq
  refine lv_iload_n hx hb d_Desk_transform_13 rfl (lv_at hl 3 rfl) ?_
  refine lv_if_eq (tgt := 33) hx hb d_Desk_transform_14 (by decide) (fun _ => ?_) (fun _ => ?_)
  · skip
    refine lv_aload_n hx hb d_Desk_transform_33 rfl (lv_at hl 0 rfl) ?_
    refine q_get (C := "KateDesk") (T := T_Desk) (N := 16) (ci := 5) E hd.x.ob in_Desk rfl 4 (by decide) w_343 rfl rfl d_Desk_transform_34 ?_
    refine lv_aload_n hx hb d_Desk_transform_37 rfl (lv_at hl 0 rfl) ?_
    refine q_get (C := "KateDesk") (T := T_Desk) (N := 16) (ci := 5) E hd.x.ob in_Desk rfl 5 (by decide) w_344 rfl rfl d_Desk_transform_38 ?_
    refine lv_iload_n hx hb d_Desk_transform_41 rfl (lv_at hl 1 rfl) ?_
    refine lv_iload_n hx hb d_Desk_transform_42 rfl (lv_at hl 2 rfl) ?_
    refine q_cV (rest := []) E ((c_Polys_evaluate l g (nJ b) (b + 470) (b + 162) (b + 478) (kFr b) mr (kY b) (kV b) (b + 1) (kSc b) a k hk5 ha).up nJ_D) w_887 w_14 w_884 w_885 w_886 hd_Polys_evaluate rfl ⟨by decide, by decide⟩ (OB.recv E.2.2.2.2.2 (by rfl) hd.x.po.1) (⟨hd.x.po, hd.x.rs⟩) hF hl.1 rfl (Nat.le_of_ble_eq_true rfl) d_Desk_transform_43 ⟨by decide, by decide⟩ (qv (fun H3 locs hq hF => ?_))
    have hd := hd.kj hK hq (fun q h => h)
    exact q_vret E hr hlk (⟨rfl, hd⟩) hF d_Desk_transform_46
  · skip
    refine lv_aload_n hx hb d_Desk_transform_17 rfl (lv_at hl 0 rfl) ?_
    refine q_get (C := "KateDesk") (T := T_Desk) (N := 16) (ci := 5) E hd.x.ob in_Desk rfl 4 (by decide) w_343 rfl rfl d_Desk_transform_18 ?_
    refine lv_aload_n hx hb d_Desk_transform_21 rfl (lv_at hl 0 rfl) ?_
    refine q_get (C := "KateDesk") (T := T_Desk) (N := 16) (ci := 5) E hd.x.ob in_Desk rfl 5 (by decide) w_344 rfl rfl d_Desk_transform_22 ?_
    refine lv_iload_n hx hb d_Desk_transform_25 rfl (lv_at hl 1 rfl) ?_
    refine lv_iload_n hx hb d_Desk_transform_26 rfl (lv_at hl 2 rfl) ?_
    refine q_cV (rest := []) E ((c_Polys_interpolate l g (nJ b) (b + 470) (b + 162) (b + 478) (kFr b) mr (kY b) (kV b) (b + 1) (kSc b) a k hk5 ha).up nJ_D) w_874 w_14 w_871 w_872 w_873 hd_Polys_interpolate rfl ⟨by decide, by decide⟩ (OB.recv E.2.2.2.2.2 (by rfl) hd.x.po.1) (⟨hd.x.po, hd.x.rs⟩) hF hl.1 rfl (Nat.le_of_ble_eq_true rfl) d_Desk_transform_27 ⟨by decide, by decide⟩ (qv (fun H3 locs hq hF => ?_))
    have hd := hd.kj hK hq (fun q h => h)
    refine lv_goto (tgt := 46) hx hb d_Desk_transform_30 (by decide) ?_
    exact q_vret E hr hlk (⟨rfl, hd⟩) hF d_Desk_transform_46
set_option maxHeartbeats 4000000 in
set_option maxRecDepth 100000 in
theorem G_Desk_lagrange (l : Launch) (g : WG) (b pn tn wn : Nat) (mr mq : Int64) (a k i z : Nat) (hk5 : k < 5) (hi : i < 2 ^ k) (ha : a < 32) (hz : z < 32) : Ctr l y_Desk_lagrange (.code y_Desk_lagrange prog_1_method_21_code 5 none) 6 208 0 0 (nD b) g [.ref b, .int (nI a), .int (nI k), .int (nI i), .int (nI z)] (fun H => DS g H H b pn tn wn mr mq) (QV (fun H H' => DS g H H' b pn tn wn mr mq)) := by
  refine ctr_mk l (lv0 := [(0, .ref b), (1, .int (nI a)), (2, .int (nI k)), (3, .int (nI i)), (4, .int (nI z))]) (by decide) (Nat.le_of_ble_eq_true rfl) rfl ?_
  intro p e s m below meth c ls E hr hlk hnm hl hP
  have hx := E.1
  have hb := E.2.1
  have hK := E.2.2.2.2.2
  have hF : ∀ q ∈ ([] : List Loc), nD b q.base := fun q hq => absurd hq List.not_mem_nil
  have hd := hP
  refine lv_iload_n hx hb d_Desk_lagrange_0 rfl (lv_at hl 2 rfl) ?_
  refine lv_iconst (v := nI 0) hx hb d_Desk_lagrange_1 (by decide) ?_
  refine lv_iconst (v := nI 4) hx hb d_Desk_lagrange_2 (by decide) ?_
  refine q_cS (rest := []) E (c_Desk_needCount l g (nD b) (nI k) (nI 0) (nI 4) (okC_of (Nat.zero_le _) (Nat.le_of_lt_succ hk5) (by decide))) w_798 w_1 w_796 w_797 hd_Desk_needCount rfl ⟨by decide, by decide⟩ trivial hF hl.1 rfl (Nat.le_of_ble_eq_true rfl) d_Desk_lagrange_3 ⟨by decide, by decide⟩ (qv (fun H1 locs hq hF => ?_))
  have hq := hq.symm
  subst hq
  refine lv_iload_n hx hb d_Desk_lagrange_6 rfl (lv_at hl 3 rfl) ?_
  refine lv_iconst (v := nI 0) hx hb d_Desk_lagrange_7 (by decide) ?_
  refine lv_iconst (v := nI 1) hx hb d_Desk_lagrange_8 (by decide) ?_
  refine lv_iload_n hx hb d_Desk_lagrange_9 rfl (lv_at hl 2 rfl) ?_
  refine lv_ishl hx hb d_Desk_lagrange_10 ?_
  refine lv_iconst (v := nI 1) hx hb d_Desk_lagrange_11 (by decide) ?_
  refine lv_isub hx hb d_Desk_lagrange_12 ?_
  refine q_cS (rest := []) E (c_Desk_needCount l g (nD b) (nI i) (nI 0) (((nI 1) <<< ((nI k) &&& 31)) - (nI 1)) (lg_ok hk5 hi)) w_798 w_1 w_796 w_797 hd_Desk_needCount rfl ⟨by decide, by decide⟩ trivial hF hl.1 rfl (Nat.le_of_ble_eq_true rfl) d_Desk_lagrange_13 ⟨by decide, by decide⟩ (qv (fun H2 locs hq hF => ?_))
  have hq := hq.symm
  subst hq
  refine lv_iload_n hx hb d_Desk_lagrange_16 rfl (lv_at hl 1 rfl) ?_
  refine lv_iconst (v := nI 1) hx hb d_Desk_lagrange_17 (by decide) ?_
  refine q_cS (rest := []) E (c_Desk_needScalars l g (nD b) (nI a) (nI 1) (okS_of (by decide) ha)) w_494 w_1 w_492 w_493 hd_Desk_needScalars rfl ⟨by decide, by decide⟩ trivial hF hl.1 rfl (Nat.le_of_ble_eq_true rfl) d_Desk_lagrange_18 ⟨by decide, by decide⟩ (qv (fun H3 locs hq hF => ?_))
  have hq := hq.symm
  subst hq
  refine lv_iload hx hb d_Desk_lagrange_21 (lv_at hl 4 rfl) ?_
  refine lv_iconst (v := nI 1) hx hb d_Desk_lagrange_23 (by decide) ?_
  refine q_cS (rest := []) E (c_Desk_needScalars l g (nD b) (nI z) (nI 1) (okS_of (by decide) hz)) w_494 w_1 w_492 w_493 hd_Desk_needScalars rfl ⟨by decide, by decide⟩ trivial hF hl.1 rfl (Nat.le_of_ble_eq_true rfl) d_Desk_lagrange_24 ⟨by decide, by decide⟩ (qv (fun H4 locs hq hF => ?_))
  have hq := hq.symm
  subst hq
  refine lv_aload_n hx hb d_Desk_lagrange_27 rfl (lv_at hl 0 rfl) ?_
  refine q_get (C := "KateDesk") (T := T_Desk) (N := 16) (ci := 5) E hd.x.ob in_Desk rfl 0 (by decide) w_339 rfl rfl d_Desk_lagrange_28 ?_
  refine lv_aload_n hx hb d_Desk_lagrange_31 rfl (lv_at hl 0 rfl) ?_
  refine q_get (C := "KateDesk") (T := T_Desk) (N := 16) (ci := 5) E hd.x.ob in_Desk rfl 15 (by decide) w_354 rfl rfl d_Desk_lagrange_32 ?_
  refine lv_aload_n hx hb d_Desk_lagrange_35 rfl (lv_at hl 0 rfl) ?_
  refine q_get (C := "KateDesk") (T := T_Desk) (N := 16) (ci := 5) E hd.x.ob in_Desk rfl 5 (by decide) w_344 rfl rfl d_Desk_lagrange_36 ?_
  refine lv_iload hx hb d_Desk_lagrange_39 (lv_at hl 4 rfl) ?_
  refine q_aald (t := 4) E rfl rfl hd.x.rs.1 z rfl hz (by decide) d_Desk_lagrange_41 ?_
  refine q_cV (rest := []) E ((c_Field_lift l g (nJ b) (b + 162) (b + 161) (kSc b z) (kFr b) mr).up nJ_D) w_302 w_4 w_336 w_300 w_301 hd_Field_lift rfl ⟨by decide, by decide⟩ (OB.recv E.2.2.2.2.2 (by rfl) ((hd.x.fr).1)) (⟨hd.x.fr, hd.x.fa, (hd.x.rs.2 z hz)⟩) hF hl.1 rfl (Nat.le_of_ble_eq_true rfl) d_Desk_lagrange_42 ⟨by decide, by decide⟩ (qv (fun H5 locs hq hF => ?_))
  have hd := hd.kj hK hq (fun q h => h ▸ (hd.x.fa).1)
  refine lv_aload_n hx hb d_Desk_lagrange_45 rfl (lv_at hl 0 rfl) ?_
  refine q_get (C := "KateDesk") (T := T_Desk) (N := 16) (ci := 5) E hd.x.ob in_Desk rfl 4 (by decide) w_343 rfl rfl d_Desk_lagrange_46 ?_
  refine lv_aload_n hx hb d_Desk_lagrange_49 rfl (lv_at hl 0 rfl) ?_
  refine q_get (C := "KateDesk") (T := T_Desk) (N := 16) (ci := 5) E hd.x.ob in_Desk rfl 5 (by decide) w_344 rfl rfl d_Desk_lagrange_50 ?_
  refine lv_iload_n hx hb d_Desk_lagrange_53 rfl (lv_at hl 1 rfl) ?_
  refine q_aald (t := 4) E rfl rfl hd.x.rs.1 a rfl ha (by decide) d_Desk_lagrange_54 ?_
  refine lv_iload_n hx hb d_Desk_lagrange_55 rfl (lv_at hl 2 rfl) ?_
  refine lv_iload_n hx hb d_Desk_lagrange_56 rfl (lv_at hl 3 rfl) ?_
  refine lv_aload_n hx hb d_Desk_lagrange_57 rfl (lv_at hl 0 rfl) ?_
  refine q_get (C := "KateDesk") (T := T_Desk) (N := 16) (ci := 5) E hd.x.ob in_Desk rfl 15 (by decide) w_354 rfl rfl d_Desk_lagrange_58 ?_
  refine q_cV (rest := []) E ((c_Polys_basis l g (nJ b) (b + 470) (b + 162) (b + 478) (kFr b) mr (kY b) (kV b) (kSc b a) (b + 161) k i hk5 hi).up nJ_D) w_898 w_14 w_895 w_896 w_897 hd_Polys_basis rfl ⟨by decide, by decide⟩ (OB.recv E.2.2.2.2.2 (by rfl) hd.x.po.1) (⟨hd.x.po, (hd.x.rs.2 a ha), hd.x.fa⟩) hF hl.1 rfl (Nat.le_of_ble_eq_true rfl) d_Desk_lagrange_61 ⟨by decide, by decide⟩ (qv (fun H6 locs hq hF => ?_))
  have hd := hd.kj hK hq (fun q h => h)
  exact q_vret E hr hlk (⟨rfl, hd⟩) hF d_Desk_lagrange_64
set_option maxHeartbeats 4000000 in
set_option maxRecDepth 100000 in
theorem G_Desk_combine (l : Launch) (g : WG) (b pn tn wn : Nat) (mr mq : Int64) (a a2 a3 n : Nat) (ha : a < 12) (hn : n ≤ 12) (h2 : 0 < n → a2 + n ≤ 32) (h3 : 0 < n → a3 + n ≤ 12) : Ctr l y_Desk_combine (.code y_Desk_combine prog_1_method_14_code 6 none) 6 234 0 0 (nD b) g [.ref b, .int (nI a), .int (nI a2), .int (nI a3), .int (nI n)] (fun H => DS g H H b pn tn wn mr mq) (QV (fun H H' => DS g H H' b pn tn wn mr mq)) := by
  refine ctr_mk l (lv0 := [(0, .ref b), (1, .int (nI a)), (2, .int (nI a2)), (3, .int (nI a3)), (4, .int (nI n))]) (by decide) (Nat.le_of_ble_eq_true rfl) rfl ?_
  intro p e s m below meth c ls E hr hlk hnm hl hP
  have hx := E.1
  have hb := E.2.1
  have hK := E.2.2.2.2.2
  have hF : ∀ q ∈ ([] : List Loc), nD b q.base := fun q hq => absurd hq List.not_mem_nil
  have hd := hP
  have lp : ∀ (k : Nat) (i : Nat) (H : Heap) (locs : List Loc) (ls : Array Slot), i + k = n → DS g s.heap H b pn tn wn mr mq → (∀ q ∈ locs, nD b q.base) → lv_has ls 6 [(5, .int (nI i)), (0, .ref b), (1, .int (nI a)), (2, .int (nI a2)), (3, .int (nI a3)), (4, .int (nI n))] → W p l e { frames := 6, cells := 0, slots := 0, locals := 234 } s m [.ref b, .int (nI a), .int (nI a2), .int (nI a3), .int (nI n)].toArray below meth c H locs 0 0 (MQ below (QcP (QV (fun H H' => DS g H H' b pn tn wn mr mq))) [.ref b, .int (nI a), .int (nI a2), .int (nI a3), .int (nI n)].toArray s 0 0 (fun q => nD b q)) (F0 m 28 ls []) := by
    intro k
    induction k with
    | zero =>
      intro  i   H   locs   ls hi hd hF hl
      obtain rfl : i = n := by omega
      refine lv_iload hx hb d_Desk_combine_28 (lv_at hl 0 rfl) ?_
      refine lv_iload hx hb d_Desk_combine_30 (lv_at hl 5 rfl) ?_
      refine lv_icmp_ge (tgt := 68) hx hb d_Desk_combine_32 (by decide) (fun _ => ?_) (fun h9 => absurd (nI_le (Nat.le_refl _) (by omega)) h9)
      refine lv_aload_n hx hb d_Desk_combine_68 rfl (lv_at hl 1 rfl) ?_
      refine q_get (C := "KateDesk") (T := T_Desk) (N := 16) (ci := 5) E hd.x.ob in_Desk rfl 2 (by decide) w_341 rfl rfl d_Desk_combine_69 ?_
      refine lv_aload_n hx hb d_Desk_combine_72 rfl (lv_at hl 1 rfl) ?_
      refine q_get (C := "KateDesk") (T := T_Desk) (N := 16) (ci := 5) E hd.x.ob in_Desk rfl 6 (by decide) w_345 rfl rfl d_Desk_combine_73 ?_
      refine lv_iload_n hx hb d_Desk_combine_76 rfl (lv_at hl 2 rfl) ?_
      refine q_aald (t := 3) E rfl rfl hd.x.pa a rfl ha (by decide) d_Desk_combine_77 ?_
      refine lv_iload hx hb d_Desk_combine_78 (lv_at hl 5 rfl) ?_
      refine q_cV (rest := []) E ((v_Sums_total l g (nJ b) (b + 186) (b + 176) (b + 187) (b + 444) (b + 461) (b + 462) (b + 463) (b + 464) (b + 169) (kFq b) mq (kX b) (kO b) (kO1 b) (kO2 b) (kO3 b) (kDG b) i (kPA b a) (kPA1 b a) (kPA2 b a) (kPA3 b a) (by omega) ne_464 (fun k hk h => h.2.1 (nj_DG hk))).up nJ_D) w_720 w_12 w_717 w_718 w_719 hd_Sums_total rfl ⟨by decide, by decide⟩ (OB.recv E.2.2.2.2.2 (by rfl) hd.x.so.1) (⟨hd.x.so, (hd.x.pt a ha), hd.x.dr, fun k hk => hd.x.dg k (Nat.lt_of_lt_of_le hk (by omega))⟩) hF hl.1 rfl (Nat.le_of_ble_eq_true rfl) d_Desk_combine_80 ⟨by decide, by decide⟩ (qv (fun H1 locs hq hF => ?_))
      have hd := hd.kj hK hq (fun q h => h)
      exact q_vret E hr hlk (⟨rfl, hd⟩) hF d_Desk_combine_83
    | succ k ih =>
      intro  i   H   locs   ls hi hd hF hl
      have hin : i < n := by omega
      refine lv_iload hx hb d_Desk_combine_28 (lv_at hl 0 rfl) ?_
      refine lv_iload hx hb d_Desk_combine_30 (lv_at hl 5 rfl) ?_
      refine lv_icmp_ge (tgt := 68) hx hb d_Desk_combine_32 (by decide) (fun h9 => absurd h9 (nI_ge hin (by omega))) (fun _ => ?_)
      refine lv_aload_n hx hb d_Desk_combine_35 rfl (lv_at hl 1 rfl) ?_
      refine q_get (C := "KateDesk") (T := T_Desk) (N := 16) (ci := 5) E hd.x.ob in_Desk rfl 2 (by decide) w_341 rfl rfl d_Desk_combine_36 ?_
      refine lv_iload hx hb d_Desk_combine_39 (lv_at hl 0 rfl) ?_
      refine lv_aload_n hx hb d_Desk_combine_41 rfl (lv_at hl 1 rfl) ?_
      refine q_get (C := "KateDesk") (T := T_Desk) (N := 16) (ci := 5) E hd.x.ob in_Desk rfl 5 (by decide) w_344 rfl rfl d_Desk_combine_42 ?_
      refine lv_iload_n hx hb d_Desk_combine_45 rfl (lv_at hl 3 rfl) ?_
      refine lv_iload hx hb d_Desk_combine_46 (lv_at hl 0 rfl) ?_
      refine lv_iadd hx hb d_Desk_combine_48 ?_
      refine lv_topi (fun t9 e9 => ?_)
      obtain rfl : t9 = nI (a2 + i) := e9.trans (nI_add _ _)
      refine q_aald (t := 4) E rfl rfl hd.x.rs.1 (a2 + i) rfl (by have := h2 (by omega); omega) (by decide) d_Desk_combine_49 ?_
      refine lv_aload_n hx hb d_Desk_combine_50 rfl (lv_at hl 1 rfl) ?_
      refine q_get (C := "KateDesk") (T := T_Desk) (N := 16) (ci := 5) E hd.x.ob in_Desk rfl 6 (by decide) w_345 rfl rfl d_Desk_combine_51 ?_
      refine lv_iload_n hx hb d_Desk_combine_54 rfl (lv_at hl 4 rfl) ?_
      refine lv_iload hx hb d_Desk_combine_55 (lv_at hl 0 rfl) ?_
      refine lv_iadd hx hb d_Desk_combine_57 ?_
      refine lv_topi (fun t9 e9 => ?_)
      obtain rfl : t9 = nI (a3 + i) := e9.trans (nI_add _ _)
      refine q_aald (t := 3) E rfl rfl hd.x.pa (a3 + i) rfl (by have := h3 (by omega); omega) (by decide) d_Desk_combine_58 ?_
      refine q_cV (rest := []) E (v_Sums_place l g (nD b) (b + 186) (b + 176) (b + 187) (b + 444) (b + 461) (b + 462) (b + 463) (b + 464) (b + 169) (kFq b) mq (kX b) (kO b) (kO1 b) (kO2 b) (kO3 b) (kDG b) (nJ b) i (kSc b (a2 + i)) (kPA b (a3 + i)) (kPA1 b (a3 + i)) (kPA2 b (a3 + i)) (kPA3 b (a3 + i)) (by omega) nJ_D (fun h => h.2.1 (nj_DG (by omega)))) w_677 w_12 w_674 w_675 w_676 hd_Sums_place rfl ⟨by decide, by decide⟩ (OB.recv E.2.2.2.2.2 (by rfl) hd.x.so.1) (⟨hd.x.so, hd.x.dr, ⟨(nx_DG (by omega)).1, (hd.x.dg i (by omega)).imp (fun f hf => hf.1)⟩, ⟨((hd.x.rs.2 (a2 + i) (by have := h2 (by omega); omega))).1.1, ((hd.x.rs.2 (a2 + i) (by have := h2 (by omega); omega))).2⟩, (hd.x.pt (a3 + i) (by have := h3 (by omega); omega))⟩) hF hl.1 rfl (Nat.le_of_ble_eq_true rfl) d_Desk_combine_59 ⟨by decide, by decide⟩ (qv (fun H1 locs hq hF => ?_))
      have hd := hd.digit (by omega) hK hq.1 hq.2
      refine lv_iinc (k := 0) (v := nI (i + 1)) (lv' := [(5, .int (nI (i + 1))), (0, .ref b), (1, .int (nI a)), (2, .int (nI a2)), (3, .int (nI a3)), (4, .int (nI n))]) hx hb d_Desk_combine_62 hl rfl (i_inc i) (by decide) rfl (fun ls hl => ?_)
      refine lv_goto (tgt := 28) hx hb d_Desk_combine_65 (by decide) ?_
      have hl : lv_has ls 6 [(5, .int (nI (i + 1))), (0, .ref b), (1, .int (nI a)), (2, .int (nI a2)), (3, .int (nI a3)), (4, .int (nI n))] := lv_sub hl [0, 1, 2, 3, 4, 5] rfl
      exact ih (i + 1) _ _ ls (by omega) hd hF hl
  refine lv_iload_n hx hb d_Desk_combine_0 rfl (lv_at hl 1 rfl) ?_
  refine lv_iconst (v := nI 1) hx hb d_Desk_combine_1 (by decide) ?_
  refine q_cS (rest := []) E (c_Desk_needPoints l g (nD b) (nI a) (nI 1) (okP_of (by decide) ha)) w_622 w_1 w_620 w_621 hd_Desk_needPoints rfl ⟨by decide, by decide⟩ trivial hF hl.1 rfl (Nat.le_of_ble_eq_true rfl) d_Desk_combine_2 ⟨by decide, by decide⟩ (qv (fun H1 locs hq hF => ?_))
  have hq := hq.symm
  subst hq
  refine lv_iload hx hb d_Desk_combine_5 (lv_at hl 4 rfl) ?_
  refine lv_iconst (v := nI 0) hx hb d_Desk_combine_7 (by decide) ?_
  refine lv_bipush (v := nI 12) hx hb d_Desk_combine_8 (by decide) ?_
  refine q_cS (rest := []) E (c_Desk_needCount l g (nD b) (nI n) (nI 0) (nI 12) (okC_of (Nat.zero_le _) hn (by decide))) w_798 w_1 w_796 w_797 hd_Desk_needCount rfl ⟨by decide, by decide⟩ trivial hF hl.1 rfl (Nat.le_of_ble_eq_true rfl) d_Desk_combine_10 ⟨by decide, by decide⟩ (qv (fun H2 locs hq hF => ?_))
  have hq := hq.symm
  subst hq
  refine lv_iload_n hx hb d_Desk_combine_13 rfl (lv_at hl 2 rfl) ?_
  refine lv_iload hx hb d_Desk_combine_14 (lv_at hl 4 rfl) ?_
  refine q_cS (rest := []) E (c_Desk_needScalars l g (nD b) (nI a2) (nI n) (cm_S h2)) w_494 w_1 w_492 w_493 hd_Desk_needScalars rfl ⟨by decide, by decide⟩ trivial hF hl.1 rfl (Nat.le_of_ble_eq_true rfl) d_Desk_combine_16 ⟨by decide, by decide⟩ (qv (fun H3 locs hq hF => ?_))
  have hq := hq.symm
  subst hq
  refine lv_iload_n hx hb d_Desk_combine_19 rfl (lv_at hl 3 rfl) ?_
  refine lv_iload hx hb d_Desk_combine_20 (lv_at hl 4 rfl) ?_
  refine q_cS (rest := []) E (c_Desk_needPoints l g (nD b) (nI a3) (nI n) (cm_P h3)) w_622 w_1 w_620 w_621 hd_Desk_needPoints rfl ⟨by decide, by decide⟩ trivial hF hl.1 rfl (Nat.le_of_ble_eq_true rfl) d_Desk_combine_22 ⟨by decide, by decide⟩ (qv (fun H4 locs hq hF => ?_))
  have hq := hq.symm
  subst hq
  refine lv_iconst (v := nI 0) hx hb d_Desk_combine_25 (by decide) ?_
  refine lv_istore (lv' := [(5, .int (nI 0)), (0, .ref b), (1, .int (nI a)), (2, .int (nI a2)), (3, .int (nI a3)), (4, .int (nI n))]) hx hb d_Desk_combine_26 hl (by decide) rfl (fun ls hl => ?_)
  have hl : lv_has ls 6 [(5, .int (nI 0)), (0, .ref b), (1, .int (nI a)), (2, .int (nI a2)), (3, .int (nI a3)), (4, .int (nI n))] := lv_sub hl [0, 1, 2, 3, 4, 5] rfl
  exact lp n 0 _ _ ls (by omega) hd hF hl
set_option maxHeartbeats 4000000 in
set_option maxRecDepth 100000 in
theorem G_Desk_commit (l : Launch) (g : WG) (b pn tn wn : Nat) (mr mq : Int64) (a a2 n : Nat) (ha : a < 12) (hn : n ≤ 16) (h2 : 0 < n → a2 + n ≤ 32) (hnp : n ≤ pn) (hp16 : pn ≤ 16) : Ctr l y_Desk_commit (.code y_Desk_commit prog_1_method_17_code 5 none) 6 234 0 0 (nD b) g [.ref b, .int (nI a), .int (nI a2), .int (nI n)] (fun H => DS g H H b pn tn wn mr mq) (QV (fun H H' => DS g H H' b pn tn wn mr mq)) := by
  refine ctr_mk l (lv0 := [(0, .ref b), (1, .int (nI a)), (2, .int (nI a2)), (3, .int (nI n))]) (by decide) (Nat.le_of_ble_eq_true rfl) rfl ?_
  intro p e s m below meth c ls E hr hlk hnm hl hP
  have hx := E.1
  have hb := E.2.1
  have hK := E.2.2.2.2.2
  have hF : ∀ q ∈ ([] : List Loc), nD b q.base := fun q hq => absurd hq List.not_mem_nil
  have hd := hP
  have lp : ∀ (k : Nat) (i : Nat) (H : Heap) (locs : List Loc) (ls : Array Slot), i + k = n → DS g s.heap H b pn tn wn mr mq → (∀ q ∈ locs, nD b q.base) → lv_has ls 5 [(4, .int (nI i)), (0, .ref b), (1, .int (nI a)), (2, .int (nI a2)), (3, .int (nI n))] → W p l e { frames := 6, cells := 0, slots := 0, locals := 234 } s m [.ref b, .int (nI a), .int (nI a2), .int (nI n)].toArray below meth c H locs 0 0 (MQ below (QcP (QV (fun H H' => DS g H H' b pn tn wn mr mq))) [.ref b, .int (nI a), .int (nI a2), .int (nI n)].toArray s 0 0 (fun q => nD b q)) (F0 m 39 ls []) := by
    intro k
    induction k with
    | zero =>
      intro  i   H   locs   ls hi hd hF hl
      obtain rfl : i = n := by omega
      refine lv_iload hx hb d_Desk_commit_39 (lv_at hl 0 rfl) ?_
      refine lv_iload_n hx hb d_Desk_commit_41 rfl (lv_at hl 4 rfl) ?_
      refine lv_icmp_ge (tgt := 76) hx hb d_Desk_commit_42 (by decide) (fun _ => ?_) (fun h9 => absurd (nI_le (Nat.le_refl _) (by omega)) h9)
      refine lv_aload_n hx hb d_Desk_commit_76 rfl (lv_at hl 1 rfl) ?_
      refine q_get (C := "KateDesk") (T := T_Desk) (N := 16) (ci := 5) E hd.x.ob in_Desk rfl 2 (by decide) w_341 rfl rfl d_Desk_commit_77 ?_
      refine lv_aload_n hx hb d_Desk_commit_80 rfl (lv_at hl 1 rfl) ?_
      refine q_get (C := "KateDesk") (T := T_Desk) (N := 16) (ci := 5) E hd.x.ob in_Desk rfl 6 (by decide) w_345 rfl rfl d_Desk_commit_81 ?_
      refine lv_iload_n hx hb d_Desk_commit_84 rfl (lv_at hl 2 rfl) ?_
      refine q_aald (t := 3) E rfl rfl hd.x.pa a rfl ha (by decide) d_Desk_commit_85 ?_
      refine lv_iload_n hx hb d_Desk_commit_86 rfl (lv_at hl 4 rfl) ?_
      refine q_cV (rest := []) E ((v_Sums_total l g (nJ b) (b + 186) (b + 176) (b + 187) (b + 444) (b + 461) (b + 462) (b + 463) (b + 464) (b + 169) (kFq b) mq (kX b) (kO b) (kO1 b) (kO2 b) (kO3 b) (kDG b) i (kPA b a) (kPA1 b a) (kPA2 b a) (kPA3 b a) hn ne_464 (fun k hk h => h.2.1 (nj_DG hk))).up nJ_D) w_720 w_12 w_717 w_718 w_719 hd_Sums_total rfl ⟨by decide, by decide⟩ (OB.recv E.2.2.2.2.2 (by rfl) hd.x.so.1) (⟨hd.x.so, (hd.x.pt a ha), hd.x.dr, fun k hk => hd.x.dg k (Nat.lt_of_lt_of_le hk hn)⟩) hF hl.1 rfl (Nat.le_of_ble_eq_true rfl) d_Desk_commit_87 ⟨by decide, by decide⟩ (qv (fun H1 locs hq hF => ?_))
      have hd := hd.kj hK hq (fun q h => h)
      exact q_vret E hr hlk (⟨rfl, hd⟩) hF d_Desk_commit_90
    | succ k ih =>
      intro  i   H   locs   ls hi hd hF hl
      have hin : i < n := by omega
      refine lv_iload hx hb d_Desk_commit_39 (lv_at hl 0 rfl) ?_
      refine lv_iload_n hx hb d_Desk_commit_41 rfl (lv_at hl 4 rfl) ?_
      refine lv_icmp_ge (tgt := 76) hx hb d_Desk_commit_42 (by decide) (fun h9 => absurd h9 (nI_ge hin (by omega))) (fun _ => ?_)
      refine lv_aload_n hx hb d_Desk_commit_45 rfl (lv_at hl 1 rfl) ?_
      refine q_get (C := "KateDesk") (T := T_Desk) (N := 16) (ci := 5) E hd.x.ob in_Desk rfl 2 (by decide) w_341 rfl rfl d_Desk_commit_46 ?_
      refine lv_iload hx hb d_Desk_commit_49 (lv_at hl 0 rfl) ?_
      refine lv_aload_n hx hb d_Desk_commit_51 rfl (lv_at hl 1 rfl) ?_
      refine q_get (C := "KateDesk") (T := T_Desk) (N := 16) (ci := 5) E hd.x.ob in_Desk rfl 5 (by decide) w_344 rfl rfl d_Desk_commit_52 ?_
      refine lv_iload_n hx hb d_Desk_commit_55 rfl (lv_at hl 3 rfl) ?_
      refine lv_iload hx hb d_Desk_commit_56 (lv_at hl 0 rfl) ?_
      refine lv_iadd hx hb d_Desk_commit_58 ?_
      refine lv_topi (fun t9 e9 => ?_)
      obtain rfl : t9 = nI (a2 + i) := e9.trans (nI_add _ _)
      refine q_aald (t := 4) E rfl rfl hd.x.rs.1 (a2 + i) rfl (by have := h2 (by omega); omega) (by decide) d_Desk_commit_59 ?_
      refine lv_aload_n hx hb d_Desk_commit_60 rfl (lv_at hl 1 rfl) ?_
      refine q_get (C := "KateDesk") (T := T_Desk) (N := 16) (ci := 5) E hd.x.ob in_Desk rfl 7 (by decide) w_346 rfl rfl d_Desk_commit_61 ?_
      refine lv_iload hx hb d_Desk_commit_64 (lv_at hl 0 rfl) ?_
      refine q_aald (t := 3) E rfl rfl hd.x.pw i rfl (by omega) (by decide) d_Desk_commit_66 ?_
      refine q_cV (rest := []) E (v_Sums_place l g (nD b) (b + 186) (b + 176) (b + 187) (b + 444) (b + 461) (b + 462) (b + 463) (b + 464) (b + 169) (kFq b) mq (kX b) (kO b) (kO1 b) (kO2 b) (kO3 b) (kDG b) (nJ b) i (kSc b (a2 + i)) (kPW b i) (kPW1 b i) (kPW2 b i) (kPW3 b i) (by omega) nJ_D (fun h => h.2.1 (nj_DG (by omega)))) w_677 w_12 w_674 w_675 w_676 hd_Sums_place rfl ⟨by decide, by decide⟩ (OB.recv E.2.2.2.2.2 (by rfl) hd.x.so.1) (⟨hd.x.so, hd.x.dr, ⟨(nx_DG (by omega)).1, (hd.x.dg i (by omega)).imp (fun f hf => hf.1)⟩, ⟨((hd.x.rs.2 (a2 + i) (by have := h2 (by omega); omega))).1.1, ((hd.x.rs.2 (a2 + i) (by have := h2 (by omega); omega))).2⟩, (hd.x.pq i (by omega))⟩) hF hl.1 rfl (Nat.le_of_ble_eq_true rfl) d_Desk_commit_67 ⟨by decide, by decide⟩ (qv (fun H1 locs hq hF => ?_))
      have hd := hd.digit (by omega) hK hq.1 hq.2
      refine lv_iinc (k := 0) (v := nI (i + 1)) (lv' := [(4, .int (nI (i + 1))), (0, .ref b), (1, .int (nI a)), (2, .int (nI a2)), (3, .int (nI n))]) hx hb d_Desk_commit_70 hl rfl (i_inc i) (by decide) rfl (fun ls hl => ?_)
      refine lv_goto (tgt := 39) hx hb d_Desk_commit_73 (by decide) ?_
      have hl : lv_has ls 5 [(4, .int (nI (i + 1))), (0, .ref b), (1, .int (nI a)), (2, .int (nI a2)), (3, .int (nI n))] := lv_sub hl [0, 1, 2, 3, 4] rfl
      exact ih (i + 1) _ _ ls (by omega) hd hF hl
  refine lv_iload_n hx hb d_Desk_commit_0 rfl (lv_at hl 1 rfl) ?_
  refine lv_iconst (v := nI 1) hx hb d_Desk_commit_1 (by decide) ?_
  refine q_cS (rest := []) E (c_Desk_needPoints l g (nD b) (nI a) (nI 1) (okP_of (by decide) ha)) w_622 w_1 w_620 w_621 hd_Desk_needPoints rfl ⟨by decide, by decide⟩ trivial hF hl.1 rfl (Nat.le_of_ble_eq_true rfl) d_Desk_commit_2 ⟨by decide, by decide⟩ (qv (fun H1 locs hq hF => ?_))
  have hq := hq.symm
  subst hq
  refine lv_iload_n hx hb d_Desk_commit_5 rfl (lv_at hl 3 rfl) ?_
  refine lv_iconst (v := nI 0) hx hb d_Desk_commit_6 (by decide) ?_
  refine lv_bipush (v := nI 16) hx hb d_Desk_commit_7 (by decide) ?_
  refine q_cS (rest := []) E (c_Desk_needCount l g (nD b) (nI n) (nI 0) (nI 16) (okC_of (Nat.zero_le _) hn (by decide))) w_798 w_1 w_796 w_797 hd_Desk_needCount rfl ⟨by decide, by decide⟩ trivial hF hl.1 rfl (Nat.le_of_ble_eq_true rfl) d_Desk_commit_9 ⟨by decide, by decide⟩ (qv (fun H2 locs hq hF => ?_))
  have hq := hq.symm
  subst hq
  refine lv_iload_n hx hb d_Desk_commit_12 rfl (lv_at hl 2 rfl) ?_
  refine lv_iload_n hx hb d_Desk_commit_13 rfl (lv_at hl 3 rfl) ?_
  refine q_cS (rest := []) E (c_Desk_needScalars l g (nD b) (nI a2) (nI n) (cm_S h2)) w_494 w_1 w_492 w_493 hd_Desk_needScalars rfl ⟨by decide, by decide⟩ trivial hF hl.1 rfl (Nat.le_of_ble_eq_true rfl) d_Desk_commit_14 ⟨by decide, by decide⟩ (qv (fun H3 locs hq hF => ?_))
  have hq := hq.symm
  subst hq
  refine lv_aload_n hx hb d_Desk_commit_17 rfl (lv_at hl 0 rfl) ?_
  refine q_get (C := "KateDesk") (T := T_Desk) (N := 16) (ci := 5) E hd.x.ob in_Desk rfl 8 (by decide) w_347 rfl rfl d_Desk_commit_18 ?_
  refine lv_iload_n hx hb d_Desk_commit_21 rfl (lv_at hl 3 rfl) ?_
  refine lv_icmp_ge (tgt := 36) hx hb d_Desk_commit_22 (by decide) (fun _ => ?_) (fun h9 => absurd (nI_le hnp (by omega)) h9)
  refine lv_iconst (v := nI 0) hx hb d_Desk_commit_36 (by decide) ?_
  refine lv_istore (lv' := [(4, .int (nI 0)), (0, .ref b), (1, .int (nI a)), (2, .int (nI a2)), (3, .int (nI n))]) hx hb d_Desk_commit_37 hl (by decide) rfl (fun ls hl => ?_)
  have hl : lv_has ls 5 [(4, .int (nI 0)), (0, .ref b), (1, .int (nI a)), (2, .int (nI a2)), (3, .int (nI n))] := lv_sub hl [0, 1, 2, 3, 4] rfl
  exact lp n 0 _ _ ls (by omega) hd hF hl
