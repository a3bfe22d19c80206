theorem ny_Fr {b k : Nat} (hk : k < 6) : kFr b k ≠ b := by unfold kFr; split <;> omega
theorem ny_Fq {b k : Nat} (hk : k < 6) : kFq b k ≠ b := by unfold kFq; split <;> omega
theorem ny_X {b k : Nat} (hk : k < 9) : kX b k ≠ b := by unfold kX; omega
theorem ny_DG {b k : Nat} (hk : k < 16) : kDG b k ≠ b := by unfold kDG; omega
theorem ny_Y {b k : Nat} (hk : k < 7) : kY b k ≠ b := by unfold kY; omega
theorem ny_V {b k : Nat} (hk : k < 16) : kV b k ≠ b := by unfold kV; omega
theorem ny_Sc {b k : Nat} (hk : k < 32) : kSc b k ≠ b := by unfold kSc; omega
theorem ny_O {b k : Nat} (hk : k < 64) : kO b k ≠ b ∧ kO1 b k ≠ b ∧ kO2 b k ≠ b ∧ kO3 b k ≠ b := by unfold kO kO1 kO2 kO3; omega
theorem ny_PA {b k : Nat} (hk : k < 12) : kPA b k ≠ b ∧ kPA1 b k ≠ b ∧ kPA2 b k ≠ b ∧ kPA3 b k ≠ b := by unfold kPA kPA1 kPA2 kPA3; omega
theorem ny_PW {b k : Nat} (hk : k < 16) : kPW b k ≠ b ∧ kPW1 b k ≠ b ∧ kPW2 b k ≠ b ∧ kPW3 b k ≠ b := by unfold kPW kPW1 kPW2 kPW3; omega
theorem DX0.onb {g : WG} {H H' : Heap} {b p p2 : Nat} {mr mq : Int64} (d : DX0 g H b p mr mq) (he : ∀ q, nX b q → q ≠ b → H'[q]? = H[q]?) (ho : OB g H' b 5 [.ref (b + 162), .ref (b + 176), .ref (b + 186), .ref (b + 465), .ref (b + 470), .ref (b + 1), .ref (b + 34), .ref (b + 83), .int (nI p2), .ref (b + 148), .ref (b + 150), .ref (b + 495), .ref (b + 152), .ref (b + 156), .ref (b + 160), .ref (b + 161)]) : DX0 g H' b p2 mr mq := by
  have ec : ∀ c : Nat, (c ≤ 500 ∧ ¬ (148 ≤ c ∧ c ≤ 151) ∧ 0 < c) → H'[b + c]? = H[b + c]? := fun c h => he _ (nx_c ⟨h.1, h.2.1⟩) (by omega)
  exact ⟨ho, d.fr.onE (ec 162 (by decide)) (fun k hk => he _ (nx_Fr hk) (ny_Fr hk)), ⟨d.so.1.eq (ec 186 (by decide)), ⟨d.so.2.1.1.eq (ec 176 (by decide)), d.so.2.1.2.1.onE (ec 169 (by decide)) (fun k hk => he _ (nx_Fq hk) (ny_Fq hk)), fun k hk => (d.so.2.1.2.2 k hk).on (he _ (nx_X hk) (ny_X hk))⟩, d.so.2.2.1.on (ec 461 (by decide)) (ec 462 (by decide)) (ec 463 (by decide)) (ec 464 (by decide)), d.so.2.2.2.1.eq (ec 187 (by decide)), fun k hk => (d.so.2.2.2.2 k hk).on (he _ (nx_O hk).1 (ny_O hk).1) (he _ (nx_O hk).2.1 (ny_O hk).2.1) (he _ (nx_O hk).2.2.1 (ny_O hk).2.2.1) (he _ (nx_O hk).2.2.2 (ny_O hk).2.2.2)⟩, d.dr.eq (ec 444 (by decide)), fun k hk => (d.dg k hk).imp (fun f hf => ⟨hf.1.eq (he _ (nx_DG hk) (ny_DG hk)), hf.2⟩), ⟨d.po.1.eq (ec 470 (by decide)), d.po.2.1.onE (ec 162 (by decide)) (fun k hk => he _ (nx_Fr hk) (ny_Fr hk)), fun k hk => (d.po.2.2.1 k hk).on (he _ (nx_Y hk) (ny_Y hk)), d.po.2.2.2.1.eq (ec 478 (by decide)), fun k hk => (d.po.2.2.2.2 k hk).on (he _ (nx_V hk) (ny_V hk))⟩, ⟨d.rs.1.eq (ec 1 (by decide)), fun k hk => (d.rs.2 k hk).on (he _ (nx_Sc hk) (ny_Sc hk))⟩, d.pa.eq (ec 34 (by decide)), fun k hk => (d.pt k hk).on (he _ (nx_PA hk).1 (ny_PA hk).1) (he _ (nx_PA hk).2.1 (ny_PA hk).2.1) (he _ (nx_PA hk).2.2.1 (ny_PA hk).2.2.1) (he _ (nx_PA hk).2.2.2 (ny_PA hk).2.2.2), d.pw.eq (ec 83 (by decide)), fun k hk => (d.pq k hk).on (he _ (nx_PW hk).1 (ny_PW hk).1) (he _ (nx_PW hk).2.1 (ny_PW hk).2.1) (he _ (nx_PW hk).2.2.1 (ny_PW hk).2.2.1) (he _ (nx_PW hk).2.2.2 (ny_PW hk).2.2.2), d.hp.on (ec 152 (by decide)) (ec 153 (by decide)) (ec 154 (by decide)) (ec 155 (by decide)), d.mu.on (ec 156 (by decide)) (ec 157 (by decide)) (ec 158 (by decide)) (ec 159 (by decide)), d.hs.on (ec 160 (by decide)), d.fa.on (ec 161 (by decide)), ⟨d.fm.1.eq (ec 465 (by decide)), ⟨d.fm.2.1.1.eq (ec 176 (by decide)), d.fm.2.1.2.1.onE (ec 169 (by decide)) (fun k hk => he _ (nx_Fq hk) (ny_Fq hk)), fun k hk => (d.fm.2.1.2.2 k hk).on (he _ (nx_X hk) (ny_X hk))⟩, d.fm.2.2.1.on (ec 466 (by decide)), d.fm.2.2.2.1.on (ec 467 (by decide)), d.fm.2.2.2.2.1.on (ec 468 (by decide)), d.fm.2.2.2.2.2.on (ec 469 (by decide))⟩, d.ge.on (ec 495 (by decide)) (ec 496 (by decide)) (ec 497 (by decide)) (ec 498 (by decide))⟩
theorem DS.pow {g : WG} {H0 H H' : Heap} {b p t w p2 : Nat} {mr mq : Int64} (d : DS g H0 H b p t w mr mq) (h : FRM (fun q => q = b) H H') (ho : OB g H' b 5 [.ref (b + 162), .ref (b + 176), .ref (b + 186), .ref (b + 465), .ref (b + 470), .ref (b + 1), .ref (b + 34), .ref (b + 83), .int (nI p2), .ref (b + 148), .ref (b + 150), .ref (b + 495), .ref (b + 152), .ref (b + 156), .ref (b + 160), .ref (b + 161)]) (h16 : p2 ≤ 16) : DS g H0 H' b p2 t w mr mq := ⟨d.1.tr (h.mono (fun q h => by subst h; exact ⟨Nat.le_refl _, Nat.le_add_right _ _⟩)), d.2.1.onb (fun q _ hn => h.2 q hn) ho, d.2.2.1.frm h (by omega) (by omega), d.2.2.2.1.frm h (by omega) (by omega), h16, d.2.2.2.2.2⟩
abbrev y_Desk_isGood : MethodName := ⟨"KateDesk", "isGood", "(LKateDesk$Point;)Z"⟩
theorem hd_Desk_isGood : y_Desk_isGood.cls ≠ "java/lang/invoke/MethodHandle" ∧ y_Desk_isGood.cls ≠ "java/lang/invoke/VarHandle" ∧ (parseMethodDescriptor y_Desk_isGood.desc).map (fun d => d.parameters.length) = some 1 := by decide +kernel
theorem d_Desk_isGood_0 : decode prog_1_method_29_code 0 = .ok (.aload_n 0, 1) := by decide +kernel
theorem d_Desk_isGood_1 : decode prog_1_method_29_code 1 = .ok (.getfield 85, 3) := by decide +kernel
theorem d_Desk_isGood_4 : decode prog_1_method_29_code 4 = .ok (.iconst 0, 1) := by decide +kernel
theorem d_Desk_isGood_5 : decode prog_1_method_29_code 5 = .ok (.aload_n 0, 1) := by decide +kernel
theorem d_Desk_isGood_6 : decode prog_1_method_29_code 6 = .ok (.getfield 72, 3) := by decide +kernel
theorem d_Desk_isGood_9 : decode prog_1_method_29_code 9 = .ok (.getfield 145, 3) := by decide +kernel
theorem d_Desk_isGood_12 : decode prog_1_method_29_code 12 = .ok (.aload_n 1, 1) := by decide +kernel
theorem d_Desk_isGood_13 : decode prog_1_method_29_code 13 = .ok (.invokevirtual 239, 3) := by decide +kernel
theorem d_Desk_isGood_16 : decode prog_1_method_29_code 16 = .ok (.aload_n 0, 1) := by decide +kernel
theorem d_Desk_isGood_17 : decode prog_1_method_29_code 17 = .ok (.getfield 85, 3) := by decide +kernel
theorem d_Desk_isGood_20 : decode prog_1_method_29_code 20 = .ok (.aload_n 0, 1) := by decide +kernel
theorem d_Desk_isGood_21 : decode prog_1_method_29_code 21 = .ok (.getfield 48, 3) := by decide +kernel
theorem d_Desk_isGood_24 : decode prog_1_method_29_code 24 = .ok (.iconst 1, 1) := by decide +kernel
theorem d_Desk_isGood_25 : decode prog_1_method_29_code 25 = .ok (.invokevirtual 243, 3) := by decide +kernel
theorem d_Desk_isGood_28 : decode prog_1_method_29_code 28 = .ok (.aload_n 0, 1) := by decide +kernel
theorem d_Desk_isGood_29 : decode prog_1_method_29_code 29 = .ok (.getfield 48, 3) := by decide +kernel
theorem d_Desk_isGood_32 : decode prog_1_method_29_code 32 = .ok (.invokevirtual 309, 3) := by decide +kernel
theorem d_Desk_isGood_35 : decode prog_1_method_29_code 35 = .ok (.ireturn, 1) := by decide +kernel
set_option maxHeartbeats 4000000 in
set_option maxRecDepth 100000 in
theorem G_Desk_spreadGenerator (l : Launch) (g : WG) (b pn tn wn : Nat) (mr mq : Int64)  : Ctr l y_Desk_spreadGenerator (.code y_Desk_spreadGenerator prog_1_method_30_code 3 none) 5 211 0 0 (nD b) g [.ref b] (fun H => DS g H H b pn tn wn mr mq) (QV (fun H H' => DS g H H' b pn tn wn mr mq)) := by
  refine ctr_mk l (lv0 := [(0, .ref b)]) (by decide) (Nat.le_of_ble_eq_true rfl) rfl ?_
  intro p e s m below meth c ls E hr hlk hnm hl hP
  have hx := E.1
  have hb := E.2.1
  have hK := E.2.2.2.2.2
  have hF : ∀ q ∈ ([] : List Loc), nD b q.base := fun q hq => absurd hq List.not_mem_nil
  have hd := hP
  have lp : ∀ (k : Nat) (i : Nat) (H : Heap) (locs : List Loc) (ls : Array Slot), i + k = 4 → DS g s.heap H b pn tn wn mr mq → (∀ q ∈ locs, nD b q.base) → lv_has ls 3 [(1, .int (nI i)), (0, .ref b)] → W p l e { frames := 5, cells := 0, slots := 0, locals := 211 } s m [.ref b].toArray below meth c H locs 0 0 (MQ below (QcP (QV (fun H H' => DS g H H' b pn tn wn mr mq))) [.ref b].toArray s 0 0 (fun q => nD b q)) (F0 m 13 ls []) := by
    intro k
    induction k with
    | zero =>
      intro  i   H   locs   ls hi hd hF hl
      obtain rfl : i = 4 := by omega
      refine lv_iload_n hx hb d_Desk_spreadGenerator_13 rfl (lv_at hl 0 rfl) ?_
      refine lv_iconst (v := nI 4) hx hb d_Desk_spreadGenerator_14 (by decide) ?_
      refine lv_icmp_ge (tgt := 70) hx hb d_Desk_spreadGenerator_15 (by decide) (fun _ => ?_) (fun h9 => absurd (by decide) h9)
      exact q_vret E hr hlk (⟨rfl, hd⟩) hF d_Desk_spreadGenerator_70
    | succ k ih =>
      intro  i   H   locs   ls hi hd hF hl
      have hi4 : i < 4 := by omega
      have inner : ∀ (k2 : Nat) (j : Nat) (H : Heap) (locs : List Loc) (ls : Array Slot), j + k2 = 64 → DS g s.heap H b pn tn wn mr mq → (∀ q ∈ locs, nD b q.base) → lv_has ls 3 [(2, .int (nI j)), (1, .int (nI i)), (0, .ref b)] → W p l e { frames := 5, cells := 0, slots := 0, locals := 211 } s m [.ref b].toArray below meth c H locs 0 0 (MQ below (QcP (QV (fun H H' => DS g H H' b pn tn wn mr mq))) [.ref b].toArray s 0 0 (fun q => nD b q)) (F0 m 32 ls []) := by
        intro k2
        induction k2 with
        | zero =>
          intro  j   H   locs   ls hj hd hF hl
          obtain rfl : j = 64 := by omega
          refine lv_iload_n hx hb d_Desk_spreadGenerator_32 rfl (lv_at hl 0 rfl) ?_
          refine lv_bipush (v := nI 64) hx hb d_Desk_spreadGenerator_33 (by decide) ?_
          refine lv_icmp_ge (tgt := 64) hx hb d_Desk_spreadGenerator_35 (by decide) (fun _ => ?_) (fun h9 => absurd (by decide) h9)
          refine lv_iinc (k := 1) (v := nI (i + 1)) (lv' := [(1, .int (nI (i + 1))), (2, .int (nI 64)), (0, .ref b)]) hx hb d_Desk_spreadGenerator_64 hl rfl (i_inc i) (by decide) rfl (fun ls hl => ?_)
          refine lv_goto (tgt := 13) hx hb d_Desk_spreadGenerator_67 (by decide) ?_
          have hl : lv_has ls 3 [(1, .int (nI (i + 1))), (0, .ref b)] := lv_sub hl [0, 2] rfl
          exact ih (i + 1) _ _ ls (by omega) hd hF hl
        | succ k2 ih2 =>
          intro  j   H   locs   ls hj hd hF hl
          refine lv_iload_n hx hb d_Desk_spreadGenerator_32 rfl (lv_at hl 0 rfl) ?_
          refine lv_bipush (v := nI 64) hx hb d_Desk_spreadGenerator_33 (by decide) ?_
          refine lv_icmp_ge (tgt := 64) hx hb d_Desk_spreadGenerator_35 (by decide) (fun h9 => absurd h9 (nI_ge (by omega) (by decide))) (fun _ => ?_)
          refine lv_iload_n hx hb d_Desk_spreadGenerator_38 rfl (lv_at hl 1 rfl) ?_
          refine lv_iconst (v := nI 3) hx hb d_Desk_spreadGenerator_39 (by decide) ?_
          refine lv_icmp_ge (tgt := 64) hx hb d_Desk_spreadGenerator_40 (by decide) (fun _ => ?_) (fun _ => ?_)
          · skip
            refine lv_iinc (k := 1) (v := nI (i + 1)) (lv' := [(1, .int (nI (i + 1))), (2, .int (nI j)), (0, .ref b)]) hx hb d_Desk_spreadGenerator_64 hl rfl (i_inc i) (by decide) rfl (fun ls hl => ?_)
            refine lv_goto (tgt := 13) hx hb d_Desk_spreadGenerator_67 (by decide) ?_
            have hl : lv_has ls 3 [(1, .int (nI (i + 1))), (0, .ref b)] := lv_sub hl [0, 2] rfl
            exact ih (i + 1) _ _ ls (by omega) hd hF hl
          · skip
            refine lv_aload_n hx hb d_Desk_spreadGenerator_43 rfl (lv_at hl 2 rfl) ?_
            refine q_get (C := "KateDesk") (T := T_Desk) (N := 16) (ci := 5) E hd.x.ob in_Desk rfl 1 (by decide) w_340 rfl rfl d_Desk_spreadGenerator_44 ?_
            refine lv_aload_n hx hb d_Desk_spreadGenerator_47 rfl (lv_at hl 2 rfl) ?_
            refine q_get (C := "KateDesk") (T := T_Desk) (N := 16) (ci := 5) E hd.x.ob in_Desk rfl 12 (by decide) w_351 rfl rfl d_Desk_spreadGenerator_48 ?_
            refine lv_aload_n hx hb d_Desk_spreadGenerator_51 rfl (lv_at hl 2 rfl) ?_
            refine q_get (C := "KateDesk") (T := T_Desk) (N := 16) (ci := 5) E hd.x.ob in_Desk rfl 12 (by decide) w_351 rfl rfl d_Desk_spreadGenerator_52 ?_
            refine q_cV (rest := []) E ((c_Curve_twice l g (nJ b) (b + 176) (b + 169) (kFq b) mq (kX b) (b + 152) (b + 153) (b + 154) (b + 155) (b + 152) (b + 153) (b + 154) (b + 155)).up nJ_D) w_702 w_11 w_828 w_700 w_701 hd_Curve_twice rfl ⟨by decide, by decide⟩ (OB.recv E.2.2.2.2.2 (by rfl) hd.x.so.2.1.1) (⟨hd.x.so.2.1, hd.x.hp, hd.x.hp⟩) hF hl.1 rfl (Nat.le_of_ble_eq_true rfl) d_Desk_spreadGenerator_55 ⟨by decide, by decide⟩ (qv (fun H1 locs hq hF => ?_))
            have hd := hd.kj hK hq (fun q h => h)
            refine lv_iinc (k := 0) (v := nI (j + 1)) (lv' := [(2, .int (nI (j + 1))), (1, .int (nI i)), (0, .ref b)]) hx hb d_Desk_spreadGenerator_58 hl rfl (i_inc j) (by decide) rfl (fun ls hl => ?_)
            refine lv_goto (tgt := 32) hx hb d_Desk_spreadGenerator_61 (by decide) ?_
            have hl : lv_has ls 3 [(2, .int (nI (j + 1))), (1, .int (nI i)), (0, .ref b)] := lv_sub hl [0, 1, 2] rfl
            exact ih2 (j + 1) _ _ ls (by omega) hd hF hl
      refine lv_iload_n hx hb d_Desk_spreadGenerator_13 rfl (lv_at hl 0 rfl) ?_
      refine lv_iconst (v := nI 4) hx hb d_Desk_spreadGenerator_14 (by decide) ?_
      refine lv_icmp_ge (tgt := 70) hx hb d_Desk_spreadGenerator_15 (by decide) (fun h9 => absurd h9 (nI_ge hi4 (by decide))) (fun _ => ?_)
      refine lv_aload_n hx hb d_Desk_spreadGenerator_18 rfl (lv_at hl 1 rfl) ?_
      refine q_get (C := "KateDesk") (T := T_Desk) (N := 16) (ci := 5) E hd.x.ob in_Desk rfl 2 (by decide) w_341 rfl rfl d_Desk_spreadGenerator_19 ?_
      refine lv_iload_n hx hb d_Desk_spreadGenerator_22 rfl (lv_at hl 0 rfl) ?_
      refine lv_aload_n hx hb d_Desk_spreadGenerator_23 rfl (lv_at hl 1 rfl) ?_
      refine q_get (C := "KateDesk") (T := T_Desk) (N := 16) (ci := 5) E hd.x.ob in_Desk rfl 12 (by decide) w_351 rfl rfl d_Desk_spreadGenerator_24 ?_
      refine q_cV (rest := []) E ((v_Sums_tabulate l g (nJ b) (b + 186) (b + 176) (b + 187) (b + 444) (b + 461) (b + 462) (b + 463) (b + 464) (b + 169) (kFq b) mq (kX b) (kO b) (kO1 b) (kO2 b) (kO3 b) i (b + 152) (b + 153) (b + 154) (b + 155) (by omega)).up nJ_D) w_693 w_12 w_827 w_691 w_692 hd_Sums_tabulate rfl ⟨by decide, by decide⟩ (OB.recv E.2.2.2.2.2 (by rfl) hd.x.so.1) (⟨hd.x.so, hd.x.hp⟩) hF hl.1 rfl (Nat.le_of_ble_eq_true rfl) d_Desk_spreadGenerator_27 ⟨by decide, by decide⟩ (qv (fun H1 locs hq hF => ?_))
      have hd := hd.kj hK hq (fun q h => h)
      refine lv_iconst (v := nI 0) hx hb d_Desk_spreadGenerator_30 (by decide) ?_
      refine lv_istore_n (lv' := [(2, .int (nI 0)), (1, .int (nI i)), (0, .ref b)]) hx hb d_Desk_spreadGenerator_31 rfl hl (by decide) rfl (fun ls hl => ?_)
      have hl : lv_has ls 3 [(2, .int (nI 0)), (1, .int (nI i)), (0, .ref b)] := lv_sub hl [0, 1, 2] rfl
      exact inner 64 0 _ _ ls (by omega) hd hF hl
  refine lv_aload_n hx hb d_Desk_spreadGenerator_0 rfl (lv_at hl 0 rfl) ?_
  refine q_get (C := "KateDesk") (T := T_Desk) (N := 16) (ci := 5) E hd.x.ob in_Desk rfl 12 (by decide) w_351 rfl rfl d_Desk_spreadGenerator_1 ?_
  refine lv_aload_n hx hb d_Desk_spreadGenerator_4 rfl (lv_at hl 0 rfl) ?_
  refine q_get (C := "KateDesk") (T := T_Desk) (N := 16) (ci := 5) E hd.x.ob in_Desk rfl 11 (by decide) w_350 rfl rfl d_Desk_spreadGenerator_5 ?_
  refine q_cV (rest := []) E ((c_Point_copy l g (nJ b) (b + 152) (b + 153) (b + 154) (b + 155) (b + 495) (b + 496) (b + 497) (b + 498)).up nJ_D) w_697 w_2 w_730 w_695 w_696 hd_Point_copy rfl ⟨by decide, by decide⟩ (OB.recv E.2.2.2.2.2 (by rfl) ((hd.x.hp).1)) (⟨hd.x.hp, hd.x.ge⟩) hF hl.1 rfl (Nat.le_of_ble_eq_true rfl) d_Desk_spreadGenerator_8 ⟨by decide, by decide⟩ (qv (fun H1 locs hq hF => ?_))
  have hd := hd.kj hK hq.1 (pt_le hd.x.hp)
  refine lv_iconst (v := nI 0) hx hb d_Desk_spreadGenerator_11 (by decide) ?_
  refine lv_istore_n (lv' := [(1, .int (nI 0)), (0, .ref b)]) hx hb d_Desk_spreadGenerator_12 rfl hl (by decide) rfl (fun ls hl => ?_)
  have hl : lv_has ls 3 [(1, .int (nI 0)), (0, .ref b)] := lv_sub hl [0, 1] rfl
  exact lp 4 0 _ _ ls (by omega) hd hF hl
set_option maxHeartbeats 4000000 in
set_option maxRecDepth 100000 in
theorem G_Desk_timesGenerator (l : Launch) (g : WG) (b pn tn wn : Nat) (mr mq : Int64) (i9 : Nat) (h9 : i9 < 16) : Ctr l y_Desk_timesGenerator (.code y_Desk_timesGenerator prog_1_method_31_code 4 none) 5 213 0 0 (nD b) g [.ref b, .ref (kPW b i9), .ref (b + 160)] (fun H => DS g H H b pn tn wn mr mq) (QV (fun H H' => DS g H H' b pn tn wn mr mq)) := by
  refine ctr_mk l (lv0 := [(0, .ref b), (1, .ref (kPW b i9)), (2, .ref (b + 160))]) (by decide) (Nat.le_of_ble_eq_true rfl) rfl ?_
  intro p e s m below meth c ls E hr hlk hnm hl hP
  have hx := E.1
  have hb := E.2.1
  have hK := E.2.2.2.2.2
  have hF : ∀ q ∈ ([] : List Loc), nD b q.base := fun q hq => absurd hq List.not_mem_nil
  have hd := hP
  have lp : ∀ (k : Nat) (i : Nat) (H : Heap) (locs : List Loc) (ls : Array Slot), i + k = 4 → DS g s.heap H b pn tn wn mr mq → (∀ q ∈ locs, nD b q.base) → lv_has ls 4 [(3, .int (nI i)), (0, .ref b), (1, .ref (kPW b i9)), (2, .ref (b + 160))] → W p l e { frames := 5, cells := 0, slots := 0, locals := 213 } s m [.ref b, .ref (kPW b i9), .ref (b + 160)].toArray below meth c H locs 0 0 (MQ below (QcP (QV (fun H H' => DS g H H' b pn tn wn mr mq))) [.ref b, .ref (kPW b i9), .ref (b + 160)].toArray s 0 0 (fun q => nD b q)) (F0 m 2 ls []) := by
    intro k
    induction k with
    | zero =>
      intro  i   H   locs   ls hi hd hF hl
      obtain rfl : i = 4 := by omega
      refine lv_iload_n hx hb d_Desk_timesGenerator_2 rfl (lv_at hl 0 rfl) ?_
      refine lv_iconst (v := nI 4) hx hb d_Desk_timesGenerator_3 (by decide) ?_
      refine lv_icmp_ge (tgt := 28) hx hb d_Desk_timesGenerator_4 (by decide) (fun _ => ?_) (fun h9 => absurd (by decide) h9)
      refine lv_aload_n hx hb d_Desk_timesGenerator_28 rfl (lv_at hl 1 rfl) ?_
      refine q_get (C := "KateDesk") (T := T_Desk) (N := 16) (ci := 5) E hd.x.ob in_Desk rfl 2 (by decide) w_341 rfl rfl d_Desk_timesGenerator_29 ?_
      refine lv_aload_n hx hb d_Desk_timesGenerator_32 rfl (lv_at hl 2 rfl) ?_
      refine lv_iconst (v := nI 4) hx hb d_Desk_timesGenerator_33 (by decide) ?_
      refine q_cV (rest := []) E ((v_Sums_total l g (nJ b) (b + 186) (b + 176) (b + 187) (b + 444) (b + 461) (b + 462) (b + 463) (b + 464) (b + 169) (kFq b) mq (kX b) (kO b) (kO1 b) (kO2 b) (kO3 b) (kDG b) 4 (kPW b i9) (kPW1 b i9) (kPW2 b i9) (kPW3 b i9) (by decide) ne_464 (fun k hk h => h.2.1 (nj_DG hk))).up nJ_D) w_720 w_12 w_717 w_718 w_719 hd_Sums_total rfl ⟨by decide, by decide⟩ (OB.recv E.2.2.2.2.2 (by rfl) hd.x.so.1) (⟨hd.x.so, (hd.x.pq i9 h9), hd.x.dr, fun k hk => hd.x.dg k (Nat.lt_of_lt_of_le hk (by decide))⟩) hF hl.1 rfl (Nat.le_of_ble_eq_true rfl) d_Desk_timesGenerator_34 ⟨by decide, by decide⟩ (qv (fun H1 locs hq hF => ?_))
      have hd := hd.kj hK hq (fun q h => h)
      exact q_vret E hr hlk (⟨rfl, hd⟩) hF d_Desk_timesGenerator_37
    | succ k ih =>
      intro  i   H   locs   ls hi hd hF hl
      refine lv_iload_n hx hb d_Desk_timesGenerator_2 rfl (lv_at hl 0 rfl) ?_
      refine lv_iconst (v := nI 4) hx hb d_Desk_timesGenerator_3 (by decide) ?_
      refine lv_icmp_ge (tgt := 28) hx hb d_Desk_timesGenerator_4 (by decide) (fun h9 => absurd h9 (nI_ge (by omega) (by decide))) (fun _ => ?_)
      refine lv_aload_n hx hb d_Desk_timesGenerator_7 rfl (lv_at hl 1 rfl) ?_
      refine q_get (C := "KateDesk") (T := T_Desk) (N := 16) (ci := 5) E hd.x.ob in_Desk rfl 2 (by decide) w_341 rfl rfl d_Desk_timesGenerator_8 ?_
      refine lv_iload_n hx hb d_Desk_timesGenerator_11 rfl (lv_at hl 0 rfl) ?_
      refine lv_aload_n hx hb d_Desk_timesGenerator_12 rfl (lv_at hl 3 rfl) ?_
      refine lv_bipush (v := nI 64) hx hb d_Desk_timesGenerator_13 (by decide) ?_
      refine lv_iload_n hx hb d_Desk_timesGenerator_15 rfl (lv_at hl 0 rfl) ?_
      refine lv_imul hx hb d_Desk_timesGenerator_16 ?_
      refine lv_bipush (v := nI 64) hx hb d_Desk_timesGenerator_17 (by decide) ?_
      refine q_cV (rest := []) E (v_Sums_recode l g (nD b) (b + 186) (b + 176) (b + 187) (b + 444) (b + 461) (kDG b) i (b + 160) 64 ((nI 64) * (nI i)) (by omega) (by decide)) w_681 w_12 w_833 w_679 w_680 hd_Sums_recode rfl ⟨by decide, by decide⟩ (OB.recv E.2.2.2.2.2 (by rfl) hd.x.so.1) (⟨hd.x.so.1, hd.x.dr, ⟨(nx_DG (by omega)).1, (hd.x.dg i (by omega)).imp (fun f hf => hf.1)⟩, ⟨(hd.x.hs).1.1, (hd.x.hs).2⟩⟩) hF hl.1 rfl (Nat.le_of_ble_eq_true rfl) d_Desk_timesGenerator_19 ⟨by decide, by decide⟩ (qv (fun H1 locs hq hF => ?_))
      have hd := hd.digit (by omega) hK (hq.1.mono (fun q h => Or.inr h)) hq.2
      refine lv_iinc (k := 0) (v := nI (i + 1)) (lv' := [(3, .int (nI (i + 1))), (0, .ref b), (1, .ref (kPW b i9)), (2, .ref (b + 160))]) hx hb d_Desk_timesGenerator_22 hl rfl (i_inc i) (by decide) rfl (fun ls hl => ?_)
      refine lv_goto (tgt := 2) hx hb d_Desk_timesGenerator_25 (by decide) ?_
      have hl : lv_has ls 4 [(3, .int (nI (i + 1))), (0, .ref b), (1, .ref (kPW b i9)), (2, .ref (b + 160))] := lv_sub hl [0, 1, 2, 3] rfl
      exact ih (i + 1) _ _ ls (by omega) hd hF hl
  refine lv_iconst (v := nI 0) hx hb d_Desk_timesGenerator_0 (by decide) ?_
  refine lv_istore_n (lv' := [(3, .int (nI 0)), (0, .ref b), (1, .ref (kPW b i9)), (2, .ref (b + 160))]) hx hb d_Desk_timesGenerator_1 rfl hl (by decide) rfl (fun ls hl => ?_)
  have hl : lv_has ls 4 [(3, .int (nI 0)), (0, .ref b), (1, .ref (kPW b i9)), (2, .ref (b + 160))] := lv_sub hl [0, 1, 2, 3] rfl
  exact lp 4 0 _ _ ls (by omega) hd hF hl
set_option maxHeartbeats 4000000 in
set_option maxRecDepth 100000 in
theorem G_Desk_setup (l : Launch) (g : WG) (b pn tn wn : Nat) (mr mq : Int64) (a n : Nat) (ha : a < 32) (h1 : 1 ≤ n) (h16 : n ≤ 16) : Ctr l y_Desk_setup (.code y_Desk_setup prog_1_method_16_code 4 none) 6 236 0 0 (nD b) g [.ref b, .int (nI a), .int (nI n)] (fun H => DS g H H b pn tn wn mr mq) (QV (fun H H' => DS g H H' b n tn wn mr mq)) := by
  refine ctr_mk l (lv0 := [(0, .ref b), (1, .int (nI a)), (2, .int (nI n))]) (by decide) (Nat.le_of_ble_eq_true rfl) rfl ?_
  intro p e s m below meth c ls E hr hlk hnm hl hP
  have hx := E.1
  have hb := E.2.1
  have hK := E.2.2.2.2.2
  have hF : ∀ q ∈ ([] : List Loc), nD b q.base := fun q hq => absurd hq List.not_mem_nil
  have hd := hP
  have lp : ∀ (k : Nat) (i : Nat) (H : Heap) (locs : List Loc) (ls : Array Slot), i + k = n → DS g s.heap H b pn tn wn mr mq → (∀ q ∈ locs, nD b q.base) → lv_has ls 4 [(3, .int (nI i)), (0, .ref b), (1, .int (nI a)), (2, .int (nI n))] → W p l e { frames := 6, cells := 0, slots := 0, locals := 236 } s m [.ref b, .int (nI a), .int (nI n)].toArray below meth c H locs 0 0 (MQ below (QcP (QV (fun H H' => DS g H H' b n tn wn mr mq))) [.ref b, .int (nI a), .int (nI n)].toArray s 0 0 (fun q => nD b q)) (F0 m 66 ls []) := by
    intro k
    induction k with
    | zero =>
      intro  i   H   locs   ls hi hd hF hl
      obtain rfl : i = n := by omega
      refine lv_iload_n hx hb d_Desk_setup_66 rfl (lv_at hl 0 rfl) ?_
      refine lv_iload_n hx hb d_Desk_setup_67 rfl (lv_at hl 3 rfl) ?_
      refine lv_icmp_ge (tgt := 110) hx hb d_Desk_setup_68 (by decide) (fun _ => ?_) (fun h9 => absurd (nI_le (Nat.le_refl _) (by omega)) h9)
      refine lv_aload_n hx hb d_Desk_setup_110 rfl (lv_at hl 1 rfl) ?_
      refine lv_iload_n hx hb d_Desk_setup_111 rfl (lv_at hl 3 rfl) ?_
      refine q_put (C := "KateDesk") (T := T_Desk) (N := 16) (ci := 5) (ty := .int) E hd.x.ob in_Desk ty_Desk tyok_Desk nm_Desk rfl 8 (by decide) w_347 rfl rfl (by decide +kernel) rfl rfl (Nat.le_of_ble_eq_true rfl) (⟨Nat.le_refl _, Nat.le_add_right _ _⟩) hF d_Desk_setup_112 (fun H1 locs hq ho2 hF => ?_)
      exact q_vret E hr hlk (⟨rfl, hd.pow hq ho2 h16⟩) hF d_Desk_setup_115
    | succ k ih =>
      intro  i   H   locs   ls hi hd hF hl
      refine lv_iload_n hx hb d_Desk_setup_66 rfl (lv_at hl 0 rfl) ?_
      refine lv_iload_n hx hb d_Desk_setup_67 rfl (lv_at hl 3 rfl) ?_
      refine lv_icmp_ge (tgt := 110) hx hb d_Desk_setup_68 (by decide) (fun h9 => absurd h9 (nI_ge (by omega) (by omega))) (fun _ => ?_)
      refine lv_aload_n hx hb d_Desk_setup_71 rfl (lv_at hl 1 rfl) ?_
      refine lv_aload_n hx hb d_Desk_setup_72 rfl (lv_at hl 1 rfl) ?_
      refine q_get (C := "KateDesk") (T := T_Desk) (N := 16) (ci := 5) E hd.x.ob in_Desk rfl 7 (by decide) w_346 rfl rfl d_Desk_setup_73 ?_
      refine lv_iload_n hx hb d_Desk_setup_76 rfl (lv_at hl 0 rfl) ?_
      refine q_aald (t := 3) E rfl rfl hd.x.pw i rfl (by omega) (by decide) d_Desk_setup_77 ?_
      refine lv_aload_n hx hb d_Desk_setup_78 rfl (lv_at hl 1 rfl) ?_
      refine q_get (C := "KateDesk") (T := T_Desk) (N := 16) (ci := 5) E hd.x.ob in_Desk rfl 14 (by decide) w_353 rfl rfl d_Desk_setup_79 ?_
      refine q_cV (rest := []) E (G_Desk_timesGenerator l g b pn tn wn mr mq i (by omega)) w_832 w_1 w_829 w_831 (bw_s 12 rfl) hd_Desk_timesGenerator rfl ⟨by decide, by decide⟩ (OB.recv E.2.2.2.2.2 (by rfl) hd.x.ob) (⟨FRM.rf, hd.2⟩) hF hl.1 rfl (Nat.le_of_ble_eq_true rfl) d_Desk_setup_82 ⟨by decide, by decide⟩ (qv (fun H1 locs hq hF => ?_))
      have hd : DS g s.heap H1 b pn tn wn mr mq := ⟨hd.1.tr hq.1, hq.2⟩
      refine lv_aload_n hx hb d_Desk_setup_85 rfl (lv_at hl 1 rfl) ?_
      refine q_get (C := "KateDesk") (T := T_Desk) (N := 16) (ci := 5) E hd.x.ob in_Desk rfl 0 (by decide) w_339 rfl rfl d_Desk_setup_86 ?_
      refine lv_aload_n hx hb d_Desk_setup_89 rfl (lv_at hl 1 rfl) ?_
      refine q_get (C := "KateDesk") (T := T_Desk) (N := 16) (ci := 5) E hd.x.ob in_Desk rfl 14 (by decide) w_353 rfl rfl d_Desk_setup_90 ?_
      refine lv_aload_n hx hb d_Desk_setup_93 rfl (lv_at hl 1 rfl) ?_
      refine q_get (C := "KateDesk") (T := T_Desk) (N := 16) (ci := 5) E hd.x.ob in_Desk rfl 14 (by decide) w_353 rfl rfl d_Desk_setup_94 ?_
      refine lv_aload_n hx hb d_Desk_setup_97 rfl (lv_at hl 1 rfl) ?_
      refine q_get (C := "KateDesk") (T := T_Desk) (N := 16) (ci := 5) E hd.x.ob in_Desk rfl 15 (by decide) w_354 rfl rfl d_Desk_setup_98 ?_
      refine q_cV (rest := []) E ((c_Field_multiply l g (nJ b) (b + 162) (b + 160) (b + 160) (b + 161) (kFr b) mr).up nJ_D) w_165 w_4 w_576 w_163 w_164 hd_Field_multiply rfl ⟨by decide, by decide⟩ (OB.recv E.2.2.2.2.2 (by rfl) ((hd.x.fr).1)) (⟨hd.x.fr, hd.x.hs, hd.x.hs, hd.x.fa⟩) hF hl.1 rfl (Nat.le_of_ble_eq_true rfl) d_Desk_setup_101 ⟨by decide, by decide⟩ (qv (fun H2 locs hq hF => ?_))
      have hd := hd.kj hK hq (fun q h => h ▸ (hd.x.hs).1)
      refine lv_iinc (k := 0) (v := nI (i + 1)) (lv' := [(3, .int (nI (i + 1))), (0, .ref b), (1, .int (nI a)), (2, .int (nI n))]) hx hb d_Desk_setup_104 hl rfl (i_inc i) (by decide) rfl (fun ls hl => ?_)
      refine lv_goto (tgt := 66) hx hb d_Desk_setup_107 (by decide) ?_
      have hl : lv_has ls 4 [(3, .int (nI (i + 1))), (0, .ref b), (1, .int (nI a)), (2, .int (nI n))] := lv_sub hl [0, 1, 2, 3] rfl
      exact ih (i + 1) _ _ ls (by omega) hd hF hl
  refine lv_iload_n hx hb d_Desk_setup_0 rfl (lv_at hl 1 rfl) ?_
  refine lv_iconst (v := nI 1) hx hb d_Desk_setup_1 (by decide) ?_
  refine q_cS (rest := []) E (c_Desk_needScalars l g (nD b) (nI a) (nI 1) (okS_of (by decide) ha)) w_494 w_1 w_492 w_493 hd_Desk_needScalars rfl ⟨by decide, by decide⟩ trivial hF hl.1 rfl (Nat.le_of_ble_eq_true rfl) d_Desk_setup_2 ⟨by decide, by decide⟩ (qv (fun H1 locs hq hF => ?_))
  have hq := hq.symm
  subst hq
  refine lv_iload_n hx hb d_Desk_setup_5 rfl (lv_at hl 2 rfl) ?_
  refine lv_iconst (v := nI 1) hx hb d_Desk_setup_6 (by decide) ?_
  refine lv_bipush (v := nI 16) hx hb d_Desk_setup_7 (by decide) ?_
  refine q_cS (rest := []) E (c_Desk_needCount l g (nD b) (nI n) (nI 1) (nI 16) (okC_of h1 h16 (by decide))) w_798 w_1 w_796 w_797 hd_Desk_needCount rfl ⟨by decide, by decide⟩ trivial hF hl.1 rfl (Nat.le_of_ble_eq_true rfl) d_Desk_setup_9 ⟨by decide, by decide⟩ (qv (fun H2 locs hq hF => ?_))
  have hq := hq.symm
  subst hq
  refine lv_aload_n hx hb d_Desk_setup_12 rfl (lv_at hl 0 rfl) ?_
  refine q_get (C := "KateDesk") (T := T_Desk) (N := 16) (ci := 5) E hd.x.ob in_Desk rfl 7 (by decide) w_346 rfl rfl d_Desk_setup_13 ?_
  refine lv_iconst (v := nI 0) hx hb d_Desk_setup_16 (by decide) ?_
  refine q_aald (t := 3) E rfl rfl hd.x.pw 0 rfl (by decide) (by decide) d_Desk_setup_17 ?_
  refine lv_aload_n hx hb d_Desk_setup_18 rfl (lv_at hl 0 rfl) ?_
  refine q_get (C := "KateDesk") (T := T_Desk) (N := 16) (ci := 5) E hd.x.ob in_Desk rfl 11 (by decide) w_350 rfl rfl d_Desk_setup_19 ?_
  refine q_cV (rest := []) E ((c_Point_copy l g (nJ b) (kPW b 0) (kPW1 b 0) (kPW2 b 0) (kPW3 b 0) (b + 495) (b + 496) (b + 497) (b + 498)).up nJ_D) w_697 w_2 w_730 w_695 w_696 hd_Point_copy rfl ⟨by decide, by decide⟩ (OB.recv E.2.2.2.2.2 (by rfl) (((hd.x.pq 0 (by decide))).1)) (⟨(hd.x.pq 0 (by decide)), hd.x.ge⟩) hF hl.1 rfl (Nat.le_of_ble_eq_true rfl) d_Desk_setup_22 ⟨by decide, by decide⟩ (qv (fun H3 locs hq hF => ?_))
  have hd := hd.kj hK hq.1 (pt_le (hd.x.pq 0 (by decide)))
  refine lv_iload_n hx hb d_Desk_setup_25 rfl (lv_at hl 2 rfl) ?_
  refine lv_iconst (v := nI 1) hx hb d_Desk_setup_26 (by decide) ?_
  refine lv_icmp_le (tgt := 34) hx hb d_Desk_setup_27 (by decide) (fun _ => ?_) (fun _ => ?_)
  · skip
    refine lv_aload_n hx hb d_Desk_setup_34 rfl (lv_at hl 0 rfl) ?_
    refine q_get (C := "KateDesk") (T := T_Desk) (N := 16) (ci := 5) E hd.x.ob in_Desk rfl 0 (by decide) w_339 rfl rfl d_Desk_setup_35 ?_
    refine lv_aload_n hx hb d_Desk_setup_38 rfl (lv_at hl 0 rfl) ?_
    refine q_get (C := "KateDesk") (T := T_Desk) (N := 16) (ci := 5) E hd.x.ob in_Desk rfl 15 (by decide) w_354 rfl rfl d_Desk_setup_39 ?_
    refine lv_aload_n hx hb d_Desk_setup_42 rfl (lv_at hl 0 rfl) ?_
    refine q_get (C := "KateDesk") (T := T_Desk) (N := 16) (ci := 5) E hd.x.ob in_Desk rfl 5 (by decide) w_344 rfl rfl d_Desk_setup_43 ?_
    refine lv_iload_n hx hb d_Desk_setup_46 rfl (lv_at hl 1 rfl) ?_
    refine q_aald (t := 4) E rfl rfl hd.x.rs.1 a rfl ha (by decide) d_Desk_setup_47 ?_
    refine q_cV (rest := []) E ((c_Field_lift l g (nJ b) (b + 162) (b + 161) (kSc b a) (kFr b) mr).up nJ_D) w_302 w_4 w_336 w_300 w_301 hd_Field_lift rfl ⟨by decide, by decide⟩ (OB.recv E.2.2.2.2.2 (by rfl) ((hd.x.fr).1)) (⟨hd.x.fr, hd.x.fa, (hd.x.rs.2 a ha)⟩) hF hl.1 rfl (Nat.le_of_ble_eq_true rfl) d_Desk_setup_48 ⟨by decide, by decide⟩ (qv (fun H4 locs hq hF => ?_))
    have hd := hd.kj hK hq (fun q h => h ▸ (hd.x.fa).1)
    refine lv_aload_n hx hb d_Desk_setup_51 rfl (lv_at hl 0 rfl) ?_
    refine q_get (C := "KateDesk") (T := T_Desk) (N := 16) (ci := 5) E hd.x.ob in_Desk rfl 14 (by decide) w_353 rfl rfl d_Desk_setup_52 ?_
    refine lv_aload_n hx hb d_Desk_setup_55 rfl (lv_at hl 0 rfl) ?_
    refine q_get (C := "KateDesk") (T := T_Desk) (N := 16) (ci := 5) E hd.x.ob in_Desk rfl 5 (by decide) w_344 rfl rfl d_Desk_setup_56 ?_
    refine lv_iload_n hx hb d_Desk_setup_59 rfl (lv_at hl 1 rfl) ?_
    refine q_aald (t := 4) E rfl rfl hd.x.rs.1 a rfl ha (by decide) d_Desk_setup_60 ?_
    obtain ⟨f1, hf1⟩ := ((hd.x.rs.2 a ha)).2
    refine q_cS (rest := []) E ((c_Limbs_copy l g (nJ b) (b + 160) (kSc b a) f1).up nJ_D) w_146 w_5 w_338 w_145 hd_Limbs_copy rfl ⟨by decide, by decide⟩ (⟨hd.x.hs, hf1⟩) hF hl.1 rfl (Nat.le_of_ble_eq_true rfl) d_Desk_setup_61 ⟨by decide, by decide⟩ (qv (fun H5 locs hq hF => ?_))
    have hd := hd.kj hK hq.1 (fun q h => h ▸ (hd.x.hs).1)
    refine lv_iconst (v := nI 1) hx hb d_Desk_setup_64 (by decide) ?_
    refine lv_istore_n (lv' := [(3, .int (nI 1)), (0, .ref b), (1, .int (nI a)), (2, .int (nI n))]) hx hb d_Desk_setup_65 rfl hl (by decide) rfl (fun ls hl => ?_)
    have hl : lv_has ls 4 [(3, .int (nI 1)), (0, .ref b), (1, .int (nI a)), (2, .int (nI n))] := lv_sub hl [0, 1, 2, 3] rfl
    exact lp (n - 1) 1 _ _ ls (by omega) hd hF hl
  · skip
    refine lv_aload_n hx hb d_Desk_setup_30 rfl (lv_at hl 0 rfl) ?_
    refine q_cV (rest := []) E (G_Desk_spreadGenerator l g b pn tn wn mr mq) w_826 w_1 w_823 w_825 (bw_s 11 rfl) hd_Desk_spreadGenerator rfl ⟨by decide, by decide⟩ (OB.recv E.2.2.2.2.2 (by rfl) hd.x.ob) (⟨FRM.rf, hd.2⟩) hF hl.1 rfl (Nat.le_of_ble_eq_true rfl) d_Desk_setup_31 ⟨by decide, by decide⟩ (qv (fun H4 locs hq hF => ?_))
    have hd : DS g s.heap H4 b pn tn wn mr mq := ⟨hd.1.tr hq.1, hq.2⟩
    refine lv_aload_n hx hb d_Desk_setup_34 rfl (lv_at hl 0 rfl) ?_
    refine q_get (C := "KateDesk") (T := T_Desk) (N := 16) (ci := 5) E hd.x.ob in_Desk rfl 0 (by decide) w_339 rfl rfl d_Desk_setup_35 ?_
    refine lv_aload_n hx hb d_Desk_setup_38 rfl (lv_at hl 0 rfl) ?_
    refine q_get (C := "KateDesk") (T := T_Desk) (N := 16) (ci := 5) E hd.x.ob in_Desk rfl 15 (by decide) w_354 rfl rfl d_Desk_setup_39 ?_
    refine lv_aload_n hx hb d_Desk_setup_42 rfl (lv_at hl 0 rfl) ?_
    refine q_get (C := "KateDesk") (T := T_Desk) (N := 16) (ci := 5) E hd.x.ob in_Desk rfl 5 (by decide) w_344 rfl rfl d_Desk_setup_43 ?_
    refine lv_iload_n hx hb d_Desk_setup_46 rfl (lv_at hl 1 rfl) ?_
    refine q_aald (t := 4) E rfl rfl hd.x.rs.1 a rfl ha (by decide) d_Desk_setup_47 ?_
    refine q_cV (rest := []) E ((c_Field_lift l g (nJ b) (b + 162) (b + 161) (kSc b a) (kFr b) mr).up nJ_D) w_302 w_4 w_336 w_300 w_301 hd_Field_lift rfl ⟨by decide, by decide⟩ (OB.recv E.2.2.2.2.2 (by rfl) ((hd.x.fr).1)) (⟨hd.x.fr, hd.x.fa, (hd.x.rs.2 a ha)⟩) hF hl.1 rfl (Nat.le_of_ble_eq_true rfl) d_Desk_setup_48 ⟨by decide, by decide⟩ (qv (fun H5 locs hq hF => ?_))
    have hd := hd.kj hK hq (fun q h => h ▸ (hd.x.fa).1)
    refine lv_aload_n hx hb d_Desk_setup_51 rfl (lv_at hl 0 rfl) ?_
    refine q_get (C := "KateDesk") (T := T_Desk) (N := 16) (ci := 5) E hd.x.ob in_Desk rfl 14 (by decide) w_353 rfl rfl d_Desk_setup_52 ?_
    refine lv_aload_n hx hb d_Desk_setup_55 rfl (lv_at hl 0 rfl) ?_
    refine q_get (C := "KateDesk") (T := T_Desk) (N := 16) (ci := 5) E hd.x.ob in_Desk rfl 5 (by decide) w_344 rfl rfl d_Desk_setup_56 ?_
    refine lv_iload_n hx hb d_Desk_setup_59 rfl (lv_at hl 1 rfl) ?_
    refine q_aald (t := 4) E rfl rfl hd.x.rs.1 a rfl ha (by decide) d_Desk_setup_60 ?_
    obtain ⟨f1, hf1⟩ := ((hd.x.rs.2 a ha)).2
    refine q_cS (rest := []) E ((c_Limbs_copy l g (nJ b) (b + 160) (kSc b a) f1).up nJ_D) w_146 w_5 w_338 w_145 hd_Limbs_copy rfl ⟨by decide, by decide⟩ (⟨hd.x.hs, hf1⟩) hF hl.1 rfl (Nat.le_of_ble_eq_true rfl) d_Desk_setup_61 ⟨by decide, by decide⟩ (qv (fun H6 locs hq hF => ?_))
    have hd := hd.kj hK hq.1 (fun q h => h ▸ (hd.x.hs).1)
    refine lv_iconst (v := nI 1) hx hb d_Desk_setup_64 (by decide) ?_
    refine lv_istore_n (lv' := [(3, .int (nI 1)), (0, .ref b), (1, .int (nI a)), (2, .int (nI n))]) hx hb d_Desk_setup_65 rfl hl (by decide) rfl (fun ls hl => ?_)
    have hl : lv_has ls 4 [(3, .int (nI 1)), (0, .ref b), (1, .int (nI a)), (2, .int (nI n))] := lv_sub hl [0, 1, 2, 3] rfl
    exact lp (n - 1) 1 _ _ ls (by omega) hd hF hl
set_option maxHeartbeats 4000000 in
set_option maxRecDepth 100000 in
theorem G_Desk_isGood (l : Launch) (g : WG) (b pn tn wn : Nat) (mr mq : Int64)  : Ctr l y_Desk_isGood (.code y_Desk_isGood prog_1_method_29_code 2 (some FieldType.boolean)) 6 234 0 0 (nD b) g [.ref b, .ref (b + 152)] (fun H => DS g H H b pn tn wn mr mq) (QI (fun r H H' => (r = 0 ∨ r = 1) ∧ DS g H H' b pn tn wn mr mq)) := by
  refine ctr_mk l (lv0 := [(0, .ref b), (1, .ref (b + 152))]) (by decide) (Nat.le_of_ble_eq_true rfl) rfl ?_
  intro p e s m below meth c ls E hr hlk hnm hl hP
  have hx := E.1
  have hb := E.2.1
  have hK := E.2.2.2.2.2
  have hF : ∀ q ∈ ([] : List Loc), nD b q.base := fun q hq => absurd hq List.not_mem_nil
  have hd := hP
  refine lv_aload_n hx hb d_Desk_isGood_0 rfl (lv_at hl 0 rfl) ?_
  refine q_get (C := "KateDesk") (T := T_Desk) (N := 16) (ci := 5) E hd.x.ob in_Desk rfl 2 (by decide) w_341 rfl rfl d_Desk_isGood_1 ?_
  refine lv_iconst (v := nI 0) hx hb d_Desk_isGood_4 (by decide) ?_
  refine lv_aload_n hx hb d_Desk_isGood_5 rfl (lv_at hl 0 rfl) ?_
  refine q_get (C := "KateDesk") (T := T_Desk) (N := 16) (ci := 5) E hd.x.ob in_Desk rfl 0 (by decide) w_339 rfl rfl d_Desk_isGood_6 ?_
  refine q_get (C := "KateDesk$Field") (T := T_Field) (N := 7) (ci := 1) E hd.x.fr.1 in_Field rfl 0 (by decide) w_172 rfl rfl d_Desk_isGood_9 ?_
  refine lv_aload_n hx hb d_Desk_isGood_12 rfl (lv_at hl 1 rfl) ?_
  refine q_cV (rest := []) E (v_Sums_place l g (nD b) (b + 186) (b + 176) (b + 187) (b + 444) (b + 461) (b + 462) (b + 463) (b + 464) (b + 169) (kFq b) mq (kX b) (kO b) (kO1 b) (kO2 b) (kO3 b) (kDG b) (nJ b) 0 (kFr b 0) (b + 152) (b + 153) (b + 154) (b + 155) (by decide) nJ_D (fun h => h.2.1 (nj_DG (by decide)))) w_677 w_12 w_674 w_675 w_676 hd_Sums_place rfl ⟨by decide, by decide⟩ (OB.recv E.2.2.2.2.2 (by rfl) hd.x.so.1) (⟨hd.x.so, hd.x.dr, ⟨(nx_DG (by decide)).1, (hd.x.dg 0 (by decide)).imp (fun f hf => hf.1)⟩, ⟨((hd.x.fr.2 0 (by decide))).1.1, ((hd.x.fr.2 0 (by decide))).2⟩, hd.x.hp⟩) hF hl.1 rfl (Nat.le_of_ble_eq_true rfl) d_Desk_isGood_13 ⟨by decide, by decide⟩ (qv (fun H1 locs hq hF => ?_))
  have hd := hd.digit (by decide) hK hq.1 hq.2
  refine lv_aload_n hx hb d_Desk_isGood_16 rfl (lv_at hl 0 rfl) ?_
  refine q_get (C := "KateDesk") (T := T_Desk) (N := 16) (ci := 5) E hd.x.ob in_Desk rfl 2 (by decide) w_341 rfl rfl d_Desk_isGood_17 ?_
  refine lv_aload_n hx hb d_Desk_isGood_20 rfl (lv_at hl 0 rfl) ?_
  refine q_get (C := "KateDesk") (T := T_Desk) (N := 16) (ci := 5) E hd.x.ob in_Desk rfl 13 (by decide) w_352 rfl rfl d_Desk_isGood_21 ?_
  refine lv_iconst (v := nI 1) hx hb d_Desk_isGood_24 (by decide) ?_
  refine q_cV (rest := []) E ((v_Sums_total l g (nJ b) (b + 186) (b + 176) (b + 187) (b + 444) (b + 461) (b + 462) (b + 463) (b + 464) (b + 169) (kFq b) mq (kX b) (kO b) (kO1 b) (kO2 b) (kO3 b) (kDG b) 1 (b + 156) (b + 157) (b + 158) (b + 159) (by decide) ne_464 (fun k hk h => h.2.1 (nj_DG hk))).up nJ_D) w_720 w_12 w_717 w_718 w_719 hd_Sums_total rfl ⟨by decide, by decide⟩ (OB.recv E.2.2.2.2.2 (by rfl) hd.x.so.1) (⟨hd.x.so, hd.x.mu, hd.x.dr, fun k hk => hd.x.dg k (Nat.lt_of_lt_of_le hk (by decide))⟩) hF hl.1 rfl (Nat.le_of_ble_eq_true rfl) d_Desk_isGood_25 ⟨by decide, by decide⟩ (qv (fun H2 locs hq hF => ?_))
  have hd := hd.kj hK hq (fun q h => h)
  refine lv_aload_n hx hb d_Desk_isGood_28 rfl (lv_at hl 0 rfl) ?_
  refine q_get (C := "KateDesk") (T := T_Desk) (N := 16) (ci := 5) E hd.x.ob in_Desk rfl 13 (by decide) w_352 rfl rfl d_Desk_isGood_29 ?_
  refine q_cV (rest := []) E ((v_Point_isNothing l g (nJ b) (b + 156) (b + 157) (b + 158) (b + 159)).up nJ_D) w_728 w_2 w_725 w_726 w_727 hd_Point_isNothing rfl ⟨by decide, by decide⟩ (OB.recv E.2.2.2.2.2 (by rfl) ((hd.x.mu).1)) hd.x.mu hF hl.1 rfl (Nat.le_of_ble_eq_true rfl) d_Desk_isGood_32 ⟨by decide, by decide⟩ (qi (fun rz1 H3 locs hq hF => ?_))
  obtain ⟨hbrz1, hq⟩ := hq
  have hq := hq.symm
  subst hq
  exact q_zret E hr (bool_n hbrz1) hlk (⟨_, rfl, hbrz1, hd⟩) hF d_Desk_isGood_35
set_option maxHeartbeats 4000000 in
set_option maxRecDepth 100000 in
theorem G_Desk_look (l : Launch) (g : WG) (b pn tn wn : Nat) (mr mq : Int64) (w0 : Nat) (hw : w0 < 3) : Ctr l y_Desk_look (.code y_Desk_look prog_1_method_22_code 2 (some FieldType.int)) 0 0 0 0 (nD b) g [.ref b, .int (nI w0)] (fun H => DS g H H b pn tn wn mr mq) (QI (fun r H H' => (w0 = 0 → r = nI pn) ∧ (w0 = 1 → r = nI tn) ∧ (w0 = 2 → r = nI wn) ∧ DS g H H' b pn tn wn mr mq)) := by
  refine ctr_mk l (lv0 := [(0, .ref b), (1, .int (nI w0))]) (by decide) (Nat.le_of_ble_eq_true rfl) rfl ?_
  intro p e s m below meth c ls E hr hlk hnm hl hP
  have hx := E.1
  have hb := E.2.1
  have hK := E.2.2.2.2.2
  have hF : ∀ q ∈ ([] : List Loc), nD b q.base := fun q hq => absurd hq List.not_mem_nil
  have hd := hP
  match w0, hw with
  | 0, _ =>
    refine lv_iload_n hx hb d_Desk_look_0 rfl (lv_at hl 1 rfl) ?_
    refine lv_if_ne (tgt := 9) hx hb d_Desk_look_1 (by decide) (fun h9 => absurd (by decide) h9) (fun _ => ?_)
    refine lv_aload_n hx hb d_Desk_look_4 rfl (lv_at hl 0 rfl) ?_
    refine q_get (C := "KateDesk") (T := T_Desk) (N := 16) (ci := 5) E hd.x.ob in_Desk rfl 8 (by decide) w_347 rfl rfl d_Desk_look_5 ?_
    exact q_iret E hr hlk (⟨_, rfl, fun _ => rfl, fun h => absurd h (by decide), fun h => absurd h (by decide), hd⟩) hF d_Desk_look_8
  | 1, _ =>
    refine lv_iload_n hx hb d_Desk_look_0 rfl (lv_at hl 1 rfl) ?_
    refine lv_if_ne (tgt := 9) hx hb d_Desk_look_1 (by decide) (fun _ => ?_) (fun h9 => absurd h9 (by decide))
    refine lv_iload_n hx hb d_Desk_look_9 rfl (lv_at hl 1 rfl) ?_
    refine lv_iconst (v := nI 1) hx hb d_Desk_look_10 (by decide) ?_
    refine lv_icmp_ne (tgt := 22) hx hb d_Desk_look_11 (by decide) (fun h9 => absurd (by decide) h9) (fun _ => ?_)
    refine lv_aload_n hx hb d_Desk_look_14 rfl (lv_at hl 0 rfl) ?_
    refine q_get (C := "KateDesk") (T := T_Desk) (N := 16) (ci := 5) E hd.x.ob in_Desk rfl 9 (by decide) w_348 rfl rfl d_Desk_look_15 ?_
    refine q_get (C := "KateDesk$Row") (T := T_Row) (N := 2) (ci := 3) E hd.tp.1 in_Row rfl 1 (by decide) w_74 rfl rfl d_Desk_look_18 ?_
    exact q_iret E hr hlk (⟨_, rfl, fun h => absurd h (by decide), fun _ => rfl, fun h => absurd h (by decide), hd⟩) hF d_Desk_look_21
  | 2, _ =>
    refine lv_iload_n hx hb d_Desk_look_0 rfl (lv_at hl 1 rfl) ?_
    refine lv_if_ne (tgt := 9) hx hb d_Desk_look_1 (by decide) (fun _ => ?_) (fun h9 => absurd h9 (by decide))
    refine lv_iload_n hx hb d_Desk_look_9 rfl (lv_at hl 1 rfl) ?_
    refine lv_iconst (v := nI 1) hx hb d_Desk_look_10 (by decide) ?_
    refine lv_icmp_ne (tgt := 22) hx hb d_Desk_look_11 (by decide) (fun _ => ?_) (fun h9 => absurd h9 (by decide))
    refine lv_iload_n hx hb d_Desk_look_22 rfl (lv_at hl 1 rfl) ?_
    refine lv_iconst (v := nI 2) hx hb d_Desk_look_23 (by decide) ?_
    refine lv_icmp_ne (tgt := 35) hx hb d_Desk_look_24 (by decide) (fun h9 => absurd (by decide) h9) (fun _ => ?_)
    refine lv_aload_n hx hb d_Desk_look_27 rfl (lv_at hl 0 rfl) ?_
    refine q_get (C := "KateDesk") (T := T_Desk) (N := 16) (ci := 5) E hd.x.ob in_Desk rfl 10 (by decide) w_349 rfl rfl d_Desk_look_28 ?_
    refine q_get (C := "KateDesk$Row") (T := T_Row) (N := 2) (ci := 3) E hd.wr.1 in_Row rfl 1 (by decide) w_74 rfl rfl d_Desk_look_31 ?_
    exact q_iret E hr hlk (⟨_, rfl, fun h => absurd h (by decide), fun h => absurd h (by decide), fun _ => rfl, hd⟩) hF d_Desk_look_34
