set_option maxHeartbeats 4000000 in
set_option maxRecDepth 100000 in
theorem L_Desk_times (l : Launch) (g : WG) (b pn tn wn : Nat) (mr mq : Int64) (P V9 : Nat → P3) (A : Nat → Int) (hmq : mq = 268238845) (a a2 a3 : Nat) (ha : a < 12) (h2 : a2 < 32) (h3 : a3 < 12) : Ctr l y_Desk_times (.code y_Desk_times prog_1_method_13_code 4 none) 6 234 0 0 (nD b) g [.ref b, .int (nI a), .int (nI a2), .int (nI a3)] (fun H => DS g H H b pn tn wn mr mq ∧ CX g H b ∧ SCA g H b A ∧ PTS g H b P ∧ PWS g H b pn V9) (QV (fun H H' => ∃ T, RP (P a3) (A a2) T ∧ LPt g H' (kPA1 b a) (kPA2 b a) (kPA3 b a) T ∧ DZ g (kPQ b a) H H' b pn tn wn mr mq)) := by
  refine ctr_mk l (lv0 := [(0, .ref b), (1, .int (nI a)), (2, .int (nI a2)), (3, .int (nI a3))]) (by decide) (Nat.le_of_ble_eq_true rfl) rfl ?_
  intro p e s m below meth c ls E hr hlk hnm hl hP
  have hx := E.1
  have hb := E.2.1
  have hK := E.2.2.2.2.2
  have hF : ∀ q ∈ ([] : List Loc), nD b q.base := fun q hq => absurd hq List.not_mem_nil
  obtain ⟨hd, hcx, hsa, hpt, hpw⟩ := hP
  have hk : KJ g (kPS b) s.heap s.heap := KJ.rf
  have hTB : TBL g s.heap b (fun _ => P a3) (fun _ => (A a2).toNat) 0 := TBL.z
  have hAC : AC (fun _ => P a3) 1 := fun _ _ => (hpt a3 h3).2
  refine lv_iload_n hx hb d_Desk_times_0 rfl (lv_at hl 1 rfl) ?_
  refine lv_iconst (v := nI 1) hx hb d_Desk_times_1 (by decide) ?_
  refine q_cS (rest := []) E (c_Desk_needPoints l g (nD b) (nI a) (nI 1) (okP_of (by decide) ha)) w_622 w_1 w_620 w_621 hd_Desk_needPoints rfl ⟨by decide, by decide⟩ trivial hF hl.1 rfl (Nat.le_of_ble_eq_true rfl) d_Desk_times_2 ⟨by decide, by decide⟩ (qv (fun H1 locs hq hF => ?_))
  have hq := hq.symm
  subst hq
  refine lv_iload_n hx hb d_Desk_times_5 rfl (lv_at hl 2 rfl) ?_
  refine lv_iconst (v := nI 1) hx hb d_Desk_times_6 (by decide) ?_
  refine q_cS (rest := []) E (c_Desk_needScalars l g (nD b) (nI a2) (nI 1) (okS_of (by decide) h2)) w_494 w_1 w_492 w_493 hd_Desk_needScalars rfl ⟨by decide, by decide⟩ trivial hF hl.1 rfl (Nat.le_of_ble_eq_true rfl) d_Desk_times_7 ⟨by decide, by decide⟩ (qv (fun H2 locs hq hF => ?_))
  have hq := hq.symm
  subst hq
  refine lv_iload_n hx hb d_Desk_times_10 rfl (lv_at hl 3 rfl) ?_
  refine lv_iconst (v := nI 1) hx hb d_Desk_times_11 (by decide) ?_
  refine q_cS (rest := []) E (c_Desk_needPoints l g (nD b) (nI a3) (nI 1) (okP_of (by decide) h3)) w_622 w_1 w_620 w_621 hd_Desk_needPoints rfl ⟨by decide, by decide⟩ trivial hF hl.1 rfl (Nat.le_of_ble_eq_true rfl) d_Desk_times_12 ⟨by decide, by decide⟩ (qv (fun H3 locs hq hF => ?_))
  have hq := hq.symm
  subst hq
  refine lv_aload_n hx hb d_Desk_times_15 rfl (lv_at hl 0 rfl) ?_
  refine q_get (C := "KateDesk") (T := T_Desk) (N := 16) (ci := 5) E hd.x.ob in_Desk rfl 2 (by decide) w_341 rfl rfl d_Desk_times_16 ?_
  refine lv_iconst (v := nI 0) hx hb d_Desk_times_19 (by decide) ?_
  refine lv_aload_n hx hb d_Desk_times_20 rfl (lv_at hl 0 rfl) ?_
  refine q_get (C := "KateDesk") (T := T_Desk) (N := 16) (ci := 5) E hd.x.ob in_Desk rfl 5 (by decide) w_344 rfl rfl d_Desk_times_21 ?_
  refine lv_iload_n hx hb d_Desk_times_24 rfl (lv_at hl 2 rfl) ?_
  refine q_aald (t := 4) E rfl rfl hd.x.rs.1 a2 rfl h2 (by decide) d_Desk_times_25 ?_
  refine lv_aload_n hx hb d_Desk_times_26 rfl (lv_at hl 0 rfl) ?_
  refine q_get (C := "KateDesk") (T := T_Desk) (N := 16) (ci := 5) E hd.x.ob in_Desk rfl 6 (by decide) w_345 rfl rfl d_Desk_times_27 ?_
  refine lv_iload_n hx hb d_Desk_times_30 rfl (lv_at hl 3 rfl) ?_
  refine q_aald (t := 3) E rfl rfl hd.x.pa a3 rfl h3 (by decide) d_Desk_times_31 ?_
  obtain ⟨fs1, as1, vs1, ls1, es1⟩ := hsa.nat hk (k := a2) h2
  obtain ⟨ns1, ens1⟩ : ∃ m, m = (A a2).toNat := ⟨_, rfl⟩
  rw [← ens1] at vs1 ls1 es1
  refine q_cV (rest := []) E (Z_Sums_place l g (nD b) (b + 186) (b + 176) (b + 187) (b + 444) (b + 461) (b + 462) (b + 463) (b + 464) (b + 169) (kFq b) mq (kX b) (kO b) (kO1 b) (kO2 b) (kO3 b) (kDG b) (nJ b) 0 (kSc b a2) (kPA b a3) (kPA1 b a3) (kPA2 b a3) (kPA3 b a3) (P a3) fs1 ns1 vs1 ls1 (hpt a3 h3).2 (by decide) nJ_D hmq (sap_d b) (pa_X h3) (pa_O h3) (fun h => (ftk_S (by decide) h).2.2.1 (nj_DG (by decide)))) w_677 w_12 w_674 w_675 w_676 hd_Sums_place rfl ⟨by decide, by decide⟩ (OB.recv E.2.2.2.2.2 (by rfl) hd.x.so.1) (⟨hd.x.so, hd.x.dr, ⟨(nx_DG (by decide)).1, (hd.x.dg 0 (by decide)).imp (fun f hf => hf.1)⟩, as1, (hd.x.pt a3 h3), hcx.1.2.1.q0 hk, hpt.at hk h3⟩) hF hl.1 rfl (Nat.le_of_ble_eq_true rfl) d_Desk_times_32 ⟨by decide, by decide⟩ (qv (fun H4 locs hq hF => ?_))
  obtain ⟨hq, hfd, hW⟩ := hq
  have hd := hd.digit (k0 := 0) (by decide) hK (hq.mono (fun q h => h.elim (fun h => Or.inr h) (fun h => Or.inl (ftk_S (by decide) h).2))) (hfd.imp (fun f hf => ⟨hf.1, fun j hj => (hf.2.1 j hj).sd⟩))
  have hTB : TBL g H4 b (fun _ => P a3) (fun _ => (A a2).toNat) (0 + 1) := hTB.nx (by decide) hq (by show ∃ f, AB g _ (kDG b 0) 257 f ∧ (∀ j, j < 257 → DO (f j)) ∧ DSg (fun j => (f j).toInt) 257 = (((A a2).toNat : Nat) : Int) ∧ ((A a2).toNat = 0 → ∀ j, f j = 0); rw [← ens1]; exact hfd) (fun hz => hW (by rw [ens1]; exact hz))
  have hk := hk.tr (hq.mono (fun q h => h.elim (fun h => h ▸ dg_S (by decide)) (fun h => (ftk_S (by decide) h).1)))
  refine lv_aload_n hx hb d_Desk_times_35 rfl (lv_at hl 0 rfl) ?_
  refine q_get (C := "KateDesk") (T := T_Desk) (N := 16) (ci := 5) E hd.x.ob in_Desk rfl 2 (by decide) w_341 rfl rfl d_Desk_times_36 ?_
  refine lv_aload_n hx hb d_Desk_times_39 rfl (lv_at hl 0 rfl) ?_
  refine q_get (C := "KateDesk") (T := T_Desk) (N := 16) (ci := 5) E hd.x.ob in_Desk rfl 6 (by decide) w_345 rfl rfl d_Desk_times_40 ?_
  refine lv_iload_n hx hb d_Desk_times_43 rfl (lv_at hl 1 rfl) ?_
  refine q_aald (t := 3) E rfl rfl hd.x.pa a rfl ha (by decide) d_Desk_times_44 ?_
  refine lv_iconst (v := nI 1) hx hb d_Desk_times_45 (by decide) ?_
  obtain ⟨fdg, Wt, q1, q2, q3, q4, q5⟩ := hTB.ch
  refine q_cV (rest := []) E ((L_Sums_total l g (nJ b) (b + 186) (b + 176) (b + 187) (b + 444) (b + 461) (b + 462) (b + 463) (b + 464) (b + 169) (kFq b) mq (kX b) (kO b) (kO1 b) (kO2 b) (kO3 b) (kDG b) 1 (kPA b a) (kPA1 b a) (kPA2 b a) (kPA3 b a) (fun _ => P a3) Wt fdg hAC (by decide) hmq (sap_d b) (pa_ne (b := b) ha).1 (pa_ne (b := b) ha).2.1 q2 q4 (fun k hk h => (ftot_J (t1 := b + 462) (t2 := b + 462) (t3 := b + 462) (kc_nJ (by decide)) (kc_nJ (by decide)) (kc_nJ (by decide)) (Or.imp id (Or.imp id (Or.imp id (Or.imp id Or.inl))) h)).2.1 (nj_DG hk))).up nJ_D) w_720 w_12 w_717 w_718 w_719 hd_Sums_total rfl ⟨by decide, by decide⟩ (OB.recv E.2.2.2.2.2 (by rfl) hd.x.so.1) (⟨hd.x.so, (hd.x.pt a ha), hd.x.dr, hcx.1.2.1.q0 hk, q1, q5⟩) hF hl.1 rfl (Nat.le_of_ble_eq_true rfl) d_Desk_times_46 ⟨by decide, by decide⟩ (qv (fun H5 locs hq hF => ?_))
  obtain ⟨hq, T9, hRS, hT9⟩ := hq
  have hRS := hRS.ext (z' := fun t => (((fun _ => (A a2).toNat) t : Nat) : Int)) (fun t ht => q3 t ht)
  have hd := hd.kj hK hq (fun q h => ftot_J (pa_nJ ha).1 (pa_nJ ha).2.1 (pa_nJ ha).2.2 h)
  have hk9 : KJ g (kPQ b a) s.heap H5 := (hk.mono (fun q h => Or.inl h)).tr (hq.mono (fun q h => (ftot_S h)))
  have hRP : RP (P a3) (A a2) T9 := by have h9 := RSm_one hAC hRS; rw [Int.toNat_of_nonneg (hsa.nn h2)] at h9; exact h9
  exact q_vret E hr hlk (⟨rfl, T9, hRP, hT9, hk9, hd.2⟩) hF d_Desk_times_49
set_option maxHeartbeats 4000000 in
set_option maxRecDepth 100000 in
theorem L_Desk_join (l : Launch) (g : WG) (b pn tn wn : Nat) (mr mq : Int64) (P V9 : Nat → P3) (A : Nat → Int) (hmq : mq = 268238845) (w0 a a2 a3 : Nat) (hw : w0 < 4) (ha : a < 12) (h2 : a2 < 12) (h3 : a3 < 12) : Ctr l y_Desk_join (.code y_Desk_join prog_1_method_12_code 5 none) 4 187 0 0 (nD b) g [.ref b, .int (nI w0), .int (nI a), .int (nI a2), .int (nI a3)] (fun H => DS g H H b pn tn wn mr mq ∧ CX g H b ∧ SCA g H b A ∧ PTS g H b P ∧ PWS g H b pn V9) (QV (fun H H' => ∃ T, ((w0 = 0 ∧ PE T PZ0) ∨ (w0 = 1 ∧ T = G9) ∨ (w0 = 2 ∧ T = AD (P a2) (P a3)) ∨ (w0 = 3 ∧ T = AD (P a2) (NG (P a3)))) ∧ LPt g H' (kPA1 b a) (kPA2 b a) (kPA3 b a) T ∧ DZ g (kPQ b a) H H' b pn tn wn mr mq)) := by
  refine ctr_mk l (lv0 := [(0, .ref b), (1, .int (nI w0)), (2, .int (nI a)), (3, .int (nI a2)), (4, .int (nI a3))]) (by decide) (Nat.le_of_ble_eq_true rfl) rfl ?_
  intro p e s m below meth c ls E hr hlk hnm hl hP
  have hx := E.1
  have hb := E.2.1
  have hK := E.2.2.2.2.2
  have hF : ∀ q ∈ ([] : List Loc), nD b q.base := fun q hq => absurd hq List.not_mem_nil
  obtain ⟨hd, hcx, hsa, hpt, hpw⟩ := hP
  have hk : KJ g (kPS b) s.heap s.heap := KJ.rf
  match w0, hw with
  | 0, _ =>
    refine lv_iload_n hx hb d_Desk_join_0 rfl (lv_at hl 1 rfl) ?_
    refine q_cS (rest := []) E (c_Desk_needKind l g (nD b) (nI 0) (⟨nI_pos (by decide), nI_le (by decide) (by decide)⟩)) w_544 w_1 w_542 w_543 hd_Desk_needKind rfl ⟨by decide, by decide⟩ trivial hF hl.1 rfl (Nat.le_of_ble_eq_true rfl) d_Desk_join_1 ⟨by decide, by decide⟩ (qv (fun H1 locs hq hF => ?_))
    have hq := hq.symm
    subst hq
    refine lv_iload_n hx hb d_Desk_join_4 rfl (lv_at hl 2 rfl) ?_
    refine lv_iconst (v := nI 1) hx hb d_Desk_join_5 (by decide) ?_
    refine q_cS (rest := []) E (c_Desk_needPoints l g (nD b) (nI a) (nI 1) (okP_of (by decide) ha)) w_622 w_1 w_620 w_621 hd_Desk_needPoints rfl ⟨by decide, by decide⟩ trivial hF hl.1 rfl (Nat.le_of_ble_eq_true rfl) d_Desk_join_6 ⟨by decide, by decide⟩ (qv (fun H2 locs hq hF => ?_))
    have hq := hq.symm
    subst hq
    refine lv_iload_n hx hb d_Desk_join_9 rfl (lv_at hl 3 rfl) ?_
    refine lv_iconst (v := nI 1) hx hb d_Desk_join_10 (by decide) ?_
    refine q_cS (rest := []) E (c_Desk_needPoints l g (nD b) (nI a2) (nI 1) (okP_of (by decide) h2)) w_622 w_1 w_620 w_621 hd_Desk_needPoints rfl ⟨by decide, by decide⟩ trivial hF hl.1 rfl (Nat.le_of_ble_eq_true rfl) d_Desk_join_11 ⟨by decide, by decide⟩ (qv (fun H3 locs hq hF => ?_))
    have hq := hq.symm
    subst hq
    refine lv_iload hx hb d_Desk_join_14 (lv_at hl 4 rfl) ?_
    refine lv_iconst (v := nI 1) hx hb d_Desk_join_16 (by decide) ?_
    refine q_cS (rest := []) E (c_Desk_needPoints l g (nD b) (nI a3) (nI 1) (okP_of (by decide) h3)) w_622 w_1 w_620 w_621 hd_Desk_needPoints rfl ⟨by decide, by decide⟩ trivial hF hl.1 rfl (Nat.le_of_ble_eq_true rfl) d_Desk_join_17 ⟨by decide, by decide⟩ (qv (fun H4 locs hq hF => ?_))
    have hq := hq.symm
    subst hq
    refine lv_iload_n hx hb d_Desk_join_20 rfl (lv_at hl 1 rfl) ?_
    refine lv_if_ne (tgt := 36) hx hb d_Desk_join_21 (by decide) (fun h9 => absurd (by decide) h9) (fun _ => ?_)
    refine lv_aload_n hx hb d_Desk_join_24 rfl (lv_at hl 0 rfl) ?_
    refine q_get (C := "KateDesk") (T := T_Desk) (N := 16) (ci := 5) E hd.x.ob in_Desk rfl 6 (by decide) w_345 rfl rfl d_Desk_join_25 ?_
    refine lv_iload_n hx hb d_Desk_join_28 rfl (lv_at hl 2 rfl) ?_
    refine q_aald (t := 3) E rfl rfl hd.x.pa a rfl ha (by decide) d_Desk_join_29 ?_
    refine q_cV (rest := []) E ((L_Point_becomeNothing l g (nJ b) (kPA b a) (kPA1 b a) (kPA2 b a) (kPA3 b a) (pa_ne (b := b) ha).1).up nJ_D) w_635 w_2 w_780 w_633 w_634 hd_Point_becomeNothing rfl ⟨by decide, by decide⟩ (OB.recv E.2.2.2.2.2 (by rfl) ((hd.x.pt a ha).1)) (hd.x.pt a ha) hF hl.1 rfl (Nat.le_of_ble_eq_true rfl) d_Desk_join_30 ⟨by decide, by decide⟩ (qv (fun H5 locs hq hF => ?_))
    obtain ⟨hq, hT9⟩ := hq
    have hd := hd.kj hK hq (pt_le (hd.x.pt a ha))
    have hk9 : KJ g (kPQ b a) s.heap H5 := (hk.mono (fun q h => Or.inl h)).tr (hq.mono (fun q h => Or.inr h))
    refine lv_goto (tgt := 93) hx hb d_Desk_join_33 (by decide) ?_
    exact q_vret E hr hlk (⟨rfl, PN, Or.inl ⟨rfl, PN_PE⟩, hT9, hk9, hd.2⟩) hF d_Desk_join_93
  | 1, _ =>
    refine lv_iload_n hx hb d_Desk_join_0 rfl (lv_at hl 1 rfl) ?_
    refine q_cS (rest := []) E (c_Desk_needKind l g (nD b) (nI 1) (⟨nI_pos (by decide), nI_le (by decide) (by decide)⟩)) w_544 w_1 w_542 w_543 hd_Desk_needKind rfl ⟨by decide, by decide⟩ trivial hF hl.1 rfl (Nat.le_of_ble_eq_true rfl) d_Desk_join_1 ⟨by decide, by decide⟩ (qv (fun H1 locs hq hF => ?_))
    have hq := hq.symm
    subst hq
    refine lv_iload_n hx hb d_Desk_join_4 rfl (lv_at hl 2 rfl) ?_
    refine lv_iconst (v := nI 1) hx hb d_Desk_join_5 (by decide) ?_
    refine q_cS (rest := []) E (c_Desk_needPoints l g (nD b) (nI a) (nI 1) (okP_of (by decide) ha)) w_622 w_1 w_620 w_621 hd_Desk_needPoints rfl ⟨by decide, by decide⟩ trivial hF hl.1 rfl (Nat.le_of_ble_eq_true rfl) d_Desk_join_6 ⟨by decide, by decide⟩ (qv (fun H2 locs hq hF => ?_))
    have hq := hq.symm
    subst hq
    refine lv_iload_n hx hb d_Desk_join_9 rfl (lv_at hl 3 rfl) ?_
    refine lv_iconst (v := nI 1) hx hb d_Desk_join_10 (by decide) ?_
    refine q_cS (rest := []) E (c_Desk_needPoints l g (nD b) (nI a2) (nI 1) (okP_of (by decide) h2)) w_622 w_1 w_620 w_621 hd_Desk_needPoints rfl ⟨by decide, by decide⟩ trivial hF hl.1 rfl (Nat.le_of_ble_eq_true rfl) d_Desk_join_11 ⟨by decide, by decide⟩ (qv (fun H3 locs hq hF => ?_))
    have hq := hq.symm
    subst hq
    refine lv_iload hx hb d_Desk_join_14 (lv_at hl 4 rfl) ?_
    refine lv_iconst (v := nI 1) hx hb d_Desk_join_16 (by decide) ?_
    refine q_cS (rest := []) E (c_Desk_needPoints l g (nD b) (nI a3) (nI 1) (okP_of (by decide) h3)) w_622 w_1 w_620 w_621 hd_Desk_needPoints rfl ⟨by decide, by decide⟩ trivial hF hl.1 rfl (Nat.le_of_ble_eq_true rfl) d_Desk_join_17 ⟨by decide, by decide⟩ (qv (fun H4 locs hq hF => ?_))
    have hq := hq.symm
    subst hq
    refine lv_iload_n hx hb d_Desk_join_20 rfl (lv_at hl 1 rfl) ?_
    refine lv_if_ne (tgt := 36) hx hb d_Desk_join_21 (by decide) (fun _ => ?_) (fun h9 => absurd h9 (by decide))
    refine lv_iload_n hx hb d_Desk_join_36 rfl (lv_at hl 1 rfl) ?_
    refine lv_iconst (v := nI 1) hx hb d_Desk_join_37 (by decide) ?_
    refine lv_icmp_ne (tgt := 57) hx hb d_Desk_join_38 (by decide) (fun h9 => absurd (by decide) h9) (fun _ => ?_)
    refine lv_aload_n hx hb d_Desk_join_41 rfl (lv_at hl 0 rfl) ?_
    refine q_get (C := "KateDesk") (T := T_Desk) (N := 16) (ci := 5) E hd.x.ob in_Desk rfl 6 (by decide) w_345 rfl rfl d_Desk_join_42 ?_
    refine lv_iload_n hx hb d_Desk_join_45 rfl (lv_at hl 2 rfl) ?_
    refine q_aald (t := 3) E rfl rfl hd.x.pa a rfl ha (by decide) d_Desk_join_46 ?_
    refine lv_aload_n hx hb d_Desk_join_47 rfl (lv_at hl 0 rfl) ?_
    refine q_get (C := "KateDesk") (T := T_Desk) (N := 16) (ci := 5) E hd.x.ob in_Desk rfl 11 (by decide) w_350 rfl rfl d_Desk_join_48 ?_
    refine q_cV (rest := []) E ((L_Point_copy l g (nJ b) (kPA b a) (kPA1 b a) (kPA2 b a) (kPA3 b a) (b + 495) (b + 496) (b + 497) (b + 498) G9 (pa_ne (b := b) ha).1 (by unfold kPA1 kPA2; omega)).up nJ_D) w_697 w_2 w_730 w_695 w_696 hd_Point_copy rfl ⟨by decide, by decide⟩ (OB.recv E.2.2.2.2.2 (by rfl) ((hd.x.pt a ha).1)) (⟨(hd.x.pt a ha), hd.x.ge, hcx.2.1.ge hk⟩) hF hl.1 rfl (Nat.le_of_ble_eq_true rfl) d_Desk_join_51 ⟨by decide, by decide⟩ (qv (fun H5 locs hq hF => ?_))
    obtain ⟨hq, hT9⟩ := hq
    have hd := hd.kj hK hq (pt_le (hd.x.pt a ha))
    have hk9 : KJ g (kPQ b a) s.heap H5 := (hk.mono (fun q h => Or.inl h)).tr (hq.mono (fun q h => Or.inr h))
    refine lv_goto (tgt := 93) hx hb d_Desk_join_54 (by decide) ?_
    exact q_vret E hr hlk (⟨rfl, G9, Or.inr (Or.inl ⟨rfl, rfl⟩), hT9, hk9, hd.2⟩) hF d_Desk_join_93
  | 2, _ =>
    refine lv_iload_n hx hb d_Desk_join_0 rfl (lv_at hl 1 rfl) ?_
    refine q_cS (rest := []) E (c_Desk_needKind l g (nD b) (nI 2) (⟨nI_pos (by decide), nI_le (by decide) (by decide)⟩)) w_544 w_1 w_542 w_543 hd_Desk_needKind rfl ⟨by decide, by decide⟩ trivial hF hl.1 rfl (Nat.le_of_ble_eq_true rfl) d_Desk_join_1 ⟨by decide, by decide⟩ (qv (fun H1 locs hq hF => ?_))
    have hq := hq.symm
    subst hq
    refine lv_iload_n hx hb d_Desk_join_4 rfl (lv_at hl 2 rfl) ?_
    refine lv_iconst (v := nI 1) hx hb d_Desk_join_5 (by decide) ?_
    refine q_cS (rest := []) E (c_Desk_needPoints l g (nD b) (nI a) (nI 1) (okP_of (by decide) ha)) w_622 w_1 w_620 w_621 hd_Desk_needPoints rfl ⟨by decide, by decide⟩ trivial hF hl.1 rfl (Nat.le_of_ble_eq_true rfl) d_Desk_join_6 ⟨by decide, by decide⟩ (qv (fun H2 locs hq hF => ?_))
    have hq := hq.symm
    subst hq
    refine lv_iload_n hx hb d_Desk_join_9 rfl (lv_at hl 3 rfl) ?_
    refine lv_iconst (v := nI 1) hx hb d_Desk_join_10 (by decide) ?_
    refine q_cS (rest := []) E (c_Desk_needPoints l g (nD b) (nI a2) (nI 1) (okP_of (by decide) h2)) w_622 w_1 w_620 w_621 hd_Desk_needPoints rfl ⟨by decide, by decide⟩ trivial hF hl.1 rfl (Nat.le_of_ble_eq_true rfl) d_Desk_join_11 ⟨by decide, by decide⟩ (qv (fun H3 locs hq hF => ?_))
    have hq := hq.symm
    subst hq
    refine lv_iload hx hb d_Desk_join_14 (lv_at hl 4 rfl) ?_
    refine lv_iconst (v := nI 1) hx hb d_Desk_join_16 (by decide) ?_
    refine q_cS (rest := []) E (c_Desk_needPoints l g (nD b) (nI a3) (nI 1) (okP_of (by decide) h3)) w_622 w_1 w_620 w_621 hd_Desk_needPoints rfl ⟨by decide, by decide⟩ trivial hF hl.1 rfl (Nat.le_of_ble_eq_true rfl) d_Desk_join_17 ⟨by decide, by decide⟩ (qv (fun H4 locs hq hF => ?_))
    have hq := hq.symm
    subst hq
    refine lv_iload_n hx hb d_Desk_join_20 rfl (lv_at hl 1 rfl) ?_
    refine lv_if_ne (tgt := 36) hx hb d_Desk_join_21 (by decide) (fun _ => ?_) (fun h9 => absurd h9 (by decide))
    refine lv_iload_n hx hb d_Desk_join_36 rfl (lv_at hl 1 rfl) ?_
    refine lv_iconst (v := nI 1) hx hb d_Desk_join_37 (by decide) ?_
    refine lv_icmp_ne (tgt := 57) hx hb d_Desk_join_38 (by decide) (fun _ => ?_) (fun h9 => absurd h9 (by decide))
    refine lv_aload_n hx hb d_Desk_join_57 rfl (lv_at hl 0 rfl) ?_
    refine q_get (C := "KateDesk") (T := T_Desk) (N := 16) (ci := 5) E hd.x.ob in_Desk rfl 1 (by decide) w_340 rfl rfl d_Desk_join_58 ?_
    refine lv_aload_n hx hb d_Desk_join_61 rfl (lv_at hl 0 rfl) ?_
    refine q_get (C := "KateDesk") (T := T_Desk) (N := 16) (ci := 5) E hd.x.ob in_Desk rfl 6 (by decide) w_345 rfl rfl d_Desk_join_62 ?_
    refine lv_iload_n hx hb d_Desk_join_65 rfl (lv_at hl 2 rfl) ?_
    refine q_aald (t := 3) E rfl rfl hd.x.pa a rfl ha (by decide) d_Desk_join_66 ?_
    refine lv_aload_n hx hb d_Desk_join_67 rfl (lv_at hl 0 rfl) ?_
    refine q_get (C := "KateDesk") (T := T_Desk) (N := 16) (ci := 5) E hd.x.ob in_Desk rfl 6 (by decide) w_345 rfl rfl d_Desk_join_68 ?_
    refine lv_iload_n hx hb d_Desk_join_71 rfl (lv_at hl 3 rfl) ?_
    refine q_aald (t := 3) E rfl rfl hd.x.pa a2 rfl h2 (by decide) d_Desk_join_72 ?_
    refine lv_aload_n hx hb d_Desk_join_73 rfl (lv_at hl 0 rfl) ?_
    refine q_get (C := "KateDesk") (T := T_Desk) (N := 16) (ci := 5) E hd.x.ob in_Desk rfl 6 (by decide) w_345 rfl rfl d_Desk_join_74 ?_
    refine lv_iload hx hb d_Desk_join_77 (lv_at hl 4 rfl) ?_
    refine q_aald (t := 3) E rfl rfl hd.x.pa a3 rfl h3 (by decide) d_Desk_join_79 ?_
    refine lv_iload_n hx hb d_Desk_join_80 rfl (lv_at hl 1 rfl) ?_
    refine lv_iconst (v := nI 3) hx hb d_Desk_join_81 (by decide) ?_
    refine lv_icmp_ne (tgt := 89) hx hb d_Desk_join_82 (by decide) (fun _ => ?_) (fun h9 => absurd h9 (by decide))
    refine lv_iconst (v := nI 0) hx hb d_Desk_join_89 (by decide) ?_
    refine q_cV (rest := []) E ((L_Curve_add l g (nJ b) (b + 176) (b + 169) (kFq b) mq (kX b) (kPA b a) (kPA1 b a) (kPA2 b a) (kPA3 b a) (kPA b a2) (kPA1 b a2) (kPA2 b a2) (kPA3 b a2) (kPA b a3) (kPA1 b a3) (kPA2 b a3) (kPA3 b a3) (nI 0) (P a2) (P a3) (xa_d b) hmq (pa_X h2) (pa_X h3) ⟨(pa_ne (b := b) h2).2.2.2.2.2.1, (pa_ne (b := b) h2).2.2.2.2.2.2.1, (pa_ne (b := b) h2).2.2.2.2.2.2.2⟩ ⟨(pa_ne (b := b) h3).2.2.2.2.2.1, (pa_ne (b := b) h3).2.2.2.2.2.2.1, (pa_ne (b := b) h3).2.2.2.2.2.2.2⟩ (fun i hi => ⟨(pa_X ha i hi).1.symm, (pa_X ha i hi).2.1.symm, (pa_X ha i hi).2.2.symm⟩) ⟨(pa_ne (b := b) ha).2.2.1, (pa_ne (b := b) ha).2.2.2.1, (pa_ne (b := b) ha).2.2.2.2.1⟩ (pa_ne (b := b) ha).1).up nJ_D) w_711 w_11 w_781 w_709 w_710 hd_Curve_add rfl ⟨by decide, by decide⟩ (OB.recv E.2.2.2.2.2 (by rfl) hd.x.so.2.1.1) (⟨hd.x.so.2.1, (hd.x.pt a ha), (hd.x.pt a2 h2), (hd.x.pt a3 h3), hcx.1.2.1.q0 hk, hpt.at hk h2, hpt.at hk h3⟩) hF hl.1 rfl (Nat.le_of_ble_eq_true rfl) d_Desk_join_90 ⟨by decide, by decide⟩ (qv (fun H5 locs hq hF => ?_))
    obtain ⟨hq, T9, hR9, hT9⟩ := hq
    rw [if_pos (show nI 0 = 0 from rfl)] at hR9
    subst hR9
    have hd := hd.kj hK hq (fun q h => h.elim (fun h => by obtain ⟨i, hi, e⟩ := h; rw [e]; exact kx_nJ hi) (fun h => h.elim (fun h => h ▸ k5_nJ) (fun h => h.elim (fun h => h ▸ (pa_nJ ha).1) (fun h => h.elim (fun h => h ▸ (pa_nJ ha).2.1) (fun h => h ▸ (pa_nJ ha).2.2)))))
    have hk9 : KJ g (kPQ b a) s.heap H5 := (hk.mono (fun q h => Or.inl h)).tr (hq.mono (fun q h => h.elim (fun h => by obtain ⟨i, hi, e⟩ := h; rw [e]; exact Or.inl (by unfold kPS kX; omega)) (fun h => h.elim (fun h => Or.inl (by rw [h, kFq_5]; unfold kPS; omega)) (fun h => Or.inr h))))
    exact q_vret E hr hlk (⟨rfl, AD (P a2) (P a3), Or.inr (Or.inr (Or.inl ⟨rfl, rfl⟩)), hT9, hk9, hd.2⟩) hF d_Desk_join_93
  | 3, _ =>
    refine lv_iload_n hx hb d_Desk_join_0 rfl (lv_at hl 1 rfl) ?_
    refine q_cS (rest := []) E (c_Desk_needKind l g (nD b) (nI 3) (⟨nI_pos (by decide), nI_le (by decide) (by decide)⟩)) w_544 w_1 w_542 w_543 hd_Desk_needKind rfl ⟨by decide, by decide⟩ trivial hF hl.1 rfl (Nat.le_of_ble_eq_true rfl) d_Desk_join_1 ⟨by decide, by decide⟩ (qv (fun H1 locs hq hF => ?_))
    have hq := hq.symm
    subst hq
    refine lv_iload_n hx hb d_Desk_join_4 rfl (lv_at hl 2 rfl) ?_
    refine lv_iconst (v := nI 1) hx hb d_Desk_join_5 (by decide) ?_
    refine q_cS (rest := []) E (c_Desk_needPoints l g (nD b) (nI a) (nI 1) (okP_of (by decide) ha)) w_622 w_1 w_620 w_621 hd_Desk_needPoints rfl ⟨by decide, by decide⟩ trivial hF hl.1 rfl (Nat.le_of_ble_eq_true rfl) d_Desk_join_6 ⟨by decide, by decide⟩ (qv (fun H2 locs hq hF => ?_))
    have hq := hq.symm
    subst hq
    refine lv_iload_n hx hb d_Desk_join_9 rfl (lv_at hl 3 rfl) ?_
    refine lv_iconst (v := nI 1) hx hb d_Desk_join_10 (by decide) ?_
    refine q_cS (rest := []) E (c_Desk_needPoints l g (nD b) (nI a2) (nI 1) (okP_of (by decide) h2)) w_622 w_1 w_620 w_621 hd_Desk_needPoints rfl ⟨by decide, by decide⟩ trivial hF hl.1 rfl (Nat.le_of_ble_eq_true rfl) d_Desk_join_11 ⟨by decide, by decide⟩ (qv (fun H3 locs hq hF => ?_))
    have hq := hq.symm
    subst hq
    refine lv_iload hx hb d_Desk_join_14 (lv_at hl 4 rfl) ?_
    refine lv_iconst (v := nI 1) hx hb d_Desk_join_16 (by decide) ?_
    refine q_cS (rest := []) E (c_Desk_needPoints l g (nD b) (nI a3) (nI 1) (okP_of (by decide) h3)) w_622 w_1 w_620 w_621 hd_Desk_needPoints rfl ⟨by decide, by decide⟩ trivial hF hl.1 rfl (Nat.le_of_ble_eq_true rfl) d_Desk_join_17 ⟨by decide, by decide⟩ (qv (fun H4 locs hq hF => ?_))
    have hq := hq.symm
    subst hq
    refine lv_iload_n hx hb d_Desk_join_20 rfl (lv_at hl 1 rfl) ?_
    refine lv_if_ne (tgt := 36) hx hb d_Desk_join_21 (by decide) (fun _ => ?_) (fun h9 => absurd h9 (by decide))
    refine lv_iload_n hx hb d_Desk_join_36 rfl (lv_at hl 1 rfl) ?_
    refine lv_iconst (v := nI 1) hx hb d_Desk_join_37 (by decide) ?_
    refine lv_icmp_ne (tgt := 57) hx hb d_Desk_join_38 (by decide) (fun _ => ?_) (fun h9 => absurd h9 (by decide))
    refine lv_aload_n hx hb d_Desk_join_57 rfl (lv_at hl 0 rfl) ?_
    refine q_get (C := "KateDesk") (T := T_Desk) (N := 16) (ci := 5) E hd.x.ob in_Desk rfl 1 (by decide) w_340 rfl rfl d_Desk_join_58 ?_
    refine lv_aload_n hx hb d_Desk_join_61 rfl (lv_at hl 0 rfl) ?_
    refine q_get (C := "KateDesk") (T := T_Desk) (N := 16) (ci := 5) E hd.x.ob in_Desk rfl 6 (by decide) w_345 rfl rfl d_Desk_join_62 ?_
    refine lv_iload_n hx hb d_Desk_join_65 rfl (lv_at hl 2 rfl) ?_
    refine q_aald (t := 3) E rfl rfl hd.x.pa a rfl ha (by decide) d_Desk_join_66 ?_
    refine lv_aload_n hx hb d_Desk_join_67 rfl (lv_at hl 0 rfl) ?_
    refine q_get (C := "KateDesk") (T := T_Desk) (N := 16) (ci := 5) E hd.x.ob in_Desk rfl 6 (by decide) w_345 rfl rfl d_Desk_join_68 ?_
    refine lv_iload_n hx hb d_Desk_join_71 rfl (lv_at hl 3 rfl) ?_
    refine q_aald (t := 3) E rfl rfl hd.x.pa a2 rfl h2 (by decide) d_Desk_join_72 ?_
    refine lv_aload_n hx hb d_Desk_join_73 rfl (lv_at hl 0 rfl) ?_
    refine q_get (C := "KateDesk") (T := T_Desk) (N := 16) (ci := 5) E hd.x.ob in_Desk rfl 6 (by decide) w_345 rfl rfl d_Desk_join_74 ?_
    refine lv_iload hx hb d_Desk_join_77 (lv_at hl 4 rfl) ?_
    refine q_aald (t := 3) E rfl rfl hd.x.pa a3 rfl h3 (by decide) d_Desk_join_79 ?_
    refine lv_iload_n hx hb d_Desk_join_80 rfl (lv_at hl 1 rfl) ?_
    refine lv_iconst (v := nI 3) hx hb d_Desk_join_81 (by decide) ?_
    refine lv_icmp_ne (tgt := 89) hx hb d_Desk_join_82 (by decide) (fun h9 => absurd (by decide) h9) (fun _ => ?_)
    refine lv_iconst (v := nI 1) hx hb d_Desk_join_85 (by decide) ?_
    refine lv_goto (tgt := 90) hx hb d_Desk_join_86 (by decide) ?_
    refine q_cV (rest := []) E ((L_Curve_add l g (nJ b) (b + 176) (b + 169) (kFq b) mq (kX b) (kPA b a) (kPA1 b a) (kPA2 b a) (kPA3 b a) (kPA b a2) (kPA1 b a2) (kPA2 b a2) (kPA3 b a2) (kPA b a3) (kPA1 b a3) (kPA2 b a3) (kPA3 b a3) (nI 1) (P a2) (P a3) (xa_d b) hmq (pa_X h2) (pa_X h3) ⟨(pa_ne (b := b) h2).2.2.2.2.2.1, (pa_ne (b := b) h2).2.2.2.2.2.2.1, (pa_ne (b := b) h2).2.2.2.2.2.2.2⟩ ⟨(pa_ne (b := b) h3).2.2.2.2.2.1, (pa_ne (b := b) h3).2.2.2.2.2.2.1, (pa_ne (b := b) h3).2.2.2.2.2.2.2⟩ (fun i hi => ⟨(pa_X ha i hi).1.symm, (pa_X ha i hi).2.1.symm, (pa_X ha i hi).2.2.symm⟩) ⟨(pa_ne (b := b) ha).2.2.1, (pa_ne (b := b) ha).2.2.2.1, (pa_ne (b := b) ha).2.2.2.2.1⟩ (pa_ne (b := b) ha).1).up nJ_D) w_711 w_11 w_781 w_709 w_710 hd_Curve_add rfl ⟨by decide, by decide⟩ (OB.recv E.2.2.2.2.2 (by rfl) hd.x.so.2.1.1) (⟨hd.x.so.2.1, (hd.x.pt a ha), (hd.x.pt a2 h2), (hd.x.pt a3 h3), hcx.1.2.1.q0 hk, hpt.at hk h2, hpt.at hk h3⟩) hF hl.1 rfl (Nat.le_of_ble_eq_true rfl) d_Desk_join_90 ⟨by decide, by decide⟩ (qv (fun H5 locs hq hF => ?_))
    obtain ⟨hq, T9, hR9, hT9⟩ := hq
    rw [if_neg (show ¬ nI 1 = 0 by decide)] at hR9
    subst hR9
    have hd := hd.kj hK hq (fun q h => h.elim (fun h => by obtain ⟨i, hi, e⟩ := h; rw [e]; exact kx_nJ hi) (fun h => h.elim (fun h => h ▸ k5_nJ) (fun h => h.elim (fun h => h ▸ (pa_nJ ha).1) (fun h => h.elim (fun h => h ▸ (pa_nJ ha).2.1) (fun h => h ▸ (pa_nJ ha).2.2)))))
    have hk9 : KJ g (kPQ b a) s.heap H5 := (hk.mono (fun q h => Or.inl h)).tr (hq.mono (fun q h => h.elim (fun h => by obtain ⟨i, hi, e⟩ := h; rw [e]; exact Or.inl (by unfold kPS kX; omega)) (fun h => h.elim (fun h => Or.inl (by rw [h, kFq_5]; unfold kPS; omega)) (fun h => Or.inr h))))
    exact q_vret E hr hlk (⟨rfl, AD (P a2) (NG (P a3)), Or.inr (Or.inr (Or.inr ⟨rfl, rfl⟩)), hT9, hk9, hd.2⟩) hF d_Desk_join_93
set_option maxHeartbeats 4000000 in
set_option maxRecDepth 100000 in
theorem L_Desk_same (l : Launch) (g : WG) (b pn tn wn : Nat) (mr mq : Int64) (P V9 : Nat → P3) (A : Nat → Int) (hmq : mq = 268238845) (a a2 : Nat) (ha : a < 12) (h2 : a2 < 12) : Ctr l y_Desk_same (.code y_Desk_same prog_1_method_15_code 3 (some FieldType.boolean)) 4 181 0 0 (nD b) g [.ref b, .int (nI a), .int (nI a2)] (fun H => DS g H H b pn tn wn mr mq ∧ CX g H b ∧ SCA g H b A ∧ PTS g H b P ∧ PWS g H b pn V9) (QI (fun r H H' => ((r = 1 ∧ PE (P a) (P a2)) ∨ (r = 0 ∧ ¬ PE (P a) (P a2))) ∧ DZ g (kPS b) H H' b pn tn wn mr mq)) := by
  refine ctr_mk l (lv0 := [(0, .ref b), (1, .int (nI a)), (2, .int (nI a2))]) (by decide) (Nat.le_of_ble_eq_true rfl) rfl ?_
  intro p e s m below meth c ls E hr hlk hnm hl hP
  have hx := E.1
  have hb := E.2.1
  have hK := E.2.2.2.2.2
  have hF : ∀ q ∈ ([] : List Loc), nD b q.base := fun q hq => absurd hq List.not_mem_nil
  obtain ⟨hd, hcx, hsa, hpt, hpw⟩ := hP
  have hk : KJ g (kPS b) s.heap s.heap := KJ.rf
  refine lv_iload_n hx hb d_Desk_same_0 rfl (lv_at hl 1 rfl) ?_
  refine lv_iconst (v := nI 1) hx hb d_Desk_same_1 (by decide) ?_
  refine q_cS (rest := []) E (c_Desk_needPoints l g (nD b) (nI a) (nI 1) (okP_of (by decide) ha)) w_622 w_1 w_620 w_621 hd_Desk_needPoints rfl ⟨by decide, by decide⟩ trivial hF hl.1 rfl (Nat.le_of_ble_eq_true rfl) d_Desk_same_2 ⟨by decide, by decide⟩ (qv (fun H1 locs hq hF => ?_))
  have hq := hq.symm
  subst hq
  refine lv_iload_n hx hb d_Desk_same_5 rfl (lv_at hl 2 rfl) ?_
  refine lv_iconst (v := nI 1) hx hb d_Desk_same_6 (by decide) ?_
  refine q_cS (rest := []) E (c_Desk_needPoints l g (nD b) (nI a2) (nI 1) (okP_of (by decide) h2)) w_622 w_1 w_620 w_621 hd_Desk_needPoints rfl ⟨by decide, by decide⟩ trivial hF hl.1 rfl (Nat.le_of_ble_eq_true rfl) d_Desk_same_7 ⟨by decide, by decide⟩ (qv (fun H2 locs hq hF => ?_))
  have hq := hq.symm
  subst hq
  refine lv_aload_n hx hb d_Desk_same_10 rfl (lv_at hl 0 rfl) ?_
  refine q_get (C := "KateDesk") (T := T_Desk) (N := 16) (ci := 5) E hd.x.ob in_Desk rfl 1 (by decide) w_340 rfl rfl d_Desk_same_11 ?_
  refine lv_aload_n hx hb d_Desk_same_14 rfl (lv_at hl 0 rfl) ?_
  refine q_get (C := "KateDesk") (T := T_Desk) (N := 16) (ci := 5) E hd.x.ob in_Desk rfl 6 (by decide) w_345 rfl rfl d_Desk_same_15 ?_
  refine lv_iload_n hx hb d_Desk_same_18 rfl (lv_at hl 1 rfl) ?_
  refine q_aald (t := 3) E rfl rfl hd.x.pa a rfl ha (by decide) d_Desk_same_19 ?_
  refine lv_aload_n hx hb d_Desk_same_20 rfl (lv_at hl 0 rfl) ?_
  refine q_get (C := "KateDesk") (T := T_Desk) (N := 16) (ci := 5) E hd.x.ob in_Desk rfl 6 (by decide) w_345 rfl rfl d_Desk_same_21 ?_
  refine lv_iload_n hx hb d_Desk_same_24 rfl (lv_at hl 2 rfl) ?_
  refine q_aald (t := 3) E rfl rfl hd.x.pa a2 rfl h2 (by decide) d_Desk_same_25 ?_
  refine q_cV (rest := []) E ((L_Curve_equal l g (nJ b) (b + 176) (b + 169) (kFq b) mq (kX b) (kPA b a) (kPA1 b a) (kPA2 b a) (kPA3 b a) (kPA b a2) (kPA1 b a2) (kPA2 b a2) (kPA3 b a2) (P a) (P a2) (hpt a ha).2 (hpt a2 h2).2 (xa_d b) hmq (pa_X ha) (pa_X h2)).up nJ_D) w_810 w_11 w_807 w_808 w_809 hd_Curve_equal rfl ⟨by decide, by decide⟩ (OB.recv E.2.2.2.2.2 (by rfl) hd.x.so.2.1.1) (⟨hd.x.so.2.1, (hd.x.pt a ha), (hd.x.pt a2 h2), hcx.1.2.1.q0 hk, hpt.at hk ha, hpt.at hk h2⟩) hF hl.1 rfl (Nat.le_of_ble_eq_true rfl) d_Desk_same_26 ⟨by decide, by decide⟩ (qi (fun re H3 locs hq hF => ?_))
  obtain ⟨hre, hq⟩ := hq
  have hd := hd.kj hK hq (fun q h => h.elim (fun h => h ▸ kx_nJ (by decide)) (fun h => h ▸ kx_nJ (by decide)))
  have hk := hk.tr (hq.mono (fun q h => h.elim (fun h => by rw [h]; unfold kPS kX; omega) (fun h => by rw [h]; unfold kPS kX; omega)))
  exact q_zret E hr (by rcases hre with h | h <;> rw [h.1] <;> rfl) hlk (⟨re, rfl, hre, hk, hd.2⟩) hF d_Desk_same_29
set_option maxHeartbeats 4000000 in
set_option maxRecDepth 100000 in
theorem L_Desk_combine (l : Launch) (g : WG) (b pn tn wn : Nat) (mr mq : Int64) (P V9 : Nat → P3) (A : Nat → Int) (hmq : mq = 268238845) (a a2 a3 n : Nat) (ha : a < 12) (hn : n ≤ 12) (h2 : 0 < n → a2 + n ≤ 32) (h3 : 0 < n → a3 + n ≤ 12) : Ctr l y_Desk_combine (.code y_Desk_combine prog_1_method_14_code 6 none) 6 234 0 0 (nD b) g [.ref b, .int (nI a), .int (nI a2), .int (nI a3), .int (nI n)] (fun H => DS g H H b pn tn wn mr mq ∧ CX g H b ∧ SCA g H b A ∧ PTS g H b P ∧ PWS g H b pn V9) (QV (fun H H' => ∃ T, RSm (fun t => P (a3 + t)) n (fun t => A (a2 + t)) T ∧ LPt g H' (kPA1 b a) (kPA2 b a) (kPA3 b a) T ∧ DZ g (kPQ b a) H H' b pn tn wn mr mq)) := by
  refine ctr_mk l (lv0 := [(0, .ref b), (1, .int (nI a)), (2, .int (nI a2)), (3, .int (nI a3)), (4, .int (nI n))]) (by decide) (Nat.le_of_ble_eq_true rfl) rfl ?_
  intro p e s m below meth c ls E hr hlk hnm hl hP
  have hx := E.1
  have hb := E.2.1
  have hK := E.2.2.2.2.2
  have hF : ∀ q ∈ ([] : List Loc), nD b q.base := fun q hq => absurd hq List.not_mem_nil
  obtain ⟨hd, hcx, hsa, hpt, hpw⟩ := hP
  have hk : KJ g (kPS b) s.heap s.heap := KJ.rf
  have hTB : TBL g s.heap b (fun t => P (a3 + t)) (fun t => (A (a2 + t)).toNat) 0 := TBL.z
  have hAC : AC (fun t => P (a3 + t)) n := fun t ht => (hpt (a3 + t) (by have := h3 (by omega); omega)).2
  have lp : ∀ (k : Nat) (i : Nat) (H : Heap) (locs : List Loc) (ls : Array Slot), i + k = n → DS g s.heap H b pn tn wn mr mq → KJ g (kPS b) s.heap H → TBL g H b (fun t => P (a3 + t)) (fun t => (A (a2 + t)).toNat) i → (∀ q ∈ locs, nD b q.base) → lv_has ls 6 [(5, .int (nI i)), (0, .ref b), (1, .int (nI a)), (2, .int (nI a2)), (3, .int (nI a3)), (4, .int (nI n))] → W p l e { frames := 6, cells := 0, slots := 0, locals := 234 } s m [.ref b, .int (nI a), .int (nI a2), .int (nI a3), .int (nI n)].toArray below meth c H locs 0 0 (MQ below (QcP (QV (fun H H' => ∃ T, RSm (fun t => P (a3 + t)) n (fun t => A (a2 + t)) T ∧ LPt g H' (kPA1 b a) (kPA2 b a) (kPA3 b a) T ∧ DZ g (kPQ b a) H H' b pn tn wn mr mq))) [.ref b, .int (nI a), .int (nI a2), .int (nI a3), .int (nI n)].toArray s 0 0 (fun q => nD b q)) (F0 m 28 ls []) := by
    intro k
    induction k with
    | zero =>
      intro  i   H   locs   ls hi hd hk hTB hF hl
      obtain rfl : i = n := by omega
      refine lv_iload hx hb d_Desk_combine_28 (lv_at hl 0 rfl) ?_
      refine lv_iload hx hb d_Desk_combine_30 (lv_at hl 5 rfl) ?_
      refine lv_icmp_ge (tgt := 68) hx hb d_Desk_combine_32 (by decide) (fun _ => ?_) (fun h9 => absurd (nI_le (Nat.le_refl _) (by omega)) h9)
      refine lv_aload_n hx hb d_Desk_combine_68 rfl (lv_at hl 1 rfl) ?_
      refine q_get (C := "KateDesk") (T := T_Desk) (N := 16) (ci := 5) E hd.x.ob in_Desk rfl 2 (by decide) w_341 rfl rfl d_Desk_combine_69 ?_
      refine lv_aload_n hx hb d_Desk_combine_72 rfl (lv_at hl 1 rfl) ?_
      refine q_get (C := "KateDesk") (T := T_Desk) (N := 16) (ci := 5) E hd.x.ob in_Desk rfl 6 (by decide) w_345 rfl rfl d_Desk_combine_73 ?_
      refine lv_iload_n hx hb d_Desk_combine_76 rfl (lv_at hl 2 rfl) ?_
      refine q_aald (t := 3) E rfl rfl hd.x.pa a rfl ha (by decide) d_Desk_combine_77 ?_
      refine lv_iload hx hb d_Desk_combine_78 (lv_at hl 5 rfl) ?_
      obtain ⟨fdg, Wt, q1, q2, q3, q4, q5⟩ := hTB.ch
      refine q_cV (rest := []) E ((L_Sums_total l g (nJ b) (b + 186) (b + 176) (b + 187) (b + 444) (b + 461) (b + 462) (b + 463) (b + 464) (b + 169) (kFq b) mq (kX b) (kO b) (kO1 b) (kO2 b) (kO3 b) (kDG b) i (kPA b a) (kPA1 b a) (kPA2 b a) (kPA3 b a) (fun t => P (a3 + t)) Wt fdg hAC (by omega) hmq (sap_d b) (pa_ne (b := b) ha).1 (pa_ne (b := b) ha).2.1 q2 q4 (fun k hk h => (ftot_J (t1 := b + 462) (t2 := b + 462) (t3 := b + 462) (kc_nJ (by decide)) (kc_nJ (by decide)) (kc_nJ (by decide)) (Or.imp id (Or.imp id (Or.imp id (Or.imp id Or.inl))) h)).2.1 (nj_DG hk))).up nJ_D) w_720 w_12 w_717 w_718 w_719 hd_Sums_total rfl ⟨by decide, by decide⟩ (OB.recv E.2.2.2.2.2 (by rfl) hd.x.so.1) (⟨hd.x.so, (hd.x.pt a ha), hd.x.dr, hcx.1.2.1.q0 hk, q1, q5⟩) hF hl.1 rfl (Nat.le_of_ble_eq_true rfl) d_Desk_combine_80 ⟨by decide, by decide⟩ (qv (fun H1 locs hq hF => ?_))
      obtain ⟨hq, T9, hRS, hT9⟩ := hq
      have hRS := hRS.ext (z' := fun t => (((fun t => (A (a2 + t)).toNat) t : Nat) : Int)) (fun t ht => q3 t ht)
      have hd := hd.kj hK hq (fun q h => ftot_J (pa_nJ ha).1 (pa_nJ ha).2.1 (pa_nJ ha).2.2 h)
      have hk9 : KJ g (kPQ b a) s.heap H1 := (hk.mono (fun q h => Or.inl h)).tr (hq.mono (fun q h => ftot_S h))
      have hRS := hRS.ext (z' := fun t => A (a2 + t)) (fun t ht => Int.toNat_of_nonneg (hsa.nn (by have := h2 (by omega); omega)))
      exact q_vret E hr hlk (⟨rfl, T9, hRS, hT9, hk9, hd.2⟩) hF d_Desk_combine_83
    | succ k ih =>
      intro  i   H   locs   ls hi hd hk hTB hF hl
      have hin : i < n := by omega
      refine lv_iload hx hb d_Desk_combine_28 (lv_at hl 0 rfl) ?_
      refine lv_iload hx hb d_Desk_combine_30 (lv_at hl 5 rfl) ?_
      refine lv_icmp_ge (tgt := 68) hx hb d_Desk_combine_32 (by decide) (fun h9 => absurd h9 (nI_ge hin (by omega))) (fun _ => ?_)
      refine lv_aload_n hx hb d_Desk_combine_35 rfl (lv_at hl 1 rfl) ?_
      refine q_get (C := "KateDesk") (T := T_Desk) (N := 16) (ci := 5) E hd.x.ob in_Desk rfl 2 (by decide) w_341 rfl rfl d_Desk_combine_36 ?_
      refine lv_iload hx hb d_Desk_combine_39 (lv_at hl 0 rfl) ?_
      refine lv_aload_n hx hb d_Desk_combine_41 rfl (lv_at hl 1 rfl) ?_
      refine q_get (C := "KateDesk") (T := T_Desk) (N := 16) (ci := 5) E hd.x.ob in_Desk rfl 5 (by decide) w_344 rfl rfl d_Desk_combine_42 ?_
      refine lv_iload_n hx hb d_Desk_combine_45 rfl (lv_at hl 3 rfl) ?_
      refine lv_iload hx hb d_Desk_combine_46 (lv_at hl 0 rfl) ?_
      refine lv_iadd hx hb d_Desk_combine_48 ?_
      refine lv_topi (fun t9 e9 => ?_)
      obtain rfl : t9 = nI (a2 + i) := e9.trans (nI_add _ _)
      refine q_aald (t := 4) E rfl rfl hd.x.rs.1 (a2 + i) rfl (by have := h2 (by omega); omega) (by decide) d_Desk_combine_49 ?_
      refine lv_aload_n hx hb d_Desk_combine_50 rfl (lv_at hl 1 rfl) ?_
      refine q_get (C := "KateDesk") (T := T_Desk) (N := 16) (ci := 5) E hd.x.ob in_Desk rfl 6 (by decide) w_345 rfl rfl d_Desk_combine_51 ?_
      refine lv_iload_n hx hb d_Desk_combine_54 rfl (lv_at hl 4 rfl) ?_
      refine lv_iload hx hb d_Desk_combine_55 (lv_at hl 0 rfl) ?_
      refine lv_iadd hx hb d_Desk_combine_57 ?_
      refine lv_topi (fun t9 e9 => ?_)
      obtain rfl : t9 = nI (a3 + i) := e9.trans (nI_add _ _)
      refine q_aald (t := 3) E rfl rfl hd.x.pa (a3 + i) rfl (by have := h3 (by omega); omega) (by decide) d_Desk_combine_58 ?_
      obtain ⟨fs1, as1, vs1, ls1, es1⟩ := hsa.nat hk (k := (a2 + i)) (by have := h2 (by omega); omega)
      obtain ⟨ns1, ens1⟩ : ∃ m, m = (A (a2 + i)).toNat := ⟨_, rfl⟩
      rw [← ens1] at vs1 ls1 es1
      refine q_cV (rest := []) E (Z_Sums_place l g (nD b) (b + 186) (b + 176) (b + 187) (b + 444) (b + 461) (b + 462) (b + 463) (b + 464) (b + 169) (kFq b) mq (kX b) (kO b) (kO1 b) (kO2 b) (kO3 b) (kDG b) (nJ b) i (kSc b (a2 + i)) (kPA b (a3 + i)) (kPA1 b (a3 + i)) (kPA2 b (a3 + i)) (kPA3 b (a3 + i)) (P (a3 + i)) fs1 ns1 vs1 ls1 (hpt (a3 + i) (by have := h3 (by omega); omega)).2 (by omega) nJ_D hmq (sap_d b) (pa_X (by have := h3 (by omega); omega)) (pa_O (by have := h3 (by omega); omega)) (fun h => (ftk_S (by omega) h).2.2.1 (nj_DG (by omega)))) w_677 w_12 w_674 w_675 w_676 hd_Sums_place rfl ⟨by decide, by decide⟩ (OB.recv E.2.2.2.2.2 (by rfl) hd.x.so.1) (⟨hd.x.so, hd.x.dr, ⟨(nx_DG (by omega)).1, (hd.x.dg i (by omega)).imp (fun f hf => hf.1)⟩, as1, (hd.x.pt (a3 + i) (by have := h3 (by omega); omega)), hcx.1.2.1.q0 hk, hpt.at hk (by have := h3 (by omega); omega)⟩) hF hl.1 rfl (Nat.le_of_ble_eq_true rfl) d_Desk_combine_59 ⟨by decide, by decide⟩ (qv (fun H1 locs hq hF => ?_))
      obtain ⟨hq, hfd, hW⟩ := hq
      have hd := hd.digit (k0 := i) (by omega) hK (hq.mono (fun q h => h.elim (fun h => Or.inr h) (fun h => Or.inl (ftk_S (by omega) h).2))) (hfd.imp (fun f hf => ⟨hf.1, fun j hj => (hf.2.1 j hj).sd⟩))
      have hTB : TBL g H1 b (fun t => P (a3 + t)) (fun t => (A (a2 + t)).toNat) (i + 1) := hTB.nx (by omega) hq (by show ∃ f, AB g _ (kDG b i) 257 f ∧ (∀ j, j < 257 → DO (f j)) ∧ DSg (fun j => (f j).toInt) 257 = (((A (a2 + i)).toNat : Nat) : Int) ∧ ((A (a2 + i)).toNat = 0 → ∀ j, f j = 0); rw [← ens1]; exact hfd) (fun hz => hW (by rw [ens1]; exact hz))
      have hk := hk.tr (hq.mono (fun q h => h.elim (fun h => h ▸ dg_S (by omega)) (fun h => (ftk_S (by omega) h).1)))
      refine lv_iinc (k := 0) (v := nI (i + 1)) (lv' := [(5, .int (nI (i + 1))), (0, .ref b), (1, .int (nI a)), (2, .int (nI a2)), (3, .int (nI a3)), (4, .int (nI n))]) hx hb d_Desk_combine_62 hl rfl (i_inc i) (by decide) rfl (fun ls hl => ?_)
      refine lv_goto (tgt := 28) hx hb d_Desk_combine_65 (by decide) ?_
      have hl : lv_has ls 6 [(5, .int (nI (i + 1))), (0, .ref b), (1, .int (nI a)), (2, .int (nI a2)), (3, .int (nI a3)), (4, .int (nI n))] := lv_sub hl [0, 1, 2, 3, 4, 5] rfl
      exact ih (i + 1) _ _ ls (by omega) hd hk hTB hF hl
  refine lv_iload_n hx hb d_Desk_combine_0 rfl (lv_at hl 1 rfl) ?_
  refine lv_iconst (v := nI 1) hx hb d_Desk_combine_1 (by decide) ?_
  refine q_cS (rest := []) E (c_Desk_needPoints l g (nD b) (nI a) (nI 1) (okP_of (by decide) ha)) w_622 w_1 w_620 w_621 hd_Desk_needPoints rfl ⟨by decide, by decide⟩ trivial hF hl.1 rfl (Nat.le_of_ble_eq_true rfl) d_Desk_combine_2 ⟨by decide, by decide⟩ (qv (fun H1 locs hq hF => ?_))
  have hq := hq.symm
  subst hq
  refine lv_iload hx hb d_Desk_combine_5 (lv_at hl 4 rfl) ?_
  refine lv_iconst (v := nI 0) hx hb d_Desk_combine_7 (by decide) ?_
  refine lv_bipush (v := nI 12) hx hb d_Desk_combine_8 (by decide) ?_
  refine q_cS (rest := []) E (c_Desk_needCount l g (nD b) (nI n) (nI 0) (nI 12) (okC_of (Nat.zero_le _) hn (by decide))) w_798 w_1 w_796 w_797 hd_Desk_needCount rfl ⟨by decide, by decide⟩ trivial hF hl.1 rfl (Nat.le_of_ble_eq_true rfl) d_Desk_combine_10 ⟨by decide, by decide⟩ (qv (fun H2 locs hq hF => ?_))
  have hq := hq.symm
  subst hq
  refine lv_iload_n hx hb d_Desk_combine_13 rfl (lv_at hl 2 rfl) ?_
  refine lv_iload hx hb d_Desk_combine_14 (lv_at hl 4 rfl) ?_
  refine q_cS (rest := []) E (c_Desk_needScalars l g (nD b) (nI a2) (nI n) (cm_S h2)) w_494 w_1 w_492 w_493 hd_Desk_needScalars rfl ⟨by decide, by decide⟩ trivial hF hl.1 rfl (Nat.le_of_ble_eq_true rfl) d_Desk_combine_16 ⟨by decide, by decide⟩ (qv (fun H3 locs hq hF => ?_))
  have hq := hq.symm
  subst hq
  refine lv_iload_n hx hb d_Desk_combine_19 rfl (lv_at hl 3 rfl) ?_
  refine lv_iload hx hb d_Desk_combine_20 (lv_at hl 4 rfl) ?_
  refine q_cS (rest := []) E (c_Desk_needPoints l g (nD b) (nI a3) (nI n) (cm_P h3)) w_622 w_1 w_620 w_621 hd_Desk_needPoints rfl ⟨by decide, by decide⟩ trivial hF hl.1 rfl (Nat.le_of_ble_eq_true rfl) d_Desk_combine_22 ⟨by decide, by decide⟩ (qv (fun H4 locs hq hF => ?_))
  have hq := hq.symm
  subst hq
  refine lv_iconst (v := nI 0) hx hb d_Desk_combine_25 (by decide) ?_
  refine lv_istore (lv' := [(5, .int (nI 0)), (0, .ref b), (1, .int (nI a)), (2, .int (nI a2)), (3, .int (nI a3)), (4, .int (nI n))]) hx hb d_Desk_combine_26 hl (by decide) rfl (fun ls hl => ?_)
  have hl : lv_has ls 6 [(5, .int (nI 0)), (0, .ref b), (1, .int (nI a)), (2, .int (nI a2)), (3, .int (nI a3)), (4, .int (nI n))] := lv_sub hl [0, 1, 2, 3, 4, 5] rfl
  exact lp n 0 _ _ ls (by omega) hd hk hTB hF hl
set_option maxHeartbeats 4000000 in
set_option maxRecDepth 100000 in
theorem L_Desk_commit (l : Launch) (g : WG) (b pn tn wn : Nat) (mr mq : Int64) (P V9 : Nat → P3) (A : Nat → Int) (hmq : mq = 268238845) (a a2 n : Nat) (ha : a < 12) (hn : n ≤ 16) (h2 : 0 < n → a2 + n ≤ 32) (hnp : n ≤ pn) (hp16 : pn ≤ 16) : Ctr l y_Desk_commit (.code y_Desk_commit prog_1_method_17_code 5 none) 6 234 0 0 (nD b) g [.ref b, .int (nI a), .int (nI a2), .int (nI n)] (fun H => DS g H H b pn tn wn mr mq ∧ CX g H b ∧ SCA g H b A ∧ PTS g H b P ∧ PWS g H b pn V9) (QV (fun H H' => ∃ T, RSm (fun t => V9 t) n (fun t => A (a2 + t)) T ∧ LPt g H' (kPA1 b a) (kPA2 b a) (kPA3 b a) T ∧ DZ g (kPQ b a) H H' b pn tn wn mr mq)) := by
  refine ctr_mk l (lv0 := [(0, .ref b), (1, .int (nI a)), (2, .int (nI a2)), (3, .int (nI n))]) (by decide) (Nat.le_of_ble_eq_true rfl) rfl ?_
  intro p e s m below meth c ls E hr hlk hnm hl hP
  have hx := E.1
  have hb := E.2.1
  have hK := E.2.2.2.2.2
  have hF : ∀ q ∈ ([] : List Loc), nD b q.base := fun q hq => absurd hq List.not_mem_nil
  obtain ⟨hd, hcx, hsa, hpt, hpw⟩ := hP
  have hk : KJ g (kPS b) s.heap s.heap := KJ.rf
  have hTB : TBL g s.heap b (fun t => V9 t) (fun t => (A (a2 + t)).toNat) 0 := TBL.z
  have hAC : AC (fun t => V9 t) n := fun t ht => (hpw t (by omega)).2
  have lp : ∀ (k : Nat) (i : Nat) (H : Heap) (locs : List Loc) (ls : Array Slot), i + k = n → DS g s.heap H b pn tn wn mr mq → KJ g (kPS b) s.heap H → TBL g H b (fun t => V9 t) (fun t => (A (a2 + t)).toNat) i → (∀ q ∈ locs, nD b q.base) → lv_has ls 5 [(4, .int (nI i)), (0, .ref b), (1, .int (nI a)), (2, .int (nI a2)), (3, .int (nI n))] → W p l e { frames := 6, cells := 0, slots := 0, locals := 234 } s m [.ref b, .int (nI a), .int (nI a2), .int (nI n)].toArray below meth c H locs 0 0 (MQ below (QcP (QV (fun H H' => ∃ T, RSm (fun t => V9 t) n (fun t => A (a2 + t)) T ∧ LPt g H' (kPA1 b a) (kPA2 b a) (kPA3 b a) T ∧ DZ g (kPQ b a) H H' b pn tn wn mr mq))) [.ref b, .int (nI a), .int (nI a2), .int (nI n)].toArray s 0 0 (fun q => nD b q)) (F0 m 39 ls []) := by
    intro k
    induction k with
    | zero =>
      intro  i   H   locs   ls hi hd hk hTB hF hl
      obtain rfl : i = n := by omega
      refine lv_iload hx hb d_Desk_commit_39 (lv_at hl 0 rfl) ?_
      refine lv_iload_n hx hb d_Desk_commit_41 rfl (lv_at hl 4 rfl) ?_
      refine lv_icmp_ge (tgt := 76) hx hb d_Desk_commit_42 (by decide) (fun _ => ?_) (fun h9 => absurd (nI_le (Nat.le_refl _) (by omega)) h9)
      refine lv_aload_n hx hb d_Desk_commit_76 rfl (lv_at hl 1 rfl) ?_
      refine q_get (C := "KateDesk") (T := T_Desk) (N := 16) (ci := 5) E hd.x.ob in_Desk rfl 2 (by decide) w_341 rfl rfl d_Desk_commit_77 ?_
      refine lv_aload_n hx hb d_Desk_commit_80 rfl (lv_at hl 1 rfl) ?_
      refine q_get (C := "KateDesk") (T := T_Desk) (N := 16) (ci := 5) E hd.x.ob in_Desk rfl 6 (by decide) w_345 rfl rfl d_Desk_commit_81 ?_
      refine lv_iload_n hx hb d_Desk_commit_84 rfl (lv_at hl 2 rfl) ?_
      refine q_aald (t := 3) E rfl rfl hd.x.pa a rfl ha (by decide) d_Desk_commit_85 ?_
      refine lv_iload_n hx hb d_Desk_commit_86 rfl (lv_at hl 4 rfl) ?_
      obtain ⟨fdg, Wt, q1, q2, q3, q4, q5⟩ := hTB.ch
      refine q_cV (rest := []) E ((L_Sums_total l g (nJ b) (b + 186) (b + 176) (b + 187) (b + 444) (b + 461) (b + 462) (b + 463) (b + 464) (b + 169) (kFq b) mq (kX b) (kO b) (kO1 b) (kO2 b) (kO3 b) (kDG b) i (kPA b a) (kPA1 b a) (kPA2 b a) (kPA3 b a) (fun t => V9 t) Wt fdg hAC (by omega) hmq (sap_d b) (pa_ne (b := b) ha).1 (pa_ne (b := b) ha).2.1 q2 q4 (fun k hk h => (ftot_J (t1 := b + 462) (t2 := b + 462) (t3 := b + 462) (kc_nJ (by decide)) (kc_nJ (by decide)) (kc_nJ (by decide)) (Or.imp id (Or.imp id (Or.imp id (Or.imp id Or.inl))) h)).2.1 (nj_DG hk))).up nJ_D) w_720 w_12 w_717 w_718 w_719 hd_Sums_total rfl ⟨by decide, by decide⟩ (OB.recv E.2.2.2.2.2 (by rfl) hd.x.so.1) (⟨hd.x.so, (hd.x.pt a ha), hd.x.dr, hcx.1.2.1.q0 hk, q1, q5⟩) hF hl.1 rfl (Nat.le_of_ble_eq_true rfl) d_Desk_commit_87 ⟨by decide, by decide⟩ (qv (fun H1 locs hq hF => ?_))
      obtain ⟨hq, T9, hRS, hT9⟩ := hq
      have hRS := hRS.ext (z' := fun t => (((fun t => (A (a2 + t)).toNat) t : Nat) : Int)) (fun t ht => q3 t ht)
      have hd := hd.kj hK hq (fun q h => ftot_J (pa_nJ ha).1 (pa_nJ ha).2.1 (pa_nJ ha).2.2 h)
      have hk9 : KJ g (kPQ b a) s.heap H1 := (hk.mono (fun q h => Or.inl h)).tr (hq.mono (fun q h => ftot_S h))
      have hRS := hRS.ext (z' := fun t => A (a2 + t)) (fun t ht => Int.toNat_of_nonneg (hsa.nn (by have := h2 (by omega); omega)))
      exact q_vret E hr hlk (⟨rfl, T9, hRS, hT9, hk9, hd.2⟩) hF d_Desk_commit_90
    | succ k ih =>
      intro  i   H   locs   ls hi hd hk hTB hF hl
      have hin : i < n := by omega
      refine lv_iload hx hb d_Desk_commit_39 (lv_at hl 0 rfl) ?_
      refine lv_iload_n hx hb d_Desk_commit_41 rfl (lv_at hl 4 rfl) ?_
      refine lv_icmp_ge (tgt := 76) hx hb d_Desk_commit_42 (by decide) (fun h9 => absurd h9 (nI_ge hin (by omega))) (fun _ => ?_)
      refine lv_aload_n hx hb d_Desk_commit_45 rfl (lv_at hl 1 rfl) ?_
      refine q_get (C := "KateDesk") (T := T_Desk) (N := 16) (ci := 5) E hd.x.ob in_Desk rfl 2 (by decide) w_341 rfl rfl d_Desk_commit_46 ?_
      refine lv_iload hx hb d_Desk_commit_49 (lv_at hl 0 rfl) ?_
      refine lv_aload_n hx hb d_Desk_commit_51 rfl (lv_at hl 1 rfl) ?_
      refine q_get (C := "KateDesk") (T := T_Desk) (N := 16) (ci := 5) E hd.x.ob in_Desk rfl 5 (by decide) w_344 rfl rfl d_Desk_commit_52 ?_
      refine lv_iload_n hx hb d_Desk_commit_55 rfl (lv_at hl 3 rfl) ?_
      refine lv_iload hx hb d_Desk_commit_56 (lv_at hl 0 rfl) ?_
      refine lv_iadd hx hb d_Desk_commit_58 ?_
      refine lv_topi (fun t9 e9 => ?_)
      obtain rfl : t9 = nI (a2 + i) := e9.trans (nI_add _ _)
      refine q_aald (t := 4) E rfl rfl hd.x.rs.1 (a2 + i) rfl (by have := h2 (by omega); omega) (by decide) d_Desk_commit_59 ?_
      refine lv_aload_n hx hb d_Desk_commit_60 rfl (lv_at hl 1 rfl) ?_
      refine q_get (C := "KateDesk") (T := T_Desk) (N := 16) (ci := 5) E hd.x.ob in_Desk rfl 7 (by decide) w_346 rfl rfl d_Desk_commit_61 ?_
      refine lv_iload hx hb d_Desk_commit_64 (lv_at hl 0 rfl) ?_
      refine q_aald (t := 3) E rfl rfl hd.x.pw i rfl (by omega) (by decide) d_Desk_commit_66 ?_
      obtain ⟨fs1, as1, vs1, ls1, es1⟩ := hsa.nat hk (k := (a2 + i)) (by have := h2 (by omega); omega)
      obtain ⟨ns1, ens1⟩ : ∃ m, m = (A (a2 + i)).toNat := ⟨_, rfl⟩
      rw [← ens1] at vs1 ls1 es1
      refine q_cV (rest := []) E (Z_Sums_place l g (nD b) (b + 186) (b + 176) (b + 187) (b + 444) (b + 461) (b + 462) (b + 463) (b + 464) (b + 169) (kFq b) mq (kX b) (kO b) (kO1 b) (kO2 b) (kO3 b) (kDG b) (nJ b) i (kSc b (a2 + i)) (kPW b i) (kPW1 b i) (kPW2 b i) (kPW3 b i) (V9 i) fs1 ns1 vs1 ls1 (hpw i (by omega)).2 (by omega) nJ_D hmq (sap_d b) (pw_X (by omega)) (pw_O (by omega)) (fun h => (ftk_S (by omega) h).2.2.1 (nj_DG (by omega)))) w_677 w_12 w_674 w_675 w_676 hd_Sums_place rfl ⟨by decide, by decide⟩ (OB.recv E.2.2.2.2.2 (by rfl) hd.x.so.1) (⟨hd.x.so, hd.x.dr, ⟨(nx_DG (by omega)).1, (hd.x.dg i (by omega)).imp (fun f hf => hf.1)⟩, as1, (hd.x.pq i (by omega)), hcx.1.2.1.q0 hk, hpw.at hk (by omega) (by omega)⟩) hF hl.1 rfl (Nat.le_of_ble_eq_true rfl) d_Desk_commit_67 ⟨by decide, by decide⟩ (qv (fun H1 locs hq hF => ?_))
      obtain ⟨hq, hfd, hW⟩ := hq
      have hd := hd.digit (k0 := i) (by omega) hK (hq.mono (fun q h => h.elim (fun h => Or.inr h) (fun h => Or.inl (ftk_S (by omega) h).2))) (hfd.imp (fun f hf => ⟨hf.1, fun j hj => (hf.2.1 j hj).sd⟩))
      have hTB : TBL g H1 b (fun t => V9 t) (fun t => (A (a2 + t)).toNat) (i + 1) := hTB.nx (by omega) hq (by show ∃ f, AB g _ (kDG b i) 257 f ∧ (∀ j, j < 257 → DO (f j)) ∧ DSg (fun j => (f j).toInt) 257 = (((A (a2 + i)).toNat : Nat) : Int) ∧ ((A (a2 + i)).toNat = 0 → ∀ j, f j = 0); rw [← ens1]; exact hfd) (fun hz => hW (by rw [ens1]; exact hz))
      have hk := hk.tr (hq.mono (fun q h => h.elim (fun h => h ▸ dg_S (by omega)) (fun h => (ftk_S (by omega) h).1)))
      refine lv_iinc (k := 0) (v := nI (i + 1)) (lv' := [(4, .int (nI (i + 1))), (0, .ref b), (1, .int (nI a)), (2, .int (nI a2)), (3, .int (nI n))]) hx hb d_Desk_commit_70 hl rfl (i_inc i) (by decide) rfl (fun ls hl => ?_)
      refine lv_goto (tgt := 39) hx hb d_Desk_commit_73 (by decide) ?_
      have hl : lv_has ls 5 [(4, .int (nI (i + 1))), (0, .ref b), (1, .int (nI a)), (2, .int (nI a2)), (3, .int (nI n))] := lv_sub hl [0, 1, 2, 3, 4] rfl
      exact ih (i + 1) _ _ ls (by omega) hd hk hTB hF hl
  refine lv_iload_n hx hb d_Desk_commit_0 rfl (lv_at hl 1 rfl) ?_
  refine lv_iconst (v := nI 1) hx hb d_Desk_commit_1 (by decide) ?_
  refine q_cS (rest := []) E (c_Desk_needPoints l g (nD b) (nI a) (nI 1) (okP_of (by decide) ha)) w_622 w_1 w_620 w_621 hd_Desk_needPoints rfl ⟨by decide, by decide⟩ trivial hF hl.1 rfl (Nat.le_of_ble_eq_true rfl) d_Desk_commit_2 ⟨by decide, by decide⟩ (qv (fun H1 locs hq hF => ?_))
  have hq := hq.symm
  subst hq
  refine lv_iload_n hx hb d_Desk_commit_5 rfl (lv_at hl 3 rfl) ?_
  refine lv_iconst (v := nI 0) hx hb d_Desk_commit_6 (by decide) ?_
  refine lv_bipush (v := nI 16) hx hb d_Desk_commit_7 (by decide) ?_
  refine q_cS (rest := []) E (c_Desk_needCount l g (nD b) (nI n) (nI 0) (nI 16) (okC_of (Nat.zero_le _) hn (by decide))) w_798 w_1 w_796 w_797 hd_Desk_needCount rfl ⟨by decide, by decide⟩ trivial hF hl.1 rfl (Nat.le_of_ble_eq_true rfl) d_Desk_commit_9 ⟨by decide, by decide⟩ (qv (fun H2 locs hq hF => ?_))
  have hq := hq.symm
  subst hq
  refine lv_iload_n hx hb d_Desk_commit_12 rfl (lv_at hl 2 rfl) ?_
  refine lv_iload_n hx hb d_Desk_commit_13 rfl (lv_at hl 3 rfl) ?_
  refine q_cS (rest := []) E (c_Desk_needScalars l g (nD b) (nI a2) (nI n) (cm_S h2)) w_494 w_1 w_492 w_493 hd_Desk_needScalars rfl ⟨by decide, by decide⟩ trivial hF hl.1 rfl (Nat.le_of_ble_eq_true rfl) d_Desk_commit_14 ⟨by decide, by decide⟩ (qv (fun H3 locs hq hF => ?_))
  have hq := hq.symm
  subst hq
  refine lv_aload_n hx hb d_Desk_commit_17 rfl (lv_at hl 0 rfl) ?_
  refine q_get (C := "KateDesk") (T := T_Desk) (N := 16) (ci := 5) E hd.x.ob in_Desk rfl 8 (by decide) w_347 rfl rfl d_Desk_commit_18 ?_
  refine lv_iload_n hx hb d_Desk_commit_21 rfl (lv_at hl 3 rfl) ?_
  refine lv_icmp_ge (tgt := 36) hx hb d_Desk_commit_22 (by decide) (fun _ => ?_) (fun h9 => absurd (nI_le hnp (by omega)) h9)
  refine lv_iconst (v := nI 0) hx hb d_Desk_commit_36 (by decide) ?_
  refine lv_istore (lv' := [(4, .int (nI 0)), (0, .ref b), (1, .int (nI a)), (2, .int (nI a2)), (3, .int (nI n))]) hx hb d_Desk_commit_37 hl (by decide) rfl (fun ls hl => ?_)
  have hl : lv_has ls 5 [(4, .int (nI 0)), (0, .ref b), (1, .int (nI a)), (2, .int (nI a2)), (3, .int (nI n))] := lv_sub hl [0, 1, 2, 3, 4] rfl
  exact lp n 0 _ _ ls (by omega) hd hk hTB hF hl
set_option maxHeartbeats 4000000 in
set_option maxRecDepth 100000 in
theorem L_Desk_checks (l : Launch) (g : WG) (b pn tn wn : Nat) (mr mq : Int64) (P V9 : Nat → P3) (A : Nat → Int) (hmq : mq = 268238845) (hmr : mr = 268435455) (a a2 a3 a4 a5 : Nat) (ha : a < 12) (h2 : a2 < 12) (h3 : a3 < 32) (h4 : a4 < 32) (h5 : a5 < 32) : Ctr l y_Desk_checks (.code y_Desk_checks prog_1_method_19_code 6 (some FieldType.boolean)) 6 234 0 0 (nD b) g [.ref b, .int (nI a), .int (nI a2), .int (nI a3), .int (nI a4), .int (nI a5)] (fun H => DS g H H b pn tn wn mr mq ∧ CX g H b ∧ SCA g H b A ∧ PTS g H b P ∧ PWS g H b pn V9) (QI (fun r H H' => (∃ T, RSm (fun t => if t = 0 then G9 else P a2) 2 (fun t => if t = 0 then A a4 else (A a5 - A a3 + RI) % RI) T ∧ ((r = 1 ∧ PE (P a) T) ∨ (r = 0 ∧ ¬ PE (P a) T))) ∧ DZ g (kPS b) H H' b pn tn wn mr mq)) := by
  refine ctr_mk l (lv0 := [(0, .ref b), (1, .int (nI a)), (2, .int (nI a2)), (3, .int (nI a3)), (4, .int (nI a4)), (5, .int (nI a5))]) (by decide) (Nat.le_of_ble_eq_true rfl) rfl ?_
  intro p e s m below meth c ls E hr hlk hnm hl hP
  have hx := E.1
  have hb := E.2.1
  have hK := E.2.2.2.2.2
  have hF : ∀ q ∈ ([] : List Loc), nD b q.base := fun q hq => absurd hq List.not_mem_nil
  obtain ⟨hd, hcx, hsa, hpt, hpw⟩ := hP
  have hk : KJ g (kPS b) s.heap s.heap := KJ.rf
  have hTB : TBL g s.heap b (fun t => if t = 0 then G9 else P a2) (fun t => if t = 0 then (A a4).toNat else ((A a5 - A a3 + RI) % RI).toNat) 0 := TBL.z
  have hAC : AC (fun t => if t = 0 then G9 else P a2) 2 := fun t ht => by show onC (if t = 0 then G9 else P a2); split; exact G9_on; exact (hpt a2 h2).2
  refine lv_iload_n hx hb d_Desk_checks_0 rfl (lv_at hl 1 rfl) ?_
  refine lv_iconst (v := nI 1) hx hb d_Desk_checks_1 (by decide) ?_
  refine q_cS (rest := []) E (c_Desk_needPoints l g (nD b) (nI a) (nI 1) (okP_of (by decide) ha)) w_622 w_1 w_620 w_621 hd_Desk_needPoints rfl ⟨by decide, by decide⟩ trivial hF hl.1 rfl (Nat.le_of_ble_eq_true rfl) d_Desk_checks_2 ⟨by decide, by decide⟩ (qv (fun H1 locs hq hF => ?_))
  have hq := hq.symm
  subst hq
  refine lv_iload_n hx hb d_Desk_checks_5 rfl (lv_at hl 2 rfl) ?_
  refine lv_iconst (v := nI 1) hx hb d_Desk_checks_6 (by decide) ?_
  refine q_cS (rest := []) E (c_Desk_needPoints l g (nD b) (nI a2) (nI 1) (okP_of (by decide) h2)) w_622 w_1 w_620 w_621 hd_Desk_needPoints rfl ⟨by decide, by decide⟩ trivial hF hl.1 rfl (Nat.le_of_ble_eq_true rfl) d_Desk_checks_7 ⟨by decide, by decide⟩ (qv (fun H2 locs hq hF => ?_))
  have hq := hq.symm
  subst hq
  refine lv_iload_n hx hb d_Desk_checks_10 rfl (lv_at hl 3 rfl) ?_
  refine lv_iconst (v := nI 1) hx hb d_Desk_checks_11 (by decide) ?_
  refine q_cS (rest := []) E (c_Desk_needScalars l g (nD b) (nI a3) (nI 1) (okS_of (by decide) h3)) w_494 w_1 w_492 w_493 hd_Desk_needScalars rfl ⟨by decide, by decide⟩ trivial hF hl.1 rfl (Nat.le_of_ble_eq_true rfl) d_Desk_checks_12 ⟨by decide, by decide⟩ (qv (fun H3 locs hq hF => ?_))
  have hq := hq.symm
  subst hq
  refine lv_iload hx hb d_Desk_checks_15 (lv_at hl 4 rfl) ?_
  refine lv_iconst (v := nI 1) hx hb d_Desk_checks_17 (by decide) ?_
  refine q_cS (rest := []) E (c_Desk_needScalars l g (nD b) (nI a4) (nI 1) (okS_of (by decide) h4)) w_494 w_1 w_492 w_493 hd_Desk_needScalars rfl ⟨by decide, by decide⟩ trivial hF hl.1 rfl (Nat.le_of_ble_eq_true rfl) d_Desk_checks_18 ⟨by decide, by decide⟩ (qv (fun H4 locs hq hF => ?_))
  have hq := hq.symm
  subst hq
  refine lv_iload hx hb d_Desk_checks_21 (lv_at hl 5 rfl) ?_
  refine lv_iconst (v := nI 1) hx hb d_Desk_checks_23 (by decide) ?_
  refine q_cS (rest := []) E (c_Desk_needScalars l g (nD b) (nI a5) (nI 1) (okS_of (by decide) h5)) w_494 w_1 w_492 w_493 hd_Desk_needScalars rfl ⟨by decide, by decide⟩ trivial hF hl.1 rfl (Nat.le_of_ble_eq_true rfl) d_Desk_checks_24 ⟨by decide, by decide⟩ (qv (fun H5 locs hq hF => ?_))
  have hq := hq.symm
  subst hq
  refine lv_aload_n hx hb d_Desk_checks_27 rfl (lv_at hl 0 rfl) ?_
  refine q_get (C := "KateDesk") (T := T_Desk) (N := 16) (ci := 5) E hd.x.ob in_Desk rfl 0 (by decide) w_339 rfl rfl d_Desk_checks_28 ?_
  refine lv_aload_n hx hb d_Desk_checks_31 rfl (lv_at hl 0 rfl) ?_
  refine q_get (C := "KateDesk") (T := T_Desk) (N := 16) (ci := 5) E hd.x.ob in_Desk rfl 14 (by decide) w_353 rfl rfl d_Desk_checks_32 ?_
  refine lv_aload_n hx hb d_Desk_checks_35 rfl (lv_at hl 0 rfl) ?_
  refine q_get (C := "KateDesk") (T := T_Desk) (N := 16) (ci := 5) E hd.x.ob in_Desk rfl 5 (by decide) w_344 rfl rfl d_Desk_checks_36 ?_
  refine lv_iload hx hb d_Desk_checks_39 (lv_at hl 5 rfl) ?_
  refine q_aald (t := 4) E rfl rfl hd.x.rs.1 a5 rfl h5 (by decide) d_Desk_checks_41 ?_
  refine lv_aload_n hx hb d_Desk_checks_42 rfl (lv_at hl 0 rfl) ?_
  refine q_get (C := "KateDesk") (T := T_Desk) (N := 16) (ci := 5) E hd.x.ob in_Desk rfl 5 (by decide) w_344 rfl rfl d_Desk_checks_43 ?_
  refine lv_iload_n hx hb d_Desk_checks_46 rfl (lv_at hl 3 rfl) ?_
  refine q_aald (t := 4) E rfl rfl hd.x.rs.1 a3 rfl h3 (by decide) d_Desk_checks_47 ?_
  obtain ⟨f5, j5, v5, r5⟩ := hsa a5 h5
  obtain ⟨f3, j3, v3, r3⟩ := hsa a3 h3
  refine q_cV (rest := []) E (V_Field_subtract l g (nD b) (b + 162) (b + 160) (kSc b a5) (kSc b a3) (kFr b) mr f5 f3 kR (A a5) (A a3) RI v5 v3 kR_rv r5 r3 (show b + 168 ≠ b + 160 by omega)) w_169 w_4 w_566 w_167 w_168 hd_Field_subtract rfl ⟨by decide, by decide⟩ (OB.recv E.2.2.2.2.2 (by rfl) hd.x.fr.1) (⟨hd.x.fr.nd, hd.x.hs.nd, j5, j3, hcx.1.1⟩) hF hl.1 rfl (Nat.le_of_ble_eq_true rfl) d_Desk_checks_48 ⟨by decide, by decide⟩ (qv (fun H6 locs hq hF => ?_))
  obtain ⟨hq, fu, ju, vu⟩ := hq
  rw [sub_m ⟨hsa.nn h5, r5⟩ ⟨hsa.nn h3, r3⟩] at vu
  have hd := hd.kj hK hq (fun q h => h ▸ kc_nJ (by decide))
  have hk := hk.tr (hq.mono (fun q h => by rw [h]; unfold kPS; omega))
  have hTB : TBL g H6 b (fun t => if t = 0 then G9 else P a2) (fun t => if t = 0 then (A a4).toNat else ((A a5 - A a3 + RI) % RI).toNat) 0 := TBL.z
  refine lv_aload_n hx hb d_Desk_checks_51 rfl (lv_at hl 0 rfl) ?_
  refine q_get (C := "KateDesk") (T := T_Desk) (N := 16) (ci := 5) E hd.x.ob in_Desk rfl 2 (by decide) w_341 rfl rfl d_Desk_checks_52 ?_
  refine lv_iconst (v := nI 0) hx hb d_Desk_checks_55 (by decide) ?_
  refine lv_aload_n hx hb d_Desk_checks_56 rfl (lv_at hl 0 rfl) ?_
  refine q_get (C := "KateDesk") (T := T_Desk) (N := 16) (ci := 5) E hd.x.ob in_Desk rfl 5 (by decide) w_344 rfl rfl d_Desk_checks_57 ?_
  refine lv_iload hx hb d_Desk_checks_60 (lv_at hl 4 rfl) ?_
  refine q_aald (t := 4) E rfl rfl hd.x.rs.1 a4 rfl h4 (by decide) d_Desk_checks_62 ?_
  refine lv_aload_n hx hb d_Desk_checks_63 rfl (lv_at hl 0 rfl) ?_
  refine q_get (C := "KateDesk") (T := T_Desk) (N := 16) (ci := 5) E hd.x.ob in_Desk rfl 11 (by decide) w_350 rfl rfl d_Desk_checks_64 ?_
  obtain ⟨fs1, as1, vs1, ls1, es1⟩ := hsa.nat hk (k := a4) h4
  obtain ⟨ns1, ens1⟩ : ∃ m, m = (A a4).toNat := ⟨_, rfl⟩
  rw [← ens1] at vs1 ls1 es1
  refine q_cV (rest := []) E (Z_Sums_place l g (nD b) (b + 186) (b + 176) (b + 187) (b + 444) (b + 461) (b + 462) (b + 463) (b + 464) (b + 169) (kFq b) mq (kX b) (kO b) (kO1 b) (kO2 b) (kO3 b) (kDG b) (nJ b) 0 (kSc b a4) (b + 495) (b + 496) (b + 497) (b + 498) G9 fs1 ns1 vs1 ls1 G9_on (by decide) nJ_D hmq (sap_d b) ge_X ge_O (fun h => (ftk_S (by decide) h).2.2.1 (nj_DG (by decide)))) w_677 w_12 w_674 w_675 w_676 hd_Sums_place rfl ⟨by decide, by decide⟩ (OB.recv E.2.2.2.2.2 (by rfl) hd.x.so.1) (⟨hd.x.so, hd.x.dr, ⟨(nx_DG (by decide)).1, (hd.x.dg 0 (by decide)).imp (fun f hf => hf.1)⟩, as1, hd.x.ge, hcx.1.2.1.q0 hk, hcx.2.1.ge hk⟩) hF hl.1 rfl (Nat.le_of_ble_eq_true rfl) d_Desk_checks_67 ⟨by decide, by decide⟩ (qv (fun H7 locs hq hF => ?_))
  obtain ⟨hq, hfd, hW⟩ := hq
  have hd := hd.digit (k0 := 0) (by decide) hK (hq.mono (fun q h => h.elim (fun h => Or.inr h) (fun h => Or.inl (ftk_S (by decide) h).2))) (hfd.imp (fun f hf => ⟨hf.1, fun j hj => (hf.2.1 j hj).sd⟩))
  have hTB : TBL g H7 b (fun t => if t = 0 then G9 else P a2) (fun t => if t = 0 then (A a4).toNat else ((A a5 - A a3 + RI) % RI).toNat) (0 + 1) := hTB.nx (by decide) hq (by show ∃ f, AB g _ (kDG b 0) 257 f ∧ (∀ j, j < 257 → DO (f j)) ∧ DSg (fun j => (f j).toInt) 257 = (((A a4).toNat : Nat) : Int) ∧ ((A a4).toNat = 0 → ∀ j, f j = 0); rw [← ens1]; exact hfd) (fun hz => hW (by rw [ens1]; exact hz))
  have hk := hk.tr (hq.mono (fun q h => h.elim (fun h => h ▸ dg_S (by decide)) (fun h => (ftk_S (by decide) h).1)))
  have ju := hq.ajo (fun h => h.elim (fun h => by unfold kDG at h; omega) (fun h => (by have h9 := (ftk_S (b := b) (t := 0) (by decide) h).1; have h8 := h; rcases h8 with ⟨i, hi, e⟩ | e | e | e | e | ⟨k, k1, k2, e | e | e⟩ <;> first | omega | (rw [kFq_5] at e; omega) | (simp only [kX, kO1, kO2, kO3] at e; omega)))) ju
  refine lv_aload_n hx hb d_Desk_checks_70 rfl (lv_at hl 0 rfl) ?_
  refine q_get (C := "KateDesk") (T := T_Desk) (N := 16) (ci := 5) E hd.x.ob in_Desk rfl 2 (by decide) w_341 rfl rfl d_Desk_checks_71 ?_
  refine lv_iconst (v := nI 1) hx hb d_Desk_checks_74 (by decide) ?_
  refine lv_aload_n hx hb d_Desk_checks_75 rfl (lv_at hl 0 rfl) ?_
  refine q_get (C := "KateDesk") (T := T_Desk) (N := 16) (ci := 5) E hd.x.ob in_Desk rfl 14 (by decide) w_353 rfl rfl d_Desk_checks_76 ?_
  refine lv_aload_n hx hb d_Desk_checks_79 rfl (lv_at hl 0 rfl) ?_
  refine q_get (C := "KateDesk") (T := T_Desk) (N := 16) (ci := 5) E hd.x.ob in_Desk rfl 6 (by decide) w_345 rfl rfl d_Desk_checks_80 ?_
  refine lv_iload_n hx hb d_Desk_checks_83 rfl (lv_at hl 2 rfl) ?_
  refine q_aald (t := 3) E rfl rfl hd.x.pa a2 rfl h2 (by decide) d_Desk_checks_84 ?_
  obtain ⟨fs2, as2, vs2⟩ : ∃ f, AJ g H7 (b + 160) 14 f ∧ RV f ((((A a5 - A a3 + RI) % RI).toNat : Nat) : Int) := ⟨fu, ju, by rw [Int.toNat_of_nonneg (rm_r _).1]; exact vu⟩
  have ls2 : ((A a5 - A a3 + RI) % RI).toNat < 2 ^ 256 := by (have h8 := rm_r (A a5 - A a3 + RI)); (have h7 : RI < 2 ^ 256 := by decide +kernel); omega
  obtain ⟨ns2, ens2⟩ : ∃ m, m = ((A a5 - A a3 + RI) % RI).toNat := ⟨_, rfl⟩
  rw [← ens2] at vs2 ls2
  refine q_cV (rest := []) E (Z_Sums_place l g (nD b) (b + 186) (b + 176) (b + 187) (b + 444) (b + 461) (b + 462) (b + 463) (b + 464) (b + 169) (kFq b) mq (kX b) (kO b) (kO1 b) (kO2 b) (kO3 b) (kDG b) (nJ b) 1 (b + 160) (kPA b a2) (kPA1 b a2) (kPA2 b a2) (kPA3 b a2) (P a2) fs2 ns2 vs2 ls2 (hpt a2 h2).2 (by decide) nJ_D hmq (sap_d b) (pa_X h2) (pa_O h2) (fun h => (ftk_S (by decide) h).2.2.1 (nj_DG (by decide)))) w_677 w_12 w_674 w_675 w_676 hd_Sums_place rfl ⟨by decide, by decide⟩ (OB.recv E.2.2.2.2.2 (by rfl) hd.x.so.1) (⟨hd.x.so, hd.x.dr, ⟨(nx_DG (by decide)).1, (hd.x.dg 1 (by decide)).imp (fun f hf => hf.1)⟩, as2, (hd.x.pt a2 h2), hcx.1.2.1.q0 hk, hpt.at hk h2⟩) hF hl.1 rfl (Nat.le_of_ble_eq_true rfl) d_Desk_checks_85 ⟨by decide, by decide⟩ (qv (fun H8 locs hq hF => ?_))
  obtain ⟨hq, hfd, hW⟩ := hq
  have hd := hd.digit (k0 := 1) (by decide) hK (hq.mono (fun q h => h.elim (fun h => Or.inr h) (fun h => Or.inl (ftk_S (by decide) h).2))) (hfd.imp (fun f hf => ⟨hf.1, fun j hj => (hf.2.1 j hj).sd⟩))
  have hTB : TBL g H8 b (fun t => if t = 0 then G9 else P a2) (fun t => if t = 0 then (A a4).toNat else ((A a5 - A a3 + RI) % RI).toNat) (1 + 1) := hTB.nx (by decide) hq (by show ∃ f, AB g _ (kDG b 1) 257 f ∧ (∀ j, j < 257 → DO (f j)) ∧ DSg (fun j => (f j).toInt) 257 = ((((A a5 - A a3 + RI) % RI).toNat : Nat) : Int) ∧ (((A a5 - A a3 + RI) % RI).toNat = 0 → ∀ j, f j = 0); rw [← ens2]; exact hfd) (fun hz => hW (by rw [ens2]; exact hz))
  have hk := hk.tr (hq.mono (fun q h => h.elim (fun h => h ▸ dg_S (by decide)) (fun h => (ftk_S (by decide) h).1)))
  refine lv_aload_n hx hb d_Desk_checks_88 rfl (lv_at hl 0 rfl) ?_
  refine q_get (C := "KateDesk") (T := T_Desk) (N := 16) (ci := 5) E hd.x.ob in_Desk rfl 2 (by decide) w_341 rfl rfl d_Desk_checks_89 ?_
  refine lv_aload_n hx hb d_Desk_checks_92 rfl (lv_at hl 0 rfl) ?_
  refine q_get (C := "KateDesk") (T := T_Desk) (N := 16) (ci := 5) E hd.x.ob in_Desk rfl 13 (by decide) w_352 rfl rfl d_Desk_checks_93 ?_
  refine lv_iconst (v := nI 2) hx hb d_Desk_checks_96 (by decide) ?_
  obtain ⟨fdg, Wt, q1, q2, q3, q4, q5⟩ := hTB.ch
  refine q_cV (rest := []) E ((L_Sums_total l g (nJ b) (b + 186) (b + 176) (b + 187) (b + 444) (b + 461) (b + 462) (b + 463) (b + 464) (b + 169) (kFq b) mq (kX b) (kO b) (kO1 b) (kO2 b) (kO3 b) (kDG b) 2 (b + 156) (b + 157) (b + 158) (b + 159) (fun t => if t = 0 then G9 else P a2) Wt fdg hAC (by decide) hmq (sap_d b) (⟨⟨by omega, by omega, by omega⟩, ⟨by omega, by omega, by omega⟩, trivial⟩ : ((b + 157 ≠ b + 158 ∧ b + 157 ≠ b + 159 ∧ b + 158 ≠ b + 159) ∧ (b + 463 ≠ b + 157 ∧ b + 464 ≠ b + 157 ∧ b + 464 ≠ b + 158) ∧ True)).1 (⟨⟨by omega, by omega, by omega⟩, ⟨by omega, by omega, by omega⟩, trivial⟩ : ((b + 157 ≠ b + 158 ∧ b + 157 ≠ b + 159 ∧ b + 158 ≠ b + 159) ∧ (b + 463 ≠ b + 157 ∧ b + 464 ≠ b + 157 ∧ b + 464 ≠ b + 158) ∧ True)).2.1 q2 q4 (fun k hk h => (ftot_J (t1 := b + 462) (t2 := b + 462) (t3 := b + 462) (kc_nJ (by decide)) (kc_nJ (by decide)) (kc_nJ (by decide)) (Or.imp id (Or.imp id (Or.imp id (Or.imp id Or.inl))) h)).2.1 (nj_DG hk))).up nJ_D) w_720 w_12 w_717 w_718 w_719 hd_Sums_total rfl ⟨by decide, by decide⟩ (OB.recv E.2.2.2.2.2 (by rfl) hd.x.so.1) (⟨hd.x.so, hd.x.mu, hd.x.dr, hcx.1.2.1.q0 hk, q1, q5⟩) hF hl.1 rfl (Nat.le_of_ble_eq_true rfl) d_Desk_checks_97 ⟨by decide, by decide⟩ (qv (fun H9 locs hq hF => ?_))
  obtain ⟨hq, T9, hRS, hT9⟩ := hq
  have hRS := hRS.ext (z' := fun t => (((fun t => if t = 0 then (A a4).toNat else ((A a5 - A a3 + RI) % RI).toNat) t : Nat) : Int)) (fun t ht => q3 t ht)
  have hd := hd.kj hK hq (fun q h => ftot_J (kc_nJ (by decide)) (kc_nJ (by decide)) (kc_nJ (by decide)) h)
  have hk := hk.tr (hq.mono (fun q h => (ftot_S h).elim id (fun h => by rcases h with h | h | h <;> (rw [h]; unfold kPS; omega))))
  have hRS := hRS.ext (z' := fun t => if t = 0 then A a4 else (A a5 - A a3 + RI) % RI) (fun t ht => by show (((if t = 0 then (A a4).toNat else ((A a5 - A a3 + RI) % RI).toNat) : Nat) : Int) = _; split; exact Int.toNat_of_nonneg (hsa.nn h4); exact Int.toNat_of_nonneg (rm_r _).1)
  refine lv_aload_n hx hb d_Desk_checks_100 rfl (lv_at hl 0 rfl) ?_
  refine q_get (C := "KateDesk") (T := T_Desk) (N := 16) (ci := 5) E hd.x.ob in_Desk rfl 1 (by decide) w_340 rfl rfl d_Desk_checks_101 ?_
  refine lv_aload_n hx hb d_Desk_checks_104 rfl (lv_at hl 0 rfl) ?_
  refine q_get (C := "KateDesk") (T := T_Desk) (N := 16) (ci := 5) E hd.x.ob in_Desk rfl 6 (by decide) w_345 rfl rfl d_Desk_checks_105 ?_
  refine lv_iload_n hx hb d_Desk_checks_108 rfl (lv_at hl 1 rfl) ?_
  refine q_aald (t := 3) E rfl rfl hd.x.pa a rfl ha (by decide) d_Desk_checks_109 ?_
  refine lv_aload_n hx hb d_Desk_checks_110 rfl (lv_at hl 0 rfl) ?_
  refine q_get (C := "KateDesk") (T := T_Desk) (N := 16) (ci := 5) E hd.x.ob in_Desk rfl 13 (by decide) w_352 rfl rfl d_Desk_checks_111 ?_
  refine q_cV (rest := []) E ((L_Curve_equal l g (nJ b) (b + 176) (b + 169) (kFq b) mq (kX b) (kPA b a) (kPA1 b a) (kPA2 b a) (kPA3 b a) (b + 156) (b + 157) (b + 158) (b + 159) (P a) T9 (hpt a ha).2 hRS.1 (xa_d b) hmq (pa_X ha) mu_X).up nJ_D) w_810 w_11 w_807 w_808 w_809 hd_Curve_equal rfl ⟨by decide, by decide⟩ (OB.recv E.2.2.2.2.2 (by rfl) hd.x.so.2.1.1) (⟨hd.x.so.2.1, (hd.x.pt a ha), hd.x.mu, hcx.1.2.1.q0 hk, hpt.at hk ha, hT9⟩) hF hl.1 rfl (Nat.le_of_ble_eq_true rfl) d_Desk_checks_114 ⟨by decide, by decide⟩ (qi (fun re H10 locs hq hF => ?_))
  obtain ⟨hre, hq⟩ := hq
  have hd := hd.kj hK hq (fun q h => h.elim (fun h => h ▸ kx_nJ (by decide)) (fun h => h ▸ kx_nJ (by decide)))
  have hk := hk.tr (hq.mono (fun q h => h.elim (fun h => by rw [h]; unfold kPS kX; omega) (fun h => by rw [h]; unfold kPS kX; omega)))
  exact q_zret E hr (by rcases hre with h | h <;> rw [h.1] <;> rfl) hlk (⟨re, rfl, ⟨T9, hRS, hre⟩, hk, hd.2⟩) hF d_Desk_checks_117
