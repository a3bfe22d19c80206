/-! point: its answer and what it places -/
def PAT (t : Nat → Nat) (ts n : Nat) (P : P3) : Prop := ∃ r, RD9 t ts r P ∧ ((r ≠ 0 ∧ n = r) ∨ (r = 0 ∧ GD P ∧ n = 0) ∨ (r = 0 ∧ ¬ GD P ∧ n = 6))
theorem PAT.un {t : Nat → Nat} {ts n n' : Nat} {P P' : P3} (h : PAT t ts n P) (h' : PAT t ts n' P') : n = n' ∧ (n = 0 → PE P P') := by
  obtain ⟨r, h1, h2⟩ := h
  obtain ⟨r', h1', h2'⟩ := h'
  obtain ⟨e1, e2⟩ := h1.un h1'
  subst e1
  have e : n = n' := PA9.un ⟨r, P, h1, h2⟩ ⟨r, P', h1', h2'⟩
  exact ⟨e, fun z => e2 (by rcases h2 with ⟨a, b⟩ | ⟨a, b, c⟩ | ⟨a, b, c⟩ <;> omega)⟩
theorem PAT.on {t : Nat → Nat} {ts : Nat} {P : P3} (h : PAT t ts 0 P) : onC P := by
  obtain ⟨r, h1, h2⟩ := h
  have e : r = 0 := by rcases h2 with ⟨a, b⟩ | ⟨a, b, c⟩ | ⟨a, b, c⟩ <;> omega
  subst e
  exact h1.on
theorem PAT.le {t : Nat → Nat} {ts n : Nat} {P : P3} (h : PAT t ts n P) : n ≤ 6 := by
  obtain ⟨r, h1, h2⟩ := h
  have := h1.le
  omega
/-- what point writes beside the point -/
def kPN (b q : Nat) : Prop := kPS b q ∨ (b + 467 ≤ q ∧ q ≤ b + 469) ∨ q = b + 148
def kPT (b k q : Nat) : Prop := kPN b q ∨ q = kPA1 b k ∨ q = kPA2 b k ∨ q = kPA3 b k
/-- what isGood writes -/
def kPG (b q : Nat) : Prop := kPS b q ∧ ¬ (b + 153 ≤ q ∧ q ≤ b + 155)
theorem ftd_S {b q : Nat} (h : (fun q => (∃ i, i < 9 ∧ q = kX b i) ∨ q = kFq b 5 ∨ q = (b + 462) ∨ q = (b + 463) ∨ q = (b + 464) ∨ ∃ k, 0 * 4 ≤ k ∧ k < 0 * 4 + 4 ∧ (q = kO1 b k ∨ q = kO2 b k ∨ q = kO3 b k)) q) : kPG b q := ⟨(ftk_S (t := 0) (by decide) h).1, by
  rcases h with ⟨i, hi, rfl⟩ | rfl | rfl | rfl | rfl | ⟨k, h1, h2, h3⟩
  · unfold kX; omega
  · rw [kFq_5]; omega
  · omega
  · omega
  · omega
  · rcases h3 with rfl | rfl | rfl
    · unfold kO1; omega
    · unfold kO2; omega
    · unfold kO3; omega⟩
theorem ftotd_S {b q : Nat} (h : (fun q => (∃ i, i < 9 ∧ q = kX b i) ∨ q = kFq b 5 ∨ q = (b + 462) ∨ q = (b + 463) ∨ q = (b + 464) ∨ q = (b + 157) ∨ q = (b + 158) ∨ q = (b + 159)) q) : kPG b q := by
  rcases h with ⟨i, hi, rfl⟩ | rfl | rfl | rfl | rfl | rfl | rfl | rfl
  · unfold kPG kPS kX; omega
  · rw [kFq_5]; unfold kPG kPS; omega
  all_goals (unfold kPG kPS; omega)
theorem dg_G {b : Nat} : kPG b (kDG b 0) := ⟨dg_S (by decide), by unfold kDG; omega⟩
theorem srd_N {b q : Nat} (h : (fun q => (∃ i, i < 9 ∧ q = kX b i) ∨ q = kFq b 5 ∨ q = (b + 467) ∨ q = (b + 468) ∨ q = (b + 469) ∨ q = (b + 153) ∨ q = (b + 154) ∨ q = (b + 155)) q) : kPN b q := by
  rcases h with ⟨i, hi, rfl⟩ | rfl | rfl | rfl | rfl | rfl | rfl | rfl
  · exact Or.inl (by unfold kPS kX; omega)
  · exact Or.inl (by rw [kFq_5]; unfold kPS; omega)
  all_goals (unfold kPN kPS; omega)
set_option maxHeartbeats 4000000 in
set_option maxRecDepth 100000 in
theorem P_Desk_isGood (l : Launch) (g : WG) (b pn tn wn : Nat) (mr mq : Int64) (P : P3) (hmq : mq = 268238845) (hPC : onC P) : Ctr l y_Desk_isGood (.code y_Desk_isGood prog_1_method_29_code 2 (some FieldType.boolean)) 6 234 0 0 (nD b) g [.ref b, .ref (b + 152)] (fun H => DS g H H b pn tn wn mr mq ∧ CQ g H b ∧ LPt g H (b + 153) (b + 154) (b + 155) P) (QI (fun r H H' => ((r = 1 ∧ GD P) ∨ (r = 0 ∧ ¬ GD P)) ∧ DS g H H' b pn tn wn mr mq ∧ KJ g (kPG b) H H')) := by
  refine ctr_mk l (lv0 := [(0, .ref b), (1, .ref (b + 152))]) (by decide) (Nat.le_of_ble_eq_true rfl) rfl ?_
  intro p e s m below meth c ls E hr hlk hnm hl hP
  have hx := E.1
  have hb := E.2.1
  have hK := E.2.2.2.2.2
  have hF : ∀ q ∈ ([] : List Loc), nD b q.base := fun q hq => absurd hq List.not_mem_nil
  obtain ⟨hd, hcq, hLP⟩ := hP
  refine lv_aload_n hx hb d_Desk_isGood_0 rfl (lv_at hl 0 rfl) ?_
  refine q_get (C := "KateDesk") (T := T_Desk) (N := 16) (ci := 5) E hd.x.ob in_Desk rfl 2 (by decide) w_341 rfl rfl d_Desk_isGood_1 ?_
  refine lv_iconst (v := nI 0) hx hb d_Desk_isGood_4 (by decide) ?_
  refine lv_aload_n hx hb d_Desk_isGood_5 rfl (lv_at hl 0 rfl) ?_
  refine q_get (C := "KateDesk") (T := T_Desk) (N := 16) (ci := 5) E hd.x.ob in_Desk rfl 0 (by decide) w_339 rfl rfl d_Desk_isGood_6 ?_
  refine q_get (C := "KateDesk$Field") (T := T_Field) (N := 7) (ci := 1) E hd.x.fr.1 in_Field rfl 0 (by decide) w_172 rfl rfl d_Desk_isGood_9 ?_
  refine lv_aload_n hx hb d_Desk_isGood_12 rfl (lv_at hl 1 rfl) ?_
  refine q_cV (rest := []) E (L_Sums_place l g (nD b) (b + 186) (b + 176) (b + 187) (b + 444) (b + 461) (b + 462) (b + 463) (b + 464) (b + 169) (kFq b) mq (kX b) (kO b) (kO1 b) (kO2 b) (kO3 b) (kDG b) (nJ b) 0 (kFr b 0) (b + 152) (b + 153) (b + 154) (b + 155) P kR RN kR_rn (by decide) RN_256 hPC (by decide) nJ_D hmq (sap_d b) (fun i hi => by unfold kX; omega) (fun k hk => by unfold kO1 kO2 kO3; omega) (fun h => (ft_nJ h).2.1 (nj_DG (by decide)))) w_677 w_12 w_674 w_675 w_676 hd_Sums_place rfl ⟨by decide, by decide⟩ (OB.recv E.2.2.2.2.2 (by rfl) hd.x.so.1) (⟨hd.x.so, hd.x.dr, ⟨(nx_DG (by decide)).1, (hd.x.dg 0 (by decide)).imp (fun f hf => hf.1)⟩, hcq.1, hd.x.hp, hcq.2.1, hLP⟩) hF hl.1 rfl (Nat.le_of_ble_eq_true rfl) d_Desk_isGood_13 ⟨by decide, by decide⟩ (qv (fun H1 locs hq hF => ?_))
  obtain ⟨hq, ⟨f9, hf9, hdo, hds⟩, hW⟩ := hq
  have hk9 : KJ g (kPG b) s.heap H1 := hq.mono (fun q h => h.elim (fun h => h ▸ dg_G) (fun h => ftd_S h))
  have hd := hd.digit (k0 := 0) (by decide) hK (hq.mono (fun q h => h.elim (fun h => Or.inr h) (fun h => Or.inl (ft_nJ h)))) ⟨f9, hf9, fun j hj => (hdo j hj).sd⟩
  have hcq := hcq.ds hd
  refine lv_aload_n hx hb d_Desk_isGood_16 rfl (lv_at hl 0 rfl) ?_
  refine q_get (C := "KateDesk") (T := T_Desk) (N := 16) (ci := 5) E hd.x.ob in_Desk rfl 2 (by decide) w_341 rfl rfl d_Desk_isGood_17 ?_
  refine lv_aload_n hx hb d_Desk_isGood_20 rfl (lv_at hl 0 rfl) ?_
  refine q_get (C := "KateDesk") (T := T_Desk) (N := 16) (ci := 5) E hd.x.ob in_Desk rfl 13 (by decide) w_352 rfl rfl d_Desk_isGood_21 ?_
  refine lv_iconst (v := nI 1) hx hb d_Desk_isGood_24 (by decide) ?_
  obtain ⟨W0, hW0a, hW0b⟩ := hW 0 (by decide)
  obtain ⟨W1, hW1a, hW1b⟩ := hW 1 (by decide)
  obtain ⟨W2, hW2a, hW2b⟩ := hW 2 (by decide)
  obtain ⟨W3, hW3a, hW3b⟩ := hW 3 (by decide)
  have hPC1 : AC (fun _ => P) 1 := fun _ _ => hPC
  refine q_cV (rest := []) E ((L_Sums_total l g (nJ b) (b + 186) (b + 176) (b + 187) (b + 444) (b + 461) (b + 462) (b + 463) (b + 464) (b + 169) (kFq b) mq (kX b) (kO b) (kO1 b) (kO2 b) (kO3 b) (kDG b) 1 (b + 156) (b + 157) (b + 158) (b + 159) (fun _ => P) (fun _ m9 => match m9 with | 0 => W0 | 1 => W1 | 2 => W2 | _ => W3) (fun _ => f9) hPC1 (by decide) hmq (sap_d b) (by omega) (by omega) (fun q j _ hj => hdo j hj) (fun q _ _ m9 hm => match m9, hm with | 0, _ => hW0a | 1, _ => hW1a | 2, _ => hW2a | 3, _ => hW3a) (fun k hk h => (ftot_nJ (Or.imp id (Or.imp id (Or.imp id (Or.imp id Or.inl))) h)).2.1 (nj_DG hk))).up nJ_D) w_720 w_12 w_717 w_718 w_719 hd_Sums_total rfl ⟨by decide, by decide⟩ (OB.recv E.2.2.2.2.2 (by rfl) hd.x.so.1) (⟨hd.x.so, hd.x.mu, hd.x.dr, hcq.2.1, fun q hq => by (have e : q = 0 := (by omega)); subst e; exact hf9, fun q hq _ m9 hm => by (have e : q = 0 := (by omega)); subst e; exact (match m9, hm with | 0, _ => hW0b | 1, _ => hW1b | 2, _ => hW2b | 3, _ => hW3b)⟩) hF hl.1 rfl (Nat.le_of_ble_eq_true rfl) d_Desk_isGood_25 ⟨by decide, by decide⟩ (qv (fun H2 locs hq hF => ?_))
  obtain ⟨hq, T, hRS, hT⟩ := hq
  have hk9 := hk9.tr (hq.mono (fun q h => ftotd_S h))
  have hd := hd.kj hK hq (fun q h => ftot_nJ h)
  have hRP : RP P (RN : Int) T := by have h9 := RSm_one hPC1 hRS; rw [hds] at h9; exact h9
  refine lv_aload_n hx hb d_Desk_isGood_28 rfl (lv_at hl 0 rfl) ?_
  refine q_get (C := "KateDesk") (T := T_Desk) (N := 16) (ci := 5) E hd.x.ob in_Desk rfl 13 (by decide) w_352 rfl rfl d_Desk_isGood_29 ?_
  refine q_cV (rest := []) E ((L_Point_isNothing l g (nJ b) (b + 156) (b + 157) (b + 158) (b + 159) T.2.2).up nJ_D) w_728 w_2 w_725 w_726 w_727 hd_Point_isNothing rfl ⟨by decide, by decide⟩ (OB.recv E.2.2.2.2.2 (by rfl) hd.x.mu.1) (⟨hd.x.mu, hT.2.2⟩) hF hl.1 rfl (Nat.le_of_ble_eq_true rfl) d_Desk_isGood_32 ⟨by decide, by decide⟩ (qi (fun rz H3 locs hq hF => ?_))
  obtain ⟨hrz, hq⟩ := hq
  have hq := hq.symm
  subst hq
  exact q_zret E hr (by rcases hrz with h | h <;> rw [h.1] <;> rfl) hlk (⟨rz, rfl, hrz.imp (fun h => ⟨h.1, (GD_iff hPC hRP).mpr h.2⟩) (fun h => ⟨h.1, fun z => h.2 ((GD_iff hPC hRP).mp z)⟩), hd, hk9⟩) hF d_Desk_isGood_35
set_option maxHeartbeats 4000000 in
set_option maxRecDepth 100000 in
theorem P_Desk_point (l : Launch) (g : WG) (b pn tn wn : Nat) (mr mq : Int64) (a : Nat) (c9 : Nat → Int32) (tb : Nat → Nat) (htb : ∀ j, tb j < 256) (hct : ∀ j, j < tn → c9 j &&& 255 = nI (tb j)) (hmq : mq = 268238845) (ha : a < 12) (ht96 : tn ≤ 96) : Ctr l y_Desk_point (.code y_Desk_point prog_1_method_9_code 3 (some FieldType.int)) 7 255 0 0 (nD b) g [.ref b, .int (nI a)] (fun H => DS g H H b pn tn wn mr mq ∧ AB g H (b + 149) 96 c9 ∧ CQ g H b) (QI (fun r H H' => ∃ n T, r = nI n ∧ PAT tb tn n T ∧ DS g H H' b pn 0 wn mr mq ∧ ((n = 0 ∧ FRM (kPT b a) H H' ∧ LPt g H' (kPA1 b a) (kPA2 b a) (kPA3 b a) T) ∨ (n ≠ 0 ∧ FRM (kPN b) H H')))) := by
  refine ctr_mk l (lv0 := [(0, .ref b), (1, .int (nI a))]) (by decide) (Nat.le_of_ble_eq_true rfl) rfl ?_
  intro p e s m below meth c ls E hr hlk hnm hl hP
  have hx := E.1
  have hb := E.2.1
  have hK := E.2.2.2.2.2
  have hF : ∀ q ∈ ([] : List Loc), nD b q.base := fun q hq => absurd hq List.not_mem_nil
  obtain ⟨hd, hc0, hcq⟩ := hP
  have hN9 : FRM (kPN b) s.heap s.heap := FRM.rf
  refine lv_iload_n hx hb d_Desk_point_0 rfl (lv_at hl 1 rfl) ?_
  refine lv_iconst (v := nI 1) hx hb d_Desk_point_1 (by decide) ?_
  refine q_cS (rest := []) E (c_Desk_needPoints l g (nD b) (nI a) (nI 1) (okP_of (by decide) ha)) w_622 w_1 w_620 w_621 hd_Desk_needPoints rfl ⟨by decide, by decide⟩ trivial hF hl.1 rfl (Nat.le_of_ble_eq_true rfl) d_Desk_point_2 ⟨by decide, by decide⟩ (qv (fun H1 locs hq hF => ?_))
  have hq := hq.symm
  subst hq
  refine lv_aload_n hx hb d_Desk_point_5 rfl (lv_at hl 0 rfl) ?_
  refine q_get (C := "KateDesk") (T := T_Desk) (N := 16) (ci := 5) E hd.x.ob in_Desk rfl 3 (by decide) w_342 rfl rfl d_Desk_point_6 ?_
  refine lv_aload_n hx hb d_Desk_point_9 rfl (lv_at hl 0 rfl) ?_
  refine q_get (C := "KateDesk") (T := T_Desk) (N := 16) (ci := 5) E hd.x.ob in_Desk rfl 12 (by decide) w_351 rfl rfl d_Desk_point_10 ?_
  refine lv_aload_n hx hb d_Desk_point_13 rfl (lv_at hl 0 rfl) ?_
  refine q_get (C := "KateDesk") (T := T_Desk) (N := 16) (ci := 5) E hd.x.ob in_Desk rfl 9 (by decide) w_348 rfl rfl d_Desk_point_14 ?_
  obtain ⟨f1, hf1, hv1⟩ := hcq.2.2.2.2.2
  refine q_cV (rest := []) E ((L_Forms_read l g (nJ b) (b + 465) (b + 176) (b + 169) (kFq b) mq (kX b) (b + 466) (b + 467) (b + 468) (b + 469) (b + 152) (b + 153) (b + 154) (b + 155) (b + 148) (b + 149) tn c9 tb f1 ht96 hct htb hmq hv1 (fap_d b) (pap_d b) (fun h => (srd_nJ h).2.2 (by omega))).up nJ_D) w_627 w_13 w_624 w_625 w_626 hd_Forms_read rfl ⟨by decide, by decide⟩ (OB.recv E.2.2.2.2.2 (by rfl) hd.x.fm.1) (⟨hd.x.fm, hd.x.hp, ⟨hd.tp.1, hc0⟩, hcq.2.1, hf1, hcq.2.2.1, hcq.2.2.2.1, hcq.2.2.2.2.1⟩) hF hl.1 rfl (Nat.le_of_ble_eq_true rfl) d_Desk_point_17 ⟨by decide, by decide⟩ (qi (fun rz H2 locs hq hF => ?_))
  obtain ⟨n9, P9, hrz, hrd, hLP, hq⟩ := hq
  subst hrz
  have hN9 := hN9.tr (hq.frq (fun q h => srd_N h))
  have hd := hd.kj hK hq (fun q h => srd_nJ h)
  have hn5 := hrd.le
  refine lv_istore_n (lv' := [(2, .int (nI n9)), (0, .ref b), (1, .int (nI a))]) hx hb d_Desk_point_20 rfl hl (by decide) rfl (fun ls hl => ?_)
  refine lv_aload_n hx hb d_Desk_point_21 rfl (lv_at hl 1 rfl) ?_
  refine q_get (C := "KateDesk") (T := T_Desk) (N := 16) (ci := 5) E hd.x.ob in_Desk rfl 9 (by decide) w_348 rfl rfl d_Desk_point_22 ?_
  refine lv_iconst (v := nI 0) hx hb d_Desk_point_25 (by decide) ?_
  refine q_put (C := "KateDesk$Row") (T := T_Row) (N := 2) (ci := 3) (ty := .int) E hd.tp.1 in_Row ty_Row tyok_Row nm_Row rfl 1 (by decide) w_74 rfl rfl (by decide +kernel) rfl rfl (Nat.le_of_ble_eq_true rfl) (nd_148 (by decide)) hF d_Desk_point_26 (fun H3 locs hq ho2 hF => ?_)
  have hd : DS g s.heap H3 b pn 0 wn mr mq := hd.tape hq ⟨ho2, hd.tp.2.imp (fun f hf => AB.off hq (show ¬ b + 149 = b + 148 from by omega) hf)⟩ (by decide)
  have hN9 := hN9.tr (hq.mono (fun q h => Or.inr (Or.inr h)))
  have hLP := fun h => (hLP h).fr hq (by omega) (by omega) (by omega)
  have hcq := hcq.ds hd
  refine lv_iload_n hx hb d_Desk_point_29 rfl (lv_at hl 0 rfl) ?_
  refine lv_if_eq (tgt := 35) hx hb d_Desk_point_30 (by decide) (fun hz => ?_) (fun hz => ?_)
  · skip
    have hz9 : n9 = 0 := nI_z0 (by omega) hz
    refine lv_aload_n hx hb d_Desk_point_35 rfl (lv_at hl 1 rfl) ?_
    refine lv_aload_n hx hb d_Desk_point_36 rfl (lv_at hl 1 rfl) ?_
    refine q_get (C := "KateDesk") (T := T_Desk) (N := 16) (ci := 5) E hd.x.ob in_Desk rfl 12 (by decide) w_351 rfl rfl d_Desk_point_37 ?_
    have hrd : RD9 tb tn 0 P9 := hz9 ▸ hrd
    have hLP := hLP hz9
    refine q_cV (rest := []) E (P_Desk_isGood l g b pn 0 wn mr mq P9 hmq hrd.on) w_673 w_1 w_670 w_672 (bw_s 7 rfl) hd_Desk_isGood rfl ⟨by decide, by decide⟩ (OB.recv E.2.2.2.2.2 (by rfl) hd.x.ob) (⟨⟨FRM.rf, hd.2⟩, hcq, hLP⟩) hF hl.1 rfl (Nat.le_of_ble_eq_true rfl) d_Desk_point_40 ⟨by decide, by decide⟩ (qi (fun rg H4 locs hq hF => ?_))
    obtain ⟨hrg, hq, hk9⟩ := hq
    have hN9 := hN9.tr (hk9.frq (fun q h => Or.inl h.1))
    have hLP := hLP.off hk9 (fun h => h.2 (by omega)) (fun h => h.2 (by omega)) (fun h => h.2 (by omega))
    have hd : DS g s.heap H4 b pn 0 wn mr mq := ⟨hd.1.tr hq.1, hq.2⟩
    refine lv_if_ne (tgt := 49) hx hb d_Desk_point_43 (by decide) (fun hg => ?_) (fun hg => ?_)
    · skip
      refine lv_aload_n hx hb d_Desk_point_49 rfl (lv_at hl 1 rfl) ?_
      refine q_get (C := "KateDesk") (T := T_Desk) (N := 16) (ci := 5) E hd.x.ob in_Desk rfl 6 (by decide) w_345 rfl rfl d_Desk_point_50 ?_
      refine lv_iload_n hx hb d_Desk_point_53 rfl (lv_at hl 2 rfl) ?_
      refine q_aald (t := 3) E rfl rfl hd.x.pa a rfl ha (by decide) d_Desk_point_54 ?_
      refine lv_aload_n hx hb d_Desk_point_55 rfl (lv_at hl 1 rfl) ?_
      refine q_get (C := "KateDesk") (T := T_Desk) (N := 16) (ci := 5) E hd.x.ob in_Desk rfl 12 (by decide) w_351 rfl rfl d_Desk_point_56 ?_
      refine q_cV (rest := []) E ((L_Point_copy l g (nJ b) (kPA b a) (kPA1 b a) (kPA2 b a) (kPA3 b a) (b + 152) (b + 153) (b + 154) (b + 155) P9 (pa_ne (b := b) ha).1 (by unfold kPA1 kPA2; omega)).up nJ_D) w_697 w_2 w_730 w_695 w_696 hd_Point_copy rfl ⟨by decide, by decide⟩ (OB.recv E.2.2.2.2.2 (by rfl) ((hd.x.pt a ha).1)) (⟨(hd.x.pt a ha), hd.x.hp, hLP⟩) hF hl.1 rfl (Nat.le_of_ble_eq_true rfl) d_Desk_point_59 ⟨by decide, by decide⟩ (qv (fun H5 locs hq hF => ?_))
      obtain ⟨hq, hT9⟩ := hq
      have hd := hd.kj hK hq (pt_le (hd.x.pt a ha))
      have hN8 : FRM (kPT b a) s.heap H5 := (hN9.mono (fun q h => Or.inl h)).tr (hq.frq (fun q h => Or.inr h))
      refine lv_iconst (v := nI 0) hx hb d_Desk_point_62 (by decide) ?_
      exact q_iret E hr hlk (⟨_, rfl, 0, P9, rfl, ⟨0, hrd, Or.inr (Or.inl ⟨rfl, (hrg.resolve_right (fun h => by first | exact hg h.1 | exact hg (h.1.trans rfl) | exact absurd (h.1.symm.trans hg) (by decide))).2, rfl⟩)⟩, hd, Or.inl ⟨rfl, hN8, hT9⟩⟩) hF d_Desk_point_63
    · skip
      refine lv_bipush (v := nI 6) hx hb d_Desk_point_46 (by decide) ?_
      exact q_iret E hr hlk (⟨_, rfl, 6, P9, rfl, ⟨0, hrd, Or.inr (Or.inr ⟨rfl, (hrg.resolve_left (fun h => by first | exact absurd (h.1.symm.trans hg) (by decide) | exact hg (by rw [h.1]; decide) )).2, rfl⟩)⟩, hd, Or.inr ⟨by decide, hN9⟩⟩) hF d_Desk_point_48
  · skip
    refine lv_iload_n hx hb d_Desk_point_33 rfl (lv_at hl 0 rfl) ?_
    exact q_iret E hr hlk (⟨_, rfl, n9, P9, rfl, ⟨n9, hrd, Or.inl ⟨fun e => hz (congrArg nI e), rfl⟩⟩, hd, Or.inr ⟨fun e => hz (congrArg nI e), hN9⟩⟩) hF d_Desk_point_34
