theorem BV9.off1 {fd fd' : Nat → Int64} {B : Nat → Int} {r : Nat} (h : BV9 fd B) (ho : ∀ j, (j < 14 * r ∨ 14 * r + 14 ≤ j) → fd' j = fd j) (hr : 119 ≤ r) : BV9 fd' B := fun k hk => ⟨(h k hk).1.off ho (by omega), (h k hk).2⟩
set_option maxHeartbeats 4000000 in
set_option maxRecDepth 100000 in
theorem W_Model_times (l : Launch) (g : WG) (n0 : Nat → Prop) (mo : Nat) (th : Int32) (pn tn wn : Nat) (B : Nat → Int) (a : Int32) (a2 : Int32) (a3 : Int32) (hon : ∀ k, k < 12 → onC (ptB B (32 + 3 * k))) : Ctr l y_Model_times (.code y_Model_times prog_11_method_50_code 4 none) 6 143 0 0 n0 g [.ref mo, .int a, .int a2, .int a3] (fun H => MVP g n0 H mo th pn tn wn B) (QV (fun H H' => ((okP a (nI 1) ∧ okS a2 (nI 1) ∧ okP a3 (nI 1)) ∧ (∃ k1 k2 k3, a = nI k1 ∧ a2 = nI k2 ∧ a3 = nI k3 ∧ k1 < 12 ∧ k2 < 32 ∧ k3 < 12 ∧ ∃ T, RP (ptB B (32 + 3 * k3)) (B k2) T ∧ MVP g n0 H' mo 0 pn tn wn (updP B (32 + 3 * k1) T))) ∨ (¬ (okP a (nI 1) ∧ okS a2 (nI 1) ∧ okP a3 (nI 1)) ∧ MVP g n0 H' mo 1 pn tn wn B))) := by
  refine ctr_mk l (lv0 := [(0, .ref mo), (1, .int a), (2, .int a2), (3, .int a3)]) (by decide) (Nat.le_of_ble_eq_true rfl) rfl ?_
  intro p e s m below meth c ls E hr hlk hnm hl hP
  have hx := E.1
  have hb := E.2.1
  have hK := E.2.2.2.2.2
  have hF : ∀ q ∈ ([] : List Loc), n0 q.base := fun q hq => absurd hq List.not_mem_nil
  obtain ⟨⟨w9, n9, fd, hw9, hm, hB⟩, ⟨fa, hab0, hAT, hAQ⟩, hho, -, -, hbd, hmn, -, -, hn8⟩ := id hP
  have hfr : FRM (MR mo) s.heap s.heap := FRM.rf
  have bad : ∀ (locs : List Loc) (ls : Array Slot), ¬ (okP a (nI 1) ∧ okS a2 (nI 1) ∧ okP a3 (nI 1)) → (∀ q ∈ locs, n0 q.base) → lv_has ls 4 [(0, .ref mo), (1, .int a), (2, .int a2), (3, .int a3)] → W p l e { frames := 6, cells := 0, slots := 0, locals := 143 } s m [.ref mo, .int a, .int a2, .int a3].toArray below meth c s.heap locs 0 0 (MQ below (QcP (QV (fun H H' => ((okP a (nI 1) ∧ okS a2 (nI 1) ∧ okP a3 (nI 1)) ∧ (∃ k1 k2 k3, a = nI k1 ∧ a2 = nI k2 ∧ a3 = nI k3 ∧ k1 < 12 ∧ k2 < 32 ∧ k3 < 12 ∧ ∃ T, RP (ptB B (32 + 3 * k3)) (B k2) T ∧ MVP g n0 H' mo 0 pn tn wn (updP B (32 + 3 * k1) T))) ∨ (¬ (okP a (nI 1) ∧ okS a2 (nI 1) ∧ okP a3 (nI 1)) ∧ MVP g n0 H' mo 1 pn tn wn B)))) [.ref mo, .int a, .int a2, .int a3].toArray s 0 0 (fun q => n0 q)) (F0 m 27 ls [.int (nI 1), .ref mo]) := by
    intro  locs   ls hno hF hl
    refine lv_iconst (v := nI 1) hx hb d_Model_times_27 (by decide) ?_
    refine q_cV (rest := []) E (c_Model_fails l g n0 mo th (nI pn) (nI tn) (nI wn) w9 n9 hw9 (nI 1) (nI 1) fd hmn (Or.inl rfl)) w_1056 w_15 w_1053 w_1055 (bw_s 24 rfl) hd_Model_fails rfl ⟨by decide, by decide⟩ (OB.recv E.2.2.2.2.2 (by rfl) hm.1) hm hF hl.1 rfl (Nat.le_of_ble_eq_true rfl) d_Model_times_28 ⟨by decide, by decide⟩ (qi (fun rf H1 locs hq hF => ?_))
    obtain ⟨hrf, hq, hm⟩ := hq
    subst hrf
    have hfr := hfr.tr hq
    rw [if_neg (by decide)] at hm
    refine lv_if_eq (tgt := 35) hx hb d_Model_times_31 (by decide) (fun h9 => absurd h9 (by decide)) (fun _ => ?_)
    exact q_vret E hr hlk (⟨rfl, Or.inr ⟨hno, hP.keep hfr hw9 hm hB⟩⟩) hF d_Model_times_34
  have good : ∀ (locs : List Loc) (ls : Array Slot), okP a (nI 1) ∧ okS a2 (nI 1) ∧ okP a3 (nI 1) → (∀ q ∈ locs, n0 q.base) → lv_has ls 4 [(0, .ref mo), (1, .int a), (2, .int a2), (3, .int a3)] → W p l e { frames := 6, cells := 0, slots := 0, locals := 143 } s m [.ref mo, .int a, .int a2, .int a3].toArray below meth c s.heap locs 0 0 (MQ below (QcP (QV (fun H H' => ((okP a (nI 1) ∧ okS a2 (nI 1) ∧ okP a3 (nI 1)) ∧ (∃ k1 k2 k3, a = nI k1 ∧ a2 = nI k2 ∧ a3 = nI k3 ∧ k1 < 12 ∧ k2 < 32 ∧ k3 < 12 ∧ ∃ T, RP (ptB B (32 + 3 * k3)) (B k2) T ∧ MVP g n0 H' mo 0 pn tn wn (updP B (32 + 3 * k1) T))) ∨ (¬ (okP a (nI 1) ∧ okS a2 (nI 1) ∧ okP a3 (nI 1)) ∧ MVP g n0 H' mo 1 pn tn wn B)))) [.ref mo, .int a, .int a2, .int a3].toArray s 0 0 (fun q => n0 q)) (F0 m 27 ls [.int (nI 0), .ref mo]) := by
    intro  locs   ls hok hF hl
    refine lv_iconst (v := nI 1) hx hb d_Model_times_27 (by decide) ?_
    refine q_cV (rest := []) E (c_Model_fails l g n0 mo th (nI pn) (nI tn) (nI wn) w9 n9 hw9 (nI 0) (nI 1) fd hmn (Or.inr rfl)) w_1056 w_15 w_1053 w_1055 (bw_s 24 rfl) hd_Model_fails rfl ⟨by decide, by decide⟩ (OB.recv E.2.2.2.2.2 (by rfl) hm.1) hm hF hl.1 rfl (Nat.le_of_ble_eq_true rfl) d_Model_times_28 ⟨by decide, by decide⟩ (qi (fun rf H1 locs hq hF => ?_))
    obtain ⟨hrf, hq, hm⟩ := hq
    subst hrf
    have hfr := hfr.tr hq
    rw [if_pos nI_0] at hm
    refine lv_if_eq (tgt := 35) hx hb d_Model_times_31 (by decide) (fun _ => ?_) (fun h9 => absurd (by decide) h9)
    obtain ⟨k1, e_k1, h_k1⟩ := okP_nat (by decide) (by decide) hok.1
    rw [e_k1] at hl
    obtain ⟨k2, e_k2, h_k2⟩ := okS_nat (by decide) (by decide) hok.2.1
    rw [e_k2] at hl
    obtain ⟨k3, e_k3, h_k3⟩ := okP_nat (by decide) (by decide) hok.2.2
    rw [e_k3] at hl
    refine lv_aload_n hx hb d_Model_times_35 rfl (lv_at hl 0 rfl) ?_
    refine lv_iconst (v := nI 0) hx hb d_Model_times_36 (by decide) ?_
    refine q_cV (rest := []) E (c_Model_use l g n0 mo 0 (nI pn) (nI tn) (nI wn) w9 n9 hw9 0 14 hw0 fd hmn) w_967 w_15 w_964 w_966 (bw_s 15 rfl) hd_Model_use rfl ⟨by decide, by decide⟩ (OB.recv E.2.2.2.2.2 (by rfl) hm.1) hm hF hl.1 rfl (Nat.le_of_ble_eq_true rfl) d_Model_times_37 ⟨by decide, by decide⟩ (qv (fun H2 locs hq hF => ?_))
    obtain ⟨hq, hm⟩ := hq
    have hfr := hfr.tr hq
    refine lv_aload_n hx hb d_Model_times_40 rfl (lv_at hl 0 rfl) ?_
    refine lv_iload_n hx hb d_Model_times_41 rfl (lv_at hl 1 rfl) ?_
    refine q_cS (rest := [.ref mo]) E (c_Model_slot l g n0 (nI k1)) w_1154 w_15 w_1152 w_1153 hd_Model_slot rfl ⟨by decide, by decide⟩ trivial hF hl.1 rfl (Nat.le_of_ble_eq_true rfl) d_Model_times_42 ⟨by decide, by decide⟩ (qi (fun rs H3 locs hq hF => ?_))
    obtain ⟨hrs, hq9⟩ := hq
    subst hrs
    subst hq9
    refine lv_topi (fun t9 e9 => ?_)
    obtain rfl : t9 = nI (32 + 3 * k1) := e9.trans (by rw [pk_mul, nI_add])
    refine lv_iload_n hx hb d_Model_times_45 rfl (lv_at hl 2 rfl) ?_
    refine lv_iload_n hx hb d_Model_times_46 rfl (lv_at hl 3 rfl) ?_
    refine q_cS (rest := [.int (nI k2), .int (nI (32 + 3 * k1)), .ref mo]) E (c_Model_slot l g n0 (nI k3)) w_1154 w_15 w_1152 w_1153 hd_Model_slot rfl ⟨by decide, by decide⟩ trivial hF hl.1 rfl (Nat.le_of_ble_eq_true rfl) d_Model_times_47 ⟨by decide, by decide⟩ (qi (fun rs H4 locs hq hF => ?_))
    obtain ⟨hrs, hq9⟩ := hq
    subst hrs
    subst hq9
    refine lv_topi (fun t9 e9 => ?_)
    obtain rfl : t9 = nI (32 + 3 * k3) := e9.trans (by rw [pk_mul, nI_add])
    have hE := hB.nat hm.2.2.2.2.2.1 (s := k2) (by omega)
    refine q_cV (rest := []) E (M_Model_multiple l g n0 mo (32 + 3 * k1) k2 (32 + 3 * k3) 0 (nI pn) (nI tn) (nI wn) fd fa (Or.inl (by omega)) (Or.inl (by omega)) (Or.inl (by omega)) hAQ (ptB B (32 + 3 * k3)) (hon k3 (by omega)) ((B k2).toNat)) w_1167 w_15 w_1164 w_1166 (bw_s 40 rfl) hd_Model_multiple rfl ⟨by decide, by decide⟩ (OB.recv E.2.2.2.2.2 (by rfl) hm.1) (⟨hm, (AJ.off hfr (show ¬ MR mo (mo + 4) by unfold MR; omega) hab0), hE.1, hB.pm (by omega)⟩) hF hl.1 rfl (Nat.le_of_ble_eq_true rfl) d_Model_times_50 ⟨by decide, by decide⟩ (qv (fun H5 locs hq hF => ?_))
    obtain ⟨hq, -, fd_1, hm, hS, T, hRP, hT⟩ := hq
    have hfr := hfr.tr hq
    rw [hE.2] at hRP
    exact q_vret E hr hlk (⟨rfl, Or.inl ⟨hok, k1, k2, k3, e_k1, e_k2, e_k3, by omega, by omega, by omega, T, hRP, hP.keep hfr hw0 hm (hB.set hS (fun t h => by omega) hT (by omega))⟩⟩) hF d_Model_times_53
  refine lv_aload_n hx hb d_Model_times_0 rfl (lv_at hl 0 rfl) ?_
  refine lv_iload_n hx hb d_Model_times_1 rfl (lv_at hl 1 rfl) ?_
  refine q_cS (rest := [.ref mo]) E (c_Model_noPoint l g n0 a ) w_1151 w_15 w_1149 w_1150 hd_Model_noPoint rfl ⟨by decide, by decide⟩ trivial hF hl.1 rfl (Nat.le_of_ble_eq_true rfl) d_Model_times_2 ⟨by decide, by decide⟩ (qi (fun r_0 H1 locs hq hF => ?_))
  obtain ⟨h_0, hq⟩ := hq
  subst hq
  rcases h_0 with ⟨rfl, f_0⟩ | ⟨rfl, f_0⟩
  · skip
    refine lv_if_ne (tgt := 22) hx hb d_Model_times_5 (by decide) (fun _ => ?_) (fun h9 => absurd h9 (by decide))
    refine lv_iconst (v := nI 1) hx hb d_Model_times_22 (by decide) ?_
    refine lv_goto (tgt := 27) hx hb d_Model_times_23 (by decide) ?_
    have hl : lv_has ls 4 [(0, .ref mo), (1, .int a), (2, .int a2), (3, .int a3)] := lv_sub hl [0, 1, 2, 3] rfl
    exact bad _ ls (fun h => (f_0) h.1) hF hl
  · skip
    refine lv_if_ne (tgt := 22) hx hb d_Model_times_5 (by decide) (fun h9 => absurd (by decide) h9) (fun _ => ?_)
    refine lv_iload_n hx hb d_Model_times_8 rfl (lv_at hl 2 rfl) ?_
    refine q_cS (rest := [.ref mo]) E (c_Model_noScalar l g n0 a2 ) w_1064 w_15 w_1062 w_1063 hd_Model_noScalar rfl ⟨by decide, by decide⟩ trivial hF hl.1 rfl (Nat.le_of_ble_eq_true rfl) d_Model_times_9 ⟨by decide, by decide⟩ (qi (fun r_1 H2 locs hq hF => ?_))
    obtain ⟨h_1, hq⟩ := hq
    subst hq
    rcases h_1 with ⟨rfl, f_1⟩ | ⟨rfl, f_1⟩
    · skip
      refine lv_if_ne (tgt := 22) hx hb d_Model_times_12 (by decide) (fun _ => ?_) (fun h9 => absurd h9 (by decide))
      refine lv_iconst (v := nI 1) hx hb d_Model_times_22 (by decide) ?_
      refine lv_goto (tgt := 27) hx hb d_Model_times_23 (by decide) ?_
      have hl : lv_has ls 4 [(0, .ref mo), (1, .int a), (2, .int a2), (3, .int a3)] := lv_sub hl [0, 1, 2, 3] rfl
      exact bad _ ls (fun h => (f_1) h.2.1) hF hl
    · skip
      refine lv_if_ne (tgt := 22) hx hb d_Model_times_12 (by decide) (fun h9 => absurd (by decide) h9) (fun _ => ?_)
      refine lv_iload_n hx hb d_Model_times_15 rfl (lv_at hl 3 rfl) ?_
      refine q_cS (rest := [.ref mo]) E (c_Model_noPoint l g n0 a3 ) w_1151 w_15 w_1149 w_1150 hd_Model_noPoint rfl ⟨by decide, by decide⟩ trivial hF hl.1 rfl (Nat.le_of_ble_eq_true rfl) d_Model_times_16 ⟨by decide, by decide⟩ (qi (fun r_2 H3 locs hq hF => ?_))
      obtain ⟨h_2, hq⟩ := hq
      subst hq
      rcases h_2 with ⟨rfl, f_2⟩ | ⟨rfl, f_2⟩
      · skip
        refine lv_if_eq (tgt := 26) hx hb d_Model_times_19 (by decide) (fun h9 => absurd h9 (by decide)) (fun _ => ?_)
        refine lv_iconst (v := nI 1) hx hb d_Model_times_22 (by decide) ?_
        refine lv_goto (tgt := 27) hx hb d_Model_times_23 (by decide) ?_
        have hl : lv_has ls 4 [(0, .ref mo), (1, .int a), (2, .int a2), (3, .int a3)] := lv_sub hl [0, 1, 2, 3] rfl
        exact bad _ ls (fun h => (f_2) h.2.2) hF hl
      · skip
        refine lv_if_eq (tgt := 26) hx hb d_Model_times_19 (by decide) (fun _ => ?_) (fun h9 => absurd (by decide) h9)
        refine lv_iconst (v := nI 0) hx hb d_Model_times_26 (by decide) ?_
        have hl : lv_has ls 4 [(0, .ref mo), (1, .int a), (2, .int a2), (3, .int a3)] := lv_sub hl [0, 1, 2, 3] rfl
        exact good _ ls ⟨f_0, f_1, f_2⟩ hF hl
set_option maxHeartbeats 4000000 in
set_option maxRecDepth 100000 in
theorem W_Model_same (l : Launch) (g : WG) (n0 : Nat → Prop) (mo : Nat) (th : Int32) (pn tn wn : Nat) (B : Nat → Int) (a : Int32) (a2 : Int32) (hon : ∀ k, k < 12 → onC (ptB B (32 + 3 * k))) : Ctr l y_Model_same (.code y_Model_same prog_11_method_53_code 3 (some FieldType.boolean)) 4 101 0 0 n0 g [.ref mo, .int a, .int a2] (fun H => MVP g n0 H mo th pn tn wn B) (QI (fun r H H' => ((okP a (nI 1) ∧ okP a2 (nI 1)) ∧ (∃ k1 k2, a = nI k1 ∧ a2 = nI k2 ∧ k1 < 12 ∧ k2 < 12 ∧ ((r = 1 ∧ PE (ptB B (32 + 3 * k1)) (ptB B (32 + 3 * k2))) ∨ (r = 0 ∧ ¬ PE (ptB B (32 + 3 * k1)) (ptB B (32 + 3 * k2)))) ∧ MVP g n0 H' mo 0 pn tn wn B)) ∨ (¬ (okP a (nI 1) ∧ okP a2 (nI 1)) ∧ MVP g n0 H' mo 1 pn tn wn B))) := by
  refine ctr_mk l (lv0 := [(0, .ref mo), (1, .int a), (2, .int a2)]) (by decide) (Nat.le_of_ble_eq_true rfl) rfl ?_
  intro p e s m below meth c ls E hr hlk hnm hl hP
  have hx := E.1
  have hb := E.2.1
  have hK := E.2.2.2.2.2
  have hF : ∀ q ∈ ([] : List Loc), n0 q.base := fun q hq => absurd hq List.not_mem_nil
  obtain ⟨⟨w9, n9, fd, hw9, hm, hB⟩, ⟨fa, hab0, hAT, hAQ⟩, hho, -, -, hbd, hmn, -, -, hn8⟩ := id hP
  have hfr : FRM (MR mo) s.heap s.heap := FRM.rf
  have bad : ∀ (locs : List Loc) (ls : Array Slot), ¬ (okP a (nI 1) ∧ okP a2 (nI 1)) → (∀ q ∈ locs, n0 q.base) → lv_has ls 3 [(0, .ref mo), (1, .int a), (2, .int a2)] → W p l e { frames := 4, cells := 0, slots := 0, locals := 101 } s m [.ref mo, .int a, .int a2].toArray below meth c s.heap locs 0 0 (MQ below (QcP (QI (fun r H H' => ((okP a (nI 1) ∧ okP a2 (nI 1)) ∧ (∃ k1 k2, a = nI k1 ∧ a2 = nI k2 ∧ k1 < 12 ∧ k2 < 12 ∧ ((r = 1 ∧ PE (ptB B (32 + 3 * k1)) (ptB B (32 + 3 * k2))) ∨ (r = 0 ∧ ¬ PE (ptB B (32 + 3 * k1)) (ptB B (32 + 3 * k2)))) ∧ MVP g n0 H' mo 0 pn tn wn B)) ∨ (¬ (okP a (nI 1) ∧ okP a2 (nI 1)) ∧ MVP g n0 H' mo 1 pn tn wn B)))) [.ref mo, .int a, .int a2].toArray s 0 0 (fun q => n0 q)) (F0 m 20 ls [.int (nI 1), .ref mo]) := by
    intro  locs   ls hno hF hl
    refine lv_iconst (v := nI 1) hx hb d_Model_same_20 (by decide) ?_
    refine q_cV (rest := []) E (c_Model_fails l g n0 mo th (nI pn) (nI tn) (nI wn) w9 n9 hw9 (nI 1) (nI 1) fd hmn (Or.inl rfl)) w_1056 w_15 w_1053 w_1055 (bw_s 24 rfl) hd_Model_fails rfl ⟨by decide, by decide⟩ (OB.recv E.2.2.2.2.2 (by rfl) hm.1) hm hF hl.1 rfl (Nat.le_of_ble_eq_true rfl) d_Model_same_21 ⟨by decide, by decide⟩ (qi (fun rf H1 locs hq hF => ?_))
    obtain ⟨hrf, hq, hm⟩ := hq
    subst hrf
    have hfr := hfr.tr hq
    rw [if_neg (by decide)] at hm
    refine lv_if_eq (tgt := 29) hx hb d_Model_same_24 (by decide) (fun h9 => absurd h9 (by decide)) (fun _ => ?_)
    refine lv_iconst (v := nI 0) hx hb d_Model_same_27 (by decide) ?_
    exact q_zret E hr rfl hlk (⟨_, rfl, Or.inr ⟨hno, hP.keep hfr hw9 hm hB⟩⟩) hF d_Model_same_28
  have good : ∀ (locs : List Loc) (ls : Array Slot), okP a (nI 1) ∧ okP a2 (nI 1) → (∀ q ∈ locs, n0 q.base) → lv_has ls 3 [(0, .ref mo), (1, .int a), (2, .int a2)] → W p l e { frames := 4, cells := 0, slots := 0, locals := 101 } s m [.ref mo, .int a, .int a2].toArray below meth c s.heap locs 0 0 (MQ below (QcP (QI (fun r H H' => ((okP a (nI 1) ∧ okP a2 (nI 1)) ∧ (∃ k1 k2, a = nI k1 ∧ a2 = nI k2 ∧ k1 < 12 ∧ k2 < 12 ∧ ((r = 1 ∧ PE (ptB B (32 + 3 * k1)) (ptB B (32 + 3 * k2))) ∨ (r = 0 ∧ ¬ PE (ptB B (32 + 3 * k1)) (ptB B (32 + 3 * k2)))) ∧ MVP g n0 H' mo 0 pn tn wn B)) ∨ (¬ (okP a (nI 1) ∧ okP a2 (nI 1)) ∧ MVP g n0 H' mo 1 pn tn wn B)))) [.ref mo, .int a, .int a2].toArray s 0 0 (fun q => n0 q)) (F0 m 20 ls [.int (nI 0), .ref mo]) := by
    intro  locs   ls hok hF hl
    refine lv_iconst (v := nI 1) hx hb d_Model_same_20 (by decide) ?_
    refine q_cV (rest := []) E (c_Model_fails l g n0 mo th (nI pn) (nI tn) (nI wn) w9 n9 hw9 (nI 0) (nI 1) fd hmn (Or.inr rfl)) w_1056 w_15 w_1053 w_1055 (bw_s 24 rfl) hd_Model_fails rfl ⟨by decide, by decide⟩ (OB.recv E.2.2.2.2.2 (by rfl) hm.1) hm hF hl.1 rfl (Nat.le_of_ble_eq_true rfl) d_Model_same_21 ⟨by decide, by decide⟩ (qi (fun rf H1 locs hq hF => ?_))
    obtain ⟨hrf, hq, hm⟩ := hq
    subst hrf
    have hfr := hfr.tr hq
    rw [if_pos nI_0] at hm
    refine lv_if_eq (tgt := 29) hx hb d_Model_same_24 (by decide) (fun _ => ?_) (fun h9 => absurd (by decide) h9)
    obtain ⟨k1, e_k1, h_k1⟩ := okP_nat (by decide) (by decide) hok.1
    rw [e_k1] at hl
    obtain ⟨k2, e_k2, h_k2⟩ := okP_nat (by decide) (by decide) hok.2
    rw [e_k2] at hl
    refine lv_aload_n hx hb d_Model_same_29 rfl (lv_at hl 0 rfl) ?_
    refine lv_iconst (v := nI 0) hx hb d_Model_same_30 (by decide) ?_
    refine q_cV (rest := []) E (c_Model_use l g n0 mo 0 (nI pn) (nI tn) (nI wn) w9 n9 hw9 0 14 hw0 fd hmn) w_967 w_15 w_964 w_966 (bw_s 15 rfl) hd_Model_use rfl ⟨by decide, by decide⟩ (OB.recv E.2.2.2.2.2 (by rfl) hm.1) hm hF hl.1 rfl (Nat.le_of_ble_eq_true rfl) d_Model_same_31 ⟨by decide, by decide⟩ (qv (fun H2 locs hq hF => ?_))
    obtain ⟨hq, hm⟩ := hq
    have hfr := hfr.tr hq
    refine lv_aload_n hx hb d_Model_same_34 rfl (lv_at hl 0 rfl) ?_
    refine lv_iload_n hx hb d_Model_same_35 rfl (lv_at hl 1 rfl) ?_
    refine q_cS (rest := [.ref mo]) E (c_Model_slot l g n0 (nI k1)) w_1154 w_15 w_1152 w_1153 hd_Model_slot rfl ⟨by decide, by decide⟩ trivial hF hl.1 rfl (Nat.le_of_ble_eq_true rfl) d_Model_same_36 ⟨by decide, by decide⟩ (qi (fun rs H3 locs hq hF => ?_))
    obtain ⟨hrs, hq9⟩ := hq
    subst hrs
    subst hq9
    refine lv_topi (fun t9 e9 => ?_)
    obtain rfl : t9 = nI (32 + 3 * k1) := e9.trans (by rw [pk_mul, nI_add])
    refine lv_iload_n hx hb d_Model_same_39 rfl (lv_at hl 2 rfl) ?_
    refine q_cS (rest := [.int (nI (32 + 3 * k1)), .ref mo]) E (c_Model_slot l g n0 (nI k2)) w_1154 w_15 w_1152 w_1153 hd_Model_slot rfl ⟨by decide, by decide⟩ trivial hF hl.1 rfl (Nat.le_of_ble_eq_true rfl) d_Model_same_40 ⟨by decide, by decide⟩ (qi (fun rs H4 locs hq hF => ?_))
    obtain ⟨hrs, hq9⟩ := hq
    subst hrs
    subst hq9
    refine lv_topi (fun t9 e9 => ?_)
    obtain rfl : t9 = nI (32 + 3 * k2) := e9.trans (by rw [pk_mul, nI_add])
    refine q_cV (rest := []) E (M_Model_alike l g n0 mo (32 + 3 * k1) (32 + 3 * k2) 0 (nI pn) (nI tn) (nI wn) fd fa (Or.inl (by omega)) (Or.inl (by omega)) hAQ (ptB B (32 + 3 * k1)) (ptB B (32 + 3 * k2)) (hon k1 (by omega)) (hon k2 (by omega))) w_1218 w_15 w_1215 w_1217 (bw_s 46 rfl) hd_Model_alike rfl ⟨by decide, by decide⟩ (OB.recv E.2.2.2.2.2 (by rfl) hm.1) (⟨hm, (AJ.off hfr (show ¬ MR mo (mo + 4) by unfold MR; omega) hab0), hB.pm (by omega), hB.pm (by omega)⟩) hF hl.1 rfl (Nat.le_of_ble_eq_true rfl) d_Model_same_43 ⟨by decide, by decide⟩ (qi (fun rz H5 locs hq hF => ?_))
    obtain ⟨hrz, hq, fd2, hm, hS⟩ := hq
    have hfr := hfr.tr hq
    exact q_zret E hr (by rcases hrz with h | h <;> rw [h.1] <;> rfl) hlk (⟨rz, rfl, Or.inl ⟨hok, k1, k2, e_k1, e_k2, by omega, by omega, hrz, hP.keep hfr hw0 hm (hB.sm hS (fun t h => by omega))⟩⟩) hF d_Model_same_46
  refine lv_aload_n hx hb d_Model_same_0 rfl (lv_at hl 0 rfl) ?_
  refine lv_iload_n hx hb d_Model_same_1 rfl (lv_at hl 1 rfl) ?_
  refine q_cS (rest := [.ref mo]) E (c_Model_noPoint l g n0 a ) w_1151 w_15 w_1149 w_1150 hd_Model_noPoint rfl ⟨by decide, by decide⟩ trivial hF hl.1 rfl (Nat.le_of_ble_eq_true rfl) d_Model_same_2 ⟨by decide, by decide⟩ (qi (fun r_0 H1 locs hq hF => ?_))
  obtain ⟨h_0, hq⟩ := hq
  subst hq
  rcases h_0 with ⟨rfl, f_0⟩ | ⟨rfl, f_0⟩
  · skip
    refine lv_if_ne (tgt := 15) hx hb d_Model_same_5 (by decide) (fun _ => ?_) (fun h9 => absurd h9 (by decide))
    refine lv_iconst (v := nI 1) hx hb d_Model_same_15 (by decide) ?_
    refine lv_goto (tgt := 20) hx hb d_Model_same_16 (by decide) ?_
    have hl : lv_has ls 3 [(0, .ref mo), (1, .int a), (2, .int a2)] := lv_sub hl [0, 1, 2] rfl
    exact bad _ ls (fun h => (f_0) h.1) hF hl
  · skip
    refine lv_if_ne (tgt := 15) hx hb d_Model_same_5 (by decide) (fun h9 => absurd (by decide) h9) (fun _ => ?_)
    refine lv_iload_n hx hb d_Model_same_8 rfl (lv_at hl 2 rfl) ?_
    refine q_cS (rest := [.ref mo]) E (c_Model_noPoint l g n0 a2 ) w_1151 w_15 w_1149 w_1150 hd_Model_noPoint rfl ⟨by decide, by decide⟩ trivial hF hl.1 rfl (Nat.le_of_ble_eq_true rfl) d_Model_same_9 ⟨by decide, by decide⟩ (qi (fun r_1 H2 locs hq hF => ?_))
    obtain ⟨h_1, hq⟩ := hq
    subst hq
    rcases h_1 with ⟨rfl, f_1⟩ | ⟨rfl, f_1⟩
    · skip
      refine lv_if_eq (tgt := 19) hx hb d_Model_same_12 (by decide) (fun h9 => absurd h9 (by decide)) (fun _ => ?_)
      refine lv_iconst (v := nI 1) hx hb d_Model_same_15 (by decide) ?_
      refine lv_goto (tgt := 20) hx hb d_Model_same_16 (by decide) ?_
      have hl : lv_has ls 3 [(0, .ref mo), (1, .int a), (2, .int a2)] := lv_sub hl [0, 1, 2] rfl
      exact bad _ ls (fun h => (f_1) h.2) hF hl
    · skip
      refine lv_if_eq (tgt := 19) hx hb d_Model_same_12 (by decide) (fun _ => ?_) (fun h9 => absurd (by decide) h9)
      refine lv_iconst (v := nI 0) hx hb d_Model_same_19 (by decide) ?_
      have hl : lv_has ls 3 [(0, .ref mo), (1, .int a), (2, .int a2)] := lv_sub hl [0, 1, 2] rfl
      exact good _ ls ⟨f_0, f_1⟩ hF hl
set_option maxHeartbeats 4000000 in
set_option maxRecDepth 100000 in
theorem M_Model_sums0 (l : Launch) (g : WG) (n0 : Nat → Prop) (mo : Nat) (a8 q8 : Int32) (th pw td wr : Int32) (w n : Nat) (hw : WH w n) (fd : Nat → Int64) (hmn : n0 mo) : Ctr l y_Model_sums (.code y_Model_sums prog_11_method_51_code 5 none) 6 143 0 0 n0 g [.ref mo, .int a8, .int q8, .int (nI 0)] (fun H => MS g n0 H mo th pw td wr w n fd) (QV (fun H H' => FRM (MR mo) H H' ∧ ∃ fd', MS g n0 H' mo th pw td wr 0 14 fd' ∧ SAME fd fd' (fun t => 164 ≤ t ∧ t ≤ 166) ∧ PM9 fd' 164 PZ0)) := by
  refine ctr_mk l (lv0 := [(0, .ref mo), (1, .int a8), (2, .int q8), (3, .int (nI 0))]) (by decide) (Nat.le_of_ble_eq_true rfl) rfl ?_
  intro p e s m below meth c ls E hr hlk hnm hl hP
  have hx := E.1
  have hb := E.2.1
  have hK := E.2.2.2.2.2
  have hF : ∀ q ∈ ([] : List Loc), n0 q.base := fun q hq => absurd hq List.not_mem_nil
  have hm := hP
  have hfr : FRM (MR mo) s.heap s.heap := FRM.rf
  refine lv_aload_n hx hb d_Model_sums_0 rfl (lv_at hl 0 rfl) ?_
  refine lv_iconst (v := nI 0) hx hb d_Model_sums_1 (by decide) ?_
  refine q_cV (rest := []) E (c_Model_use l g n0 mo th pw td wr w n hw 0 14 hw0 fd hmn) w_967 w_15 w_964 w_966 (bw_s 15 rfl) hd_Model_use rfl ⟨by decide, by decide⟩ (OB.recv E.2.2.2.2.2 (by rfl) hm.1) hm hF hl.1 rfl (Nat.le_of_ble_eq_true rfl) d_Model_sums_2 ⟨by decide, by decide⟩ (qv (fun H1 locs hq hF => ?_))
  obtain ⟨hq, hm⟩ := hq
  have hfr := hfr.tr hq
  refine lv_aload_n hx hb d_Model_sums_5 rfl (lv_at hl 0 rfl) ?_
  refine lv_sipush (v := nI 164) hx hb d_Model_sums_6 (by decide) ?_
  refine q_cV (rest := []) E (M_Model_nothing l g n0 mo 164 th pw td wr 0 14 hw0 fd (by decide)) w_996 w_15 w_993 w_995 (bw_s 22 rfl) hd_Model_nothing rfl ⟨by decide, by decide⟩ (OB.recv E.2.2.2.2.2 (by rfl) hm.1) hm hF hl.1 rfl (Nat.le_of_ble_eq_true rfl) d_Model_sums_9 ⟨by decide, by decide⟩ (qv (fun H2 locs hq hF => ?_))
  obtain ⟨hq, fd_1, hm, hS9, hT⟩ := hq
  have hfr := hfr.tr hq
  refine lv_iconst (v := nI 0) hx hb d_Model_sums_12 (by decide) ?_
  refine lv_istore (lv' := [(4, .int (nI 0)), (0, .ref mo), (1, .int a8), (2, .int q8), (3, .int (nI 0))]) hx hb d_Model_sums_13 hl (by decide) rfl (fun ls hl => ?_)
  refine lv_iload hx hb d_Model_sums_15 (lv_at hl 0 rfl) ?_
  refine lv_iload_n hx hb d_Model_sums_17 rfl (lv_at hl 4 rfl) ?_
  refine lv_icmp_ge (tgt := 57) hx hb d_Model_sums_18 (by decide) (fun _ => ?_) (fun h9 => absurd (by decide) h9)
  exact q_vret E hr hlk (⟨rfl, hfr, _, hm, hS9.mono (fun t h => by show 164 ≤ t ∧ t ≤ 166; omega), hT⟩) hF d_Model_sums_57
set_option maxHeartbeats 4000000 in
set_option maxRecDepth 100000 in
theorem W_Model_join (l : Launch) (g : WG) (n0 : Nat → Prop) (mo : Nat) (th : Int32) (pn tn wn : Nat) (B : Nat → Int) (w0 : Int32) (a : Int32) (a2 : Int32) (a3 : Int32) (hon : ∀ k, k < 12 → onC (ptB B (32 + 3 * k))) : Ctr l y_Model_join (.code y_Model_join prog_11_method_49_code 5 none) 5 119 0 0 n0 g [.ref mo, .int w0, .int a, .int a2, .int a3] (fun H => MVP g n0 H mo th pn tn wn B) (QV (fun H H' => ((okC w0 (nI 0) (nI 3) ∧ okP a (nI 1) ∧ okP a2 (nI 1) ∧ okP a3 (nI 1)) ∧ (∃ k0 k1 k2 k3, w0 = nI k0 ∧ a = nI k1 ∧ a2 = nI k2 ∧ a3 = nI k3 ∧ k0 ≤ 3 ∧ k1 < 12 ∧ k2 < 12 ∧ k3 < 12 ∧ ∃ T, ((k0 = 0 ∧ T = PZ0) ∨ (k0 = 1 ∧ T = ptB B 116) ∨ (k0 = 2 ∧ T = AD (ptB B (32 + 3 * k2)) (ptB B (32 + 3 * k3))) ∨ (k0 = 3 ∧ T = AD (ptB B (32 + 3 * k2)) (NG (ptB B (32 + 3 * k3))))) ∧ MVP g n0 H' mo 0 pn tn wn (updP B (32 + 3 * k1) T))) ∨ (¬ (okC w0 (nI 0) (nI 3) ∧ okP a (nI 1) ∧ okP a2 (nI 1) ∧ okP a3 (nI 1)) ∧ MVP g n0 H' mo 1 pn tn wn B))) := by
  refine ctr_mk l (lv0 := [(0, .ref mo), (1, .int w0), (2, .int a), (3, .int a2), (4, .int a3)]) (by decide) (Nat.le_of_ble_eq_true rfl) rfl ?_
  intro p e s m below meth c ls E hr hlk hnm hl hP
  have hx := E.1
  have hb := E.2.1
  have hK := E.2.2.2.2.2
  have hF : ∀ q ∈ ([] : List Loc), n0 q.base := fun q hq => absurd hq List.not_mem_nil
  obtain ⟨⟨w9, n9, fd, hw9, hm, hB⟩, ⟨fa, hab0, hAT, hAQ⟩, hho, -, -, hbd, hmn, -, -, hn8⟩ := id hP
  have hfr : FRM (MR mo) s.heap s.heap := FRM.rf
  have bad : ∀ (locs : List Loc) (ls : Array Slot), ¬ (okC w0 (nI 0) (nI 3) ∧ okP a (nI 1) ∧ okP a2 (nI 1) ∧ okP a3 (nI 1)) → (∀ q ∈ locs, n0 q.base) → lv_has ls 5 [(0, .ref mo), (1, .int w0), (2, .int a), (3, .int a2), (4, .int a3)] → W p l e { frames := 5, cells := 0, slots := 0, locals := 119 } s m [.ref mo, .int w0, .int a, .int a2, .int a3].toArray below meth c s.heap locs 0 0 (MQ below (QcP (QV (fun H H' => ((okC w0 (nI 0) (nI 3) ∧ okP a (nI 1) ∧ okP a2 (nI 1) ∧ okP a3 (nI 1)) ∧ (∃ k0 k1 k2 k3, w0 = nI k0 ∧ a = nI k1 ∧ a2 = nI k2 ∧ a3 = nI k3 ∧ k0 ≤ 3 ∧ k1 < 12 ∧ k2 < 12 ∧ k3 < 12 ∧ ∃ T, ((k0 = 0 ∧ T = PZ0) ∨ (k0 = 1 ∧ T = ptB B 116) ∨ (k0 = 2 ∧ T = AD (ptB B (32 + 3 * k2)) (ptB B (32 + 3 * k3))) ∨ (k0 = 3 ∧ T = AD (ptB B (32 + 3 * k2)) (NG (ptB B (32 + 3 * k3))))) ∧ MVP g n0 H' mo 0 pn tn wn (updP B (32 + 3 * k1) T))) ∨ (¬ (okC w0 (nI 0) (nI 3) ∧ okP a (nI 1) ∧ okP a2 (nI 1) ∧ okP a3 (nI 1)) ∧ MVP g n0 H' mo 1 pn tn wn B)))) [.ref mo, .int w0, .int a, .int a2, .int a3].toArray s 0 0 (fun q => n0 q)) (F0 m 40 ls [.int (nI 1), .ref mo]) := by
    intro  locs   ls hno hF hl
    refine lv_iconst (v := nI 1) hx hb d_Model_join_40 (by decide) ?_
    refine q_cV (rest := []) E (c_Model_fails l g n0 mo th (nI pn) (nI tn) (nI wn) w9 n9 hw9 (nI 1) (nI 1) fd hmn (Or.inl rfl)) w_1056 w_15 w_1053 w_1055 (bw_s 24 rfl) hd_Model_fails rfl ⟨by decide, by decide⟩ (OB.recv E.2.2.2.2.2 (by rfl) hm.1) hm hF hl.1 rfl (Nat.le_of_ble_eq_true rfl) d_Model_join_41 ⟨by decide, by decide⟩ (qi (fun rf H1 locs hq hF => ?_))
    obtain ⟨hrf, hq, hm⟩ := hq
    subst hrf
    have hfr := hfr.tr hq
    rw [if_neg (by decide)] at hm
    refine lv_if_eq (tgt := 48) hx hb d_Model_join_44 (by decide) (fun h9 => absurd h9 (by decide)) (fun _ => ?_)
    exact q_vret E hr hlk (⟨rfl, Or.inr ⟨hno, hP.keep hfr hw9 hm hB⟩⟩) hF d_Model_join_47
  have good : ∀ (locs : List Loc) (ls : Array Slot), okC w0 (nI 0) (nI 3) ∧ okP a (nI 1) ∧ okP a2 (nI 1) ∧ okP a3 (nI 1) → (∀ q ∈ locs, n0 q.base) → lv_has ls 5 [(0, .ref mo), (1, .int w0), (2, .int a), (3, .int a2), (4, .int a3)] → W p l e { frames := 5, cells := 0, slots := 0, locals := 119 } s m [.ref mo, .int w0, .int a, .int a2, .int a3].toArray below meth c s.heap locs 0 0 (MQ below (QcP (QV (fun H H' => ((okC w0 (nI 0) (nI 3) ∧ okP a (nI 1) ∧ okP a2 (nI 1) ∧ okP a3 (nI 1)) ∧ (∃ k0 k1 k2 k3, w0 = nI k0 ∧ a = nI k1 ∧ a2 = nI k2 ∧ a3 = nI k3 ∧ k0 ≤ 3 ∧ k1 < 12 ∧ k2 < 12 ∧ k3 < 12 ∧ ∃ T, ((k0 = 0 ∧ T = PZ0) ∨ (k0 = 1 ∧ T = ptB B 116) ∨ (k0 = 2 ∧ T = AD (ptB B (32 + 3 * k2)) (ptB B (32 + 3 * k3))) ∨ (k0 = 3 ∧ T = AD (ptB B (32 + 3 * k2)) (NG (ptB B (32 + 3 * k3))))) ∧ MVP g n0 H' mo 0 pn tn wn (updP B (32 + 3 * k1) T))) ∨ (¬ (okC w0 (nI 0) (nI 3) ∧ okP a (nI 1) ∧ okP a2 (nI 1) ∧ okP a3 (nI 1)) ∧ MVP g n0 H' mo 1 pn tn wn B)))) [.ref mo, .int w0, .int a, .int a2, .int a3].toArray s 0 0 (fun q => n0 q)) (F0 m 40 ls [.int (nI 0), .ref mo]) := by
    intro  locs   ls hok hF hl
    refine lv_iconst (v := nI 1) hx hb d_Model_join_40 (by decide) ?_
    refine q_cV (rest := []) E (c_Model_fails l g n0 mo th (nI pn) (nI tn) (nI wn) w9 n9 hw9 (nI 0) (nI 1) fd hmn (Or.inr rfl)) w_1056 w_15 w_1053 w_1055 (bw_s 24 rfl) hd_Model_fails rfl ⟨by decide, by decide⟩ (OB.recv E.2.2.2.2.2 (by rfl) hm.1) hm hF hl.1 rfl (Nat.le_of_ble_eq_true rfl) d_Model_join_41 ⟨by decide, by decide⟩ (qi (fun rf H1 locs hq hF => ?_))
    obtain ⟨hrf, hq, hm⟩ := hq
    subst hrf
    have hfr := hfr.tr hq
    rw [if_pos nI_0] at hm
    refine lv_if_eq (tgt := 48) hx hb d_Model_join_44 (by decide) (fun _ => ?_) (fun h9 => absurd (by decide) h9)
    obtain ⟨k0, e_k0, h_k0, h2_k0⟩ := okC_nat (by decide) (by decide) hok.1
    rw [e_k0] at hl
    obtain ⟨k1, e_k1, h_k1⟩ := okP_nat (by decide) (by decide) hok.2.1
    rw [e_k1] at hl
    obtain ⟨k2, e_k2, h_k2⟩ := okP_nat (by decide) (by decide) hok.2.2.1
    rw [e_k2] at hl
    obtain ⟨k3, e_k3, h_k3⟩ := okP_nat (by decide) (by decide) hok.2.2.2
    rw [e_k3] at hl
    obtain ⟨hq9, -⟩ : k0 ≤ 3 ∧ True := ⟨h2_k0, trivial⟩
    match k0, hq9, e_k0 with
    | 0, _, e_k0 =>
      refine lv_aload_n hx hb d_Model_join_48 rfl (lv_at hl 0 rfl) ?_
      refine lv_iconst (v := nI 0) hx hb d_Model_join_49 (by decide) ?_
      refine q_cV (rest := []) E (c_Model_use l g n0 mo 0 (nI pn) (nI tn) (nI wn) w9 n9 hw9 0 14 hw0 fd hmn) w_967 w_15 w_964 w_966 (bw_s 15 rfl) hd_Model_use rfl ⟨by decide, by decide⟩ (OB.recv E.2.2.2.2.2 (by rfl) hm.1) hm hF hl.1 rfl (Nat.le_of_ble_eq_true rfl) d_Model_join_50 ⟨by decide, by decide⟩ (qv (fun H2 locs hq hF => ?_))
      obtain ⟨hq, hm⟩ := hq
      have hfr := hfr.tr hq
      refine lv_iload_n hx hb d_Model_join_53 rfl (lv_at hl 1 rfl) ?_
      refine lv_if_ne (tgt := 65) hx hb d_Model_join_54 (by decide) (fun h9 => absurd (by decide) h9) (fun _ => ?_)
      refine lv_aload_n hx hb d_Model_join_57 rfl (lv_at hl 0 rfl) ?_
      refine lv_iload_n hx hb d_Model_join_58 rfl (lv_at hl 2 rfl) ?_
      refine q_cS (rest := [.ref mo]) E (c_Model_slot l g n0 (nI k1)) w_1154 w_15 w_1152 w_1153 hd_Model_slot rfl ⟨by decide, by decide⟩ trivial hF hl.1 rfl (Nat.le_of_ble_eq_true rfl) d_Model_join_59 ⟨by decide, by decide⟩ (qi (fun rs H3 locs hq hF => ?_))
      obtain ⟨hrs, hq9⟩ := hq
      subst hrs
      subst hq9
      refine lv_topi (fun t9 e9 => ?_)
      obtain rfl : t9 = nI (32 + 3 * k1) := e9.trans (by rw [pk_mul, nI_add])
      refine q_cV (rest := []) E (M_Model_nothing l g n0 mo (32 + 3 * k1) 0 (nI pn) (nI tn) (nI wn) 0 14 hw0 fd (by omega)) w_996 w_15 w_993 w_995 (bw_s 22 rfl) hd_Model_nothing rfl ⟨by decide, by decide⟩ (OB.recv E.2.2.2.2.2 (by rfl) hm.1) hm hF hl.1 rfl (Nat.le_of_ble_eq_true rfl) d_Model_join_62 ⟨by decide, by decide⟩ (qv (fun H4 locs hq hF => ?_))
      obtain ⟨hq, fd_1, hm, hS, hT⟩ := hq
      have hfr := hfr.tr hq
      refine lv_iload_n hx hb d_Model_join_65 rfl (lv_at hl 1 rfl) ?_
      refine lv_iconst (v := nI 1) hx hb d_Model_join_66 (by decide) ?_
      refine lv_icmp_ne (tgt := 80) hx hb d_Model_join_67 (by decide) (fun _ => ?_) (fun h9 => absurd h9 (by decide))
      refine lv_iload_n hx hb d_Model_join_80 rfl (lv_at hl 1 rfl) ?_
      refine lv_iconst (v := nI 2) hx hb d_Model_join_81 (by decide) ?_
      refine lv_icmp_ge (tgt := 86) hx hb d_Model_join_82 (by decide) (fun h9 => absurd h9 (by decide)) (fun _ => ?_)
      exact q_vret E hr hlk (⟨rfl, Or.inl ⟨hok, 0, k1, k2, k3, e_k0, e_k1, e_k2, e_k3, by decide, by omega, by omega, by omega, PZ0, Or.inl ⟨rfl, rfl⟩, hP.keep hfr hw0 hm (hB.set hS (fun t h => by omega) hT (by omega))⟩⟩) hF d_Model_join_85
    | 1, _, e_k0 =>
      refine lv_aload_n hx hb d_Model_join_48 rfl (lv_at hl 0 rfl) ?_
      refine lv_iconst (v := nI 0) hx hb d_Model_join_49 (by decide) ?_
      refine q_cV (rest := []) E (c_Model_use l g n0 mo 0 (nI pn) (nI tn) (nI wn) w9 n9 hw9 0 14 hw0 fd hmn) w_967 w_15 w_964 w_966 (bw_s 15 rfl) hd_Model_use rfl ⟨by decide, by decide⟩ (OB.recv E.2.2.2.2.2 (by rfl) hm.1) hm hF hl.1 rfl (Nat.le_of_ble_eq_true rfl) d_Model_join_50 ⟨by decide, by decide⟩ (qv (fun H2 locs hq hF => ?_))
      obtain ⟨hq, hm⟩ := hq
      have hfr := hfr.tr hq
      refine lv_iload_n hx hb d_Model_join_53 rfl (lv_at hl 1 rfl) ?_
      refine lv_if_ne (tgt := 65) hx hb d_Model_join_54 (by decide) (fun _ => ?_) (fun h9 => absurd h9 (by decide))
      refine lv_iload_n hx hb d_Model_join_65 rfl (lv_at hl 1 rfl) ?_
      refine lv_iconst (v := nI 1) hx hb d_Model_join_66 (by decide) ?_
      refine lv_icmp_ne (tgt := 80) hx hb d_Model_join_67 (by decide) (fun h9 => absurd (by decide) h9) (fun _ => ?_)
      refine lv_aload_n hx hb d_Model_join_70 rfl (lv_at hl 0 rfl) ?_
      refine lv_iload_n hx hb d_Model_join_71 rfl (lv_at hl 2 rfl) ?_
      refine q_cS (rest := [.ref mo]) E (c_Model_slot l g n0 (nI k1)) w_1154 w_15 w_1152 w_1153 hd_Model_slot rfl ⟨by decide, by decide⟩ trivial hF hl.1 rfl (Nat.le_of_ble_eq_true rfl) d_Model_join_72 ⟨by decide, by decide⟩ (qi (fun rs H3 locs hq hF => ?_))
      obtain ⟨hrs, hq9⟩ := hq
      subst hrs
      subst hq9
      refine lv_topi (fun t9 e9 => ?_)
      obtain rfl : t9 = nI (32 + 3 * k1) := e9.trans (by rw [pk_mul, nI_add])
      refine lv_bipush (v := nI 116) hx hb d_Model_join_75 (by decide) ?_
      have hT := hB.pm (s := 116) (by decide)
      refine q_cV (rest := []) E (c_Model_movePoint l g n0 mo (32 + 3 * k1) 116 0 (nI pn) (nI tn) (nI wn) 0 14 hw0 fd (by omega) (by omega) (by omega)) w_1171 w_15 w_1168 w_1170 (bw_s 41 rfl) hd_Model_movePoint rfl ⟨by decide, by decide⟩ (OB.recv E.2.2.2.2.2 (by rfl) hm.1) hm hF hl.1 rfl (Nat.le_of_ble_eq_true rfl) d_Model_join_77 ⟨by decide, by decide⟩ (qv (fun H4 locs hq hF => ?_))
      obtain ⟨hq, fd_2, hm, hS2, hmv⟩ := hq
      have hfr := hfr.tr hq
      have hT := PM9.mv hT hmv
      refine lv_iload_n hx hb d_Model_join_80 rfl (lv_at hl 1 rfl) ?_
      refine lv_iconst (v := nI 2) hx hb d_Model_join_81 (by decide) ?_
      refine lv_icmp_ge (tgt := 86) hx hb d_Model_join_82 (by decide) (fun h9 => absurd h9 (by decide)) (fun _ => ?_)
      exact q_vret E hr hlk (⟨rfl, Or.inl ⟨hok, 1, k1, k2, k3, e_k0, e_k1, e_k2, e_k3, by decide, by omega, by omega, by omega, ptB B 116, Or.inr (Or.inl ⟨rfl, rfl⟩), hP.keep hfr hw0 hm (hB.set hS2 (fun t h => by omega) hT (by omega))⟩⟩) hF d_Model_join_85
    | 2, _, e_k0 =>
      refine lv_aload_n hx hb d_Model_join_48 rfl (lv_at hl 0 rfl) ?_
      refine lv_iconst (v := nI 0) hx hb d_Model_join_49 (by decide) ?_
      refine q_cV (rest := []) E (c_Model_use l g n0 mo 0 (nI pn) (nI tn) (nI wn) w9 n9 hw9 0 14 hw0 fd hmn) w_967 w_15 w_964 w_966 (bw_s 15 rfl) hd_Model_use rfl ⟨by decide, by decide⟩ (OB.recv E.2.2.2.2.2 (by rfl) hm.1) hm hF hl.1 rfl (Nat.le_of_ble_eq_true rfl) d_Model_join_50 ⟨by decide, by decide⟩ (qv (fun H2 locs hq hF => ?_))
      obtain ⟨hq, hm⟩ := hq
      have hfr := hfr.tr hq
      refine lv_iload_n hx hb d_Model_join_53 rfl (lv_at hl 1 rfl) ?_
      refine lv_if_ne (tgt := 65) hx hb d_Model_join_54 (by decide) (fun _ => ?_) (fun h9 => absurd h9 (by decide))
      refine lv_iload_n hx hb d_Model_join_65 rfl (lv_at hl 1 rfl) ?_
      refine lv_iconst (v := nI 1) hx hb d_Model_join_66 (by decide) ?_
      refine lv_icmp_ne (tgt := 80) hx hb d_Model_join_67 (by decide) (fun _ => ?_) (fun h9 => absurd h9 (by decide))
      refine lv_iload_n hx hb d_Model_join_80 rfl (lv_at hl 1 rfl) ?_
      refine lv_iconst (v := nI 2) hx hb d_Model_join_81 (by decide) ?_
      refine lv_icmp_ge (tgt := 86) hx hb d_Model_join_82 (by decide) (fun _ => ?_) (fun h9 => absurd (by decide) h9)
      refine lv_aload_n hx hb d_Model_join_86 rfl (lv_at hl 0 rfl) ?_
      refine lv_sipush (v := nI 157) hx hb d_Model_join_87 (by decide) ?_
      refine lv_iload hx hb d_Model_join_90 (lv_at hl 4 rfl) ?_
      refine q_cS (rest := [.int (nI 157), .ref mo]) E (c_Model_slot l g n0 (nI k3)) w_1154 w_15 w_1152 w_1153 hd_Model_slot rfl ⟨by decide, by decide⟩ trivial hF hl.1 rfl (Nat.le_of_ble_eq_true rfl) d_Model_join_92 ⟨by decide, by decide⟩ (qi (fun rs H3 locs hq hF => ?_))
      obtain ⟨hrs, hq9⟩ := hq
      subst hrs
      subst hq9
      refine lv_topi (fun t9 e9 => ?_)
      obtain rfl : t9 = nI (32 + 3 * k3) := e9.trans (by rw [pk_mul, nI_add])
      have hR := hB.pm (s := 32 + 3 * k3) (by omega)
      refine q_cV (rest := []) E (c_Model_movePoint l g n0 mo 157 (32 + 3 * k3) 0 (nI pn) (nI tn) (nI wn) 0 14 hw0 fd (by omega) (by omega) (by omega)) w_1171 w_15 w_1168 w_1170 (bw_s 41 rfl) hd_Model_movePoint rfl ⟨by decide, by decide⟩ (OB.recv E.2.2.2.2.2 (by rfl) hm.1) hm hF hl.1 rfl (Nat.le_of_ble_eq_true rfl) d_Model_join_95 ⟨by decide, by decide⟩ (qv (fun H4 locs hq hF => ?_))
      obtain ⟨hq, fd_3, hm, hS2, hmv⟩ := hq
      have hfr := hfr.tr hq
      have hR := PM9.mv hR hmv
      have hB := hB.sm hS2 (fun t h => by omega)
      refine lv_aload_n hx hb d_Model_join_98 rfl (lv_at hl 0 rfl) ?_
      refine lv_sipush (v := nI 160) hx hb d_Model_join_99 (by decide) ?_
      refine q_cV (rest := []) E (c_Model_zero l g n0 mo 160 0 (nI pn) (nI tn) (nI wn) 0 14 hw0 fd_3 (by decide)) w_1000 w_15 w_997 w_999 (bw_s 23 rfl) hd_Model_zero rfl ⟨by decide, by decide⟩ (OB.recv E.2.2.2.2.2 (by rfl) hm.1) hm hF hl.1 rfl (Nat.le_of_ble_eq_true rfl) d_Model_join_102 ⟨by decide, by decide⟩ (qv (fun H5 locs hq hF => ?_))
      obtain ⟨hq, fd_4, hm, hp1⟩ := hq
      have hfr := hfr.tr hq
      have hB := hB.off1 hp1.1 (by decide)
      have hR := hR.off hp1.1 (by decide) (by decide) (by decide)
      have h0 := mq_0 hp1.2
      refine lv_iload_n hx hb d_Model_join_105 rfl (lv_at hl 1 rfl) ?_
      refine lv_iconst (v := nI 3) hx hb d_Model_join_106 (by decide) ?_
      refine lv_icmp_ne (tgt := 123) hx hb d_Model_join_107 (by decide) (fun _ => ?_) (fun h9 => absurd h9 (by decide))
      refine lv_aload_n hx hb d_Model_join_123 rfl (lv_at hl 0 rfl) ?_
      refine lv_sipush (v := nI 161) hx hb d_Model_join_124 (by decide) ?_
      refine lv_iload_n hx hb d_Model_join_127 rfl (lv_at hl 3 rfl) ?_
      refine q_cS (rest := [.int (nI 161), .ref mo]) E (c_Model_slot l g n0 (nI k2)) w_1154 w_15 w_1152 w_1153 hd_Model_slot rfl ⟨by decide, by decide⟩ trivial hF hl.1 rfl (Nat.le_of_ble_eq_true rfl) d_Model_join_128 ⟨by decide, by decide⟩ (qi (fun rs H6 locs hq hF => ?_))
      obtain ⟨hrs, hq9⟩ := hq
      subst hrs
      subst hq9
      refine lv_topi (fun t9 e9 => ?_)
      obtain rfl : t9 = nI (32 + 3 * k2) := e9.trans (by rw [pk_mul, nI_add])
      refine lv_sipush (v := nI 157) hx hb d_Model_join_131 (by decide) ?_
      refine q_cV (rest := []) E (M_Model_sum l g n0 mo 161 (32 + 3 * k2) 157 0 (nI pn) (nI tn) (nI wn) fd_4 fa (Or.inr ⟨by decide, by decide⟩) (Or.inl (by omega)) (Or.inr ⟨by decide, by decide⟩) hAQ (ptB B (32 + 3 * k2)) (ptB B (32 + 3 * k3))) w_1175 w_15 w_1172 w_1174 (bw_s 42 rfl) hd_Model_sum rfl ⟨by decide, by decide⟩ (OB.recv E.2.2.2.2.2 (by rfl) hm.1) (⟨hm, (AJ.off hfr (show ¬ MR mo (mo + 4) by unfold MR; omega) hab0), hB.pm (by omega), hR⟩) hF hl.1 rfl (Nat.le_of_ble_eq_true rfl) d_Model_join_134 ⟨by decide, by decide⟩ (qv (fun H7 locs hq hF => ?_))
      obtain ⟨hq, -, fd_5, hm, hS, hT⟩ := hq
      have hfr := hfr.tr hq
      have hB := hB.sm hS (fun t h => by omega)
      refine lv_aload_n hx hb d_Model_join_137 rfl (lv_at hl 0 rfl) ?_
      refine lv_iload_n hx hb d_Model_join_138 rfl (lv_at hl 2 rfl) ?_
      refine q_cS (rest := [.ref mo]) E (c_Model_slot l g n0 (nI k1)) w_1154 w_15 w_1152 w_1153 hd_Model_slot rfl ⟨by decide, by decide⟩ trivial hF hl.1 rfl (Nat.le_of_ble_eq_true rfl) d_Model_join_139 ⟨by decide, by decide⟩ (qi (fun rs H8 locs hq hF => ?_))
      obtain ⟨hrs, hq9⟩ := hq
      subst hrs
      subst hq9
      refine lv_topi (fun t9 e9 => ?_)
      obtain rfl : t9 = nI (32 + 3 * k1) := e9.trans (by rw [pk_mul, nI_add])
      refine lv_sipush (v := nI 161) hx hb d_Model_join_142 (by decide) ?_
      refine q_cV (rest := []) E (c_Model_movePoint l g n0 mo (32 + 3 * k1) 161 0 (nI pn) (nI tn) (nI wn) 0 14 hw0 fd_5 (by omega) (by omega) (by omega)) w_1171 w_15 w_1168 w_1170 (bw_s 41 rfl) hd_Model_movePoint rfl ⟨by decide, by decide⟩ (OB.recv E.2.2.2.2.2 (by rfl) hm.1) hm hF hl.1 rfl (Nat.le_of_ble_eq_true rfl) d_Model_join_145 ⟨by decide, by decide⟩ (qv (fun H9 locs hq hF => ?_))
      obtain ⟨hq, fd_6, hm, hS2, hmv⟩ := hq
      have hfr := hfr.tr hq
      have hT := PM9.mv hT hmv
      exact q_vret E hr hlk (⟨rfl, Or.inl ⟨hok, 2, k1, k2, k3, e_k0, e_k1, e_k2, e_k3, by decide, by omega, by omega, by omega, AD (ptB B (32 + 3 * k2)) (ptB B (32 + 3 * k3)), Or.inr (Or.inr (Or.inl ⟨rfl, rfl⟩)), hP.keep hfr hw0 hm (hB.set hS2 (fun t h => by omega) hT (by omega))⟩⟩) hF d_Model_join_148
    | 3, _, e_k0 =>
      refine lv_aload_n hx hb d_Model_join_48 rfl (lv_at hl 0 rfl) ?_
      refine lv_iconst (v := nI 0) hx hb d_Model_join_49 (by decide) ?_
      refine q_cV (rest := []) E (c_Model_use l g n0 mo 0 (nI pn) (nI tn) (nI wn) w9 n9 hw9 0 14 hw0 fd hmn) w_967 w_15 w_964 w_966 (bw_s 15 rfl) hd_Model_use rfl ⟨by decide, by decide⟩ (OB.recv E.2.2.2.2.2 (by rfl) hm.1) hm hF hl.1 rfl (Nat.le_of_ble_eq_true rfl) d_Model_join_50 ⟨by decide, by decide⟩ (qv (fun H2 locs hq hF => ?_))
      obtain ⟨hq, hm⟩ := hq
      have hfr := hfr.tr hq
      refine lv_iload_n hx hb d_Model_join_53 rfl (lv_at hl 1 rfl) ?_
      refine lv_if_ne (tgt := 65) hx hb d_Model_join_54 (by decide) (fun _ => ?_) (fun h9 => absurd h9 (by decide))
      refine lv_iload_n hx hb d_Model_join_65 rfl (lv_at hl 1 rfl) ?_
      refine lv_iconst (v := nI 1) hx hb d_Model_join_66 (by decide) ?_
      refine lv_icmp_ne (tgt := 80) hx hb d_Model_join_67 (by decide) (fun _ => ?_) (fun h9 => absurd h9 (by decide))
      refine lv_iload_n hx hb d_Model_join_80 rfl (lv_at hl 1 rfl) ?_
      refine lv_iconst (v := nI 2) hx hb d_Model_join_81 (by decide) ?_
      refine lv_icmp_ge (tgt := 86) hx hb d_Model_join_82 (by decide) (fun _ => ?_) (fun h9 => absurd (by decide) h9)
      refine lv_aload_n hx hb d_Model_join_86 rfl (lv_at hl 0 rfl) ?_
      refine lv_sipush (v := nI 157) hx hb d_Model_join_87 (by decide) ?_
      refine lv_iload hx hb d_Model_join_90 (lv_at hl 4 rfl) ?_
      refine q_cS (rest := [.int (nI 157), .ref mo]) E (c_Model_slot l g n0 (nI k3)) w_1154 w_15 w_1152 w_1153 hd_Model_slot rfl ⟨by decide, by decide⟩ trivial hF hl.1 rfl (Nat.le_of_ble_eq_true rfl) d_Model_join_92 ⟨by decide, by decide⟩ (qi (fun rs H3 locs hq hF => ?_))
      obtain ⟨hrs, hq9⟩ := hq
      subst hrs
      subst hq9
      refine lv_topi (fun t9 e9 => ?_)
      obtain rfl : t9 = nI (32 + 3 * k3) := e9.trans (by rw [pk_mul, nI_add])
      have hR := hB.pm (s := 32 + 3 * k3) (by omega)
      refine q_cV (rest := []) E (c_Model_movePoint l g n0 mo 157 (32 + 3 * k3) 0 (nI pn) (nI tn) (nI wn) 0 14 hw0 fd (by omega) (by omega) (by omega)) w_1171 w_15 w_1168 w_1170 (bw_s 41 rfl) hd_Model_movePoint rfl ⟨by decide, by decide⟩ (OB.recv E.2.2.2.2.2 (by rfl) hm.1) hm hF hl.1 rfl (Nat.le_of_ble_eq_true rfl) d_Model_join_95 ⟨by decide, by decide⟩ (qv (fun H4 locs hq hF => ?_))
      obtain ⟨hq, fd_7, hm, hS2, hmv⟩ := hq
      have hfr := hfr.tr hq
      have hR := PM9.mv hR hmv
      have hB := hB.sm hS2 (fun t h => by omega)
      refine lv_aload_n hx hb d_Model_join_98 rfl (lv_at hl 0 rfl) ?_
      refine lv_sipush (v := nI 160) hx hb d_Model_join_99 (by decide) ?_
      refine q_cV (rest := []) E (c_Model_zero l g n0 mo 160 0 (nI pn) (nI tn) (nI wn) 0 14 hw0 fd_7 (by decide)) w_1000 w_15 w_997 w_999 (bw_s 23 rfl) hd_Model_zero rfl ⟨by decide, by decide⟩ (OB.recv E.2.2.2.2.2 (by rfl) hm.1) hm hF hl.1 rfl (Nat.le_of_ble_eq_true rfl) d_Model_join_102 ⟨by decide, by decide⟩ (qv (fun H5 locs hq hF => ?_))
      obtain ⟨hq, fd_8, hm, hp1⟩ := hq
      have hfr := hfr.tr hq
      have hB := hB.off1 hp1.1 (by decide)
      have hR := hR.off hp1.1 (by decide) (by decide) (by decide)
      have h0 := mq_0 hp1.2
      refine lv_iload_n hx hb d_Model_join_105 rfl (lv_at hl 1 rfl) ?_
      refine lv_iconst (v := nI 3) hx hb d_Model_join_106 (by decide) ?_
      refine lv_icmp_ne (tgt := 123) hx hb d_Model_join_107 (by decide) (fun h9 => absurd (by decide) h9) (fun _ => ?_)
      refine lv_aload_n hx hb d_Model_join_110 rfl (lv_at hl 0 rfl) ?_
      refine lv_sipush (v := nI 158) hx hb d_Model_join_111 (by decide) ?_
      refine lv_sipush (v := nI 160) hx hb d_Model_join_114 (by decide) ?_
      refine lv_sipush (v := nI 158) hx hb d_Model_join_117 (by decide) ?_
      refine q_cV (rest := []) E (M_Model_less l g n0 mo 158 160 158 0 (nI pn) (nI tn) (nI wn) fd_8 (by decide) (by decide) (by decide) 0 _ h0 hR.2.1) w_1109 w_15 w_1106 w_1108 (bw_s 31 rfl) hd_Model_less rfl ⟨by decide, by decide⟩ (OB.recv E.2.2.2.2.2 (by rfl) hm.1) hm hF hl.1 rfl (Nat.le_of_ble_eq_true rfl) d_Model_join_120 ⟨by decide, by decide⟩ (qv (fun H6 locs hq hF => ?_))
      obtain ⟨hq, fd_9, hm, ho, hn⟩ := hq
      have hfr := hfr.tr (kjR hq)
      have hB := hB.off1 ho (by decide)
      have hR : PM9 fd_9 157 (NG (ptB B (32 + 3 * k3))) := ⟨hR.1.off ho (by decide), hn.cg (Int.zero_sub _), hR.2.2.off ho (by decide)⟩
      refine lv_aload_n hx hb d_Model_join_123 rfl (lv_at hl 0 rfl) ?_
      refine lv_sipush (v := nI 161) hx hb d_Model_join_124 (by decide) ?_
      refine lv_iload_n hx hb d_Model_join_127 rfl (lv_at hl 3 rfl) ?_
      refine q_cS (rest := [.int (nI 161), .ref mo]) E (c_Model_slot l g n0 (nI k2)) w_1154 w_15 w_1152 w_1153 hd_Model_slot rfl ⟨by decide, by decide⟩ trivial hF hl.1 rfl (Nat.le_of_ble_eq_true rfl) d_Model_join_128 ⟨by decide, by decide⟩ (qi (fun rs H7 locs hq hF => ?_))
      obtain ⟨hrs, hq9⟩ := hq
      subst hrs
      subst hq9
      refine lv_topi (fun t9 e9 => ?_)
      obtain rfl : t9 = nI (32 + 3 * k2) := e9.trans (by rw [pk_mul, nI_add])
      refine lv_sipush (v := nI 157) hx hb d_Model_join_131 (by decide) ?_
      refine q_cV (rest := []) E (M_Model_sum l g n0 mo 161 (32 + 3 * k2) 157 0 (nI pn) (nI tn) (nI wn) fd_9 fa (Or.inr ⟨by decide, by decide⟩) (Or.inl (by omega)) (Or.inr ⟨by decide, by decide⟩) hAQ (ptB B (32 + 3 * k2)) (NG (ptB B (32 + 3 * k3)))) w_1175 w_15 w_1172 w_1174 (bw_s 42 rfl) hd_Model_sum rfl ⟨by decide, by decide⟩ (OB.recv E.2.2.2.2.2 (by rfl) hm.1) (⟨hm, (AJ.off hfr (show ¬ MR mo (mo + 4) by unfold MR; omega) hab0), hB.pm (by omega), hR⟩) hF hl.1 rfl (Nat.le_of_ble_eq_true rfl) d_Model_join_134 ⟨by decide, by decide⟩ (qv (fun H8 locs hq hF => ?_))
      obtain ⟨hq, -, fd_10, hm, hS, hT⟩ := hq
      have hfr := hfr.tr hq
      have hB := hB.sm hS (fun t h => by omega)
      refine lv_aload_n hx hb d_Model_join_137 rfl (lv_at hl 0 rfl) ?_
      refine lv_iload_n hx hb d_Model_join_138 rfl (lv_at hl 2 rfl) ?_
      refine q_cS (rest := [.ref mo]) E (c_Model_slot l g n0 (nI k1)) w_1154 w_15 w_1152 w_1153 hd_Model_slot rfl ⟨by decide, by decide⟩ trivial hF hl.1 rfl (Nat.le_of_ble_eq_true rfl) d_Model_join_139 ⟨by decide, by decide⟩ (qi (fun rs H9 locs hq hF => ?_))
      obtain ⟨hrs, hq9⟩ := hq
      subst hrs
      subst hq9
      refine lv_topi (fun t9 e9 => ?_)
      obtain rfl : t9 = nI (32 + 3 * k1) := e9.trans (by rw [pk_mul, nI_add])
      refine lv_sipush (v := nI 161) hx hb d_Model_join_142 (by decide) ?_
      refine q_cV (rest := []) E (c_Model_movePoint l g n0 mo (32 + 3 * k1) 161 0 (nI pn) (nI tn) (nI wn) 0 14 hw0 fd_10 (by omega) (by omega) (by omega)) w_1171 w_15 w_1168 w_1170 (bw_s 41 rfl) hd_Model_movePoint rfl ⟨by decide, by decide⟩ (OB.recv E.2.2.2.2.2 (by rfl) hm.1) hm hF hl.1 rfl (Nat.le_of_ble_eq_true rfl) d_Model_join_145 ⟨by decide, by decide⟩ (qv (fun H10 locs hq hF => ?_))
      obtain ⟨hq, fd_11, hm, hS2, hmv⟩ := hq
      have hfr := hfr.tr hq
      have hT := PM9.mv hT hmv
      exact q_vret E hr hlk (⟨rfl, Or.inl ⟨hok, 3, k1, k2, k3, e_k0, e_k1, e_k2, e_k3, by decide, by omega, by omega, by omega, AD (ptB B (32 + 3 * k2)) (NG (ptB B (32 + 3 * k3))), Or.inr (Or.inr (Or.inr ⟨rfl, rfl⟩)), hP.keep hfr hw0 hm (hB.set hS2 (fun t h => by omega) hT (by omega))⟩⟩) hF d_Model_join_148
  refine lv_aload_n hx hb d_Model_join_0 rfl (lv_at hl 0 rfl) ?_
  refine lv_iload_n hx hb d_Model_join_1 rfl (lv_at hl 1 rfl) ?_
  refine lv_i2l (v := w0.toInt64) hx hb d_Model_join_2 rfl ?_
  refine lv_lconst (v := 0) hx hb d_Model_join_3 (by decide) ?_
  refine lv_ldc2 (v := 3) hx hb E.2.2.2.1 (E.2.2.2.2.1 _ w_1098) d_Model_join_4 ?_
  refine q_cS (rest := [.ref mo]) E (c_Model_in l g n0 w0.toInt64 0 3 ) w_1101 w_15 w_1099 w_1100 hd_Model_in rfl ⟨by decide, by decide⟩ trivial hF hl.1 rfl (Nat.le_of_ble_eq_true rfl) d_Model_join_7 ⟨by decide, by decide⟩ (qi (fun r_0 H1 locs hq hF => ?_))
  obtain ⟨h_0, hq⟩ := hq
  subst hq
  rcases h_0 with ⟨rfl, f_0⟩ | ⟨rfl, f_0⟩
  · skip
    refine lv_if_eq (tgt := 35) hx hb d_Model_join_10 (by decide) (fun _ => ?_) (fun h9 => absurd (by decide) h9)
    refine lv_iconst (v := nI 1) hx hb d_Model_join_35 (by decide) ?_
    refine lv_goto (tgt := 40) hx hb d_Model_join_36 (by decide) ?_
    have hl : lv_has ls 5 [(0, .ref mo), (1, .int w0), (2, .int a), (3, .int a2), (4, .int a3)] := lv_sub hl [0, 1, 2, 3, 4] rfl
    exact bad _ ls (fun h => (fun q => f_0 ((in_okC (a := 0) (b := 3) (by decide) (by decide) (by decide) (by decide)).mpr q)) h.1) hF hl
  · skip
    refine lv_if_eq (tgt := 35) hx hb d_Model_join_10 (by decide) (fun h9 => absurd h9 (by decide)) (fun _ => ?_)
    refine lv_iload_n hx hb d_Model_join_13 rfl (lv_at hl 2 rfl) ?_
    refine q_cS (rest := [.ref mo]) E (c_Model_noPoint l g n0 a ) w_1151 w_15 w_1149 w_1150 hd_Model_noPoint rfl ⟨by decide, by decide⟩ trivial hF hl.1 rfl (Nat.le_of_ble_eq_true rfl) d_Model_join_14 ⟨by decide, by decide⟩ (qi (fun r_1 H2 locs hq hF => ?_))
    obtain ⟨h_1, hq⟩ := hq
    subst hq
    rcases h_1 with ⟨rfl, f_1⟩ | ⟨rfl, f_1⟩
    · skip
      refine lv_if_ne (tgt := 35) hx hb d_Model_join_17 (by decide) (fun _ => ?_) (fun h9 => absurd h9 (by decide))
      refine lv_iconst (v := nI 1) hx hb d_Model_join_35 (by decide) ?_
      refine lv_goto (tgt := 40) hx hb d_Model_join_36 (by decide) ?_
      have hl : lv_has ls 5 [(0, .ref mo), (1, .int w0), (2, .int a), (3, .int a2), (4, .int a3)] := lv_sub hl [0, 1, 2, 3, 4] rfl
      exact bad _ ls (fun h => (f_1) h.2.1) hF hl
    · skip
      refine lv_if_ne (tgt := 35) hx hb d_Model_join_17 (by decide) (fun h9 => absurd (by decide) h9) (fun _ => ?_)
      refine lv_iload_n hx hb d_Model_join_20 rfl (lv_at hl 3 rfl) ?_
      refine q_cS (rest := [.ref mo]) E (c_Model_noPoint l g n0 a2 ) w_1151 w_15 w_1149 w_1150 hd_Model_noPoint rfl ⟨by decide, by decide⟩ trivial hF hl.1 rfl (Nat.le_of_ble_eq_true rfl) d_Model_join_21 ⟨by decide, by decide⟩ (qi (fun r_2 H3 locs hq hF => ?_))
      obtain ⟨h_2, hq⟩ := hq
      subst hq
      rcases h_2 with ⟨rfl, f_2⟩ | ⟨rfl, f_2⟩
      · skip
        refine lv_if_ne (tgt := 35) hx hb d_Model_join_24 (by decide) (fun _ => ?_) (fun h9 => absurd h9 (by decide))
        refine lv_iconst (v := nI 1) hx hb d_Model_join_35 (by decide) ?_
        refine lv_goto (tgt := 40) hx hb d_Model_join_36 (by decide) ?_
        have hl : lv_has ls 5 [(0, .ref mo), (1, .int w0), (2, .int a), (3, .int a2), (4, .int a3)] := lv_sub hl [0, 1, 2, 3, 4] rfl
        exact bad _ ls (fun h => (f_2) h.2.2.1) hF hl
      · skip
        refine lv_if_ne (tgt := 35) hx hb d_Model_join_24 (by decide) (fun h9 => absurd (by decide) h9) (fun _ => ?_)
        refine lv_iload hx hb d_Model_join_27 (lv_at hl 4 rfl) ?_
        refine q_cS (rest := [.ref mo]) E (c_Model_noPoint l g n0 a3 ) w_1151 w_15 w_1149 w_1150 hd_Model_noPoint rfl ⟨by decide, by decide⟩ trivial hF hl.1 rfl (Nat.le_of_ble_eq_true rfl) d_Model_join_29 ⟨by decide, by decide⟩ (qi (fun r_3 H4 locs hq hF => ?_))
        obtain ⟨h_3, hq⟩ := hq
        subst hq
        rcases h_3 with ⟨rfl, f_3⟩ | ⟨rfl, f_3⟩
        · skip
          refine lv_if_eq (tgt := 39) hx hb d_Model_join_32 (by decide) (fun h9 => absurd h9 (by decide)) (fun _ => ?_)
          refine lv_iconst (v := nI 1) hx hb d_Model_join_35 (by decide) ?_
          refine lv_goto (tgt := 40) hx hb d_Model_join_36 (by decide) ?_
          have hl : lv_has ls 5 [(0, .ref mo), (1, .int w0), (2, .int a), (3, .int a2), (4, .int a3)] := lv_sub hl [0, 1, 2, 3, 4] rfl
          exact bad _ ls (fun h => (f_3) h.2.2.2) hF hl
        · skip
          refine lv_if_eq (tgt := 39) hx hb d_Model_join_32 (by decide) (fun _ => ?_) (fun h9 => absurd (by decide) h9)
          refine lv_iconst (v := nI 0) hx hb d_Model_join_39 (by decide) ?_
          have hl : lv_has ls 5 [(0, .ref mo), (1, .int w0), (2, .int a), (3, .int a2), (4, .int a3)] := lv_sub hl [0, 1, 2, 3, 4] rfl
          exact good _ ls ⟨(in_okC (a := 0) (b := 3) (by decide) (by decide) (by decide) (by decide)).mp f_0, f_1, f_2, f_3⟩ hF hl
set_option maxHeartbeats 4000000 in
set_option maxRecDepth 100000 in
theorem W_Model_combine (l : Launch) (g : WG) (n0 : Nat → Prop) (mo : Nat) (th : Int32) (pn tn wn : Nat) (B : Nat → Int) (a : Int32) (a2 : Int32) (a3 : Int32) (n : Int32) (hon : ∀ k, k < 12 → onC (ptB B (32 + 3 * k))) : Ctr l y_Model_combine (.code y_Model_combine prog_11_method_52_code 6 none) 7 167 0 0 n0 g [.ref mo, .int a, .int a2, .int a3, .int n] (fun H => MVP g n0 H mo th pn tn wn B) (QV (fun H H' => ((okP a (nI 1) ∧ okC n (nI 0) (nI 12) ∧ okS a2 n ∧ okP a3 n) ∧ (∃ k1 k4, a = nI k1 ∧ n = nI k4 ∧ k1 < 12 ∧ k4 ≤ 12 ∧ ∃ T, ((k4 = 0 ∧ T = PZ0) ∨ (0 < k4 ∧ ∃ s1 q1, a2 = nI s1 ∧ a3 = nI q1 ∧ s1 + k4 ≤ 32 ∧ q1 + k4 ≤ 12 ∧ RSm (fun t => ptB B (32 + 3 * q1 + 3 * t)) k4 (fun t => B (s1 + t)) T)) ∧ MVP g n0 H' mo 0 pn tn wn (updP B (32 + 3 * k1) T))) ∨ (¬ (okP a (nI 1) ∧ okC n (nI 0) (nI 12) ∧ okS a2 n ∧ okP a3 n) ∧ MVP g n0 H' mo 1 pn tn wn B))) := by
  refine ctr_mk l (lv0 := [(0, .ref mo), (1, .int a), (2, .int a2), (3, .int a3), (4, .int n)]) (by decide) (Nat.le_of_ble_eq_true rfl) rfl ?_
  intro p e s m below meth c ls E hr hlk hnm hl hP
  have hx := E.1
  have hb := E.2.1
  have hK := E.2.2.2.2.2
  have hF : ∀ q ∈ ([] : List Loc), n0 q.base := fun q hq => absurd hq List.not_mem_nil
  obtain ⟨⟨w9, n9, fd, hw9, hm, hB⟩, ⟨fa, hab0, hAT, hAQ⟩, hho, -, -, hbd, hmn, -, -, hn8⟩ := id hP
  have hfr : FRM (MR mo) s.heap s.heap := FRM.rf
  have bad : ∀ (locs : List Loc) (ls : Array Slot), ¬ (okP a (nI 1) ∧ okC n (nI 0) (nI 12) ∧ okS a2 n ∧ okP a3 n) → (∀ q ∈ locs, n0 q.base) → lv_has ls 6 [(0, .ref mo), (1, .int a), (2, .int a2), (3, .int a3), (4, .int n)] → W p l e { frames := 7, cells := 0, slots := 0, locals := 167 } s m [.ref mo, .int a, .int a2, .int a3, .int n].toArray below meth c s.heap locs 0 0 (MQ below (QcP (QV (fun H H' => ((okP a (nI 1) ∧ okC n (nI 0) (nI 12) ∧ okS a2 n ∧ okP a3 n) ∧ (∃ k1 k4, a = nI k1 ∧ n = nI k4 ∧ k1 < 12 ∧ k4 ≤ 12 ∧ ∃ T, ((k4 = 0 ∧ T = PZ0) ∨ (0 < k4 ∧ ∃ s1 q1, a2 = nI s1 ∧ a3 = nI q1 ∧ s1 + k4 ≤ 32 ∧ q1 + k4 ≤ 12 ∧ RSm (fun t => ptB B (32 + 3 * q1 + 3 * t)) k4 (fun t => B (s1 + t)) T)) ∧ MVP g n0 H' mo 0 pn tn wn (updP B (32 + 3 * k1) T))) ∨ (¬ (okP a (nI 1) ∧ okC n (nI 0) (nI 12) ∧ okS a2 n ∧ okP a3 n) ∧ MVP g n0 H' mo 1 pn tn wn B)))) [.ref mo, .int a, .int a2, .int a3, .int n].toArray s 0 0 (fun q => n0 q)) (F0 m 69 ls [.int (nI 1)]) := by
    intro  locs   ls hno hF hl
    refine lv_istore (lv' := [(5, .int (nI 1)), (0, .ref mo), (1, .int a), (2, .int a2), (3, .int a3), (4, .int n)]) hx hb d_Model_combine_69 hl (by decide) rfl (fun ls hl => ?_)
    refine lv_aload_n hx hb d_Model_combine_71 rfl (lv_at hl 1 rfl) ?_
    refine lv_iload hx hb d_Model_combine_72 (lv_at hl 0 rfl) ?_
    refine lv_iconst (v := nI 1) hx hb d_Model_combine_74 (by decide) ?_
    refine q_cV (rest := []) E (c_Model_fails l g n0 mo th (nI pn) (nI tn) (nI wn) w9 n9 hw9 (nI 1) (nI 1) fd hmn (Or.inl rfl)) w_1056 w_15 w_1053 w_1055 (bw_s 24 rfl) hd_Model_fails rfl ⟨by decide, by decide⟩ (OB.recv E.2.2.2.2.2 (by rfl) hm.1) hm hF hl.1 rfl (Nat.le_of_ble_eq_true rfl) d_Model_combine_75 ⟨by decide, by decide⟩ (qi (fun rf H1 locs hq hF => ?_))
    obtain ⟨hrf, hq, hm⟩ := hq
    subst hrf
    have hfr := hfr.tr hq
    rw [if_neg (by decide)] at hm
    refine lv_if_eq (tgt := 82) hx hb d_Model_combine_78 (by decide) (fun h9 => absurd h9 (by decide)) (fun _ => ?_)
    exact q_vret E hr hlk (⟨rfl, Or.inr ⟨hno, hP.keep hfr hw9 hm hB⟩⟩) hF d_Model_combine_81
  have good : ∀ (locs : List Loc) (ls : Array Slot), okP a (nI 1) ∧ okC n (nI 0) (nI 12) ∧ okS a2 n ∧ okP a3 n → (∀ q ∈ locs, n0 q.base) → lv_has ls 6 [(0, .ref mo), (1, .int a), (2, .int a2), (3, .int a3), (4, .int n)] → W p l e { frames := 7, cells := 0, slots := 0, locals := 167 } s m [.ref mo, .int a, .int a2, .int a3, .int n].toArray below meth c s.heap locs 0 0 (MQ below (QcP (QV (fun H H' => ((okP a (nI 1) ∧ okC n (nI 0) (nI 12) ∧ okS a2 n ∧ okP a3 n) ∧ (∃ k1 k4, a = nI k1 ∧ n = nI k4 ∧ k1 < 12 ∧ k4 ≤ 12 ∧ ∃ T, ((k4 = 0 ∧ T = PZ0) ∨ (0 < k4 ∧ ∃ s1 q1, a2 = nI s1 ∧ a3 = nI q1 ∧ s1 + k4 ≤ 32 ∧ q1 + k4 ≤ 12 ∧ RSm (fun t => ptB B (32 + 3 * q1 + 3 * t)) k4 (fun t => B (s1 + t)) T)) ∧ MVP g n0 H' mo 0 pn tn wn (updP B (32 + 3 * k1) T))) ∨ (¬ (okP a (nI 1) ∧ okC n (nI 0) (nI 12) ∧ okS a2 n ∧ okP a3 n) ∧ MVP g n0 H' mo 1 pn tn wn B)))) [.ref mo, .int a, .int a2, .int a3, .int n].toArray s 0 0 (fun q => n0 q)) (F0 m 69 ls [.int (nI 0)]) := by
    intro  locs   ls hok hF hl
    refine lv_istore (lv' := [(5, .int (nI 0)), (0, .ref mo), (1, .int a), (2, .int a2), (3, .int a3), (4, .int n)]) hx hb d_Model_combine_69 hl (by decide) rfl (fun ls hl => ?_)
    refine lv_aload_n hx hb d_Model_combine_71 rfl (lv_at hl 1 rfl) ?_
    refine lv_iload hx hb d_Model_combine_72 (lv_at hl 0 rfl) ?_
    refine lv_iconst (v := nI 1) hx hb d_Model_combine_74 (by decide) ?_
    refine q_cV (rest := []) E (c_Model_fails l g n0 mo th (nI pn) (nI tn) (nI wn) w9 n9 hw9 (nI 0) (nI 1) fd hmn (Or.inr rfl)) w_1056 w_15 w_1053 w_1055 (bw_s 24 rfl) hd_Model_fails rfl ⟨by decide, by decide⟩ (OB.recv E.2.2.2.2.2 (by rfl) hm.1) hm hF hl.1 rfl (Nat.le_of_ble_eq_true rfl) d_Model_combine_75 ⟨by decide, by decide⟩ (qi (fun rf H1 locs hq hF => ?_))
    obtain ⟨hrf, hq, hm⟩ := hq
    subst hrf
    have hfr := hfr.tr hq
    rw [if_pos nI_0] at hm
    refine lv_if_eq (tgt := 82) hx hb d_Model_combine_78 (by decide) (fun _ => ?_) (fun h9 => absurd (by decide) h9)
    obtain ⟨k1, e_k1, h_k1⟩ := okP_nat (by decide) (by decide) hok.1
    rw [e_k1] at hl
    refine lv_aload_n hx hb d_Model_combine_82 rfl (lv_at hl 1 rfl) ?_
    refine lv_iload_n hx hb d_Model_combine_83 rfl (lv_at hl 3 rfl) ?_
    refine lv_iload_n hx hb d_Model_combine_84 rfl (lv_at hl 4 rfl) ?_
    refine q_cS (rest := [.int a2, .ref mo]) E (c_Model_slot l g n0 a3) w_1154 w_15 w_1152 w_1153 hd_Model_slot rfl ⟨by decide, by decide⟩ trivial hF hl.1 rfl (Nat.le_of_ble_eq_true rfl) d_Model_combine_85 ⟨by decide, by decide⟩ (qi (fun rs H2 locs hq hF => ?_))
    obtain ⟨hrs, hq9⟩ := hq
    subst hq9
    obtain ⟨k4, e_k4, h_k4, h2_k4⟩ := okC_nat (by decide) (by decide) hok.2.1
    rw [e_k4] at hl
    refine lv_iload hx hb d_Model_combine_88 (lv_at hl 5 rfl) ?_
    rcases Nat.eq_zero_or_pos k4 with h0 | h0
    · subst h0
      refine q_cV (rest := []) E (M_Model_sums0 l g n0 mo a2 rs 0 (nI pn) (nI tn) (nI wn) w9 n9 hw9 fd hmn) w_1210 w_15 w_1207 w_1209 (bw_s 45 rfl) hd_Model_sums rfl ⟨by decide, by decide⟩ (OB.recv E.2.2.2.2.2 (by rfl) hm.1) hm hF hl.1 rfl (Nat.le_of_ble_eq_true rfl) d_Model_combine_90 ⟨by decide, by decide⟩ (qv (fun H3 locs hq hF => ?_))
      obtain ⟨hq, fd_1, hm, hS, hT⟩ := hq
      have hfr := hfr.tr hq
      refine lv_aload_n hx hb d_Model_combine_93 rfl (lv_at hl 1 rfl) ?_
      refine lv_iload_n hx hb d_Model_combine_94 rfl (lv_at hl 2 rfl) ?_
      refine q_cS (rest := [.ref mo]) E (c_Model_slot l g n0 (nI k1)) w_1154 w_15 w_1152 w_1153 hd_Model_slot rfl ⟨by decide, by decide⟩ trivial hF hl.1 rfl (Nat.le_of_ble_eq_true rfl) d_Model_combine_95 ⟨by decide, by decide⟩ (qi (fun rs H4 locs hq hF => ?_))
      obtain ⟨hrs, hq9⟩ := hq
      subst hrs
      subst hq9
      refine lv_topi (fun t9 e9 => ?_)
      obtain rfl : t9 = nI (32 + 3 * k1) := e9.trans (by rw [pk_mul, nI_add])
      refine lv_sipush (v := nI 164) hx hb d_Model_combine_98 (by decide) ?_
      refine q_cV (rest := []) E (c_Model_movePoint l g n0 mo (32 + 3 * k1) 164 0 (nI pn) (nI tn) (nI wn) 0 14 hw0 fd_1 (by omega) (by omega) (by omega)) w_1171 w_15 w_1168 w_1170 (bw_s 41 rfl) hd_Model_movePoint rfl ⟨by decide, by decide⟩ (OB.recv E.2.2.2.2.2 (by rfl) hm.1) hm hF hl.1 rfl (Nat.le_of_ble_eq_true rfl) d_Model_combine_101 ⟨by decide, by decide⟩ (qv (fun H5 locs hq hF => ?_))
      obtain ⟨hq, fd_2, hm, hS2, hmv⟩ := hq
      have hfr := hfr.tr hq
      have hT := PM9.mv hT hmv
      exact q_vret E hr hlk (⟨rfl, Or.inl ⟨hok, k1, _, e_k1, e_k4, by omega, by omega, PZ0, Or.inl ⟨rfl, rfl⟩, hP.keep hfr hw0 hm ((hB.sm hS (fun t h => by omega)).set hS2 (fun t h => by omega) hT (by omega))⟩⟩) hF d_Model_combine_104
    · skip
      have h1 := hok.2.2.1
      rw [e_k4] at h1
      obtain ⟨s1, e1, h3⟩ := okS_nat h0 (by omega) h1
      have h2 := hok.2.2.2
      rw [e_k4] at h2
      obtain ⟨q1, e2, h4⟩ := okP_nat h0 h2_k4 h2
      have e3 : rs = nI (32 + 3 * q1) := by rw [hrs, e2, pk_mul, nI_add]
      subst e3
      subst e1
      have hAC : AC (fun t => ptB B ((32 + 3 * q1) + 3 * t)) k4 := fun t ht => by show onC (ptB B (32 + 3 * q1 + 3 * t)); rw [show 32 + 3 * q1 + 3 * t = 32 + 3 * (q1 + t) by omega]; exact hon (q1 + t) (by omega)
      have hDD := hm.2.2.2.2.2.1
      refine q_cV (rest := []) E (M_Model_sums l g n0 mo s1 (32 + 3 * q1) k4 0 (nI pn) (nI tn) (nI wn) w9 n9 hw9 fd fa hmn (by omega) (by omega) (by omega) hAQ (fun t => ptB B ((32 + 3 * q1) + 3 * t)) (fun t => (B (s1 + t)).toNat) hAC) w_1210 w_15 w_1207 w_1209 (bw_s 45 rfl) hd_Model_sums rfl ⟨by decide, by decide⟩ (OB.recv E.2.2.2.2.2 (by rfl) hm.1) (⟨hm, (AJ.off hfr (show ¬ MR mo (mo + 4) by unfold MR; omega) hab0), fun t ht => hB.pm (by omega), fun t ht => (hB.nat hm.2.2.2.2.2.1 (s := s1 + t) (by omega)).1⟩) hF hl.1 rfl (Nat.le_of_ble_eq_true rfl) d_Model_combine_90 ⟨by decide, by decide⟩ (qv (fun H3 locs hq hF => ?_))
      obtain ⟨hq, fd_3, hm, hS, T, hRS, hT⟩ := hq
      have hfr := hfr.tr hq
      have hRS := hRS.ext (z' := fun t => B (s1 + t)) (fun t ht => (hB.nat hDD (s := s1 + t) (by omega)).2)
      refine lv_aload_n hx hb d_Model_combine_93 rfl (lv_at hl 1 rfl) ?_
      refine lv_iload_n hx hb d_Model_combine_94 rfl (lv_at hl 2 rfl) ?_
      refine q_cS (rest := [.ref mo]) E (c_Model_slot l g n0 (nI k1)) w_1154 w_15 w_1152 w_1153 hd_Model_slot rfl ⟨by decide, by decide⟩ trivial hF hl.1 rfl (Nat.le_of_ble_eq_true rfl) d_Model_combine_95 ⟨by decide, by decide⟩ (qi (fun rs H4 locs hq hF => ?_))
      obtain ⟨hrs, hq9⟩ := hq
      subst hrs
      subst hq9
      refine lv_topi (fun t9 e9 => ?_)
      obtain rfl : t9 = nI (32 + 3 * k1) := e9.trans (by rw [pk_mul, nI_add])
      refine lv_sipush (v := nI 164) hx hb d_Model_combine_98 (by decide) ?_
      refine q_cV (rest := []) E (c_Model_movePoint l g n0 mo (32 + 3 * k1) 164 0 (nI pn) (nI tn) (nI wn) 0 14 hw0 fd_3 (by omega) (by omega) (by omega)) w_1171 w_15 w_1168 w_1170 (bw_s 41 rfl) hd_Model_movePoint rfl ⟨by decide, by decide⟩ (OB.recv E.2.2.2.2.2 (by rfl) hm.1) hm hF hl.1 rfl (Nat.le_of_ble_eq_true rfl) d_Model_combine_101 ⟨by decide, by decide⟩ (qv (fun H5 locs hq hF => ?_))
      obtain ⟨hq, fd_4, hm, hS2, hmv⟩ := hq
      have hfr := hfr.tr hq
      have hT := PM9.mv hT hmv
      exact q_vret E hr hlk (⟨rfl, Or.inl ⟨hok, k1, _, e_k1, e_k4, by omega, by omega, T, Or.inr ⟨h0, s1, q1, rfl, e2, by omega, by omega, hRS⟩, hP.keep hfr hw0 hm ((hB.sm hS (fun t h => by omega)).set hS2 (fun t h => by omega) hT (by omega))⟩⟩) hF d_Model_combine_104
  refine lv_iload_n hx hb d_Model_combine_0 rfl (lv_at hl 1 rfl) ?_
  refine q_cS (rest := []) E (c_Model_noPoint l g n0 a ) w_1151 w_15 w_1149 w_1150 hd_Model_noPoint rfl ⟨by decide, by decide⟩ trivial hF hl.1 rfl (Nat.le_of_ble_eq_true rfl) d_Model_combine_1 ⟨by decide, by decide⟩ (qi (fun r_0 H1 locs hq hF => ?_))
  obtain ⟨h_0, hq⟩ := hq
  subst hq
  rcases h_0 with ⟨rfl, f_0⟩ | ⟨rfl, f_0⟩
  · skip
    refine lv_if_ne (tgt := 19) hx hb d_Model_combine_4 (by decide) (fun _ => ?_) (fun h9 => absurd h9 (by decide))
    refine lv_iconst (v := nI 1) hx hb d_Model_combine_19 (by decide) ?_
    refine lv_goto (tgt := 24) hx hb d_Model_combine_20 (by decide) ?_
    refine lv_istore (lv' := [(5, .int (nI 1)), (0, .ref mo), (1, .int a), (2, .int a2), (3, .int a3), (4, .int n)]) hx hb d_Model_combine_24 hl (by decide) rfl (fun ls hl => ?_)
    refine lv_iload hx hb d_Model_combine_26 (lv_at hl 0 rfl) ?_
    refine lv_if_ne (tgt := 64) hx hb d_Model_combine_28 (by decide) (fun _ => ?_) (fun h9 => absurd h9 (by decide))
    refine lv_iconst (v := nI 1) hx hb d_Model_combine_64 (by decide) ?_
    refine lv_goto (tgt := 69) hx hb d_Model_combine_65 (by decide) ?_
    have hl : lv_has ls 6 [(0, .ref mo), (1, .int a), (2, .int a2), (3, .int a3), (4, .int n)] := lv_sub hl [1, 2, 3, 4, 5] rfl
    exact bad _ ls (fun h => (f_0) h.1) hF hl
  · skip
    refine lv_if_ne (tgt := 19) hx hb d_Model_combine_4 (by decide) (fun h9 => absurd (by decide) h9) (fun _ => ?_)
    refine lv_iload hx hb d_Model_combine_7 (lv_at hl 4 rfl) ?_
    refine lv_if_lt (tgt := 19) hx hb d_Model_combine_9 (by decide) (fun g_9 => ?_) (fun g_9 => ?_)
    rotate_left
    · skip
      refine lv_iload hx hb d_Model_combine_12 (lv_at hl 4 rfl) ?_
      refine lv_bipush (v := nI 12) hx hb d_Model_combine_14 (by decide) ?_
      refine lv_icmp_le (tgt := 23) hx hb d_Model_combine_16 (by decide) (fun g_16 => ?_) (fun g_16 => ?_)
      rotate_left
      · skip
        refine lv_iconst (v := nI 1) hx hb d_Model_combine_19 (by decide) ?_
        refine lv_goto (tgt := 24) hx hb d_Model_combine_20 (by decide) ?_
        refine lv_istore (lv' := [(5, .int (nI 1)), (0, .ref mo), (1, .int a), (2, .int a2), (3, .int a3), (4, .int n)]) hx hb d_Model_combine_24 hl (by decide) rfl (fun ls hl => ?_)
        refine lv_iload hx hb d_Model_combine_26 (lv_at hl 0 rfl) ?_
        refine lv_if_ne (tgt := 64) hx hb d_Model_combine_28 (by decide) (fun _ => ?_) (fun h9 => absurd h9 (by decide))
        refine lv_iconst (v := nI 1) hx hb d_Model_combine_64 (by decide) ?_
        refine lv_goto (tgt := 69) hx hb d_Model_combine_65 (by decide) ?_
        have hl : lv_has ls 6 [(0, .ref mo), (1, .int a), (2, .int a2), (3, .int a3), (4, .int n)] := lv_sub hl [1, 2, 3, 4, 5] rfl
        exact bad _ ls (fun h => (fun q => g_16 q.2) h.2.1) hF hl
      refine lv_iconst (v := nI 0) hx hb d_Model_combine_23 (by decide) ?_
      refine lv_istore (lv' := [(5, .int (nI 0)), (0, .ref mo), (1, .int a), (2, .int a2), (3, .int a3), (4, .int n)]) hx hb d_Model_combine_24 hl (by decide) rfl (fun ls hl => ?_)
      refine lv_iload hx hb d_Model_combine_26 (lv_at hl 0 rfl) ?_
      refine lv_if_ne (tgt := 64) hx hb d_Model_combine_28 (by decide) (fun h9 => absurd (by decide) h9) (fun _ => ?_)
      refine lv_iload hx hb d_Model_combine_31 (lv_at hl 5 rfl) ?_
      refine lv_if_le (tgt := 68) hx hb d_Model_combine_33 (by decide) (fun g_33 => ?_) (fun g_33 => ?_)
      rotate_left
      · skip
        refine lv_iload_n hx hb d_Model_combine_36 rfl (lv_at hl 3 rfl) ?_
        refine lv_iload hx hb d_Model_combine_37 (lv_at hl 5 rfl) ?_
        refine q_cS (rest := []) E (c_Model_noScalars l g n0 a2 n (okC_n12 ⟨g_9, g_16⟩)) w_1206 w_15 w_1204 w_1205 hd_Model_noScalars rfl ⟨by decide, by decide⟩ trivial hF hl.1 rfl (Nat.le_of_ble_eq_true rfl) d_Model_combine_39 ⟨by decide, by decide⟩ (qi (fun r_2 H2 locs hq hF => ?_))
        obtain ⟨h_2, hq⟩ := hq
        subst hq
        rcases h_2 with ⟨rfl, f_2⟩ | ⟨rfl, f_2⟩
        · skip
          refine lv_if_ne (tgt := 64) hx hb d_Model_combine_42 (by decide) (fun _ => ?_) (fun h9 => absurd h9 (by decide))
          refine lv_iconst (v := nI 1) hx hb d_Model_combine_64 (by decide) ?_
          refine lv_goto (tgt := 69) hx hb d_Model_combine_65 (by decide) ?_
          have hl : lv_has ls 6 [(0, .ref mo), (1, .int a), (2, .int a2), (3, .int a3), (4, .int n)] := lv_sub hl [1, 2, 3, 4, 5] rfl
          exact bad _ ls (fun h => (f_2) h.2.2.1) hF hl
        · skip
          refine lv_if_ne (tgt := 64) hx hb d_Model_combine_42 (by decide) (fun h9 => absurd (by decide) h9) (fun _ => ?_)
          refine lv_iload_n hx hb d_Model_combine_45 rfl (lv_at hl 4 rfl) ?_
          refine q_cS (rest := []) E (c_Model_noPoint l g n0 a3) w_1151 w_15 w_1149 w_1150 hd_Model_noPoint rfl ⟨by decide, by decide⟩ trivial hF hl.1 rfl (Nat.le_of_ble_eq_true rfl) d_Model_combine_46 ⟨by decide, by decide⟩ (qi (fun r_46 H3 locs hq hF => ?_))
          obtain ⟨h_9, hq⟩ := hq
          subst hq
          rcases h_9 with ⟨rfl, f_46⟩ | ⟨rfl, f_46⟩
          · skip
            refine lv_if_ne (tgt := 64) hx hb d_Model_combine_49 (by decide) (fun _ => ?_) (fun h9 => absurd h9 (by decide))
            refine lv_iconst (v := nI 1) hx hb d_Model_combine_64 (by decide) ?_
            refine lv_goto (tgt := 69) hx hb d_Model_combine_65 (by decide) ?_
            have hl : lv_has ls 6 [(0, .ref mo), (1, .int a), (2, .int a2), (3, .int a3), (4, .int n)] := lv_sub hl [1, 2, 3, 4, 5] rfl
            exact bad _ ls (fun h => (fun q => f_46 (okP_s ⟨g_9, g_16⟩ g_33 q)) h.2.2.2) hF hl
          · skip
            refine lv_if_ne (tgt := 64) hx hb d_Model_combine_49 (by decide) (fun h9 => absurd (by decide) h9) (fun _ => ?_)
            refine lv_iload_n hx hb d_Model_combine_52 rfl (lv_at hl 4 rfl) ?_
            refine lv_iload hx hb d_Model_combine_53 (lv_at hl 5 rfl) ?_
            refine lv_iadd hx hb d_Model_combine_55 ?_
            refine lv_iconst (v := nI 1) hx hb d_Model_combine_56 (by decide) ?_
            refine lv_isub hx hb d_Model_combine_57 ?_
            refine q_cS (rest := []) E (c_Model_noPoint l g n0 ((a3 + n) - (nI 1))) w_1151 w_15 w_1149 w_1150 hd_Model_noPoint rfl ⟨by decide, by decide⟩ trivial hF hl.1 rfl (Nat.le_of_ble_eq_true rfl) d_Model_combine_58 ⟨by decide, by decide⟩ (qi (fun r_58 H4 locs hq hF => ?_))
            obtain ⟨h_9, hq⟩ := hq
            subst hq
            rcases h_9 with ⟨rfl, f_58⟩ | ⟨rfl, f_58⟩
            · skip
              refine lv_if_eq (tgt := 68) hx hb d_Model_combine_61 (by decide) (fun h9 => absurd h9 (by decide)) (fun _ => ?_)
              refine lv_iconst (v := nI 1) hx hb d_Model_combine_64 (by decide) ?_
              refine lv_goto (tgt := 69) hx hb d_Model_combine_65 (by decide) ?_
              have hl : lv_has ls 6 [(0, .ref mo), (1, .int a), (2, .int a2), (3, .int a3), (4, .int n)] := lv_sub hl [1, 2, 3, 4, 5] rfl
              exact bad _ ls (fun h => (fun q => f_58 ((okP_t ⟨g_9, g_16⟩ g_33 f_46).mp q)) h.2.2.2) hF hl
            · skip
              refine lv_if_eq (tgt := 68) hx hb d_Model_combine_61 (by decide) (fun _ => ?_) (fun h9 => absurd (by decide) h9)
              refine lv_iconst (v := nI 0) hx hb d_Model_combine_68 (by decide) ?_
              have hl : lv_has ls 6 [(0, .ref mo), (1, .int a), (2, .int a2), (3, .int a3), (4, .int n)] := lv_sub hl [1, 2, 3, 4, 5] rfl
              exact good _ ls ⟨f_0, ⟨g_9, g_16⟩, f_2, (okP_t ⟨g_9, g_16⟩ g_33 f_46).mpr f_58⟩ hF hl
      refine lv_iconst (v := nI 0) hx hb d_Model_combine_68 (by decide) ?_
      have hl : lv_has ls 6 [(0, .ref mo), (1, .int a), (2, .int a2), (3, .int a3), (4, .int n)] := lv_sub hl [1, 2, 3, 4, 5] rfl
      exact good _ ls ⟨f_0, ⟨g_9, g_16⟩, Or.inl g_33, Or.inl g_33⟩ hF hl
    refine lv_iconst (v := nI 1) hx hb d_Model_combine_19 (by decide) ?_
    refine lv_goto (tgt := 24) hx hb d_Model_combine_20 (by decide) ?_
    refine lv_istore (lv' := [(5, .int (nI 1)), (0, .ref mo), (1, .int a), (2, .int a2), (3, .int a3), (4, .int n)]) hx hb d_Model_combine_24 hl (by decide) rfl (fun ls hl => ?_)
    refine lv_iload hx hb d_Model_combine_26 (lv_at hl 0 rfl) ?_
    refine lv_if_ne (tgt := 64) hx hb d_Model_combine_28 (by decide) (fun _ => ?_) (fun h9 => absurd h9 (by decide))
    refine lv_iconst (v := nI 1) hx hb d_Model_combine_64 (by decide) ?_
    refine lv_goto (tgt := 69) hx hb d_Model_combine_65 (by decide) ?_
    have hl : lv_has ls 6 [(0, .ref mo), (1, .int a), (2, .int a2), (3, .int a3), (4, .int n)] := lv_sub hl [1, 2, 3, 4, 5] rfl
    exact bad _ ls (fun h => (fun q => q.1 g_9) h.2.1) hF hl
set_option maxHeartbeats 4000000 in
set_option maxRecDepth 100000 in
theorem W_Model_commit (l : Launch) (g : WG) (n0 : Nat → Prop) (mo : Nat) (th : Int32) (pn tn wn : Nat) (B : Nat → Int) (a : Int32) (a2 : Int32) (n : Int32) (hop : ∀ k, k < pn → onC (ptB B (68 + 3 * k))) : Ctr l y_Model_commit (.code y_Model_commit prog_11_method_55_code 4 none) 7 167 0 0 n0 g [.ref mo, .int a, .int a2, .int n] (fun H => MVP g n0 H mo th pn tn wn B) (QV (fun H H' => ((okP a (nI 1) ∧ okC n (nI 0) (nI 16) ∧ okS a2 n) ∧ ((∃ k1 k3, a = nI k1 ∧ n = nI k3 ∧ k1 < 12 ∧ k3 ≤ 16 ∧ n ≤ nI pn ∧ ∃ T, ((k3 = 0 ∧ T = PZ0) ∨ (0 < k3 ∧ ∃ s1, a2 = nI s1 ∧ s1 + k3 ≤ 32 ∧ RSm (fun t => ptB B (68 + 3 * t)) k3 (fun t => B (s1 + t)) T)) ∧ MVP g n0 H' mo 0 pn tn wn (updP B (32 + 3 * k1) T)) ∨ (¬ n ≤ nI pn ∧ MVP g n0 H' mo (nI 2) pn tn wn B))) ∨ (¬ (okP a (nI 1) ∧ okC n (nI 0) (nI 16) ∧ okS a2 n) ∧ MVP g n0 H' mo 1 pn tn wn B))) := by
  refine ctr_mk l (lv0 := [(0, .ref mo), (1, .int a), (2, .int a2), (3, .int n)]) (by decide) (Nat.le_of_ble_eq_true rfl) rfl ?_
  intro p e s m below meth c ls E hr hlk hnm hl hP
  have hx := E.1
  have hb := E.2.1
  have hK := E.2.2.2.2.2
  have hF : ∀ q ∈ ([] : List Loc), n0 q.base := fun q hq => absurd hq List.not_mem_nil
  obtain ⟨⟨w9, n9, fd, hw9, hm, hB⟩, ⟨fa, hab0, hAT, hAQ⟩, hho, -, -, hbd, hmn, -, -, hn8⟩ := id hP
  have hfr : FRM (MR mo) s.heap s.heap := FRM.rf
  have bad : ∀ (locs : List Loc) (ls : Array Slot), ¬ (okP a (nI 1) ∧ okC n (nI 0) (nI 16) ∧ okS a2 n) → (∀ q ∈ locs, n0 q.base) → lv_has ls 4 [(0, .ref mo), (1, .int a), (2, .int a2), (3, .int n)] → W p l e { frames := 7, cells := 0, slots := 0, locals := 167 } s m [.ref mo, .int a, .int a2, .int n].toArray below meth c s.heap locs 0 0 (MQ below (QcP (QV (fun H H' => ((okP a (nI 1) ∧ okC n (nI 0) (nI 16) ∧ okS a2 n) ∧ ((∃ k1 k3, a = nI k1 ∧ n = nI k3 ∧ k1 < 12 ∧ k3 ≤ 16 ∧ n ≤ nI pn ∧ ∃ T, ((k3 = 0 ∧ T = PZ0) ∨ (0 < k3 ∧ ∃ s1, a2 = nI s1 ∧ s1 + k3 ≤ 32 ∧ RSm (fun t => ptB B (68 + 3 * t)) k3 (fun t => B (s1 + t)) T)) ∧ MVP g n0 H' mo 0 pn tn wn (updP B (32 + 3 * k1) T)) ∨ (¬ n ≤ nI pn ∧ MVP g n0 H' mo (nI 2) pn tn wn B))) ∨ (¬ (okP a (nI 1) ∧ okC n (nI 0) (nI 16) ∧ okS a2 n) ∧ MVP g n0 H' mo 1 pn tn wn B)))) [.ref mo, .int a, .int a2, .int n].toArray s 0 0 (fun q => n0 q)) (F0 m 33 ls [.int (nI 1), .ref mo]) := by
    intro  locs   ls hno hF hl
    refine lv_iconst (v := nI 1) hx hb d_Model_commit_33 (by decide) ?_
    refine q_cV (rest := []) E (c_Model_fails l g n0 mo th (nI pn) (nI tn) (nI wn) w9 n9 hw9 (nI 1) (nI 1) fd hmn (Or.inl rfl)) w_1056 w_15 w_1053 w_1055 (bw_s 24 rfl) hd_Model_fails rfl ⟨by decide, by decide⟩ (OB.recv E.2.2.2.2.2 (by rfl) hm.1) hm hF hl.1 rfl (Nat.le_of_ble_eq_true rfl) d_Model_commit_34 ⟨by decide, by decide⟩ (qi (fun rf H1 locs hq hF => ?_))
    obtain ⟨hrf, hq, hm⟩ := hq
    subst hrf
    have hfr := hfr.tr hq
    rw [if_neg (by decide)] at hm
    refine lv_if_ne (tgt := 61) hx hb d_Model_commit_37 (by decide) (fun _ => ?_) (fun h9 => absurd h9 (by decide))
    exact q_vret E hr hlk (⟨rfl, Or.inr ⟨hno, hP.keep hfr hw9 hm hB⟩⟩) hF d_Model_commit_61
  have good : ∀ (locs : List Loc) (ls : Array Slot), okP a (nI 1) ∧ okC n (nI 0) (nI 16) ∧ okS a2 n → (∀ q ∈ locs, n0 q.base) → lv_has ls 4 [(0, .ref mo), (1, .int a), (2, .int a2), (3, .int n)] → W p l e { frames := 7, cells := 0, slots := 0, locals := 167 } s m [.ref mo, .int a, .int a2, .int n].toArray below meth c s.heap locs 0 0 (MQ below (QcP (QV (fun H H' => ((okP a (nI 1) ∧ okC n (nI 0) (nI 16) ∧ okS a2 n) ∧ ((∃ k1 k3, a = nI k1 ∧ n = nI k3 ∧ k1 < 12 ∧ k3 ≤ 16 ∧ n ≤ nI pn ∧ ∃ T, ((k3 = 0 ∧ T = PZ0) ∨ (0 < k3 ∧ ∃ s1, a2 = nI s1 ∧ s1 + k3 ≤ 32 ∧ RSm (fun t => ptB B (68 + 3 * t)) k3 (fun t => B (s1 + t)) T)) ∧ MVP g n0 H' mo 0 pn tn wn (updP B (32 + 3 * k1) T)) ∨ (¬ n ≤ nI pn ∧ MVP g n0 H' mo (nI 2) pn tn wn B))) ∨ (¬ (okP a (nI 1) ∧ okC n (nI 0) (nI 16) ∧ okS a2 n) ∧ MVP g n0 H' mo 1 pn tn wn B)))) [.ref mo, .int a, .int a2, .int n].toArray s 0 0 (fun q => n0 q)) (F0 m 33 ls [.int (nI 0), .ref mo]) := by
    intro  locs   ls hok hF hl
    refine lv_iconst (v := nI 1) hx hb d_Model_commit_33 (by decide) ?_
    refine q_cV (rest := []) E (c_Model_fails l g n0 mo th (nI pn) (nI tn) (nI wn) w9 n9 hw9 (nI 0) (nI 1) fd hmn (Or.inr rfl)) w_1056 w_15 w_1053 w_1055 (bw_s 24 rfl) hd_Model_fails rfl ⟨by decide, by decide⟩ (OB.recv E.2.2.2.2.2 (by rfl) hm.1) hm hF hl.1 rfl (Nat.le_of_ble_eq_true rfl) d_Model_commit_34 ⟨by decide, by decide⟩ (qi (fun rf H1 locs hq hF => ?_))
    obtain ⟨hrf, hq, hm⟩ := hq
    subst hrf
    have hfr := hfr.tr hq
    rw [if_pos nI_0] at hm
    refine lv_if_ne (tgt := 61) hx hb d_Model_commit_37 (by decide) (fun h9 => absurd (by decide) h9) (fun _ => ?_)
    obtain ⟨k1, e_k1, h_k1⟩ := okP_nat (by decide) (by decide) hok.1
    rw [e_k1] at hl
    obtain ⟨k3, e_k3, h_k3, h2_k3⟩ := okC_nat (by decide) (by decide) hok.2.1
    rw [e_k3] at hl
    refine lv_aload_n hx hb d_Model_commit_40 rfl (lv_at hl 0 rfl) ?_
    refine lv_iload_n hx hb d_Model_commit_41 rfl (lv_at hl 3 rfl) ?_
    refine lv_aload_n hx hb d_Model_commit_42 rfl (lv_at hl 0 rfl) ?_
    refine q_get (C := "KateDeskModel") (T := T_Model) (N := 14) (ci := 8) E hm.1 in_Model rfl 8 (by decide) w_1009 rfl rfl d_Model_commit_43 ?_
    refine lv_icmp_le (tgt := 53) hx hb d_Model_commit_46 (by decide) (fun hc => ?_) (fun hc => ?_)
    rotate_left
    · skip
      refine lv_iconst (v := nI 1) hx hb d_Model_commit_49 (by decide) ?_
      refine lv_goto (tgt := 54) hx hb d_Model_commit_50 (by decide) ?_
      refine lv_iconst (v := nI 2) hx hb d_Model_commit_54 (by decide) ?_
      refine q_cV (rest := []) E (c_Model_fails l g n0 mo 0 (nI pn) (nI tn) (nI wn) w9 n9 hw9 (nI 1) (nI 2) fd hmn (Or.inl rfl)) w_1056 w_15 w_1053 w_1055 (bw_s 24 rfl) hd_Model_fails rfl ⟨by decide, by decide⟩ (OB.recv E.2.2.2.2.2 (by rfl) hm.1) hm hF hl.1 rfl (Nat.le_of_ble_eq_true rfl) d_Model_commit_55 ⟨by decide, by decide⟩ (qi (fun rf H2 locs hq hF => ?_))
      obtain ⟨hrf, hq, hm⟩ := hq
      subst hrf
      have hfr := hfr.tr hq
      rw [if_neg (by decide)] at hm
      refine lv_if_eq (tgt := 62) hx hb d_Model_commit_58 (by decide) (fun h9 => absurd h9 (by decide)) (fun _ => ?_)
      exact q_vret E hr hlk (⟨rfl, Or.inl ⟨hok, Or.inr ⟨by rw [e_k3]; exact hc, hP.keep hfr hw9 hm hB⟩⟩⟩) hF d_Model_commit_61
    refine lv_iconst (v := nI 0) hx hb d_Model_commit_53 (by decide) ?_
    refine lv_iconst (v := nI 2) hx hb d_Model_commit_54 (by decide) ?_
    refine q_cV (rest := []) E (c_Model_fails l g n0 mo 0 (nI pn) (nI tn) (nI wn) w9 n9 hw9 (nI 0) (nI 2) fd hmn (Or.inr rfl)) w_1056 w_15 w_1053 w_1055 (bw_s 24 rfl) hd_Model_fails rfl ⟨by decide, by decide⟩ (OB.recv E.2.2.2.2.2 (by rfl) hm.1) hm hF hl.1 rfl (Nat.le_of_ble_eq_true rfl) d_Model_commit_55 ⟨by decide, by decide⟩ (qi (fun rf H2 locs hq hF => ?_))
    obtain ⟨hrf, hq, hm⟩ := hq
    subst hrf
    have hfr := hfr.tr hq
    rw [if_pos nI_0] at hm
    refine lv_if_eq (tgt := 62) hx hb d_Model_commit_58 (by decide) (fun _ => ?_) (fun h9 => absurd (by decide) h9)
    refine lv_aload_n hx hb d_Model_commit_62 rfl (lv_at hl 0 rfl) ?_
    refine lv_iload_n hx hb d_Model_commit_63 rfl (lv_at hl 2 rfl) ?_
    refine lv_bipush (v := nI 68) hx hb d_Model_commit_64 (by decide) ?_
    refine lv_iload_n hx hb d_Model_commit_66 rfl (lv_at hl 3 rfl) ?_
    have hcp : k3 ≤ pn := (nI_leI (by omega) (by omega)).mp hc
    rcases Nat.eq_zero_or_pos k3 with h0 | h0
    · subst h0
      refine q_cV (rest := []) E (M_Model_sums0 l g n0 mo a2 (nI 68) 0 (nI pn) (nI tn) (nI wn) w9 n9 hw9 fd hmn) w_1210 w_15 w_1207 w_1209 (bw_s 45 rfl) hd_Model_sums rfl ⟨by decide, by decide⟩ (OB.recv E.2.2.2.2.2 (by rfl) hm.1) hm hF hl.1 rfl (Nat.le_of_ble_eq_true rfl) d_Model_commit_67 ⟨by decide, by decide⟩ (qv (fun H3 locs hq hF => ?_))
      obtain ⟨hq, fd_1, hm, hS, hT⟩ := hq
      have hfr := hfr.tr hq
      refine lv_aload_n hx hb d_Model_commit_70 rfl (lv_at hl 0 rfl) ?_
      refine lv_iload_n hx hb d_Model_commit_71 rfl (lv_at hl 1 rfl) ?_
      refine q_cS (rest := [.ref mo]) E (c_Model_slot l g n0 (nI k1)) w_1154 w_15 w_1152 w_1153 hd_Model_slot rfl ⟨by decide, by decide⟩ trivial hF hl.1 rfl (Nat.le_of_ble_eq_true rfl) d_Model_commit_72 ⟨by decide, by decide⟩ (qi (fun rs H4 locs hq hF => ?_))
      obtain ⟨hrs, hq9⟩ := hq
      subst hrs
      subst hq9
      refine lv_topi (fun t9 e9 => ?_)
      obtain rfl : t9 = nI (32 + 3 * k1) := e9.trans (by rw [pk_mul, nI_add])
      refine lv_sipush (v := nI 164) hx hb d_Model_commit_75 (by decide) ?_
      refine q_cV (rest := []) E (c_Model_movePoint l g n0 mo (32 + 3 * k1) 164 0 (nI pn) (nI tn) (nI wn) 0 14 hw0 fd_1 (by omega) (by omega) (by omega)) w_1171 w_15 w_1168 w_1170 (bw_s 41 rfl) hd_Model_movePoint rfl ⟨by decide, by decide⟩ (OB.recv E.2.2.2.2.2 (by rfl) hm.1) hm hF hl.1 rfl (Nat.le_of_ble_eq_true rfl) d_Model_commit_78 ⟨by decide, by decide⟩ (qv (fun H5 locs hq hF => ?_))
      obtain ⟨hq, fd_2, hm, hS2, hmv⟩ := hq
      have hfr := hfr.tr hq
      have hT := PM9.mv hT hmv
      exact q_vret E hr hlk (⟨rfl, Or.inl ⟨hok, Or.inl ⟨k1, _, e_k1, e_k3, by omega, by omega, by rw [e_k3]; exact hc, PZ0, Or.inl ⟨rfl, rfl⟩, hP.keep hfr hw0 hm ((hB.sm hS (fun t h => by omega)).set hS2 (fun t h => by omega) hT (by omega))⟩⟩⟩) hF d_Model_commit_81
    · skip
      have h1 := hok.2.2
      rw [e_k3] at h1
      obtain ⟨s1, e1, h3⟩ := okS_nat h0 (by omega) h1
      subst e1
      have hAC : AC (fun t => ptB B (68 + 3 * t)) k3 := fun t ht => hop t (by omega)
      have hDD := hm.2.2.2.2.2.1
      refine q_cV (rest := []) E (M_Model_sums l g n0 mo s1 68 k3 0 (nI pn) (nI tn) (nI wn) w9 n9 hw9 fd fa hmn (by omega) (by omega) (by omega) hAQ (fun t => ptB B (68 + 3 * t)) (fun t => (B (s1 + t)).toNat) hAC) w_1210 w_15 w_1207 w_1209 (bw_s 45 rfl) hd_Model_sums rfl ⟨by decide, by decide⟩ (OB.recv E.2.2.2.2.2 (by rfl) hm.1) (⟨hm, (AJ.off hfr (show ¬ MR mo (mo + 4) by unfold MR; omega) hab0), fun t ht => hB.pm (by omega), fun t ht => (hB.nat hm.2.2.2.2.2.1 (s := s1 + t) (by omega)).1⟩) hF hl.1 rfl (Nat.le_of_ble_eq_true rfl) d_Model_commit_67 ⟨by decide, by decide⟩ (qv (fun H3 locs hq hF => ?_))
      obtain ⟨hq, fd_3, hm, hS, T, hRS, hT⟩ := hq
      have hfr := hfr.tr hq
      have hRS := hRS.ext (z' := fun t => B (s1 + t)) (fun t ht => (hB.nat hDD (s := s1 + t) (by omega)).2)
      refine lv_aload_n hx hb d_Model_commit_70 rfl (lv_at hl 0 rfl) ?_
      refine lv_iload_n hx hb d_Model_commit_71 rfl (lv_at hl 1 rfl) ?_
      refine q_cS (rest := [.ref mo]) E (c_Model_slot l g n0 (nI k1)) w_1154 w_15 w_1152 w_1153 hd_Model_slot rfl ⟨by decide, by decide⟩ trivial hF hl.1 rfl (Nat.le_of_ble_eq_true rfl) d_Model_commit_72 ⟨by decide, by decide⟩ (qi (fun rs H4 locs hq hF => ?_))
      obtain ⟨hrs, hq9⟩ := hq
      subst hrs
      subst hq9
      refine lv_topi (fun t9 e9 => ?_)
      obtain rfl : t9 = nI (32 + 3 * k1) := e9.trans (by rw [pk_mul, nI_add])
      refine lv_sipush (v := nI 164) hx hb d_Model_commit_75 (by decide) ?_
      refine q_cV (rest := []) E (c_Model_movePoint l g n0 mo (32 + 3 * k1) 164 0 (nI pn) (nI tn) (nI wn) 0 14 hw0 fd_3 (by omega) (by omega) (by omega)) w_1171 w_15 w_1168 w_1170 (bw_s 41 rfl) hd_Model_movePoint rfl ⟨by decide, by decide⟩ (OB.recv E.2.2.2.2.2 (by rfl) hm.1) hm hF hl.1 rfl (Nat.le_of_ble_eq_true rfl) d_Model_commit_78 ⟨by decide, by decide⟩ (qv (fun H5 locs hq hF => ?_))
      obtain ⟨hq, fd_4, hm, hS2, hmv⟩ := hq
      have hfr := hfr.tr hq
      have hT := PM9.mv hT hmv
      exact q_vret E hr hlk (⟨rfl, Or.inl ⟨hok, Or.inl ⟨k1, _, e_k1, e_k3, by omega, by omega, by rw [e_k3]; exact hc, T, Or.inr ⟨h0, s1, rfl, by omega, hRS⟩, hP.keep hfr hw0 hm ((hB.sm hS (fun t h => by omega)).set hS2 (fun t h => by omega) hT (by omega))⟩⟩⟩) hF d_Model_commit_81
  refine lv_aload_n hx hb d_Model_commit_0 rfl (lv_at hl 0 rfl) ?_
  refine lv_iload_n hx hb d_Model_commit_1 rfl (lv_at hl 1 rfl) ?_
  refine q_cS (rest := [.ref mo]) E (c_Model_noPoint l g n0 a ) w_1151 w_15 w_1149 w_1150 hd_Model_noPoint rfl ⟨by decide, by decide⟩ trivial hF hl.1 rfl (Nat.le_of_ble_eq_true rfl) d_Model_commit_2 ⟨by decide, by decide⟩ (qi (fun r_0 H1 locs hq hF => ?_))
  obtain ⟨h_0, hq⟩ := hq
  subst hq
  rcases h_0 with ⟨rfl, f_0⟩ | ⟨rfl, f_0⟩
  · skip
    refine lv_if_ne (tgt := 28) hx hb d_Model_commit_5 (by decide) (fun _ => ?_) (fun h9 => absurd h9 (by decide))
    refine lv_iconst (v := nI 1) hx hb d_Model_commit_28 (by decide) ?_
    refine lv_goto (tgt := 33) hx hb d_Model_commit_29 (by decide) ?_
    have hl : lv_has ls 4 [(0, .ref mo), (1, .int a), (2, .int a2), (3, .int n)] := lv_sub hl [0, 1, 2, 3] rfl
    exact bad _ ls (fun h => (f_0) h.1) hF hl
  · skip
    refine lv_if_ne (tgt := 28) hx hb d_Model_commit_5 (by decide) (fun h9 => absurd (by decide) h9) (fun _ => ?_)
    refine lv_iload_n hx hb d_Model_commit_8 rfl (lv_at hl 3 rfl) ?_
    refine lv_i2l (v := n.toInt64) hx hb d_Model_commit_9 rfl ?_
    refine lv_lconst (v := 0) hx hb d_Model_commit_10 (by decide) ?_
    refine lv_ldc2 (v := 16) hx hb E.2.2.2.1 (E.2.2.2.2.1 _ w_1223) d_Model_commit_11 ?_
    refine q_cS (rest := [.ref mo]) E (c_Model_in l g n0 n.toInt64 0 16 ) w_1101 w_15 w_1099 w_1100 hd_Model_in rfl ⟨by decide, by decide⟩ trivial hF hl.1 rfl (Nat.le_of_ble_eq_true rfl) d_Model_commit_14 ⟨by decide, by decide⟩ (qi (fun r_1 H2 locs hq hF => ?_))
    obtain ⟨h_1, hq⟩ := hq
    subst hq
    rcases h_1 with ⟨rfl, f_1⟩ | ⟨rfl, f_1⟩
    · skip
      refine lv_if_eq (tgt := 28) hx hb d_Model_commit_17 (by decide) (fun _ => ?_) (fun h9 => absurd (by decide) h9)
      refine lv_iconst (v := nI 1) hx hb d_Model_commit_28 (by decide) ?_
      refine lv_goto (tgt := 33) hx hb d_Model_commit_29 (by decide) ?_
      have hl : lv_has ls 4 [(0, .ref mo), (1, .int a), (2, .int a2), (3, .int n)] := lv_sub hl [0, 1, 2, 3] rfl
      exact bad _ ls (fun h => (fun q => f_1 ((in_okC (a := 0) (b := 16) (by decide) (by decide) (by decide) (by decide)).mpr q)) h.2.1) hF hl
    · skip
      refine lv_if_eq (tgt := 28) hx hb d_Model_commit_17 (by decide) (fun h9 => absurd h9 (by decide)) (fun _ => ?_)
      refine lv_iload_n hx hb d_Model_commit_20 rfl (lv_at hl 2 rfl) ?_
      refine lv_iload_n hx hb d_Model_commit_21 rfl (lv_at hl 3 rfl) ?_
      refine q_cS (rest := [.ref mo]) E (c_Model_noScalars l g n0 a2 n (okC_n ((in_okC (a := 0) (b := 16) (by decide) (by decide) (by decide) (by decide)).mp f_1))) w_1206 w_15 w_1204 w_1205 hd_Model_noScalars rfl ⟨by decide, by decide⟩ trivial hF hl.1 rfl (Nat.le_of_ble_eq_true rfl) d_Model_commit_22 ⟨by decide, by decide⟩ (qi (fun r_2 H3 locs hq hF => ?_))
      obtain ⟨h_2, hq⟩ := hq
      subst hq
      rcases h_2 with ⟨rfl, f_2⟩ | ⟨rfl, f_2⟩
      · skip
        refine lv_if_eq (tgt := 32) hx hb d_Model_commit_25 (by decide) (fun h9 => absurd h9 (by decide)) (fun _ => ?_)
        refine lv_iconst (v := nI 1) hx hb d_Model_commit_28 (by decide) ?_
        refine lv_goto (tgt := 33) hx hb d_Model_commit_29 (by decide) ?_
        have hl : lv_has ls 4 [(0, .ref mo), (1, .int a), (2, .int a2), (3, .int n)] := lv_sub hl [0, 1, 2, 3] rfl
        exact bad _ ls (fun h => (f_2) h.2.2) hF hl
      · skip
        refine lv_if_eq (tgt := 32) hx hb d_Model_commit_25 (by decide) (fun _ => ?_) (fun h9 => absurd (by decide) h9)
        refine lv_iconst (v := nI 0) hx hb d_Model_commit_32 (by decide) ?_
        have hl : lv_has ls 4 [(0, .ref mo), (1, .int a), (2, .int a2), (3, .int n)] := lv_sub hl [0, 1, 2, 3] rfl
        exact good _ ls ⟨f_0, (in_okC (a := 0) (b := 16) (by decide) (by decide) (by decide) (by decide)).mp f_1, f_2⟩ hF hl
