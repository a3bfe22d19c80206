/-- what look answers -/
def lookV (x : Int32) (pn tn wn : Nat) : Int32 := if x = 0 then nI pn else if x = nI 1 then nI tn else nI wn
theorem look_v {k pn tn wn : Nat} {r : Int32} (hk : k ≤ 2) (h0 : k = 0 → r = nI pn) (h1 : k = 1 → r = nI tn) (h2 : k = 2 → r = nI wn) : r = lookV (nI k) pn tn wn := by
  match k, hk with
  | 0, _ => exact h0 rfl
  | 1, _ => exact h1 rfl
  | 2, _ => exact h2 rfl
set_option maxHeartbeats 4000000 in
set_option maxRecDepth 100000 in
theorem Z_Model_look (l : Launch) (g : WG) (n0 : Nat → Prop) (mo : Nat) (th : Int32) (pn tn wn : Nat) (B : Nat → Int) (w0 : Int32) : Ctr l y_Model_look (.code y_Model_look prog_11_method_61_code 2 (some FieldType.int)) 1 25 0 0 n0 g [.ref mo, .int w0] (fun H => MVP g n0 H mo th pn tn wn B) (QI (fun r H H' => ((okC w0 (nI 0) (nI 2)) ∧ (MVP g n0 H' mo 0 pn tn wn B ∧ r = lookV w0 pn tn wn)) ∨ (¬ (okC w0 (nI 0) (nI 2)) ∧ MVP g n0 H' mo 1 pn tn wn B))) := by
  refine ctr_mk l (lv0 := [(0, .ref mo), (1, .int w0)]) (by decide) (Nat.le_of_ble_eq_true rfl) rfl ?_
  intro p e s m below meth c ls E hr hlk hnm hl hP
  have hx := E.1
  have hb := E.2.1
  have hK := E.2.2.2.2.2
  have hF : ∀ q ∈ ([] : List Loc), n0 q.base := fun q hq => absurd hq List.not_mem_nil
  obtain ⟨⟨w9, n9, fd, hw9, hm, hB⟩, -⟩ := id hP
  have hS : SAME fd fd (fun t => 119 ≤ t) := SAME.rf
  have hmn := hP.mn
  have hbd := hP.2.2.2.2.2.1
  have hfr : FRM (MR mo) s.heap s.heap := FRM.rf
  have bad : ∀ (locs : List Loc) (ls : Array Slot), ¬ (okC w0 (nI 0) (nI 2)) → (∀ q ∈ locs, n0 q.base) → lv_has ls 2 [(0, .ref mo), (1, .int w0)] → W p l e { frames := 1, cells := 0, slots := 0, locals := 25 } s m [.ref mo, .int w0].toArray below meth c s.heap locs 0 0 (MQ below (QcP (QI (fun r H H' => ((okC w0 (nI 0) (nI 2)) ∧ (MVP g n0 H' mo 0 pn tn wn B ∧ r = lookV w0 pn tn wn)) ∨ (¬ (okC w0 (nI 0) (nI 2)) ∧ MVP g n0 H' mo 1 pn tn wn B)))) [.ref mo, .int w0].toArray s 0 0 (fun q => n0 q)) (F0 m 18 ls [.int (nI 1), .ref mo]) := by
    intro  locs   ls hno hF hl
    refine lv_iconst (v := nI 1) hx hb d_Model_look_18 (by decide) ?_
    refine q_cV (rest := []) E (c_Model_fails l g n0 mo th (nI pn) (nI tn) (nI wn) w9 n9 hw9 (nI 1) (nI 1) fd hmn (Or.inl rfl)) w_1056 w_15 w_1053 w_1055 (bw_s 24 rfl) hd_Model_fails rfl ⟨by decide, by decide⟩ (OB.recv E.2.2.2.2.2 (by rfl) hm.1) hm hF hl.1 rfl (Nat.le_of_ble_eq_true rfl) d_Model_look_19 ⟨by decide, by decide⟩ (qi (fun rf H1 locs hq hF => ?_))
    obtain ⟨hrf, hq, hm⟩ := hq
    subst hrf
    have hfr := hfr.tr hq
    rw [if_neg (by decide)] at hm
    refine lv_if_eq (tgt := 27) hx hb d_Model_look_22 (by decide) (fun h9 => absurd h9 (by decide)) (fun _ => ?_)
    refine lv_iconst (v := nI 0) hx hb d_Model_look_25 (by decide) ?_
    exact q_iret E hr hlk (⟨_, rfl, Or.inr ⟨hno, hP.zkeep hfr hw9 hm hS hB⟩⟩) hF d_Model_look_26
  have good : ∀ (locs : List Loc) (ls : Array Slot), okC w0 (nI 0) (nI 2) → (∀ q ∈ locs, n0 q.base) → lv_has ls 2 [(0, .ref mo), (1, .int w0)] → W p l e { frames := 1, cells := 0, slots := 0, locals := 25 } s m [.ref mo, .int w0].toArray below meth c s.heap locs 0 0 (MQ below (QcP (QI (fun r H H' => ((okC w0 (nI 0) (nI 2)) ∧ (MVP g n0 H' mo 0 pn tn wn B ∧ r = lookV w0 pn tn wn)) ∨ (¬ (okC w0 (nI 0) (nI 2)) ∧ MVP g n0 H' mo 1 pn tn wn B)))) [.ref mo, .int w0].toArray s 0 0 (fun q => n0 q)) (F0 m 18 ls [.int (nI 0), .ref mo]) := by
    intro  locs   ls hok hF hl
    refine lv_iconst (v := nI 1) hx hb d_Model_look_18 (by decide) ?_
    refine q_cV (rest := []) E (c_Model_fails l g n0 mo th (nI pn) (nI tn) (nI wn) w9 n9 hw9 (nI 0) (nI 1) fd hmn (Or.inr rfl)) w_1056 w_15 w_1053 w_1055 (bw_s 24 rfl) hd_Model_fails rfl ⟨by decide, by decide⟩ (OB.recv E.2.2.2.2.2 (by rfl) hm.1) hm hF hl.1 rfl (Nat.le_of_ble_eq_true rfl) d_Model_look_19 ⟨by decide, by decide⟩ (qi (fun rf H1 locs hq hF => ?_))
    obtain ⟨hrf, hq, hm⟩ := hq
    subst hrf
    have hfr := hfr.tr hq
    rw [if_pos nI_0] at hm
    refine lv_if_eq (tgt := 27) hx hb d_Model_look_22 (by decide) (fun _ => ?_) (fun h9 => absurd (by decide) h9)
    obtain ⟨k0, e_k0, h_k0, h2_k0⟩ := okC_nat (by decide) (by decide) hok
    rw [e_k0] at hl
    obtain ⟨hq9, -⟩ : k0 ≤ 2 ∧ True := ⟨h2_k0, trivial⟩
    match k0, hq9, e_k0 with
    | 0, _, e_k0 =>
      refine lv_iload_n hx hb d_Model_look_27 rfl (lv_at hl 1 rfl) ?_
      refine lv_if_ne (tgt := 38) hx hb d_Model_look_28 (by decide) (fun h9 => absurd (by decide) h9) (fun _ => ?_)
      refine lv_aload_n hx hb d_Model_look_31 rfl (lv_at hl 0 rfl) ?_
      refine q_get (C := "KateDeskModel") (T := T_Model) (N := 14) (ci := 8) E hm.1 in_Model rfl 8 (by decide) w_1009 rfl rfl d_Model_look_32 ?_
      refine lv_goto (tgt := 54) hx hb d_Model_look_35 (by decide) ?_
      exact q_iret E hr hlk (⟨_, rfl, Or.inl ⟨hok, hP.zkeep hfr hw9 hm hS hB, by rw [e_k0]; rfl⟩⟩) hF d_Model_look_54
    | 1, _, e_k0 =>
      refine lv_iload_n hx hb d_Model_look_27 rfl (lv_at hl 1 rfl) ?_
      refine lv_if_ne (tgt := 38) hx hb d_Model_look_28 (by decide) (fun _ => ?_) (fun h9 => absurd h9 (by decide))
      refine lv_iload_n hx hb d_Model_look_38 rfl (lv_at hl 1 rfl) ?_
      refine lv_iconst (v := nI 1) hx hb d_Model_look_39 (by decide) ?_
      refine lv_icmp_ne (tgt := 50) hx hb d_Model_look_40 (by decide) (fun h9 => absurd (by decide) h9) (fun _ => ?_)
      refine lv_aload_n hx hb d_Model_look_43 rfl (lv_at hl 0 rfl) ?_
      refine q_get (C := "KateDeskModel") (T := T_Model) (N := 14) (ci := 8) E hm.1 in_Model rfl 10 (by decide) w_1011 rfl rfl d_Model_look_44 ?_
      refine lv_goto (tgt := 54) hx hb d_Model_look_47 (by decide) ?_
      exact q_iret E hr hlk (⟨_, rfl, Or.inl ⟨hok, hP.zkeep hfr hw9 hm hS hB, by rw [e_k0]; rfl⟩⟩) hF d_Model_look_54
    | 2, _, e_k0 =>
      refine lv_iload_n hx hb d_Model_look_27 rfl (lv_at hl 1 rfl) ?_
      refine lv_if_ne (tgt := 38) hx hb d_Model_look_28 (by decide) (fun _ => ?_) (fun h9 => absurd h9 (by decide))
      refine lv_iload_n hx hb d_Model_look_38 rfl (lv_at hl 1 rfl) ?_
      refine lv_iconst (v := nI 1) hx hb d_Model_look_39 (by decide) ?_
      refine lv_icmp_ne (tgt := 50) hx hb d_Model_look_40 (by decide) (fun _ => ?_) (fun h9 => absurd h9 (by decide))
      refine lv_aload_n hx hb d_Model_look_50 rfl (lv_at hl 0 rfl) ?_
      refine q_get (C := "KateDeskModel") (T := T_Model) (N := 14) (ci := 8) E hm.1 in_Model rfl 12 (by decide) w_1013 rfl rfl d_Model_look_51 ?_
      exact q_iret E hr hlk (⟨_, rfl, Or.inl ⟨hok, hP.zkeep hfr hw9 hm hS hB, by rw [e_k0]; rfl⟩⟩) hF d_Model_look_54
  refine lv_aload_n hx hb d_Model_look_0 rfl (lv_at hl 0 rfl) ?_
  refine lv_iload_n hx hb d_Model_look_1 rfl (lv_at hl 1 rfl) ?_
  refine lv_i2l (v := w0.toInt64) hx hb d_Model_look_2 rfl ?_
  refine lv_lconst (v := 0) hx hb d_Model_look_3 (by decide) ?_
  refine lv_ldc2 (v := 2) hx hb E.2.2.2.1 (E.2.2.2.2.1 _ w_1089) d_Model_look_4 ?_
  refine q_cS (rest := [.ref mo]) E (c_Model_in l g n0 w0.toInt64 0 2 ) w_1101 w_15 w_1099 w_1100 hd_Model_in rfl ⟨by decide, by decide⟩ trivial hF hl.1 rfl (Nat.le_of_ble_eq_true rfl) d_Model_look_7 ⟨by decide, by decide⟩ (qi (fun r_0 H1 locs hq hF => ?_))
  obtain ⟨h_0, hq⟩ := hq
  subst hq
  rcases h_0 with ⟨rfl, f_0⟩ | ⟨rfl, f_0⟩
  · skip
    refine lv_if_ne (tgt := 17) hx hb d_Model_look_10 (by decide) (fun h9 => absurd (by decide) h9) (fun _ => ?_)
    refine lv_iconst (v := nI 1) hx hb d_Model_look_13 (by decide) ?_
    refine lv_goto (tgt := 18) hx hb d_Model_look_14 (by decide) ?_
    have hl : lv_has ls 2 [(0, .ref mo), (1, .int w0)] := lv_sub hl [0, 1] rfl
    exact bad _ ls (fun h => (fun q => f_0 ((in_okC (a := 0) (b := 2) (by decide) (by decide) (by decide) (by decide)).mpr q)) h) hF hl
  · skip
    refine lv_if_ne (tgt := 17) hx hb d_Model_look_10 (by decide) (fun _ => ?_) (fun h9 => absurd h9 (by decide))
    refine lv_iconst (v := nI 0) hx hb d_Model_look_17 (by decide) ?_
    have hl : lv_has ls 2 [(0, .ref mo), (1, .int w0)] := lv_sub hl [0, 1] rfl
    exact good _ ls ((in_okC (a := 0) (b := 2) (by decide) (by decide) (by decide) (by decide)).mp f_0) hF hl
set_option maxHeartbeats 4000000 in
set_option maxRecDepth 100000 in
theorem Z_Model_feed (l : Launch) (g : WG) (n0 : Nat → Prop) (mo : Nat) (th : Int32) (pn tn wn : Nat) (B : Nat → Int) (n : Int32) (v : Int64) (m9 : Nat → Int32) (hn6 : n0 (mo + 6)) : Ctr l y_Model_feed (.code y_Model_feed prog_11_method_37_code 5 (some FieldType.int)) 1 22 0 0 n0 g [.ref mo, .int n, .long v] (fun H => MVP g n0 H mo th pn tn wn B ∧ AI g H (mo + 6) 96 m9) (QI (fun r H H' => ((okC n (nI 1) (nI 8)) ∧ ((∃ k9, n = nI k9 ∧ tn + k9 ≤ 96 ∧ r = nI (tn + k9) ∧ MVP g n0 H' mo 0 pn (tn + k9) wn B ∧ ∃ c', AI g H' (mo + 6) 96 c' ∧ fdM m9 v tn k9 c') ∨ (¬ nI tn + n ≤ nI 96 ∧ MVP g n0 H' mo (nI 2) pn tn wn B ∧ AI g H' (mo + 6) 96 m9))) ∨ (¬ (okC n (nI 1) (nI 8)) ∧ MVP g n0 H' mo 1 pn tn wn B ∧ AI g H' (mo + 6) 96 m9))) := by
  refine ctr_mk l (lv0 := [(0, .ref mo), (1, .int n), (2, .long v)]) (by decide) (Nat.le_of_ble_eq_true rfl) rfl ?_
  intro p e s m below meth c ls E hr hlk hnm hl hP
  obtain ⟨hP, hT⟩ := hP
  have hx := E.1
  have hb := E.2.1
  have hK := E.2.2.2.2.2
  have hF : ∀ q ∈ ([] : List Loc), n0 q.base := fun q hq => absurd hq List.not_mem_nil
  obtain ⟨⟨w9, n9, fd, hw9, hm, hB⟩, -⟩ := id hP
  have hS : SAME fd fd (fun t => 119 ≤ t) := SAME.rf
  have hmn := hP.mn
  have hbd := hP.2.2.2.2.2.1
  have hfr : FRM (MR mo) s.heap s.heap := FRM.rf
  have bad : ∀ (locs : List Loc) (ls : Array Slot), ¬ (okC n (nI 1) (nI 8)) → (∀ q ∈ locs, n0 q.base) → lv_has ls 5 [(0, .ref mo), (1, .int n), (2, .long v)] → W p l e { frames := 1, cells := 0, slots := 0, locals := 22 } s m [.ref mo, .int n, .long v].toArray below meth c s.heap locs 0 0 (MQ below (QcP (QI (fun r H H' => ((okC n (nI 1) (nI 8)) ∧ ((∃ k9, n = nI k9 ∧ tn + k9 ≤ 96 ∧ r = nI (tn + k9) ∧ MVP g n0 H' mo 0 pn (tn + k9) wn B ∧ ∃ c', AI g H' (mo + 6) 96 c' ∧ fdM m9 v tn k9 c') ∨ (¬ nI tn + n ≤ nI 96 ∧ MVP g n0 H' mo (nI 2) pn tn wn B ∧ AI g H' (mo + 6) 96 m9))) ∨ (¬ (okC n (nI 1) (nI 8)) ∧ MVP g n0 H' mo 1 pn tn wn B ∧ AI g H' (mo + 6) 96 m9)))) [.ref mo, .int n, .long v].toArray s 0 0 (fun q => n0 q)) (F0 m 17 ls [.int (nI 1), .ref mo]) := by
    intro  locs   ls hno hF hl
    refine lv_iconst (v := nI 1) hx hb d_Model_feed_17 (by decide) ?_
    refine q_cV (rest := []) E (c_Model_fails l g n0 mo th (nI pn) (nI tn) (nI wn) w9 n9 hw9 (nI 1) (nI 1) fd hmn (Or.inl rfl)) w_1056 w_15 w_1053 w_1055 (bw_s 24 rfl) hd_Model_fails rfl ⟨by decide, by decide⟩ (OB.recv E.2.2.2.2.2 (by rfl) hm.1) hm hF hl.1 rfl (Nat.le_of_ble_eq_true rfl) d_Model_feed_18 ⟨by decide, by decide⟩ (qi (fun rf H1 locs hq hF => ?_))
    obtain ⟨hrf, hq, hm⟩ := hq
    subst hrf
    have hfr := hfr.tr hq
    rw [if_neg (by decide)] at hm
    refine lv_if_ne (tgt := 48) hx hb d_Model_feed_21 (by decide) (fun _ => ?_) (fun h9 => absurd h9 (by decide))
    refine lv_iconst (v := nI 0) hx hb d_Model_feed_48 (by decide) ?_
    exact q_iret E hr hlk (⟨_, rfl, Or.inr ⟨hno, hP.zkeep hfr hw9 hm hS hB, (AI.off hfr (show ¬ MR mo (mo + 6) by unfold MR; omega) hT)⟩⟩) hF d_Model_feed_49
  have good : ∀ (locs : List Loc) (ls : Array Slot), okC n (nI 1) (nI 8) → (∀ q ∈ locs, n0 q.base) → lv_has ls 5 [(0, .ref mo), (1, .int n), (2, .long v)] → W p l e { frames := 1, cells := 0, slots := 0, locals := 22 } s m [.ref mo, .int n, .long v].toArray below meth c s.heap locs 0 0 (MQ below (QcP (QI (fun r H H' => ((okC n (nI 1) (nI 8)) ∧ ((∃ k9, n = nI k9 ∧ tn + k9 ≤ 96 ∧ r = nI (tn + k9) ∧ MVP g n0 H' mo 0 pn (tn + k9) wn B ∧ ∃ c', AI g H' (mo + 6) 96 c' ∧ fdM m9 v tn k9 c') ∨ (¬ nI tn + n ≤ nI 96 ∧ MVP g n0 H' mo (nI 2) pn tn wn B ∧ AI g H' (mo + 6) 96 m9))) ∨ (¬ (okC n (nI 1) (nI 8)) ∧ MVP g n0 H' mo 1 pn tn wn B ∧ AI g H' (mo + 6) 96 m9)))) [.ref mo, .int n, .long v].toArray s 0 0 (fun q => n0 q)) (F0 m 17 ls [.int (nI 0), .ref mo]) := by
    intro  locs   ls hok hF hl
    refine lv_iconst (v := nI 1) hx hb d_Model_feed_17 (by decide) ?_
    refine q_cV (rest := []) E (c_Model_fails l g n0 mo th (nI pn) (nI tn) (nI wn) w9 n9 hw9 (nI 0) (nI 1) fd hmn (Or.inr rfl)) w_1056 w_15 w_1053 w_1055 (bw_s 24 rfl) hd_Model_fails rfl ⟨by decide, by decide⟩ (OB.recv E.2.2.2.2.2 (by rfl) hm.1) hm hF hl.1 rfl (Nat.le_of_ble_eq_true rfl) d_Model_feed_18 ⟨by decide, by decide⟩ (qi (fun rf H1 locs hq hF => ?_))
    obtain ⟨hrf, hq, hm⟩ := hq
    subst hrf
    have hfr := hfr.tr hq
    rw [if_pos nI_0] at hm
    refine lv_if_ne (tgt := 48) hx hb d_Model_feed_21 (by decide) (fun h9 => absurd (by decide) h9) (fun _ => ?_)
    obtain ⟨k1, e_k1, h_k1, h2_k1⟩ := okC_nat (by decide) (by decide) hok
    rw [e_k1] at hl
    refine lv_aload_n hx hb d_Model_feed_24 rfl (lv_at hl 0 rfl) ?_
    refine lv_aload_n hx hb d_Model_feed_25 rfl (lv_at hl 0 rfl) ?_
    refine q_get (C := "KateDeskModel") (T := T_Model) (N := 14) (ci := 8) E hm.1 in_Model rfl 10 (by decide) w_1011 rfl rfl d_Model_feed_26 ?_
    refine lv_iload_n hx hb d_Model_feed_29 rfl (lv_at hl 1 rfl) ?_
    refine lv_iadd hx hb d_Model_feed_30 ?_
    refine lv_bipush (v := nI 96) hx hb d_Model_feed_31 (by decide) ?_
    refine lv_icmp_le (tgt := 40) hx hb d_Model_feed_33 (by decide) (fun hc => ?_) (fun hc => ?_)
    rotate_left
    · skip
      refine lv_iconst (v := nI 1) hx hb d_Model_feed_36 (by decide) ?_
      refine lv_goto (tgt := 41) hx hb d_Model_feed_37 (by decide) ?_
      refine lv_iconst (v := nI 2) hx hb d_Model_feed_41 (by decide) ?_
      refine q_cV (rest := []) E (c_Model_fails l g n0 mo 0 (nI pn) (nI tn) (nI wn) w9 n9 hw9 (nI 1) (nI 2) fd hmn (Or.inl rfl)) w_1056 w_15 w_1053 w_1055 (bw_s 24 rfl) hd_Model_fails rfl ⟨by decide, by decide⟩ (OB.recv E.2.2.2.2.2 (by rfl) hm.1) hm hF hl.1 rfl (Nat.le_of_ble_eq_true rfl) d_Model_feed_42 ⟨by decide, by decide⟩ (qi (fun rf H2 locs hq hF => ?_))
      obtain ⟨hrf, hq, hm⟩ := hq
      subst hrf
      have hfr := hfr.tr hq
      rw [if_neg (by decide)] at hm
      refine lv_if_eq (tgt := 50) hx hb d_Model_feed_45 (by decide) (fun h9 => absurd h9 (by decide)) (fun _ => ?_)
      refine lv_iconst (v := nI 0) hx hb d_Model_feed_48 (by decide) ?_
      exact q_iret E hr hlk (⟨_, rfl, Or.inl ⟨hok, Or.inr ⟨by rw [e_k1]; exact hc, hP.zkeep hfr hw9 hm hS hB, (AI.off hfr (show ¬ MR mo (mo + 6) by unfold MR; omega) hT)⟩⟩⟩) hF d_Model_feed_49
    have hfit : tn + k1 ≤ 96 := by rw [nI_add] at hc; exact (nI_leI (by omega) (by decide)).mp hc
    refine lv_iconst (v := nI 0) hx hb d_Model_feed_40 (by decide) ?_
    refine lv_iconst (v := nI 2) hx hb d_Model_feed_41 (by decide) ?_
    refine q_cV (rest := []) E (c_Model_fails l g n0 mo 0 (nI pn) (nI tn) (nI wn) w9 n9 hw9 (nI 0) (nI 2) fd hmn (Or.inr rfl)) w_1056 w_15 w_1053 w_1055 (bw_s 24 rfl) hd_Model_fails rfl ⟨by decide, by decide⟩ (OB.recv E.2.2.2.2.2 (by rfl) hm.1) hm hF hl.1 rfl (Nat.le_of_ble_eq_true rfl) d_Model_feed_42 ⟨by decide, by decide⟩ (qi (fun rf H2 locs hq hF => ?_))
    obtain ⟨hrf, hq, hm⟩ := hq
    subst hrf
    have hfr := hfr.tr hq
    rw [if_pos nI_0] at hm
    refine lv_if_eq (tgt := 50) hx hb d_Model_feed_45 (by decide) (fun _ => ?_) (fun h9 => absurd (by decide) h9)
    refine lv_iconst (v := nI 0) hx hb d_Model_feed_50 (by decide) ?_
    refine lv_istore (lv' := [(4, .int (nI 0)), (0, .ref mo), (1, .int (nI k1)), (2, .long v)]) hx hb d_Model_feed_51 hl (by decide) rfl (fun ls hl => ?_)
    have hl : lv_has ls 5 [(4, .int (nI 0)), (0, .ref mo), (1, .int (nI k1)), (2, .long v)] := lv_sub hl [0, 1, 2, 3] rfl
    have hh := (AI.off hfr (show ¬ MR mo (mo + 6) by unfold MR; omega) hT)
    have hfr6 := hfr.mono (fun q h => (Or.inl h : MR mo q ∨ q = mo + 6))
    have loop : ∀ (k : Nat) (i : Nat) (H : Heap) (locs : List Loc) (ls : Array Slot) (c1 : Nat → Int32), i + k = k1 → MS g n0 H mo 0 (nI pn) (nI tn) (nI wn) w9 n9 fd → AI g H (mo + 6) 96 c1 → fdM m9 v tn i c1 → FRM (fun q => MR mo q ∨ q = mo + 6) s.heap H → (∀ q ∈ locs, n0 q.base) → lv_has ls 5 [(4, .int (nI i)), (0, .ref mo), (1, .int (nI k1)), (2, .long v)] → W p l e { frames := 1, cells := 0, slots := 0, locals := 22 } s m [.ref mo, .int n, .long v].toArray below meth c H locs 0 0 (MQ below (QcP (QI (fun r H H' => ((okC n (nI 1) (nI 8)) ∧ ((∃ k9, n = nI k9 ∧ tn + k9 ≤ 96 ∧ r = nI (tn + k9) ∧ MVP g n0 H' mo 0 pn (tn + k9) wn B ∧ ∃ c', AI g H' (mo + 6) 96 c' ∧ fdM m9 v tn k9 c') ∨ (¬ nI tn + n ≤ nI 96 ∧ MVP g n0 H' mo (nI 2) pn tn wn B ∧ AI g H' (mo + 6) 96 m9))) ∨ (¬ (okC n (nI 1) (nI 8)) ∧ MVP g n0 H' mo 1 pn tn wn B ∧ AI g H' (mo + 6) 96 m9)))) [.ref mo, .int n, .long v].toArray s 0 0 (fun q => n0 q)) (F0 m 53 ls []) := by
      intro k
      induction k with
      | zero =>
        intro  i   H   locs   ls   c1 hi hm hh hcv hfr6 hF hl
        obtain rfl : i = k1 := by omega
        refine lv_iload hx hb d_Model_feed_53 (lv_at hl 0 rfl) ?_
        refine lv_iload_n hx hb d_Model_feed_55 rfl (lv_at hl 2 rfl) ?_
        refine lv_icmp_ge (tgt := 89) hx hb d_Model_feed_56 (by decide) (fun _ => ?_) (fun h9 => absurd (nI_le (Nat.le_refl _) (by omega)) h9)
        refine lv_aload_n hx hb d_Model_feed_89 rfl (lv_at hl 1 rfl) ?_
        refine lv_dup hx hb d_Model_feed_90 rfl ?_
        refine q_get (C := "KateDeskModel") (T := T_Model) (N := 14) (ci := 8) E hm.1 in_Model rfl 10 (by decide) w_1011 rfl rfl d_Model_feed_91 ?_
        refine lv_iload_n hx hb d_Model_feed_94 rfl (lv_at hl 2 rfl) ?_
        refine lv_iadd hx hb d_Model_feed_95 ?_
        refine lv_topi (fun t9 e9 => ?_)
        obtain rfl : t9 = nI (tn + i) := e9.trans (nI_add _ _)
        refine q_put (C := "KateDeskModel") (T := T_Model) (N := 14) (ci := 8) (ty := .int) E hm.1 in_Model ty_Model tyok_Model nm_Model rfl 10 (by decide) w_1011 rfl rfl (by decide +kernel) rfl rfl (Nat.le_of_ble_eq_true rfl) hmn hF d_Model_feed_96 (fun H1 locs hq ho2 hF => ?_)
        have hm : MS g n0 H1 mo 0 (nI pn) (nI (tn + i)) (nI wn) w9 n9 fd := hm.frm hq (by omega) (by omega) (by omega) (by omega) ho2
        have hh := AI.off hq (by omega) hh
        have hfr6 := hfr6.tr (hq.mono (fun q h => Or.inl (Or.inl h)))
        refine lv_aload_n hx hb d_Model_feed_99 rfl (lv_at hl 1 rfl) ?_
        refine q_get (C := "KateDeskModel") (T := T_Model) (N := 14) (ci := 8) E hm.1 in_Model rfl 10 (by decide) w_1011 rfl rfl d_Model_feed_100 ?_
        exact q_iret E hr hlk (⟨_, rfl, Or.inl ⟨hok, Or.inl ⟨_, e_k1, hfit, rfl, hP.zfin6 hfr6 ⟨_, hh⟩ hw9 hm hS hB ⟨hbd.1, hfit, hbd.2.2⟩, _, hh, hcv⟩⟩⟩) hF d_Model_feed_103
      | succ k ih =>
        intro  i   H   locs   ls   c1 hi hm hh hcv hfr6 hF hl
        refine lv_iload hx hb d_Model_feed_53 (lv_at hl 0 rfl) ?_
        refine lv_iload_n hx hb d_Model_feed_55 rfl (lv_at hl 2 rfl) ?_
        refine lv_icmp_ge (tgt := 89) hx hb d_Model_feed_56 (by decide) (fun h9 => absurd h9 (nI_ge (by omega) (by omega))) (fun _ => ?_)
        refine lv_aload_n hx hb d_Model_feed_59 rfl (lv_at hl 1 rfl) ?_
        refine q_get (C := "KateDeskModel") (T := T_Model) (N := 14) (ci := 8) E hm.1 in_Model rfl 9 (by decide) w_1010 rfl rfl d_Model_feed_60 ?_
        refine lv_aload_n hx hb d_Model_feed_63 rfl (lv_at hl 1 rfl) ?_
        refine q_get (C := "KateDeskModel") (T := T_Model) (N := 14) (ci := 8) E hm.1 in_Model rfl 10 (by decide) w_1011 rfl rfl d_Model_feed_64 ?_
        refine lv_iload hx hb d_Model_feed_67 (lv_at hl 0 rfl) ?_
        refine lv_iadd hx hb d_Model_feed_69 ?_
        refine lv_topi (fun t9 e9 => ?_)
        obtain rfl : t9 = nI (tn + i) := e9.trans (nI_add _ _)
        refine lv_lload_n hx hb d_Model_feed_70 rfl (lv_at hl 3 rfl) ?_
        refine lv_bipush (v := nI 8) hx hb d_Model_feed_71 (by decide) ?_
        refine lv_iload hx hb d_Model_feed_73 (lv_at hl 0 rfl) ?_
        refine lv_imul hx hb d_Model_feed_75 ?_
        refine lv_lshr (v := v >>> (((nI 8) * (nI i)).toInt64 &&& 63)) hx hb d_Model_feed_76 rfl ?_
        refine lv_ldc2 (v := 255) hx hb E.2.2.2.1 (E.2.2.2.2.1 _ w_1057) d_Model_feed_77 ?_
        refine lv_land hx hb d_Model_feed_80 ?_
        refine lv_l2i (v := ((v >>> (((nI 8) * (nI i)).toInt64 &&& 63)) &&& 255).toInt32) hx hb d_Model_feed_81 rfl ?_
        refine q_iast E hh hn6 hF (tn + i) rfl (by omega) (by decide) d_Model_feed_82 (fun H1 locs hq hft2 hF => ?_)
        have hm := hm.frm hq (by omega) (by omega) (by omega) (by omega) (OB.off hq (by omega) hm.1)
        refine lv_iinc (k := 0) (v := nI (i + 1)) (lv' := [(4, .int (nI (i + 1))), (0, .ref mo), (1, .int (nI k1)), (2, .long v)]) hx hb d_Model_feed_83 hl rfl (i_inc i) (by decide) rfl (fun ls hl => ?_)
        refine lv_goto (tgt := 53) hx hb d_Model_feed_86 (by decide) ?_
        have hl : lv_has ls 5 [(4, .int (nI (i + 1))), (0, .ref mo), (1, .int (nI k1)), (2, .long v)] := lv_sub hl [0, 1, 2, 3] rfl
        exact ih (i + 1) _ _ ls _ (by omega) hm hft2 hcv.nx (hfr6.tr (hq.mono (fun q h => Or.inr h))) hF hl
    exact loop k1 0 _ _ ls _ (by omega) hm hh ⟨fun _ _ => rfl, fun j hj => absurd hj (Nat.not_lt_zero _)⟩ hfr6 hF hl
  refine lv_aload_n hx hb d_Model_feed_0 rfl (lv_at hl 0 rfl) ?_
  refine lv_iload_n hx hb d_Model_feed_1 rfl (lv_at hl 1 rfl) ?_
  refine lv_iconst (v := nI 1) hx hb d_Model_feed_2 (by decide) ?_
  refine lv_icmp_lt (tgt := 12) hx hb d_Model_feed_3 (by decide) (fun g_3 => ?_) (fun g_3 => ?_)
  rotate_left
  · skip
    refine lv_iload_n hx hb d_Model_feed_6 rfl (lv_at hl 1 rfl) ?_
    refine lv_bipush (v := nI 8) hx hb d_Model_feed_7 (by decide) ?_
    refine lv_icmp_le (tgt := 16) hx hb d_Model_feed_9 (by decide) (fun g_9 => ?_) (fun g_9 => ?_)
    rotate_left
    · skip
      refine lv_iconst (v := nI 1) hx hb d_Model_feed_12 (by decide) ?_
      refine lv_goto (tgt := 17) hx hb d_Model_feed_13 (by decide) ?_
      have hl : lv_has ls 5 [(0, .ref mo), (1, .int n), (2, .long v)] := lv_sub hl [0, 1, 2] rfl
      exact bad _ ls (fun h => (fun q => g_9 q.2) h) hF hl
    refine lv_iconst (v := nI 0) hx hb d_Model_feed_16 (by decide) ?_
    have hl : lv_has ls 5 [(0, .ref mo), (1, .int n), (2, .long v)] := lv_sub hl [0, 1, 2] rfl
    exact good _ ls (⟨g_3, g_9⟩) hF hl
  refine lv_iconst (v := nI 1) hx hb d_Model_feed_12 (by decide) ?_
  refine lv_goto (tgt := 17) hx hb d_Model_feed_13 (by decide) ?_
  have hl : lv_has ls 5 [(0, .ref mo), (1, .int n), (2, .long v)] := lv_sub hl [0, 1, 2] rfl
  exact bad _ ls (fun h => (fun q => q.1 g_3) h) hF hl
