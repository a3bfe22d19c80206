theorem dg_kPr : ∀ k, k < 28 → dg (kPr k) := by unfold dg; decide +kernel
set_option maxHeartbeats 4000000 in
set_option maxRecDepth 100000 in
theorem G_Model_number (l : Launch) (g : WG) (n0 : Nat → Prop) (mo : Nat) (th : Int32) (pn tn wn : Nat) (a : Int32) : Ctr l y_Model_number (.code y_Model_number prog_11_method_38_code 4 (some FieldType.boolean)) 2 44 0 0 n0 g [.ref mo, .int a] (fun H => MP g n0 H mo th pn tn wn) (QI (fun r H H' => ((okS a (nI 1)) ∧ MP g n0 H' mo 0 pn 0 wn) ∨ (¬ (okS a (nI 1)) ∧ MP g n0 H' mo 1 pn tn wn))) := by
  refine ctr_mk l (lv0 := [(0, .ref mo), (1, .int a)]) (by decide) (Nat.le_of_ble_eq_true rfl) rfl ?_
  intro p e s m below meth c ls E hr hlk hnm hl hP
  have hx := E.1
  have hb := E.2.1
  have hK := E.2.2.2.2.2
  have hF : ∀ q ∈ ([] : List Loc), n0 q.base := fun q hq => absurd hq List.not_mem_nil
  obtain ⟨⟨w9, n9, fd, hw9, hm⟩, -⟩ := id hP
  have hmn := hP.mn
  have hbd := hP.2.2.2.2.1
  have hfr : FRM (MR mo) s.heap s.heap := FRM.rf
  have bad : ∀ (locs : List Loc) (ls : Array Slot), ¬ (okS a (nI 1)) → (∀ q ∈ locs, n0 q.base) → lv_has ls 4 [(0, .ref mo), (1, .int a)] → W p l e { frames := 2, cells := 0, slots := 0, locals := 44 } s m [.ref mo, .int a].toArray below meth c s.heap locs 0 0 (MQ below (QcP (QI (fun r H H' => ((okS a (nI 1)) ∧ MP g n0 H' mo 0 pn 0 wn) ∨ (¬ (okS a (nI 1)) ∧ MP g n0 H' mo 1 pn tn wn)))) [.ref mo, .int a].toArray s 0 0 (fun q => n0 q)) (F0 m 5 ls [.int (nI 1), .ref mo]) := by
    intro  locs   ls hno hF hl
    refine lv_iconst (v := nI 1) hx hb d_Model_number_5 (by decide) ?_
    refine q_cV (rest := []) E (c_Model_fails l g n0 mo th (nI pn) (nI tn) (nI wn) w9 n9 hw9 (nI 1) (nI 1) fd hmn (Or.inl rfl)) w_1056 w_15 w_1053 w_1055 (bw_s 24 rfl) hd_Model_fails rfl ⟨by decide, by decide⟩ (OB.recv E.2.2.2.2.2 (by rfl) hm.1) hm hF hl.1 rfl (Nat.le_of_ble_eq_true rfl) d_Model_number_6 ⟨by decide, by decide⟩ (qi (fun rf H1 locs hq hF => ?_))
    obtain ⟨hrf, hq, hm⟩ := hq
    subst hrf
    have hfr := hfr.tr hq
    rw [if_neg (by decide)] at hm
    refine lv_if_eq (tgt := 14) hx hb d_Model_number_9 (by decide) (fun h9 => absurd h9 (by decide)) (fun _ => ?_)
    refine lv_iconst (v := nI 0) hx hb d_Model_number_12 (by decide) ?_
    exact q_zret E hr rfl hlk (⟨_, rfl, Or.inr ⟨hno, hP.keep hfr hw9 hm⟩⟩) hF d_Model_number_13
  have good : ∀ (locs : List Loc) (ls : Array Slot), okS a (nI 1) → (∀ q ∈ locs, n0 q.base) → lv_has ls 4 [(0, .ref mo), (1, .int a)] → W p l e { frames := 2, cells := 0, slots := 0, locals := 44 } s m [.ref mo, .int a].toArray below meth c s.heap locs 0 0 (MQ below (QcP (QI (fun r H H' => ((okS a (nI 1)) ∧ MP g n0 H' mo 0 pn 0 wn) ∨ (¬ (okS a (nI 1)) ∧ MP g n0 H' mo 1 pn tn wn)))) [.ref mo, .int a].toArray s 0 0 (fun q => n0 q)) (F0 m 5 ls [.int (nI 0), .ref mo]) := by
    intro  locs   ls hok hF hl
    refine lv_iconst (v := nI 1) hx hb d_Model_number_5 (by decide) ?_
    refine q_cV (rest := []) E (c_Model_fails l g n0 mo th (nI pn) (nI tn) (nI wn) w9 n9 hw9 (nI 0) (nI 1) fd hmn (Or.inr rfl)) w_1056 w_15 w_1053 w_1055 (bw_s 24 rfl) hd_Model_fails rfl ⟨by decide, by decide⟩ (OB.recv E.2.2.2.2.2 (by rfl) hm.1) hm hF hl.1 rfl (Nat.le_of_ble_eq_true rfl) d_Model_number_6 ⟨by decide, by decide⟩ (qi (fun rf H1 locs hq hF => ?_))
    obtain ⟨hrf, hq, hm⟩ := hq
    subst hrf
    have hfr := hfr.tr hq
    rw [if_pos nI_0] at hm
    refine lv_if_eq (tgt := 14) hx hb d_Model_number_9 (by decide) (fun _ => ?_) (fun h9 => absurd (by decide) h9)
    obtain ⟨k1, e_k1, h_k1⟩ := okS_nat (by decide) (by decide) hok
    rw [e_k1] at hl
    refine lv_aload_n hx hb d_Model_number_14 rfl (lv_at hl 0 rfl) ?_
    refine q_get (C := "KateDeskModel") (T := T_Model) (N := 14) (ci := 8) E hm.1 in_Model rfl 10 (by decide) w_1011 rfl rfl d_Model_number_15 ?_
    refine lv_istore_n (lv' := [(2, .int (nI tn)), (0, .ref mo), (1, .int (nI k1))]) hx hb d_Model_number_18 rfl hl (by decide) rfl (fun ls hl => ?_)
    refine lv_aload_n hx hb d_Model_number_19 rfl (lv_at hl 1 rfl) ?_
    refine lv_iconst (v := nI 0) hx hb d_Model_number_20 (by decide) ?_
    refine q_put (C := "KateDeskModel") (T := T_Model) (N := 14) (ci := 8) (ty := .int) E hm.1 in_Model ty_Model tyok_Model nm_Model rfl 10 (by decide) w_1011 rfl rfl (by decide +kernel) rfl rfl (Nat.le_of_ble_eq_true rfl) hmn hF d_Model_number_21 (fun H2 locs hq ho2 hF => ?_)
    have hm : MS g n0 H2 mo 0 (nI pn) (nI 0) (nI wn) w9 n9 fd := hm.frm hq (by omega) (by omega) (by omega) (by omega) ho2
    have hfr := hfr.tr (hq.mono (fun q h => Or.inl h))
    have loop : ∀ (k : Nat) (i : Nat) (H : Heap) (locs : List Loc) (ls : Array Slot) (fd1 : Nat → Int64), i + k = tn → tn ≤ 32 → FRM (MR mo) s.heap H → MS g n0 H mo 0 (nI pn) (nI 0) (nI wn) 1 10 fd1 → (∀ q ∈ locs, n0 q.base) → lv_has ls 4 [(3, .int (nI i)), (2, .int (nI tn)), (0, .ref mo), (1, .int (nI k1))] → W p l e { frames := 2, cells := 0, slots := 0, locals := 44 } s m [.ref mo, .int a].toArray below meth c H locs 0 0 (MQ below (QcP (QI (fun r H H' => ((okS a (nI 1)) ∧ MP g n0 H' mo 0 pn 0 wn) ∨ (¬ (okS a (nI 1)) ∧ MP g n0 H' mo 1 pn tn wn)))) [.ref mo, .int a].toArray s 0 0 (fun q => n0 q)) (F0 m 45 ls []) := by
      intro k
      induction k with
      | zero =>
        intro  i   H   locs   ls   fd1 hi ht32 hfr hm hF hl
        obtain rfl : tn = i := by omega
        refine lv_iload_n hx hb d_Model_number_45 rfl (lv_at hl 0 rfl) ?_
        refine lv_iload_n hx hb d_Model_number_46 rfl (lv_at hl 1 rfl) ?_
        refine lv_icmp_ge (tgt := 69) hx hb d_Model_number_47 (by decide) (fun _ => ?_) (fun h9 => absurd (nI_le (Nat.le_refl _) (by omega)) h9)
        refine lv_aload_n hx hb d_Model_number_69 rfl (lv_at hl 2 rfl) ?_
        refine lv_bipush (v := nI 120) hx hb d_Model_number_70 (by decide) ?_
        refine q_cV (rest := []) E (v_Model_isNumber l g n0 mo 120 0 (nI pn) (nI 0) (nI wn) 1 10 hw1 fd1 (by omega)) w_1072 w_15 w_1069 w_1071 (bw_s 26 rfl) hd_Model_isNumber rfl ⟨by decide, by decide⟩ (OB.recv E.2.2.2.2.2 (by rfl) hm.1) hm hF hl.1 rfl (Nat.le_of_ble_eq_true rfl) d_Model_number_72 ⟨by decide, by decide⟩ (qi (fun rz1 H1 locs hq hF => ?_))
        obtain ⟨hbrz1, hq⟩ := hq
        subst hq
        refine lv_if_ne (tgt := 80) hx hb d_Model_number_75 (by decide) (fun _ => ?_) (fun _ => ?_)
        · skip
          refine lv_aload_n hx hb d_Model_number_80 rfl (lv_at hl 2 rfl) ?_
          refine lv_iload_n hx hb d_Model_number_81 rfl (lv_at hl 3 rfl) ?_
          refine lv_bipush (v := nI 120) hx hb d_Model_number_82 (by decide) ?_
          refine q_cV (rest := []) E (c_Model_move l g n0 mo k1 120 0 (nI pn) (nI 0) (nI wn) 1 10 hw1  fd1 (by omega) (by omega) ) w_1076 w_15 w_1073 w_1075 (bw_s 27 rfl) hd_Model_move rfl ⟨by decide, by decide⟩ (OB.recv E.2.2.2.2.2 (by rfl) hm.1) hm hF hl.1 rfl (Nat.le_of_ble_eq_true rfl) d_Model_number_84 ⟨by decide, by decide⟩ (qv (fun H2 locs hq hF => ?_))
          obtain ⟨hq, fd_1, hm, hpv⟩ := hq
          have hfr := hfr.tr hq
          refine lv_iconst (v := nI 1) hx hb d_Model_number_87 (by decide) ?_
          exact q_zret E hr rfl hlk (⟨_, rfl, Or.inl ⟨hok, hP.fin hfr hw1 hm ⟨hbd.1, Nat.zero_le _, hbd.2.2⟩⟩⟩) hF d_Model_number_88
        · skip
          refine lv_iconst (v := nI 0) hx hb d_Model_number_78 (by decide) ?_
          exact q_zret E hr rfl hlk (⟨_, rfl, Or.inl ⟨hok, hP.fin hfr hw1 hm ⟨hbd.1, Nat.zero_le _, hbd.2.2⟩⟩⟩) hF d_Model_number_79
      | succ k ih =>
        intro  i   H   locs   ls   fd1 hi ht32 hfr hm hF hl
        refine lv_iload_n hx hb d_Model_number_45 rfl (lv_at hl 0 rfl) ?_
        refine lv_iload_n hx hb d_Model_number_46 rfl (lv_at hl 1 rfl) ?_
        refine lv_icmp_ge (tgt := 69) hx hb d_Model_number_47 (by decide) (fun h9 => absurd h9 (nI_ge (by omega) (by omega))) (fun _ => ?_)
        refine lv_aload_n hx hb d_Model_number_50 rfl (lv_at hl 2 rfl) ?_
        refine lv_bipush (v := nI 120) hx hb d_Model_number_51 (by decide) ?_
        refine lv_iload_n hx hb d_Model_number_53 rfl (lv_at hl 0 rfl) ?_
        refine lv_aload_n hx hb d_Model_number_54 rfl (lv_at hl 2 rfl) ?_
        refine q_get (C := "KateDeskModel") (T := T_Model) (N := 14) (ci := 8) E hm.1 in_Model rfl 9 (by decide) w_1010 rfl rfl d_Model_number_55 ?_
        refine lv_iload_n hx hb d_Model_number_58 rfl (lv_at hl 0 rfl) ?_
        obtain ⟨fq, hfq⟩ := id (hP.2.2.1.imp (fun f hf => AI.off hfr (show ¬ MR mo (mo + 6) by unfold MR; omega) hf))
        refine q_iald E hfq i rfl (by omega) (by decide) d_Model_number_59 ?_
        refine q_cV (rest := []) E (c_Model_setByte l g n0 mo 120 i (fq i) 0 (nI pn) (nI 0) (nI wn) 1 10 hw1 fd1 (by omega) (by omega)) w_1068 w_15 w_1065 w_1067 (bw_s 25 rfl) hd_Model_setByte rfl ⟨by decide, by decide⟩ (OB.recv E.2.2.2.2.2 (by rfl) hm.1) hm hF hl.1 rfl (Nat.le_of_ble_eq_true rfl) d_Model_number_60 ⟨by decide, by decide⟩ (qv (fun H1 locs hq hF => ?_))
        obtain ⟨hq, fd_2, hm, -⟩ := hq
        have hfr := hfr.tr hq
        refine lv_iinc (k := 0) (v := nI (i + 1)) (lv' := [(3, .int (nI (i + 1))), (2, .int (nI tn)), (0, .ref mo), (1, .int (nI k1))]) hx hb d_Model_number_63 hl rfl (i_inc i) (by decide) rfl (fun ls hl => ?_)
        refine lv_goto (tgt := 45) hx hb d_Model_number_66 (by decide) ?_
        have hl : lv_has ls 4 [(3, .int (nI (i + 1))), (2, .int (nI tn)), (0, .ref mo), (1, .int (nI k1))] := lv_sub hl [0, 1, 2, 3] rfl
        exact ih (i + 1) _ _ ls _ (by omega) ht32 hfr hm hF hl
    refine lv_iload_n hx hb d_Model_number_24 rfl (lv_at hl 0 rfl) ?_
    refine lv_bipush (v := nI 32) hx hb d_Model_number_25 (by decide) ?_
    refine lv_icmp_le (tgt := 32) hx hb d_Model_number_27 (by decide) (fun hc => ?_) (fun hc => ?_)
    rotate_left
    · skip
      refine lv_iconst (v := nI 0) hx hb d_Model_number_30 (by decide) ?_
      exact q_zret E hr rfl hlk (⟨_, rfl, Or.inl ⟨hok, hP.fin hfr hw9 hm ⟨hbd.1, Nat.zero_le _, hbd.2.2⟩⟩⟩) hF d_Model_number_31
    have hc : tn ≤ 32 := (nI_leI (by omega) (by decide)).mp hc
    refine lv_aload_n hx hb d_Model_number_32 rfl (lv_at hl 1 rfl) ?_
    refine lv_iconst (v := nI 1) hx hb d_Model_number_33 (by decide) ?_
    refine q_cV (rest := []) E (c_Model_use l g n0 mo 0 (nI pn) (nI 0) (nI wn) w9 n9 hw9 1 10 hw1 fd hmn) w_967 w_15 w_964 w_966 (bw_s 15 rfl) hd_Model_use rfl ⟨by decide, by decide⟩ (OB.recv E.2.2.2.2.2 (by rfl) hm.1) hm hF hl.1 rfl (Nat.le_of_ble_eq_true rfl) d_Model_number_34 ⟨by decide, by decide⟩ (qv (fun H3 locs hq hF => ?_))
    obtain ⟨hq, hm⟩ := hq
    have hfr := hfr.tr hq
    refine lv_aload_n hx hb d_Model_number_37 rfl (lv_at hl 1 rfl) ?_
    refine lv_bipush (v := nI 120) hx hb d_Model_number_38 (by decide) ?_
    refine q_cV (rest := []) E (c_Model_zero l g n0 mo 120 0 (nI pn) (nI 0) (nI wn) 1 10 hw1  fd (by omega) ) w_1000 w_15 w_997 w_999 (bw_s 23 rfl) hd_Model_zero rfl ⟨by decide, by decide⟩ (OB.recv E.2.2.2.2.2 (by rfl) hm.1) hm hF hl.1 rfl (Nat.le_of_ble_eq_true rfl) d_Model_number_40 ⟨by decide, by decide⟩ (qv (fun H4 locs hq hF => ?_))
    obtain ⟨hq, fd_3, hm, hpv⟩ := hq
    have hfr := hfr.tr hq
    refine lv_iconst (v := nI 0) hx hb d_Model_number_43 (by decide) ?_
    refine lv_istore_n (lv' := [(3, .int (nI 0)), (2, .int (nI tn)), (0, .ref mo), (1, .int (nI k1))]) hx hb d_Model_number_44 rfl hl (by decide) rfl (fun ls hl => ?_)
    have hl : lv_has ls 4 [(3, .int (nI 0)), (2, .int (nI tn)), (0, .ref mo), (1, .int (nI k1))] := lv_sub hl [0, 1, 2, 3] rfl
    exact loop tn 0 _ _ ls _ (by omega) hc hfr hm hF hl
  refine lv_aload_n hx hb d_Model_number_0 rfl (lv_at hl 0 rfl) ?_
  refine lv_iload_n hx hb d_Model_number_1 rfl (lv_at hl 1 rfl) ?_
  refine q_cS (rest := [.ref mo]) E (c_Model_noScalar l g n0 a ) w_1064 w_15 w_1062 w_1063 hd_Model_noScalar rfl ⟨by decide, by decide⟩ trivial hF hl.1 rfl (Nat.le_of_ble_eq_true rfl) d_Model_number_2 ⟨by decide, by decide⟩ (qi (fun r_0 H1 locs hq hF => ?_))
  obtain ⟨h_0, hq⟩ := hq
  subst hq
  rcases h_0 with ⟨rfl, f_0⟩ | ⟨rfl, f_0⟩
  · skip
    have hl : lv_has ls 4 [(0, .ref mo), (1, .int a)] := lv_sub hl [0, 1] rfl
    exact bad _ ls (fun h => (f_0) h) hF hl
  · skip
    have hl : lv_has ls 4 [(0, .ref mo), (1, .int a)] := lv_sub hl [0, 1] rfl
    exact good _ ls f_0 hF hl
set_option maxHeartbeats 4000000 in
set_option maxRecDepth 100000 in
theorem G_Model_point (l : Launch) (g : WG) (n0 : Nat → Prop) (mo : Nat) (th : Int32) (pn tn wn : Nat) (a : Int32) : Ctr l y_Model_point (.code y_Model_point prog_11_method_46_code 6 (some FieldType.int)) 6 143 0 0 n0 g [.ref mo, .int a] (fun H => MP g n0 H mo th pn tn wn) (QI (fun r H H' => ((okP a (nI 1)) ∧ MP g n0 H' mo 0 pn 0 wn) ∨ (¬ (okP a (nI 1)) ∧ MP g n0 H' mo 1 pn tn wn))) := by
  refine ctr_mk l (lv0 := [(0, .ref mo), (1, .int a)]) (by decide) (Nat.le_of_ble_eq_true rfl) rfl ?_
  intro p e s m below meth c ls E hr hlk hnm hl hP
  have hx := E.1
  have hb := E.2.1
  have hK := E.2.2.2.2.2
  have hF : ∀ q ∈ ([] : List Loc), n0 q.base := fun q hq => absurd hq List.not_mem_nil
  obtain ⟨⟨w9, n9, fd, hw9, hm⟩, -⟩ := id hP
  have hmn := hP.mn
  have hbd := hP.2.2.2.2.1
  have hfr : FRM (MR mo) s.heap s.heap := FRM.rf
  have bad : ∀ (locs : List Loc) (ls : Array Slot), ¬ (okP a (nI 1)) → (∀ q ∈ locs, n0 q.base) → lv_has ls 6 [(0, .ref mo), (1, .int a)] → W p l e { frames := 6, cells := 0, slots := 0, locals := 143 } s m [.ref mo, .int a].toArray below meth c s.heap locs 0 0 (MQ below (QcP (QI (fun r H H' => ((okP a (nI 1)) ∧ MP g n0 H' mo 0 pn 0 wn) ∨ (¬ (okP a (nI 1)) ∧ MP g n0 H' mo 1 pn tn wn)))) [.ref mo, .int a].toArray s 0 0 (fun q => n0 q)) (F0 m 5 ls [.int (nI 1), .ref mo]) := by
    intro  locs   ls hno hF hl
    refine lv_iconst (v := nI 1) hx hb d_Model_point_5 (by decide) ?_
    refine q_cV (rest := []) E (c_Model_fails l g n0 mo th (nI pn) (nI tn) (nI wn) w9 n9 hw9 (nI 1) (nI 1) fd hmn (Or.inl rfl)) w_1056 w_15 w_1053 w_1055 (bw_s 24 rfl) hd_Model_fails rfl ⟨by decide, by decide⟩ (OB.recv E.2.2.2.2.2 (by rfl) hm.1) hm hF hl.1 rfl (Nat.le_of_ble_eq_true rfl) d_Model_point_6 ⟨by decide, by decide⟩ (qi (fun rf H1 locs hq hF => ?_))
    obtain ⟨hrf, hq, hm⟩ := hq
    subst hrf
    have hfr := hfr.tr hq
    rw [if_neg (by decide)] at hm
    refine lv_if_eq (tgt := 14) hx hb d_Model_point_9 (by decide) (fun h9 => absurd h9 (by decide)) (fun _ => ?_)
    refine lv_iconst (v := nI 0) hx hb d_Model_point_12 (by decide) ?_
    exact q_iret E hr hlk (⟨_, rfl, Or.inr ⟨hno, hP.keep hfr hw9 hm⟩⟩) hF d_Model_point_13
  have good : ∀ (locs : List Loc) (ls : Array Slot), okP a (nI 1) → (∀ q ∈ locs, n0 q.base) → lv_has ls 6 [(0, .ref mo), (1, .int a)] → W p l e { frames := 6, cells := 0, slots := 0, locals := 143 } s m [.ref mo, .int a].toArray below meth c s.heap locs 0 0 (MQ below (QcP (QI (fun r H H' => ((okP a (nI 1)) ∧ MP g n0 H' mo 0 pn 0 wn) ∨ (¬ (okP a (nI 1)) ∧ MP g n0 H' mo 1 pn tn wn)))) [.ref mo, .int a].toArray s 0 0 (fun q => n0 q)) (F0 m 5 ls [.int (nI 0), .ref mo]) := by
    intro  locs   ls hok hF hl
    refine lv_iconst (v := nI 1) hx hb d_Model_point_5 (by decide) ?_
    refine q_cV (rest := []) E (c_Model_fails l g n0 mo th (nI pn) (nI tn) (nI wn) w9 n9 hw9 (nI 0) (nI 1) fd hmn (Or.inr rfl)) w_1056 w_15 w_1053 w_1055 (bw_s 24 rfl) hd_Model_fails rfl ⟨by decide, by decide⟩ (OB.recv E.2.2.2.2.2 (by rfl) hm.1) hm hF hl.1 rfl (Nat.le_of_ble_eq_true rfl) d_Model_point_6 ⟨by decide, by decide⟩ (qi (fun rf H1 locs hq hF => ?_))
    obtain ⟨hrf, hq, hm⟩ := hq
    subst hrf
    have hfr := hfr.tr hq
    rw [if_pos nI_0] at hm
    refine lv_if_eq (tgt := 14) hx hb d_Model_point_9 (by decide) (fun _ => ?_) (fun h9 => absurd (by decide) h9)
    obtain ⟨k1, e_k1, h_k1⟩ := okP_nat (by decide) (by decide) hok
    rw [e_k1] at hl
    refine lv_aload_n hx hb d_Model_point_14 rfl (lv_at hl 0 rfl) ?_
    refine q_get (C := "KateDeskModel") (T := T_Model) (N := 14) (ci := 8) E hm.1 in_Model rfl 10 (by decide) w_1011 rfl rfl d_Model_point_15 ?_
    refine lv_istore_n (lv' := [(2, .int (nI tn)), (0, .ref mo), (1, .int (nI k1))]) hx hb d_Model_point_18 rfl hl (by decide) rfl (fun ls hl => ?_)
    refine lv_aload_n hx hb d_Model_point_19 rfl (lv_at hl 1 rfl) ?_
    refine lv_iconst (v := nI 0) hx hb d_Model_point_20 (by decide) ?_
    refine q_put (C := "KateDeskModel") (T := T_Model) (N := 14) (ci := 8) (ty := .int) E hm.1 in_Model ty_Model tyok_Model nm_Model rfl 10 (by decide) w_1011 rfl rfl (by decide +kernel) rfl rfl (Nat.le_of_ble_eq_true rfl) hmn hF d_Model_point_21 (fun H2 locs hq ho2 hF => ?_)
    have hm : MS g n0 H2 mo 0 (nI pn) (nI 0) (nI wn) w9 n9 fd := hm.frm hq (by omega) (by omega) (by omega) (by omega) ho2
    have hfr := hfr.tr (hq.mono (fun q h => Or.inl h))
    have ord : ∀ (k : Nat) (i : Nat) (H : Heap) (locs : List Loc) (ls : Array Slot) (fd1 : Nat → Int64), i + k = 14 → FRM (MR mo) s.heap H → MS g n0 H mo 0 (nI pn) (nI 0) (nI wn) 0 14 fd1 → (∀ q ∈ locs, n0 q.base) → lv_has ls 6 [(5, .int (nI i)), (2, .int (nI tn)), (0, .ref mo), (1, .int (nI k1))] → W p l e { frames := 6, cells := 0, slots := 0, locals := 143 } s m [.ref mo, .int a].toArray below meth c H locs 0 0 (MQ below (QcP (QI (fun r H H' => ((okP a (nI 1)) ∧ MP g n0 H' mo 0 pn 0 wn) ∨ (¬ (okP a (nI 1)) ∧ MP g n0 H' mo 1 pn tn wn)))) [.ref mo, .int a].toArray s 0 0 (fun q => n0 q)) (F0 m 413 ls []) := by
      intro k
      induction k with
      | zero =>
        intro  i   H   locs   ls   fd1 hi hfr hm hF hl
        obtain rfl : i = 14 := by omega
        refine lv_iload hx hb d_Model_point_413 (lv_at hl 0 rfl) ?_
        refine lv_bipush (v := nI 14) hx hb d_Model_point_415 (by decide) ?_
        refine lv_icmp_ge (tgt := 447) hx hb d_Model_point_417 (by decide) (fun _ => ?_) (fun h9 => absurd (by decide) h9)
        refine lv_aload_n hx hb d_Model_point_447 rfl (lv_at hl 2 rfl) ?_
        refine lv_sipush (v := nI 154) hx hb d_Model_point_448 (by decide) ?_
        refine lv_sipush (v := nI 153) hx hb d_Model_point_451 (by decide) ?_
        refine lv_sipush (v := nI 148) hx hb d_Model_point_454 (by decide) ?_
        refine q_cV (rest := []) E (c_Model_multiple l g n0 mo 154 153 148 0 (nI pn) (nI 0) (nI wn) 0 14 hw0 fd1 (by omega) (by omega) (by omega)) w_1167 w_15 w_1164 w_1166 (bw_s 40 rfl) hd_Model_multiple rfl ⟨by decide, by decide⟩ (OB.recv E.2.2.2.2.2 (by rfl) hm.1) hm hF hl.1 rfl (Nat.le_of_ble_eq_true rfl) d_Model_point_457 ⟨by decide, by decide⟩ (qv (fun H1 locs hq hF => ?_))
        obtain ⟨hq, fd_1, hm, hS9, hV9⟩ := hq
        have hfr := hfr.tr hq
        refine lv_aload_n hx hb d_Model_point_460 rfl (lv_at hl 2 rfl) ?_
        refine lv_sipush (v := nI 156) hx hb d_Model_point_461 (by decide) ?_
        refine q_cV (rest := []) E (c_Model_isZero l g n0 mo 156 0 (nI pn) (nI 0) (nI wn) 0 14 hw0 fd_1 (by omega)) w_1105 w_15 w_1102 w_1104 (bw_s 30 rfl) hd_Model_isZero rfl ⟨by decide, by decide⟩ (OB.recv E.2.2.2.2.2 (by rfl) hm.1) hm hF hl.1 rfl (Nat.le_of_ble_eq_true rfl) d_Model_point_464 ⟨by decide, by decide⟩ (qi (fun rz1 H2 locs hq hF => ?_))
        obtain ⟨hbrz1, hq⟩ := hq
        subst hq
        refine lv_if_ne (tgt := 473) hx hb d_Model_point_467 (by decide) (fun _ => ?_) (fun _ => ?_)
        · skip
          refine lv_aload_n hx hb d_Model_point_473 rfl (lv_at hl 2 rfl) ?_
          refine lv_iload_n hx hb d_Model_point_474 rfl (lv_at hl 3 rfl) ?_
          refine q_cS (rest := [.ref mo]) E (c_Model_slot l g n0 (nI k1)) w_1154 w_15 w_1152 w_1153 hd_Model_slot rfl ⟨by decide, by decide⟩ trivial hF hl.1 rfl (Nat.le_of_ble_eq_true rfl) d_Model_point_475 ⟨by decide, by decide⟩ (qi (fun rs H3 locs hq hF => ?_))
          obtain ⟨hrs, hq9⟩ := hq
          subst hrs
          subst hq9
          refine lv_topi (fun t9 e9 => ?_)
          obtain rfl : t9 = nI (32 + 3 * k1) := e9.trans (by rw [pk_mul, nI_add])
          refine lv_sipush (v := nI 148) hx hb d_Model_point_478 (by decide) ?_
          refine q_cV (rest := []) E (c_Model_movePoint l g n0 mo (32 + 3 * k1) 148 0 (nI pn) (nI 0) (nI wn) 0 14 hw0 fd_1 (by omega) (by omega) (by omega)) w_1171 w_15 w_1168 w_1170 (bw_s 41 rfl) hd_Model_movePoint rfl ⟨by decide, by decide⟩ (OB.recv E.2.2.2.2.2 (by rfl) hm.1) hm hF hl.1 rfl (Nat.le_of_ble_eq_true rfl) d_Model_point_481 ⟨by decide, by decide⟩ (qv (fun H4 locs hq hF => ?_))
          obtain ⟨hq, fd_2, hm, hS9, hcp⟩ := hq
          have hfr := hfr.tr hq
          refine lv_iconst (v := nI 0) hx hb d_Model_point_484 (by decide) ?_
          exact q_iret E hr hlk (⟨_, rfl, Or.inl ⟨hok, hP.fin hfr hw0 hm ⟨hbd.1, Nat.zero_le _, hbd.2.2⟩⟩⟩) hF d_Model_point_485
        · skip
          refine lv_bipush (v := nI 6) hx hb d_Model_point_470 (by decide) ?_
          exact q_iret E hr hlk (⟨_, rfl, Or.inl ⟨hok, hP.fin hfr hw0 hm ⟨hbd.1, Nat.zero_le _, hbd.2.2⟩⟩⟩) hF d_Model_point_472
      | succ k ih =>
        intro  i   H   locs   ls   fd1 hi hfr hm hF hl
        refine lv_iload hx hb d_Model_point_413 (lv_at hl 0 rfl) ?_
        refine lv_bipush (v := nI 14) hx hb d_Model_point_415 (by decide) ?_
        refine lv_icmp_ge (tgt := 447) hx hb d_Model_point_417 (by decide) (fun h9 => absurd h9 (nI_ge (by omega) (by decide))) (fun _ => ?_)
        refine lv_aload_n hx hb d_Model_point_420 rfl (lv_at hl 2 rfl) ?_
        refine q_get (C := "KateDeskModel") (T := T_Model) (N := 14) (ci := 8) E hm.1 in_Model rfl 1 (by decide) w_1002 rfl rfl d_Model_point_421 ?_
        refine lv_sipush (v := nI 2142) hx hb d_Model_point_424 (by decide) ?_
        refine lv_iload hx hb d_Model_point_427 (lv_at hl 0 rfl) ?_
        refine lv_iadd hx hb d_Model_point_429 ?_
        refine lv_topi (fun t9 e9 => ?_)
        obtain rfl : t9 = nI (2142 + i) := e9.trans (nI_add _ _)
        refine lv_aload_n hx hb d_Model_point_430 rfl (lv_at hl 2 rfl) ?_
        refine q_get (C := "KateDeskModel") (T := T_Model) (N := 14) (ci := 8) E hm.1 in_Model rfl 2 (by decide) w_1003 rfl rfl d_Model_point_431 ?_
        refine lv_bipush (v := nI 14) hx hb d_Model_point_434 (by decide) ?_
        refine lv_iload hx hb d_Model_point_436 (lv_at hl 0 rfl) ?_
        refine lv_iadd hx hb d_Model_point_438 ?_
        refine lv_topi (fun t9 e9 => ?_)
        obtain rfl : t9 = nI (14 + i) := e9.trans (nI_add _ _)
        refine q_lald (N := 28) (f := kPr) E hm.2.1 (14 + i) rfl (by omega) (by decide) d_Model_point_439 ?_
        have hdv : dg (kPr (14 + i)) := dg_kPr _ (by omega)
        refine q_last E hm.2.2.2.2.1 hm.2.2.2.2.2.2.1 hF (2142 + i) rfl (by omega) (by decide) d_Model_point_440 (fun H1 locs hq hf2 hF => ?_)
        have hm := hm.step hK (hq.mono (fun q h => Or.inl h)) hf2 ((hm.2.2.2.2.2.1).upd hdv)
        have hfr := hfr.tr (kjR1 hq)
        refine lv_iinc (k := 0) (v := nI (i + 1)) (lv' := [(5, .int (nI (i + 1))), (2, .int (nI tn)), (0, .ref mo), (1, .int (nI k1))]) hx hb d_Model_point_441 hl rfl (i_inc i) (by decide) rfl (fun ls hl => ?_)
        refine lv_goto (tgt := 413) hx hb d_Model_point_444 (by decide) ?_
        have hl : lv_has ls 6 [(5, .int (nI (i + 1))), (2, .int (nI tn)), (0, .ref mo), (1, .int (nI k1))] := lv_sub hl [0, 1, 2, 3] rfl
        exact ih (i + 1) _ _ ls _ (by omega) hfr hm hF hl
    have s375 : ∀ (H : Heap) (locs : List Loc) (ls : Array Slot) (fd1 : Nat → Int64) (x3 : Int32), FRM (MR mo) s.heap H → MS g n0 H mo 0 (nI pn) (nI 0) (nI wn) 0 14 fd1 → (∀ q ∈ locs, n0 q.base) → lv_has ls 6 [(3, .int x3), (2, .int (nI tn)), (0, .ref mo), (1, .int (nI k1))] → W p l e { frames := 6, cells := 0, slots := 0, locals := 143 } s m [.ref mo, .int a].toArray below meth c H locs 0 0 (MQ below (QcP (QI (fun r H H' => ((okP a (nI 1)) ∧ MP g n0 H' mo 0 pn 0 wn) ∨ (¬ (okP a (nI 1)) ∧ MP g n0 H' mo 1 pn tn wn)))) [.ref mo, .int a].toArray s 0 0 (fun q => n0 q)) (F0 m 375 ls []) := by
      intro  H   locs   ls   fd1   x3 hfr hm hF hl
      refine lv_aload_n hx hb d_Model_point_375 rfl (lv_at hl 2 rfl) ?_
      refine lv_sipush (v := nI 152) hx hb d_Model_point_376 (by decide) ?_
      refine lv_sipush (v := nI 149) hx hb d_Model_point_379 (by decide) ?_
      refine lv_sipush (v := nI 149) hx hb d_Model_point_382 (by decide) ?_
      refine q_cV (rest := []) E (c_Model_product l g n0 mo 152 149 149 0 (nI pn) (nI 0) (nI wn) 0 14 hw0  fd1 (by omega) (by omega) (by omega) ) w_1113 w_15 w_1110 w_1112 (bw_s 32 rfl) hd_Model_product rfl ⟨by decide, by decide⟩ (OB.recv E.2.2.2.2.2 (by rfl) hm.1) hm hF hl.1 rfl (Nat.le_of_ble_eq_true rfl) d_Model_point_385 ⟨by decide, by decide⟩ (qv (fun H1 locs hq hF => ?_))
      obtain ⟨hq, fd_3, hm, hpv, hv⟩ := hq
      have hfr := hfr.tr (kjR hq)
      refine lv_aload_n hx hb d_Model_point_388 rfl (lv_at hl 2 rfl) ?_
      refine lv_sipush (v := nI 151) hx hb d_Model_point_389 (by decide) ?_
      refine lv_sipush (v := nI 152) hx hb d_Model_point_392 (by decide) ?_
      refine q_cV (rest := []) E (c_Model_isSame l g n0 mo 151 152 0 (nI pn) (nI 0) (nI wn) 0 14 hw0 fd_3 (by omega) (by omega)) w_1163 w_15 w_1160 w_1162 (bw_s 39 rfl) hd_Model_isSame rfl ⟨by decide, by decide⟩ (OB.recv E.2.2.2.2.2 (by rfl) hm.1) hm hF hl.1 rfl (Nat.le_of_ble_eq_true rfl) d_Model_point_395 ⟨by decide, by decide⟩ (qi (fun rz1 H2 locs hq hF => ?_))
      obtain ⟨hbrz1, hq⟩ := hq
      subst hq
      refine lv_if_ne (tgt := 403) hx hb d_Model_point_398 (by decide) (fun _ => ?_) (fun _ => ?_)
      · skip
        refine lv_aload_n hx hb d_Model_point_403 rfl (lv_at hl 2 rfl) ?_
        refine lv_sipush (v := nI 150) hx hb d_Model_point_404 (by decide) ?_
        refine q_cV (rest := []) E (c_Model_one l g n0 mo 150 0 (nI pn) (nI 0) (nI wn) 0 14 hw0  fd_3 (by omega) ) w_971 w_15 w_968 w_970 (bw_s 16 rfl) hd_Model_one rfl ⟨by decide, by decide⟩ (OB.recv E.2.2.2.2.2 (by rfl) hm.1) hm hF hl.1 rfl (Nat.le_of_ble_eq_true rfl) d_Model_point_407 ⟨by decide, by decide⟩ (qv (fun H3 locs hq hF => ?_))
        obtain ⟨hq, fd_4, hm, hpv⟩ := hq
        have hfr := hfr.tr hq
        refine lv_iconst (v := nI 0) hx hb d_Model_point_410 (by decide) ?_
        refine lv_istore (lv' := [(5, .int (nI 0)), (3, .int x3), (2, .int (nI tn)), (0, .ref mo), (1, .int (nI k1))]) hx hb d_Model_point_411 hl (by decide) rfl (fun ls hl => ?_)
        have hl : lv_has ls 6 [(5, .int (nI 0)), (2, .int (nI tn)), (0, .ref mo), (1, .int (nI k1))] := lv_sub hl [0, 2, 3, 4] rfl
        exact ord 14 0 _ _ ls _ (by omega) hfr hm hF hl
      · skip
        refine lv_iconst (v := nI 5) hx hb d_Model_point_401 (by decide) ?_
        exact q_iret E hr hlk (⟨_, rfl, Or.inl ⟨hok, hP.fin hfr hw0 hm ⟨hbd.1, Nat.zero_le _, hbd.2.2⟩⟩⟩) hF d_Model_point_402
    have s251 : ∀ (H : Heap) (locs : List Loc) (ls : Array Slot) (fd1 : Nat → Int64) (x3 : Int32), FRM (MR mo) s.heap H → MS g n0 H mo 0 (nI pn) (nI 0) (nI wn) 0 14 fd1 → (∀ q ∈ locs, n0 q.base) → lv_has ls 6 [(3, .int x3), (2, .int (nI tn)), (0, .ref mo), (1, .int (nI k1))] → W p l e { frames := 6, cells := 0, slots := 0, locals := 143 } s m [.ref mo, .int a].toArray below meth c H locs 0 0 (MQ below (QcP (QI (fun r H H' => ((okP a (nI 1)) ∧ MP g n0 H' mo 0 pn 0 wn) ∨ (¬ (okP a (nI 1)) ∧ MP g n0 H' mo 1 pn tn wn)))) [.ref mo, .int a].toArray s 0 0 (fun q => n0 q)) (F0 m 251 ls []) := by
      intro  H   locs   ls   fd1   x3 hfr hm hF hl
      refine lv_aload_n hx hb d_Model_point_251 rfl (lv_at hl 2 rfl) ?_
      refine lv_sipush (v := nI 151) hx hb d_Model_point_252 (by decide) ?_
      refine lv_sipush (v := nI 148) hx hb d_Model_point_255 (by decide) ?_
      refine lv_sipush (v := nI 148) hx hb d_Model_point_258 (by decide) ?_
      refine q_cV (rest := []) E (c_Model_product l g n0 mo 151 148 148 0 (nI pn) (nI 0) (nI wn) 0 14 hw0  fd1 (by omega) (by omega) (by omega) ) w_1113 w_15 w_1110 w_1112 (bw_s 32 rfl) hd_Model_product rfl ⟨by decide, by decide⟩ (OB.recv E.2.2.2.2.2 (by rfl) hm.1) hm hF hl.1 rfl (Nat.le_of_ble_eq_true rfl) d_Model_point_261 ⟨by decide, by decide⟩ (qv (fun H1 locs hq hF => ?_))
      obtain ⟨hq, fd_5, hm, hpv, hv⟩ := hq
      have hfr := hfr.tr (kjR hq)
      refine lv_aload_n hx hb d_Model_point_264 rfl (lv_at hl 2 rfl) ?_
      refine lv_sipush (v := nI 151) hx hb d_Model_point_265 (by decide) ?_
      refine lv_sipush (v := nI 151) hx hb d_Model_point_268 (by decide) ?_
      refine lv_sipush (v := nI 148) hx hb d_Model_point_271 (by decide) ?_
      refine q_cV (rest := []) E (c_Model_product l g n0 mo 151 151 148 0 (nI pn) (nI 0) (nI wn) 0 14 hw0  fd_5 (by omega) (by omega) (by omega) ) w_1113 w_15 w_1110 w_1112 (bw_s 32 rfl) hd_Model_product rfl ⟨by decide, by decide⟩ (OB.recv E.2.2.2.2.2 (by rfl) hm.1) hm hF hl.1 rfl (Nat.le_of_ble_eq_true rfl) d_Model_point_274 ⟨by decide, by decide⟩ (qv (fun H2 locs hq hF => ?_))
      obtain ⟨hq, fd_6, hm, hpv, hv⟩ := hq
      have hfr := hfr.tr (kjR hq)
      refine lv_aload_n hx hb d_Model_point_277 rfl (lv_at hl 2 rfl) ?_
      refine lv_sipush (v := nI 152) hx hb d_Model_point_278 (by decide) ?_
      refine lv_ldc2 (v := 4) hx hb E.2.2.2.1 (E.2.2.2.2.1 _ w_1155) d_Model_point_281 ?_
      refine q_cV (rest := []) E (c_Model_small l g n0 mo 152 4 0 (nI pn) (nI 0) (nI wn) 0 14 hw0 fd_6 (by omega)) w_1084 w_15 w_1081 w_1083 (bw_s 28 rfl) hd_Model_small rfl ⟨by decide, by decide⟩ (OB.recv E.2.2.2.2.2 (by rfl) hm.1) hm hF hl.1 rfl (Nat.le_of_ble_eq_true rfl) d_Model_point_284 ⟨by decide, by decide⟩ (qv (fun H3 locs hq hF => ?_))
      obtain ⟨hq, fd_7, hm, -⟩ := hq
      have hfr := hfr.tr hq
      refine lv_aload_n hx hb d_Model_point_287 rfl (lv_at hl 2 rfl) ?_
      refine lv_sipush (v := nI 151) hx hb d_Model_point_288 (by decide) ?_
      refine lv_sipush (v := nI 151) hx hb d_Model_point_291 (by decide) ?_
      refine lv_sipush (v := nI 152) hx hb d_Model_point_294 (by decide) ?_
      refine q_cV (rest := []) E (c_Model_add l g n0 mo 151 151 152 0 (nI pn) (nI 0) (nI wn) 0 14 hw0  fd_7 (by omega) (by omega) (by omega) ) w_975 w_15 w_972 w_974 (bw_s 17 rfl) hd_Model_add rfl ⟨by decide, by decide⟩ (OB.recv E.2.2.2.2.2 (by rfl) hm.1) hm hF hl.1 rfl (Nat.le_of_ble_eq_true rfl) d_Model_point_297 ⟨by decide, by decide⟩ (qv (fun H4 locs hq hF => ?_))
      obtain ⟨hq, fd_8, hm, hpv, hv⟩ := hq
      have hfr := hfr.tr (kjR hq)
      refine lv_iload_n hx hb d_Model_point_300 rfl (lv_at hl 1 rfl) ?_
      refine lv_bipush (v := nI 48) hx hb d_Model_point_301 (by decide) ?_
      refine lv_icmp_ne (tgt := 375) hx hb d_Model_point_303 (by decide) (fun _ => ?_) (fun _ => ?_)
      · skip
        have hl : lv_has ls 6 [(3, .int x3), (2, .int (nI tn)), (0, .ref mo), (1, .int (nI k1))] := lv_sub hl [0, 1, 2, 3] rfl
        exact s375 _ _ ls _ _ hfr hm hF hl
      · skip
        refine lv_aload_n hx hb d_Model_point_306 rfl (lv_at hl 2 rfl) ?_
        refine lv_sipush (v := nI 152) hx hb d_Model_point_307 (by decide) ?_
        refine lv_lconst (v := 1) hx hb d_Model_point_310 (by decide) ?_
        refine q_cV (rest := []) E (c_Model_primeAnd l g n0 mo 152 1 0 (nI pn) (nI 0) (nI wn) 0 14 hw0 fd_8 (by omega) (by decide)) w_1122 w_15 w_1119 w_1121 (bw_s 34 rfl) hd_Model_primeAnd rfl ⟨by decide, by decide⟩ (OB.recv E.2.2.2.2.2 (by rfl) hm.1) hm hF hl.1 rfl (Nat.le_of_ble_eq_true rfl) d_Model_point_311 ⟨by decide, by decide⟩ (qv (fun H5 locs hq hF => ?_))
        obtain ⟨hq, fd_9, hm, -⟩ := hq
        have hfr := hfr.tr hq
        refine lv_aload_n hx hb d_Model_point_314 rfl (lv_at hl 2 rfl) ?_
        refine lv_sipush (v := nI 152) hx hb d_Model_point_315 (by decide) ?_
        refine lv_iconst (v := nI 2) hx hb d_Model_point_318 (by decide) ?_
        refine q_cV (rest := []) E (c_Model_halves l g n0 mo 152 2 0 (nI pn) (nI 0) (nI wn) 0 14 hw0  fd_9 (by omega) (by omega) ) w_1144 w_15 w_1141 w_1143 (bw_s 37 rfl) hd_Model_halves rfl ⟨by decide, by decide⟩ (OB.recv E.2.2.2.2.2 (by rfl) hm.1) hm hF hl.1 rfl (Nat.le_of_ble_eq_true rfl) d_Model_point_319 ⟨by decide, by decide⟩ (qv (fun H6 locs hq hF => ?_))
        obtain ⟨hq, fd_10, hm, -⟩ := hq
        have hfr := hfr.tr hq
        refine lv_aload_n hx hb d_Model_point_322 rfl (lv_at hl 2 rfl) ?_
        refine lv_sipush (v := nI 149) hx hb d_Model_point_323 (by decide) ?_
        refine lv_sipush (v := nI 151) hx hb d_Model_point_326 (by decide) ?_
        refine lv_sipush (v := nI 152) hx hb d_Model_point_329 (by decide) ?_
        refine q_cV (rest := []) E (c_Model_raise l g n0 mo 149 151 152 0 (nI pn) (nI 0) (nI wn) 0 14 hw0  fd_10 (by omega) (by omega) (by omega) ) w_1126 w_15 w_1123 w_1125 (bw_s 35 rfl) hd_Model_raise rfl ⟨by decide, by decide⟩ (OB.recv E.2.2.2.2.2 (by rfl) hm.1) hm hF hl.1 rfl (Nat.le_of_ble_eq_true rfl) d_Model_point_332 ⟨by decide, by decide⟩ (qv (fun H7 locs hq hF => ?_))
        obtain ⟨hq, fd_11, hm, -⟩ := hq
        have hfr := hfr.tr hq
        refine lv_aload_n hx hb d_Model_point_335 rfl (lv_at hl 2 rfl) ?_
        refine lv_sipush (v := nI 149) hx hb d_Model_point_336 (by decide) ?_
        refine q_cV (rest := []) E (c_Model_isGreat l g n0 mo 149 0 (nI pn) (nI 0) (nI wn) 0 14 hw0 fd_11 (by omega)) w_1159 w_15 w_1156 w_1158 (bw_s 38 rfl) hd_Model_isGreat rfl ⟨by decide, by decide⟩ (OB.recv E.2.2.2.2.2 (by rfl) hm.1) hm hF hl.1 rfl (Nat.le_of_ble_eq_true rfl) d_Model_point_339 ⟨by decide, by decide⟩ (qi (fun rz1 H8 locs hq hF => ?_))
        obtain ⟨hbrz1, hq, fd_12, hm⟩ := hq
        have hfr := hfr.tr hq
        refine lv_iload_n hx hb d_Model_point_342 rfl (lv_at hl 0 rfl) ?_
        refine lv_iconst (v := nI 5) hx hb d_Model_point_343 (by decide) ?_
        refine lv_icmp_ne (tgt := 351) hx hb d_Model_point_344 (by decide) (fun _ => ?_) (fun _ => ?_)
        · skip
          refine lv_iconst (v := nI 0) hx hb d_Model_point_351 (by decide) ?_
          refine lv_icmp_eq (tgt := 375) hx hb d_Model_point_352 (by decide) (fun _ => ?_) (fun _ => ?_)
          · skip
            have hl : lv_has ls 6 [(3, .int x3), (2, .int (nI tn)), (0, .ref mo), (1, .int (nI k1))] := lv_sub hl [0, 1, 2, 3] rfl
            exact s375 _ _ ls _ _ hfr hm hF hl
          · skip
            refine lv_aload_n hx hb d_Model_point_355 rfl (lv_at hl 2 rfl) ?_
            refine lv_sipush (v := nI 152) hx hb d_Model_point_356 (by decide) ?_
            refine q_cV (rest := []) E (c_Model_zero l g n0 mo 152 0 (nI pn) (nI 0) (nI wn) 0 14 hw0  fd_12 (by omega) ) w_1000 w_15 w_997 w_999 (bw_s 23 rfl) hd_Model_zero rfl ⟨by decide, by decide⟩ (OB.recv E.2.2.2.2.2 (by rfl) hm.1) hm hF hl.1 rfl (Nat.le_of_ble_eq_true rfl) d_Model_point_359 ⟨by decide, by decide⟩ (qv (fun H9 locs hq hF => ?_))
            obtain ⟨hq, fd_13, hm, hpv⟩ := hq
            have hfr := hfr.tr hq
            refine lv_aload_n hx hb d_Model_point_362 rfl (lv_at hl 2 rfl) ?_
            refine lv_sipush (v := nI 149) hx hb d_Model_point_363 (by decide) ?_
            refine lv_sipush (v := nI 152) hx hb d_Model_point_366 (by decide) ?_
            refine lv_sipush (v := nI 149) hx hb d_Model_point_369 (by decide) ?_
            refine q_cV (rest := []) E (c_Model_less l g n0 mo 149 152 149 0 (nI pn) (nI 0) (nI wn) 0 14 hw0  fd_13 (by omega) (by omega) (by omega) ) w_1109 w_15 w_1106 w_1108 (bw_s 31 rfl) hd_Model_less rfl ⟨by decide, by decide⟩ (OB.recv E.2.2.2.2.2 (by rfl) hm.1) hm hF hl.1 rfl (Nat.le_of_ble_eq_true rfl) d_Model_point_372 ⟨by decide, by decide⟩ (qv (fun H10 locs hq hF => ?_))
            obtain ⟨hq, fd_14, hm, hpv, hv⟩ := hq
            have hfr := hfr.tr (kjR hq)
            have hl : lv_has ls 6 [(3, .int x3), (2, .int (nI tn)), (0, .ref mo), (1, .int (nI k1))] := lv_sub hl [0, 1, 2, 3] rfl
            exact s375 _ _ ls _ _ hfr hm hF hl
        · skip
          refine lv_iconst (v := nI 1) hx hb d_Model_point_347 (by decide) ?_
          refine lv_goto (tgt := 352) hx hb d_Model_point_348 (by decide) ?_
          refine lv_icmp_eq (tgt := 375) hx hb d_Model_point_352 (by decide) (fun _ => ?_) (fun _ => ?_)
          · skip
            have hl : lv_has ls 6 [(3, .int x3), (2, .int (nI tn)), (0, .ref mo), (1, .int (nI k1))] := lv_sub hl [0, 1, 2, 3] rfl
            exact s375 _ _ ls _ _ hfr hm hF hl
          · skip
            refine lv_aload_n hx hb d_Model_point_355 rfl (lv_at hl 2 rfl) ?_
            refine lv_sipush (v := nI 152) hx hb d_Model_point_356 (by decide) ?_
            refine q_cV (rest := []) E (c_Model_zero l g n0 mo 152 0 (nI pn) (nI 0) (nI wn) 0 14 hw0  fd_12 (by omega) ) w_1000 w_15 w_997 w_999 (bw_s 23 rfl) hd_Model_zero rfl ⟨by decide, by decide⟩ (OB.recv E.2.2.2.2.2 (by rfl) hm.1) hm hF hl.1 rfl (Nat.le_of_ble_eq_true rfl) d_Model_point_359 ⟨by decide, by decide⟩ (qv (fun H9 locs hq hF => ?_))
            obtain ⟨hq, fd_15, hm, hpv⟩ := hq
            have hfr := hfr.tr hq
            refine lv_aload_n hx hb d_Model_point_362 rfl (lv_at hl 2 rfl) ?_
            refine lv_sipush (v := nI 149) hx hb d_Model_point_363 (by decide) ?_
            refine lv_sipush (v := nI 152) hx hb d_Model_point_366 (by decide) ?_
            refine lv_sipush (v := nI 149) hx hb d_Model_point_369 (by decide) ?_
            refine q_cV (rest := []) E (c_Model_less l g n0 mo 149 152 149 0 (nI pn) (nI 0) (nI wn) 0 14 hw0  fd_15 (by omega) (by omega) (by omega) ) w_1109 w_15 w_1106 w_1108 (bw_s 31 rfl) hd_Model_less rfl ⟨by decide, by decide⟩ (OB.recv E.2.2.2.2.2 (by rfl) hm.1) hm hF hl.1 rfl (Nat.le_of_ble_eq_true rfl) d_Model_point_372 ⟨by decide, by decide⟩ (qv (fun H10 locs hq hF => ?_))
            obtain ⟨hq, fd_16, hm, hpv, hv⟩ := hq
            have hfr := hfr.tr (kjR hq)
            have hl : lv_has ls 6 [(3, .int x3), (2, .int (nI tn)), (0, .ref mo), (1, .int (nI k1))] := lv_sub hl [0, 1, 2, 3] rfl
            exact s375 _ _ ls _ _ hfr hm hF hl
    have s229 : ∀ (H : Heap) (locs : List Loc) (ls : Array Slot) (fd1 : Nat → Int64) (x3 : Int32), FRM (MR mo) s.heap H → MS g n0 H mo 0 (nI pn) (nI 0) (nI wn) 0 14 fd1 → (∀ q ∈ locs, n0 q.base) → lv_has ls 6 [(3, .int x3), (2, .int (nI tn)), (0, .ref mo), (1, .int (nI k1))] → W p l e { frames := 6, cells := 0, slots := 0, locals := 143 } s m [.ref mo, .int a].toArray below meth c H locs 0 0 (MQ below (QcP (QI (fun r H H' => ((okP a (nI 1)) ∧ MP g n0 H' mo 0 pn 0 wn) ∨ (¬ (okP a (nI 1)) ∧ MP g n0 H' mo 1 pn tn wn)))) [.ref mo, .int a].toArray s 0 0 (fun q => n0 q)) (F0 m 229 ls []) := by
      intro  H   locs   ls   fd1   x3 hfr hm hF hl
      refine lv_aload_n hx hb d_Model_point_229 rfl (lv_at hl 2 rfl) ?_
      refine lv_sipush (v := nI 148) hx hb d_Model_point_230 (by decide) ?_
      refine q_cV (rest := []) E (v_Model_isNumber l g n0 mo 148 0 (nI pn) (nI 0) (nI wn) 0 14 hw0 fd1 (by omega)) w_1072 w_15 w_1069 w_1071 (bw_s 26 rfl) hd_Model_isNumber rfl ⟨by decide, by decide⟩ (OB.recv E.2.2.2.2.2 (by rfl) hm.1) hm hF hl.1 rfl (Nat.le_of_ble_eq_true rfl) d_Model_point_233 ⟨by decide, by decide⟩ (qi (fun rz1 H1 locs hq hF => ?_))
      obtain ⟨hbrz1, hq⟩ := hq
      subst hq
      refine lv_if_eq (tgt := 249) hx hb d_Model_point_236 (by decide) (fun _ => ?_) (fun _ => ?_)
      · skip
        refine lv_iconst (v := nI 4) hx hb d_Model_point_249 (by decide) ?_
        exact q_iret E hr hlk (⟨_, rfl, Or.inl ⟨hok, hP.fin hfr hw0 hm ⟨hbd.1, Nat.zero_le _, hbd.2.2⟩⟩⟩) hF d_Model_point_250
      · skip
        refine lv_aload_n hx hb d_Model_point_239 rfl (lv_at hl 2 rfl) ?_
        refine lv_sipush (v := nI 149) hx hb d_Model_point_240 (by decide) ?_
        refine q_cV (rest := []) E (v_Model_isNumber l g n0 mo 149 0 (nI pn) (nI 0) (nI wn) 0 14 hw0 fd1 (by omega)) w_1072 w_15 w_1069 w_1071 (bw_s 26 rfl) hd_Model_isNumber rfl ⟨by decide, by decide⟩ (OB.recv E.2.2.2.2.2 (by rfl) hm.1) hm hF hl.1 rfl (Nat.le_of_ble_eq_true rfl) d_Model_point_243 ⟨by decide, by decide⟩ (qi (fun rz2 H2 locs hq hF => ?_))
        obtain ⟨hbrz2, hq⟩ := hq
        subst hq
        refine lv_if_ne (tgt := 251) hx hb d_Model_point_246 (by decide) (fun _ => ?_) (fun _ => ?_)
        · skip
          have hl : lv_has ls 6 [(3, .int x3), (2, .int (nI tn)), (0, .ref mo), (1, .int (nI k1))] := lv_sub hl [0, 1, 2, 3] rfl
          exact s251 _ _ ls _ _ hfr hm hF hl
        · skip
          refine lv_iconst (v := nI 4) hx hb d_Model_point_249 (by decide) ?_
          exact q_iret E hr hlk (⟨_, rfl, Or.inl ⟨hok, hP.fin hfr hw0 hm ⟨hbd.1, Nat.zero_le _, hbd.2.2⟩⟩⟩) hF d_Model_point_250
    have s186 : ∀ (H : Heap) (locs : List Loc) (ls : Array Slot) (fd1 : Nat → Int64) (x3 : Int32), FRM (MR mo) s.heap H → MS g n0 H mo 0 (nI pn) (nI 0) (nI wn) 0 14 fd1 → (∀ q ∈ locs, n0 q.base) → lv_has ls 6 [(3, .int x3), (2, .int (nI tn)), (0, .ref mo), (1, .int (nI k1))] → W p l e { frames := 6, cells := 0, slots := 0, locals := 143 } s m [.ref mo, .int a].toArray below meth c H locs 0 0 (MQ below (QcP (QI (fun r H H' => ((okP a (nI 1)) ∧ MP g n0 H' mo 0 pn 0 wn) ∨ (¬ (okP a (nI 1)) ∧ MP g n0 H' mo 1 pn tn wn)))) [.ref mo, .int a].toArray s 0 0 (fun q => n0 q)) (F0 m 186 ls []) := by
      intro  H   locs   ls   fd1   x3 hfr hm hF hl
      refine lv_iload_n hx hb d_Model_point_186 rfl (lv_at hl 0 rfl) ?_
      refine lv_bipush (v := nI 6) hx hb d_Model_point_187 (by decide) ?_
      refine lv_icmp_eq (tgt := 197) hx hb d_Model_point_189 (by decide) (fun _ => ?_) (fun _ => ?_)
      · skip
        refine lv_aload_n hx hb d_Model_point_197 rfl (lv_at hl 2 rfl) ?_
        refine lv_sipush (v := nI 148) hx hb d_Model_point_198 (by decide) ?_
        refine q_cV (rest := []) E (c_Model_isZero l g n0 mo 148 0 (nI pn) (nI 0) (nI wn) 0 14 hw0 fd1 (by omega)) w_1105 w_15 w_1102 w_1104 (bw_s 30 rfl) hd_Model_isZero rfl ⟨by decide, by decide⟩ (OB.recv E.2.2.2.2.2 (by rfl) hm.1) hm hF hl.1 rfl (Nat.le_of_ble_eq_true rfl) d_Model_point_201 ⟨by decide, by decide⟩ (qi (fun rz1 H1 locs hq hF => ?_))
        obtain ⟨hbrz1, hq⟩ := hq
        subst hq
        refine lv_if_eq (tgt := 217) hx hb d_Model_point_204 (by decide) (fun _ => ?_) (fun _ => ?_)
        · skip
          refine lv_iconst (v := nI 3) hx hb d_Model_point_217 (by decide) ?_
          exact q_iret E hr hlk (⟨_, rfl, Or.inl ⟨hok, hP.fin hfr hw0 hm ⟨hbd.1, Nat.zero_le _, hbd.2.2⟩⟩⟩) hF d_Model_point_218
        · skip
          refine lv_aload_n hx hb d_Model_point_207 rfl (lv_at hl 2 rfl) ?_
          refine lv_sipush (v := nI 149) hx hb d_Model_point_208 (by decide) ?_
          refine q_cV (rest := []) E (c_Model_isZero l g n0 mo 149 0 (nI pn) (nI 0) (nI wn) 0 14 hw0 fd1 (by omega)) w_1105 w_15 w_1102 w_1104 (bw_s 30 rfl) hd_Model_isZero rfl ⟨by decide, by decide⟩ (OB.recv E.2.2.2.2.2 (by rfl) hm.1) hm hF hl.1 rfl (Nat.le_of_ble_eq_true rfl) d_Model_point_211 ⟨by decide, by decide⟩ (qi (fun rz2 H2 locs hq hF => ?_))
          obtain ⟨hbrz2, hq⟩ := hq
          subst hq
          refine lv_if_ne (tgt := 219) hx hb d_Model_point_214 (by decide) (fun _ => ?_) (fun _ => ?_)
          · skip
            refine lv_aload_n hx hb d_Model_point_219 rfl (lv_at hl 2 rfl) ?_
            refine lv_iload_n hx hb d_Model_point_220 rfl (lv_at hl 3 rfl) ?_
            refine q_cS (rest := [.ref mo]) E (c_Model_slot l g n0 (nI k1)) w_1154 w_15 w_1152 w_1153 hd_Model_slot rfl ⟨by decide, by decide⟩ trivial hF hl.1 rfl (Nat.le_of_ble_eq_true rfl) d_Model_point_221 ⟨by decide, by decide⟩ (qi (fun rs H3 locs hq hF => ?_))
            obtain ⟨hrs, hq9⟩ := hq
            subst hrs
            subst hq9
            refine lv_topi (fun t9 e9 => ?_)
            obtain rfl : t9 = nI (32 + 3 * k1) := e9.trans (by rw [pk_mul, nI_add])
            refine q_cV (rest := []) E (c_Model_nothing l g n0 mo (32 + 3 * k1) 0 (nI pn) (nI 0) (nI wn) 0 14 hw0 fd1 (by omega)) w_996 w_15 w_993 w_995 (bw_s 22 rfl) hd_Model_nothing rfl ⟨by decide, by decide⟩ (OB.recv E.2.2.2.2.2 (by rfl) hm.1) hm hF hl.1 rfl (Nat.le_of_ble_eq_true rfl) d_Model_point_224 ⟨by decide, by decide⟩ (qv (fun H4 locs hq hF => ?_))
            obtain ⟨hq, fd_17, hm, hS9, hz1, hone, hz2⟩ := hq
            have hfr := hfr.tr hq
            refine lv_iconst (v := nI 0) hx hb d_Model_point_227 (by decide) ?_
            exact q_iret E hr hlk (⟨_, rfl, Or.inl ⟨hok, hP.fin hfr hw0 hm ⟨hbd.1, Nat.zero_le _, hbd.2.2⟩⟩⟩) hF d_Model_point_228
          · skip
            refine lv_iconst (v := nI 3) hx hb d_Model_point_217 (by decide) ?_
            exact q_iret E hr hlk (⟨_, rfl, Or.inl ⟨hok, hP.fin hfr hw0 hm ⟨hbd.1, Nat.zero_le _, hbd.2.2⟩⟩⟩) hF d_Model_point_218
      · skip
        refine lv_iload_n hx hb d_Model_point_192 rfl (lv_at hl 0 rfl) ?_
        refine lv_iconst (v := nI 2) hx hb d_Model_point_193 (by decide) ?_
        refine lv_icmp_ne (tgt := 229) hx hb d_Model_point_194 (by decide) (fun _ => ?_) (fun _ => ?_)
        · skip
          have hl : lv_has ls 6 [(3, .int x3), (2, .int (nI tn)), (0, .ref mo), (1, .int (nI k1))] := lv_sub hl [0, 1, 2, 3] rfl
          exact s229 _ _ ls _ _ hfr hm hF hl
        · skip
          refine lv_aload_n hx hb d_Model_point_197 rfl (lv_at hl 2 rfl) ?_
          refine lv_sipush (v := nI 148) hx hb d_Model_point_198 (by decide) ?_
          refine q_cV (rest := []) E (c_Model_isZero l g n0 mo 148 0 (nI pn) (nI 0) (nI wn) 0 14 hw0 fd1 (by omega)) w_1105 w_15 w_1102 w_1104 (bw_s 30 rfl) hd_Model_isZero rfl ⟨by decide, by decide⟩ (OB.recv E.2.2.2.2.2 (by rfl) hm.1) hm hF hl.1 rfl (Nat.le_of_ble_eq_true rfl) d_Model_point_201 ⟨by decide, by decide⟩ (qi (fun rz1 H1 locs hq hF => ?_))
          obtain ⟨hbrz1, hq⟩ := hq
          subst hq
          refine lv_if_eq (tgt := 217) hx hb d_Model_point_204 (by decide) (fun _ => ?_) (fun _ => ?_)
          · skip
            refine lv_iconst (v := nI 3) hx hb d_Model_point_217 (by decide) ?_
            exact q_iret E hr hlk (⟨_, rfl, Or.inl ⟨hok, hP.fin hfr hw0 hm ⟨hbd.1, Nat.zero_le _, hbd.2.2⟩⟩⟩) hF d_Model_point_218
          · skip
            refine lv_aload_n hx hb d_Model_point_207 rfl (lv_at hl 2 rfl) ?_
            refine lv_sipush (v := nI 149) hx hb d_Model_point_208 (by decide) ?_
            refine q_cV (rest := []) E (c_Model_isZero l g n0 mo 149 0 (nI pn) (nI 0) (nI wn) 0 14 hw0 fd1 (by omega)) w_1105 w_15 w_1102 w_1104 (bw_s 30 rfl) hd_Model_isZero rfl ⟨by decide, by decide⟩ (OB.recv E.2.2.2.2.2 (by rfl) hm.1) hm hF hl.1 rfl (Nat.le_of_ble_eq_true rfl) d_Model_point_211 ⟨by decide, by decide⟩ (qi (fun rz2 H2 locs hq hF => ?_))
            obtain ⟨hbrz2, hq⟩ := hq
            subst hq
            refine lv_if_ne (tgt := 219) hx hb d_Model_point_214 (by decide) (fun _ => ?_) (fun _ => ?_)
            · skip
              refine lv_aload_n hx hb d_Model_point_219 rfl (lv_at hl 2 rfl) ?_
              refine lv_iload_n hx hb d_Model_point_220 rfl (lv_at hl 3 rfl) ?_
              refine q_cS (rest := [.ref mo]) E (c_Model_slot l g n0 (nI k1)) w_1154 w_15 w_1152 w_1153 hd_Model_slot rfl ⟨by decide, by decide⟩ trivial hF hl.1 rfl (Nat.le_of_ble_eq_true rfl) d_Model_point_221 ⟨by decide, by decide⟩ (qi (fun rs H3 locs hq hF => ?_))
              obtain ⟨hrs, hq9⟩ := hq
              subst hrs
              subst hq9
              refine lv_topi (fun t9 e9 => ?_)
              obtain rfl : t9 = nI (32 + 3 * k1) := e9.trans (by rw [pk_mul, nI_add])
              refine q_cV (rest := []) E (c_Model_nothing l g n0 mo (32 + 3 * k1) 0 (nI pn) (nI 0) (nI wn) 0 14 hw0 fd1 (by omega)) w_996 w_15 w_993 w_995 (bw_s 22 rfl) hd_Model_nothing rfl ⟨by decide, by decide⟩ (OB.recv E.2.2.2.2.2 (by rfl) hm.1) hm hF hl.1 rfl (Nat.le_of_ble_eq_true rfl) d_Model_point_224 ⟨by decide, by decide⟩ (qv (fun H4 locs hq hF => ?_))
              obtain ⟨hq, fd_18, hm, hS9, hz1, hone, hz2⟩ := hq
              have hfr := hfr.tr hq
              refine lv_iconst (v := nI 0) hx hb d_Model_point_227 (by decide) ?_
              exact q_iret E hr hlk (⟨_, rfl, Or.inl ⟨hok, hP.fin hfr hw0 hm ⟨hbd.1, Nat.zero_le _, hbd.2.2⟩⟩⟩) hF d_Model_point_228
            · skip
              refine lv_iconst (v := nI 3) hx hb d_Model_point_217 (by decide) ?_
              exact q_iret E hr hlk (⟨_, rfl, Or.inl ⟨hok, hP.fin hfr hw0 hm ⟨hbd.1, Nat.zero_le _, hbd.2.2⟩⟩⟩) hF d_Model_point_218
    have rd : ∀ (k : Nat) (i : Nat) (H : Heap) (locs : List Loc) (ls : Array Slot) (fd1 : Nat → Int64) (x3 : Int32), i + k = tn → FRM (MR mo) s.heap H → MS g n0 H mo 0 (nI pn) (nI 0) (nI wn) 0 14 fd1 → (∀ q ∈ locs, n0 q.base) → lv_has ls 6 [(5, .int (nI i)), (3, .int x3), (2, .int (nI tn)), (0, .ref mo), (1, .int (nI k1))] → W p l e { frames := 6, cells := 0, slots := 0, locals := 143 } s m [.ref mo, .int a].toArray below meth c H locs 0 0 (MQ below (QcP (QI (fun r H H' => ((okP a (nI 1)) ∧ MP g n0 H' mo 0 pn 0 wn) ∨ (¬ (okP a (nI 1)) ∧ MP g n0 H' mo 1 pn tn wn)))) [.ref mo, .int a].toArray s 0 0 (fun q => n0 q)) (F0 m 122 ls []) := by
      intro k
      induction k with
      | zero =>
        intro  i   H   locs   ls   fd1   x3 hi hfr hm hF hl
        obtain rfl : tn = i := by omega
        refine lv_iload hx hb d_Model_point_122 (lv_at hl 0 rfl) ?_
        refine lv_iload_n hx hb d_Model_point_124 rfl (lv_at hl 2 rfl) ?_
        refine lv_icmp_ge (tgt := 186) hx hb d_Model_point_125 (by decide) (fun _ => ?_) (fun h9 => absurd (nI_le (Nat.le_refl _) (by omega)) h9)
        have hl : lv_has ls 6 [(3, .int x3), (2, .int (nI tn)), (0, .ref mo), (1, .int (nI k1))] := lv_sub hl [1, 2, 3, 4] rfl
        exact s186 _ _ ls _ _ hfr hm hF hl
      | succ k ih =>
        intro  i   H   locs   ls   fd1   x3 hi hfr hm hF hl
        refine lv_iload hx hb d_Model_point_122 (lv_at hl 0 rfl) ?_
        refine lv_iload_n hx hb d_Model_point_124 rfl (lv_at hl 2 rfl) ?_
        refine lv_icmp_ge (tgt := 186) hx hb d_Model_point_125 (by decide) (fun h9 => absurd h9 (nI_ge (by omega) (by omega))) (fun _ => ?_)
        refine lv_aload_n hx hb d_Model_point_128 rfl (lv_at hl 3 rfl) ?_
        refine lv_iload hx hb d_Model_point_129 (lv_at hl 0 rfl) ?_
        refine lv_bipush (v := nI 48) hx hb d_Model_point_131 (by decide) ?_
        refine lv_icmp_ge (tgt := 142) hx hb d_Model_point_133 (by decide) (fun _ => ?_) (fun _ => ?_)
        · skip
          refine lv_sipush (v := nI 149) hx hb d_Model_point_142 (by decide) ?_
          refine lv_bipush (v := nI 47) hx hb d_Model_point_145 (by decide) ?_
          refine lv_iload hx hb d_Model_point_147 (lv_at hl 0 rfl) ?_
          refine lv_bipush (v := nI 48) hx hb d_Model_point_149 (by decide) ?_
          refine lv_irem hx hb d_Model_point_151 (by decide) ?_
          refine lv_topi (fun t9 e9 => ?_)
          obtain rfl : t9 = nI (i - i / 48 * 48) := e9.trans (rem48 (by omega))
          refine lv_isub hx hb d_Model_point_152 ?_
          refine lv_topi (fun t9 e9 => ?_)
          obtain rfl : t9 = nI (47 - (i - i / 48 * 48)) := e9.trans (pk_sub (by omega))
          refine lv_iload hx hb d_Model_point_153 (lv_at hl 0 rfl) ?_
          refine lv_if_ne (tgt := 170) hx hb d_Model_point_155 (by decide) (fun _ => ?_) (fun _ => ?_)
          · skip
            refine lv_aload_n hx hb d_Model_point_170 rfl (lv_at hl 3 rfl) ?_
            refine q_get (C := "KateDeskModel") (T := T_Model) (N := 14) (ci := 8) E hm.1 in_Model rfl 9 (by decide) w_1010 rfl rfl d_Model_point_171 ?_
            refine lv_iload hx hb d_Model_point_174 (lv_at hl 0 rfl) ?_
            obtain ⟨fq, hfq⟩ := id (hP.2.2.1.imp (fun f hf => AI.off hfr (show ¬ MR mo (mo + 6) by unfold MR; omega) hf))
            refine q_iald E hfq i rfl (by omega) (by decide) d_Model_point_176 ?_
            refine q_cV (rest := []) E (c_Model_setByte l g n0 mo 149 (47 - (i - i / 48 * 48)) (fq i) 0 (nI pn) (nI 0) (nI wn) 0 14 hw0 fd1 (by omega) (by omega)) w_1068 w_15 w_1065 w_1067 (bw_s 25 rfl) hd_Model_setByte rfl ⟨by decide, by decide⟩ (OB.recv E.2.2.2.2.2 (by rfl) hm.1) hm hF hl.1 rfl (Nat.le_of_ble_eq_true rfl) d_Model_point_177 ⟨by decide, by decide⟩ (qv (fun H1 locs hq hF => ?_))
            obtain ⟨hq, fd_19, hm, -⟩ := hq
            have hfr := hfr.tr hq
            refine lv_iinc (k := 0) (v := nI (i + 1)) (lv' := [(5, .int (nI (i + 1))), (3, .int x3), (2, .int (nI tn)), (0, .ref mo), (1, .int (nI k1))]) hx hb d_Model_point_180 hl rfl (i_inc i) (by decide) rfl (fun ls hl => ?_)
            refine lv_goto (tgt := 122) hx hb d_Model_point_183 (by decide) ?_
            have hl : lv_has ls 6 [(5, .int (nI (i + 1))), (3, .int x3), (2, .int (nI tn)), (0, .ref mo), (1, .int (nI k1))] := lv_sub hl [0, 1, 2, 3, 4] rfl
            exact ih (i + 1) _ _ ls _ _ (by omega) hfr hm hF hl
          · skip
            refine lv_aload_n hx hb d_Model_point_158 rfl (lv_at hl 3 rfl) ?_
            refine q_get (C := "KateDeskModel") (T := T_Model) (N := 14) (ci := 8) E hm.1 in_Model rfl 9 (by decide) w_1010 rfl rfl d_Model_point_159 ?_
            refine lv_iconst (v := nI 0) hx hb d_Model_point_162 (by decide) ?_
            obtain ⟨fq, hfq⟩ := id (hP.2.2.1.imp (fun f hf => AI.off hfr (show ¬ MR mo (mo + 6) by unfold MR; omega) hf))
            refine q_iald E hfq 0 rfl (by omega) (by decide) d_Model_point_163 ?_
            refine lv_bipush (v := nI 31) hx hb d_Model_point_164 (by decide) ?_
            refine lv_iand hx hb d_Model_point_166 ?_
            refine lv_goto (tgt := 177) hx hb d_Model_point_167 (by decide) ?_
            refine q_cV (rest := []) E (c_Model_setByte l g n0 mo 149 (47 - (i - i / 48 * 48)) ((fq 0) &&& (nI 31)) 0 (nI pn) (nI 0) (nI wn) 0 14 hw0 fd1 (by omega) (by omega)) w_1068 w_15 w_1065 w_1067 (bw_s 25 rfl) hd_Model_setByte rfl ⟨by decide, by decide⟩ (OB.recv E.2.2.2.2.2 (by rfl) hm.1) hm hF hl.1 rfl (Nat.le_of_ble_eq_true rfl) d_Model_point_177 ⟨by decide, by decide⟩ (qv (fun H1 locs hq hF => ?_))
            obtain ⟨hq, fd_20, hm, -⟩ := hq
            have hfr := hfr.tr hq
            refine lv_iinc (k := 0) (v := nI (i + 1)) (lv' := [(5, .int (nI (i + 1))), (3, .int x3), (2, .int (nI tn)), (0, .ref mo), (1, .int (nI k1))]) hx hb d_Model_point_180 hl rfl (i_inc i) (by decide) rfl (fun ls hl => ?_)
            refine lv_goto (tgt := 122) hx hb d_Model_point_183 (by decide) ?_
            have hl : lv_has ls 6 [(5, .int (nI (i + 1))), (3, .int x3), (2, .int (nI tn)), (0, .ref mo), (1, .int (nI k1))] := lv_sub hl [0, 1, 2, 3, 4] rfl
            exact ih (i + 1) _ _ ls _ _ (by omega) hfr hm hF hl
        · skip
          refine lv_sipush (v := nI 148) hx hb d_Model_point_136 (by decide) ?_
          refine lv_goto (tgt := 145) hx hb d_Model_point_139 (by decide) ?_
          refine lv_bipush (v := nI 47) hx hb d_Model_point_145 (by decide) ?_
          refine lv_iload hx hb d_Model_point_147 (lv_at hl 0 rfl) ?_
          refine lv_bipush (v := nI 48) hx hb d_Model_point_149 (by decide) ?_
          refine lv_irem hx hb d_Model_point_151 (by decide) ?_
          refine lv_topi (fun t9 e9 => ?_)
          obtain rfl : t9 = nI (i - i / 48 * 48) := e9.trans (rem48 (by omega))
          refine lv_isub hx hb d_Model_point_152 ?_
          refine lv_topi (fun t9 e9 => ?_)
          obtain rfl : t9 = nI (47 - (i - i / 48 * 48)) := e9.trans (pk_sub (by omega))
          refine lv_iload hx hb d_Model_point_153 (lv_at hl 0 rfl) ?_
          refine lv_if_ne (tgt := 170) hx hb d_Model_point_155 (by decide) (fun _ => ?_) (fun _ => ?_)
          · skip
            refine lv_aload_n hx hb d_Model_point_170 rfl (lv_at hl 3 rfl) ?_
            refine q_get (C := "KateDeskModel") (T := T_Model) (N := 14) (ci := 8) E hm.1 in_Model rfl 9 (by decide) w_1010 rfl rfl d_Model_point_171 ?_
            refine lv_iload hx hb d_Model_point_174 (lv_at hl 0 rfl) ?_
            obtain ⟨fq, hfq⟩ := id (hP.2.2.1.imp (fun f hf => AI.off hfr (show ¬ MR mo (mo + 6) by unfold MR; omega) hf))
            refine q_iald E hfq i rfl (by omega) (by decide) d_Model_point_176 ?_
            refine q_cV (rest := []) E (c_Model_setByte l g n0 mo 148 (47 - (i - i / 48 * 48)) (fq i) 0 (nI pn) (nI 0) (nI wn) 0 14 hw0 fd1 (by omega) (by omega)) w_1068 w_15 w_1065 w_1067 (bw_s 25 rfl) hd_Model_setByte rfl ⟨by decide, by decide⟩ (OB.recv E.2.2.2.2.2 (by rfl) hm.1) hm hF hl.1 rfl (Nat.le_of_ble_eq_true rfl) d_Model_point_177 ⟨by decide, by decide⟩ (qv (fun H1 locs hq hF => ?_))
            obtain ⟨hq, fd_21, hm, -⟩ := hq
            have hfr := hfr.tr hq
            refine lv_iinc (k := 0) (v := nI (i + 1)) (lv' := [(5, .int (nI (i + 1))), (3, .int x3), (2, .int (nI tn)), (0, .ref mo), (1, .int (nI k1))]) hx hb d_Model_point_180 hl rfl (i_inc i) (by decide) rfl (fun ls hl => ?_)
            refine lv_goto (tgt := 122) hx hb d_Model_point_183 (by decide) ?_
            have hl : lv_has ls 6 [(5, .int (nI (i + 1))), (3, .int x3), (2, .int (nI tn)), (0, .ref mo), (1, .int (nI k1))] := lv_sub hl [0, 1, 2, 3, 4] rfl
            exact ih (i + 1) _ _ ls _ _ (by omega) hfr hm hF hl
          · skip
            refine lv_aload_n hx hb d_Model_point_158 rfl (lv_at hl 3 rfl) ?_
            refine q_get (C := "KateDeskModel") (T := T_Model) (N := 14) (ci := 8) E hm.1 in_Model rfl 9 (by decide) w_1010 rfl rfl d_Model_point_159 ?_
            refine lv_iconst (v := nI 0) hx hb d_Model_point_162 (by decide) ?_
            obtain ⟨fq, hfq⟩ := id (hP.2.2.1.imp (fun f hf => AI.off hfr (show ¬ MR mo (mo + 6) by unfold MR; omega) hf))
            refine q_iald E hfq 0 rfl (by omega) (by decide) d_Model_point_163 ?_
            refine lv_bipush (v := nI 31) hx hb d_Model_point_164 (by decide) ?_
            refine lv_iand hx hb d_Model_point_166 ?_
            refine lv_goto (tgt := 177) hx hb d_Model_point_167 (by decide) ?_
            refine q_cV (rest := []) E (c_Model_setByte l g n0 mo 148 (47 - (i - i / 48 * 48)) ((fq 0) &&& (nI 31)) 0 (nI pn) (nI 0) (nI wn) 0 14 hw0 fd1 (by omega) (by omega)) w_1068 w_15 w_1065 w_1067 (bw_s 25 rfl) hd_Model_setByte rfl ⟨by decide, by decide⟩ (OB.recv E.2.2.2.2.2 (by rfl) hm.1) hm hF hl.1 rfl (Nat.le_of_ble_eq_true rfl) d_Model_point_177 ⟨by decide, by decide⟩ (qv (fun H1 locs hq hF => ?_))
            obtain ⟨hq, fd_22, hm, -⟩ := hq
            have hfr := hfr.tr hq
            refine lv_iinc (k := 0) (v := nI (i + 1)) (lv' := [(5, .int (nI (i + 1))), (3, .int x3), (2, .int (nI tn)), (0, .ref mo), (1, .int (nI k1))]) hx hb d_Model_point_180 hl rfl (i_inc i) (by decide) rfl (fun ls hl => ?_)
            refine lv_goto (tgt := 122) hx hb d_Model_point_183 (by decide) ?_
            have hl : lv_has ls 6 [(5, .int (nI (i + 1))), (3, .int x3), (2, .int (nI tn)), (0, .ref mo), (1, .int (nI k1))] := lv_sub hl [0, 1, 2, 3, 4] rfl
            exact ih (i + 1) _ _ ls _ _ (by omega) hfr hm hF hl
    have s100 : ∀ (H : Heap) (locs : List Loc) (ls : Array Slot) (fd1 : Nat → Int64) (x3 : Int32), FRM (MR mo) s.heap H → MS g n0 H mo 0 (nI pn) (nI 0) (nI wn) w9 n9 fd1 → (∀ q ∈ locs, n0 q.base) → lv_has ls 6 [(3, .int x3), (2, .int (nI tn)), (0, .ref mo), (1, .int (nI k1))] → W p l e { frames := 6, cells := 0, slots := 0, locals := 143 } s m [.ref mo, .int a].toArray below meth c H locs 0 0 (MQ below (QcP (QI (fun r H H' => ((okP a (nI 1)) ∧ MP g n0 H' mo 0 pn 0 wn) ∨ (¬ (okP a (nI 1)) ∧ MP g n0 H' mo 1 pn tn wn)))) [.ref mo, .int a].toArray s 0 0 (fun q => n0 q)) (F0 m 100 ls []) := by
      intro  H   locs   ls   fd1   x3 hfr hm hF hl
      refine lv_aload_n hx hb d_Model_point_100 rfl (lv_at hl 2 rfl) ?_
      refine lv_iconst (v := nI 0) hx hb d_Model_point_101 (by decide) ?_
      refine q_cV (rest := []) E (c_Model_use l g n0 mo 0 (nI pn) (nI 0) (nI wn) w9 n9 hw9 0 14 hw0 fd1 hmn) w_967 w_15 w_964 w_966 (bw_s 15 rfl) hd_Model_use rfl ⟨by decide, by decide⟩ (OB.recv E.2.2.2.2.2 (by rfl) hm.1) hm hF hl.1 rfl (Nat.le_of_ble_eq_true rfl) d_Model_point_102 ⟨by decide, by decide⟩ (qv (fun H1 locs hq hF => ?_))
      obtain ⟨hq, hm⟩ := hq
      have hfr := hfr.tr hq
      refine lv_aload_n hx hb d_Model_point_105 rfl (lv_at hl 2 rfl) ?_
      refine lv_sipush (v := nI 148) hx hb d_Model_point_106 (by decide) ?_
      refine q_cV (rest := []) E (c_Model_zero l g n0 mo 148 0 (nI pn) (nI 0) (nI wn) 0 14 hw0  fd1 (by omega) ) w_1000 w_15 w_997 w_999 (bw_s 23 rfl) hd_Model_zero rfl ⟨by decide, by decide⟩ (OB.recv E.2.2.2.2.2 (by rfl) hm.1) hm hF hl.1 rfl (Nat.le_of_ble_eq_true rfl) d_Model_point_109 ⟨by decide, by decide⟩ (qv (fun H2 locs hq hF => ?_))
      obtain ⟨hq, fd_23, hm, hpv⟩ := hq
      have hfr := hfr.tr hq
      refine lv_aload_n hx hb d_Model_point_112 rfl (lv_at hl 2 rfl) ?_
      refine lv_sipush (v := nI 149) hx hb d_Model_point_113 (by decide) ?_
      refine q_cV (rest := []) E (c_Model_zero l g n0 mo 149 0 (nI pn) (nI 0) (nI wn) 0 14 hw0  fd_23 (by omega) ) w_1000 w_15 w_997 w_999 (bw_s 23 rfl) hd_Model_zero rfl ⟨by decide, by decide⟩ (OB.recv E.2.2.2.2.2 (by rfl) hm.1) hm hF hl.1 rfl (Nat.le_of_ble_eq_true rfl) d_Model_point_116 ⟨by decide, by decide⟩ (qv (fun H3 locs hq hF => ?_))
      obtain ⟨hq, fd_24, hm, hpv⟩ := hq
      have hfr := hfr.tr hq
      refine lv_iconst (v := nI 0) hx hb d_Model_point_119 (by decide) ?_
      refine lv_istore (lv' := [(5, .int (nI 0)), (3, .int x3), (2, .int (nI tn)), (0, .ref mo), (1, .int (nI k1))]) hx hb d_Model_point_120 hl (by decide) rfl (fun ls hl => ?_)
      have hl : lv_has ls 6 [(5, .int (nI 0)), (3, .int x3), (2, .int (nI tn)), (0, .ref mo), (1, .int (nI k1))] := lv_sub hl [0, 1, 2, 3, 4] rfl
      exact rd tn 0 _ _ ls _ _ (by omega) hfr hm hF hl
    refine lv_iload_n hx hb d_Model_point_24 rfl (lv_at hl 0 rfl) ?_
    refine lv_bipush (v := nI 48) hx hb d_Model_point_25 (by decide) ?_
    refine lv_icmp_eq (tgt := 38) hx hb d_Model_point_27 (by decide) (fun _ => ?_) (fun _ => ?_)
    · skip
      refine lv_aload_n hx hb d_Model_point_38 rfl (lv_at hl 1 rfl) ?_
      refine q_get (C := "KateDeskModel") (T := T_Model) (N := 14) (ci := 8) E hm.1 in_Model rfl 9 (by decide) w_1010 rfl rfl d_Model_point_39 ?_
      refine lv_iconst (v := nI 0) hx hb d_Model_point_42 (by decide) ?_
      obtain ⟨fq, hfq⟩ := id (hP.2.2.1.imp (fun f hf => AI.off hfr (show ¬ MR mo (mo + 6) by unfold MR; omega) hf))
      refine q_iald E hfq 0 rfl (by omega) (by decide) d_Model_point_43 ?_
      refine lv_iconst (v := nI 5) hx hb d_Model_point_44 (by decide) ?_
      refine lv_ishr hx hb d_Model_point_45 ?_
      refine lv_topi (fun v1 _ => ?_)
      refine lv_istore_n (lv' := [(3, .int v1), (2, .int (nI tn)), (0, .ref mo), (1, .int (nI k1))]) hx hb d_Model_point_46 rfl hl (by decide) rfl (fun ls hl => ?_)
      refine lv_iload_n hx hb d_Model_point_47 rfl (lv_at hl 1 rfl) ?_
      refine lv_bipush (v := nI 48) hx hb d_Model_point_48 (by decide) ?_
      refine lv_icmp_ne (tgt := 77) hx hb d_Model_point_50 (by decide) (fun _ => ?_) (fun _ => ?_)
      · skip
        refine lv_iload_n hx hb d_Model_point_77 rfl (lv_at hl 0 rfl) ?_
        refine lv_if_eq (tgt := 86) hx hb d_Model_point_78 (by decide) (fun _ => ?_) (fun _ => ?_)
        · skip
          refine lv_iconst (v := nI 1) hx hb d_Model_point_86 (by decide) ?_
          refine lv_goto (tgt := 91) hx hb d_Model_point_87 (by decide) ?_
          refine lv_istore (lv' := [(4, .int (nI 1)), (3, .int v1), (2, .int (nI tn)), (0, .ref mo), (1, .int (nI k1))]) hx hb d_Model_point_91 hl (by decide) rfl (fun ls hl => ?_)
          refine lv_iload hx hb d_Model_point_93 (lv_at hl 0 rfl) ?_
          refine lv_if_ne (tgt := 100) hx hb d_Model_point_95 (by decide) (fun _ => ?_) (fun h9 => absurd h9 (by decide))
          have hl : lv_has ls 6 [(3, .int v1), (2, .int (nI tn)), (0, .ref mo), (1, .int (nI k1))] := lv_sub hl [1, 2, 3, 4] rfl
          exact s100 _ _ ls _ _ hfr hm hF hl
        · skip
          refine lv_iload_n hx hb d_Model_point_81 rfl (lv_at hl 0 rfl) ?_
          refine lv_iconst (v := nI 2) hx hb d_Model_point_82 (by decide) ?_
          refine lv_icmp_ne (tgt := 90) hx hb d_Model_point_83 (by decide) (fun _ => ?_) (fun _ => ?_)
          · skip
            refine lv_iconst (v := nI 0) hx hb d_Model_point_90 (by decide) ?_
            refine lv_istore (lv' := [(4, .int (nI 0)), (3, .int v1), (2, .int (nI tn)), (0, .ref mo), (1, .int (nI k1))]) hx hb d_Model_point_91 hl (by decide) rfl (fun ls hl => ?_)
            refine lv_iload hx hb d_Model_point_93 (lv_at hl 0 rfl) ?_
            refine lv_if_ne (tgt := 100) hx hb d_Model_point_95 (by decide) (fun h9 => absurd (by decide) h9) (fun _ => ?_)
            refine lv_iconst (v := nI 2) hx hb d_Model_point_98 (by decide) ?_
            exact q_iret E hr hlk (⟨_, rfl, Or.inl ⟨hok, hP.fin hfr hw9 hm ⟨hbd.1, Nat.zero_le _, hbd.2.2⟩⟩⟩) hF d_Model_point_99
          · skip
            refine lv_iconst (v := nI 1) hx hb d_Model_point_86 (by decide) ?_
            refine lv_goto (tgt := 91) hx hb d_Model_point_87 (by decide) ?_
            refine lv_istore (lv' := [(4, .int (nI 1)), (3, .int v1), (2, .int (nI tn)), (0, .ref mo), (1, .int (nI k1))]) hx hb d_Model_point_91 hl (by decide) rfl (fun ls hl => ?_)
            refine lv_iload hx hb d_Model_point_93 (lv_at hl 0 rfl) ?_
            refine lv_if_ne (tgt := 100) hx hb d_Model_point_95 (by decide) (fun _ => ?_) (fun h9 => absurd h9 (by decide))
            have hl : lv_has ls 6 [(3, .int v1), (2, .int (nI tn)), (0, .ref mo), (1, .int (nI k1))] := lv_sub hl [1, 2, 3, 4] rfl
            exact s100 _ _ ls _ _ hfr hm hF hl
      · skip
        refine lv_iload_n hx hb d_Model_point_53 rfl (lv_at hl 0 rfl) ?_
        refine lv_iconst (v := nI 4) hx hb d_Model_point_54 (by decide) ?_
        refine lv_icmp_eq (tgt := 69) hx hb d_Model_point_55 (by decide) (fun _ => ?_) (fun _ => ?_)
        · skip
          refine lv_iconst (v := nI 1) hx hb d_Model_point_69 (by decide) ?_
          refine lv_goto (tgt := 91) hx hb d_Model_point_70 (by decide) ?_
          refine lv_istore (lv' := [(4, .int (nI 1)), (3, .int v1), (2, .int (nI tn)), (0, .ref mo), (1, .int (nI k1))]) hx hb d_Model_point_91 hl (by decide) rfl (fun ls hl => ?_)
          refine lv_iload hx hb d_Model_point_93 (lv_at hl 0 rfl) ?_
          refine lv_if_ne (tgt := 100) hx hb d_Model_point_95 (by decide) (fun _ => ?_) (fun h9 => absurd h9 (by decide))
          have hl : lv_has ls 6 [(3, .int v1), (2, .int (nI tn)), (0, .ref mo), (1, .int (nI k1))] := lv_sub hl [1, 2, 3, 4] rfl
          exact s100 _ _ ls _ _ hfr hm hF hl
        · skip
          refine lv_iload_n hx hb d_Model_point_58 rfl (lv_at hl 0 rfl) ?_
          refine lv_iconst (v := nI 5) hx hb d_Model_point_59 (by decide) ?_
          refine lv_icmp_eq (tgt := 69) hx hb d_Model_point_60 (by decide) (fun _ => ?_) (fun _ => ?_)
          · skip
            refine lv_iconst (v := nI 1) hx hb d_Model_point_69 (by decide) ?_
            refine lv_goto (tgt := 91) hx hb d_Model_point_70 (by decide) ?_
            refine lv_istore (lv' := [(4, .int (nI 1)), (3, .int v1), (2, .int (nI tn)), (0, .ref mo), (1, .int (nI k1))]) hx hb d_Model_point_91 hl (by decide) rfl (fun ls hl => ?_)
            refine lv_iload hx hb d_Model_point_93 (lv_at hl 0 rfl) ?_
            refine lv_if_ne (tgt := 100) hx hb d_Model_point_95 (by decide) (fun _ => ?_) (fun h9 => absurd h9 (by decide))
            have hl : lv_has ls 6 [(3, .int v1), (2, .int (nI tn)), (0, .ref mo), (1, .int (nI k1))] := lv_sub hl [1, 2, 3, 4] rfl
            exact s100 _ _ ls _ _ hfr hm hF hl
          · skip
            refine lv_iload_n hx hb d_Model_point_63 rfl (lv_at hl 0 rfl) ?_
            refine lv_bipush (v := nI 6) hx hb d_Model_point_64 (by decide) ?_
            refine lv_icmp_ne (tgt := 73) hx hb d_Model_point_66 (by decide) (fun _ => ?_) (fun _ => ?_)
            · skip
              refine lv_iconst (v := nI 0) hx hb d_Model_point_73 (by decide) ?_
              refine lv_goto (tgt := 91) hx hb d_Model_point_74 (by decide) ?_
              refine lv_istore (lv' := [(4, .int (nI 0)), (3, .int v1), (2, .int (nI tn)), (0, .ref mo), (1, .int (nI k1))]) hx hb d_Model_point_91 hl (by decide) rfl (fun ls hl => ?_)
              refine lv_iload hx hb d_Model_point_93 (lv_at hl 0 rfl) ?_
              refine lv_if_ne (tgt := 100) hx hb d_Model_point_95 (by decide) (fun h9 => absurd (by decide) h9) (fun _ => ?_)
              refine lv_iconst (v := nI 2) hx hb d_Model_point_98 (by decide) ?_
              exact q_iret E hr hlk (⟨_, rfl, Or.inl ⟨hok, hP.fin hfr hw9 hm ⟨hbd.1, Nat.zero_le _, hbd.2.2⟩⟩⟩) hF d_Model_point_99
            · skip
              refine lv_iconst (v := nI 1) hx hb d_Model_point_69 (by decide) ?_
              refine lv_goto (tgt := 91) hx hb d_Model_point_70 (by decide) ?_
              refine lv_istore (lv' := [(4, .int (nI 1)), (3, .int v1), (2, .int (nI tn)), (0, .ref mo), (1, .int (nI k1))]) hx hb d_Model_point_91 hl (by decide) rfl (fun ls hl => ?_)
              refine lv_iload hx hb d_Model_point_93 (lv_at hl 0 rfl) ?_
              refine lv_if_ne (tgt := 100) hx hb d_Model_point_95 (by decide) (fun _ => ?_) (fun h9 => absurd h9 (by decide))
              have hl : lv_has ls 6 [(3, .int v1), (2, .int (nI tn)), (0, .ref mo), (1, .int (nI k1))] := lv_sub hl [1, 2, 3, 4] rfl
              exact s100 _ _ ls _ _ hfr hm hF hl
    · skip
      refine lv_iload_n hx hb d_Model_point_30 rfl (lv_at hl 0 rfl) ?_
      refine lv_bipush (v := nI 96) hx hb d_Model_point_31 (by decide) ?_
      refine lv_icmp_eq (tgt := 38) hx hb d_Model_point_33 (by decide) (fun _ => ?_) (fun _ => ?_)
      · skip
        refine lv_aload_n hx hb d_Model_point_38 rfl (lv_at hl 1 rfl) ?_
        refine q_get (C := "KateDeskModel") (T := T_Model) (N := 14) (ci := 8) E hm.1 in_Model rfl 9 (by decide) w_1010 rfl rfl d_Model_point_39 ?_
        refine lv_iconst (v := nI 0) hx hb d_Model_point_42 (by decide) ?_
        obtain ⟨fq, hfq⟩ := id (hP.2.2.1.imp (fun f hf => AI.off hfr (show ¬ MR mo (mo + 6) by unfold MR; omega) hf))
        refine q_iald E hfq 0 rfl (by omega) (by decide) d_Model_point_43 ?_
        refine lv_iconst (v := nI 5) hx hb d_Model_point_44 (by decide) ?_
        refine lv_ishr hx hb d_Model_point_45 ?_
        refine lv_topi (fun v1 _ => ?_)
        refine lv_istore_n (lv' := [(3, .int v1), (2, .int (nI tn)), (0, .ref mo), (1, .int (nI k1))]) hx hb d_Model_point_46 rfl hl (by decide) rfl (fun ls hl => ?_)
        refine lv_iload_n hx hb d_Model_point_47 rfl (lv_at hl 1 rfl) ?_
        refine lv_bipush (v := nI 48) hx hb d_Model_point_48 (by decide) ?_
        refine lv_icmp_ne (tgt := 77) hx hb d_Model_point_50 (by decide) (fun _ => ?_) (fun _ => ?_)
        · skip
          refine lv_iload_n hx hb d_Model_point_77 rfl (lv_at hl 0 rfl) ?_
          refine lv_if_eq (tgt := 86) hx hb d_Model_point_78 (by decide) (fun _ => ?_) (fun _ => ?_)
          · skip
            refine lv_iconst (v := nI 1) hx hb d_Model_point_86 (by decide) ?_
            refine lv_goto (tgt := 91) hx hb d_Model_point_87 (by decide) ?_
            refine lv_istore (lv' := [(4, .int (nI 1)), (3, .int v1), (2, .int (nI tn)), (0, .ref mo), (1, .int (nI k1))]) hx hb d_Model_point_91 hl (by decide) rfl (fun ls hl => ?_)
            refine lv_iload hx hb d_Model_point_93 (lv_at hl 0 rfl) ?_
            refine lv_if_ne (tgt := 100) hx hb d_Model_point_95 (by decide) (fun _ => ?_) (fun h9 => absurd h9 (by decide))
            have hl : lv_has ls 6 [(3, .int v1), (2, .int (nI tn)), (0, .ref mo), (1, .int (nI k1))] := lv_sub hl [1, 2, 3, 4] rfl
            exact s100 _ _ ls _ _ hfr hm hF hl
          · skip
            refine lv_iload_n hx hb d_Model_point_81 rfl (lv_at hl 0 rfl) ?_
            refine lv_iconst (v := nI 2) hx hb d_Model_point_82 (by decide) ?_
            refine lv_icmp_ne (tgt := 90) hx hb d_Model_point_83 (by decide) (fun _ => ?_) (fun _ => ?_)
            · skip
              refine lv_iconst (v := nI 0) hx hb d_Model_point_90 (by decide) ?_
              refine lv_istore (lv' := [(4, .int (nI 0)), (3, .int v1), (2, .int (nI tn)), (0, .ref mo), (1, .int (nI k1))]) hx hb d_Model_point_91 hl (by decide) rfl (fun ls hl => ?_)
              refine lv_iload hx hb d_Model_point_93 (lv_at hl 0 rfl) ?_
              refine lv_if_ne (tgt := 100) hx hb d_Model_point_95 (by decide) (fun h9 => absurd (by decide) h9) (fun _ => ?_)
              refine lv_iconst (v := nI 2) hx hb d_Model_point_98 (by decide) ?_
              exact q_iret E hr hlk (⟨_, rfl, Or.inl ⟨hok, hP.fin hfr hw9 hm ⟨hbd.1, Nat.zero_le _, hbd.2.2⟩⟩⟩) hF d_Model_point_99
            · skip
              refine lv_iconst (v := nI 1) hx hb d_Model_point_86 (by decide) ?_
              refine lv_goto (tgt := 91) hx hb d_Model_point_87 (by decide) ?_
              refine lv_istore (lv' := [(4, .int (nI 1)), (3, .int v1), (2, .int (nI tn)), (0, .ref mo), (1, .int (nI k1))]) hx hb d_Model_point_91 hl (by decide) rfl (fun ls hl => ?_)
              refine lv_iload hx hb d_Model_point_93 (lv_at hl 0 rfl) ?_
              refine lv_if_ne (tgt := 100) hx hb d_Model_point_95 (by decide) (fun _ => ?_) (fun h9 => absurd h9 (by decide))
              have hl : lv_has ls 6 [(3, .int v1), (2, .int (nI tn)), (0, .ref mo), (1, .int (nI k1))] := lv_sub hl [1, 2, 3, 4] rfl
              exact s100 _ _ ls _ _ hfr hm hF hl
        · skip
          refine lv_iload_n hx hb d_Model_point_53 rfl (lv_at hl 0 rfl) ?_
          refine lv_iconst (v := nI 4) hx hb d_Model_point_54 (by decide) ?_
          refine lv_icmp_eq (tgt := 69) hx hb d_Model_point_55 (by decide) (fun _ => ?_) (fun _ => ?_)
          · skip
            refine lv_iconst (v := nI 1) hx hb d_Model_point_69 (by decide) ?_
            refine lv_goto (tgt := 91) hx hb d_Model_point_70 (by decide) ?_
            refine lv_istore (lv' := [(4, .int (nI 1)), (3, .int v1), (2, .int (nI tn)), (0, .ref mo), (1, .int (nI k1))]) hx hb d_Model_point_91 hl (by decide) rfl (fun ls hl => ?_)
            refine lv_iload hx hb d_Model_point_93 (lv_at hl 0 rfl) ?_
            refine lv_if_ne (tgt := 100) hx hb d_Model_point_95 (by decide) (fun _ => ?_) (fun h9 => absurd h9 (by decide))
            have hl : lv_has ls 6 [(3, .int v1), (2, .int (nI tn)), (0, .ref mo), (1, .int (nI k1))] := lv_sub hl [1, 2, 3, 4] rfl
            exact s100 _ _ ls _ _ hfr hm hF hl
          · skip
            refine lv_iload_n hx hb d_Model_point_58 rfl (lv_at hl 0 rfl) ?_
            refine lv_iconst (v := nI 5) hx hb d_Model_point_59 (by decide) ?_
            refine lv_icmp_eq (tgt := 69) hx hb d_Model_point_60 (by decide) (fun _ => ?_) (fun _ => ?_)
            · skip
              refine lv_iconst (v := nI 1) hx hb d_Model_point_69 (by decide) ?_
              refine lv_goto (tgt := 91) hx hb d_Model_point_70 (by decide) ?_
              refine lv_istore (lv' := [(4, .int (nI 1)), (3, .int v1), (2, .int (nI tn)), (0, .ref mo), (1, .int (nI k1))]) hx hb d_Model_point_91 hl (by decide) rfl (fun ls hl => ?_)
              refine lv_iload hx hb d_Model_point_93 (lv_at hl 0 rfl) ?_
              refine lv_if_ne (tgt := 100) hx hb d_Model_point_95 (by decide) (fun _ => ?_) (fun h9 => absurd h9 (by decide))
              have hl : lv_has ls 6 [(3, .int v1), (2, .int (nI tn)), (0, .ref mo), (1, .int (nI k1))] := lv_sub hl [1, 2, 3, 4] rfl
              exact s100 _ _ ls _ _ hfr hm hF hl
            · skip
              refine lv_iload_n hx hb d_Model_point_63 rfl (lv_at hl 0 rfl) ?_
              refine lv_bipush (v := nI 6) hx hb d_Model_point_64 (by decide) ?_
              refine lv_icmp_ne (tgt := 73) hx hb d_Model_point_66 (by decide) (fun _ => ?_) (fun _ => ?_)
              · skip
                refine lv_iconst (v := nI 0) hx hb d_Model_point_73 (by decide) ?_
                refine lv_goto (tgt := 91) hx hb d_Model_point_74 (by decide) ?_
                refine lv_istore (lv' := [(4, .int (nI 0)), (3, .int v1), (2, .int (nI tn)), (0, .ref mo), (1, .int (nI k1))]) hx hb d_Model_point_91 hl (by decide) rfl (fun ls hl => ?_)
                refine lv_iload hx hb d_Model_point_93 (lv_at hl 0 rfl) ?_
                refine lv_if_ne (tgt := 100) hx hb d_Model_point_95 (by decide) (fun h9 => absurd (by decide) h9) (fun _ => ?_)
                refine lv_iconst (v := nI 2) hx hb d_Model_point_98 (by decide) ?_
                exact q_iret E hr hlk (⟨_, rfl, Or.inl ⟨hok, hP.fin hfr hw9 hm ⟨hbd.1, Nat.zero_le _, hbd.2.2⟩⟩⟩) hF d_Model_point_99
              · skip
                refine lv_iconst (v := nI 1) hx hb d_Model_point_69 (by decide) ?_
                refine lv_goto (tgt := 91) hx hb d_Model_point_70 (by decide) ?_
                refine lv_istore (lv' := [(4, .int (nI 1)), (3, .int v1), (2, .int (nI tn)), (0, .ref mo), (1, .int (nI k1))]) hx hb d_Model_point_91 hl (by decide) rfl (fun ls hl => ?_)
                refine lv_iload hx hb d_Model_point_93 (lv_at hl 0 rfl) ?_
                refine lv_if_ne (tgt := 100) hx hb d_Model_point_95 (by decide) (fun _ => ?_) (fun h9 => absurd h9 (by decide))
                have hl : lv_has ls 6 [(3, .int v1), (2, .int (nI tn)), (0, .ref mo), (1, .int (nI k1))] := lv_sub hl [1, 2, 3, 4] rfl
                exact s100 _ _ ls _ _ hfr hm hF hl
      · skip
        refine lv_iconst (v := nI 1) hx hb d_Model_point_36 (by decide) ?_
        exact q_iret E hr hlk (⟨_, rfl, Or.inl ⟨hok, hP.fin hfr hw9 hm ⟨hbd.1, Nat.zero_le _, hbd.2.2⟩⟩⟩) hF d_Model_point_37
  refine lv_aload_n hx hb d_Model_point_0 rfl (lv_at hl 0 rfl) ?_
  refine lv_iload_n hx hb d_Model_point_1 rfl (lv_at hl 1 rfl) ?_
  refine q_cS (rest := [.ref mo]) E (c_Model_noPoint l g n0 a ) w_1151 w_15 w_1149 w_1150 hd_Model_noPoint rfl ⟨by decide, by decide⟩ trivial hF hl.1 rfl (Nat.le_of_ble_eq_true rfl) d_Model_point_2 ⟨by decide, by decide⟩ (qi (fun r_0 H1 locs hq hF => ?_))
  obtain ⟨h_0, hq⟩ := hq
  subst hq
  rcases h_0 with ⟨rfl, f_0⟩ | ⟨rfl, f_0⟩
  · skip
    have hl : lv_has ls 6 [(0, .ref mo), (1, .int a)] := lv_sub hl [0, 1] rfl
    exact bad _ ls (fun h => (f_0) h) hF hl
  · skip
    have hl : lv_has ls 6 [(0, .ref mo), (1, .int a)] := lv_sub hl [0, 1] rfl
    exact good _ ls f_0 hF hl
set_option maxHeartbeats 4000000 in
set_option maxRecDepth 100000 in
theorem G_Model_bytes (l : Launch) (g : WG) (n0 : Nat → Prop) (mo : Nat) (th : Int32) (pn tn wn : Nat) (a : Int32) (sh : Int32) : Ctr l y_Model_bytes (.code y_Model_bytes prog_11_method_47_code 6 none) 5 125 0 0 n0 g [.ref mo, .int a, .int sh] (fun H => MP g n0 H mo th pn tn wn) (QV (fun H H' => ((okP a (nI 1)) ∧ (∃ w8, MP g n0 H' mo 0 pn tn w8)) ∨ (¬ (okP a (nI 1)) ∧ MP g n0 H' mo 1 pn tn wn))) := by
  refine ctr_mk l (lv0 := [(0, .ref mo), (1, .int a), (2, .int sh)]) (by decide) (Nat.le_of_ble_eq_true rfl) rfl ?_
  intro p e s m below meth c ls E hr hlk hnm hl hP
  have hx := E.1
  have hb := E.2.1
  have hK := E.2.2.2.2.2
  have hF : ∀ q ∈ ([] : List Loc), n0 q.base := fun q hq => absurd hq List.not_mem_nil
  obtain ⟨⟨w9, n9, fd, hw9, hm⟩, -⟩ := id hP
  have hmn := hP.mn
  have hbd := hP.2.2.2.2.1
  have hfr : FRM (MR mo) s.heap s.heap := FRM.rf
  have bad : ∀ (locs : List Loc) (ls : Array Slot), ¬ (okP a (nI 1)) → (∀ q ∈ locs, n0 q.base) → lv_has ls 6 [(0, .ref mo), (1, .int a), (2, .int sh)] → W p l e { frames := 5, cells := 0, slots := 0, locals := 125 } s m [.ref mo, .int a, .int sh].toArray below meth c s.heap locs 0 0 (MQ below (QcP (QV (fun H H' => ((okP a (nI 1)) ∧ (∃ w8, MP g n0 H' mo 0 pn tn w8)) ∨ (¬ (okP a (nI 1)) ∧ MP g n0 H' mo 1 pn tn wn)))) [.ref mo, .int a, .int sh].toArray s 0 0 (fun q => n0 q)) (F0 m 5 ls [.int (nI 1), .ref mo]) := by
    intro  locs   ls hno hF hl
    refine lv_iconst (v := nI 1) hx hb d_Model_bytes_5 (by decide) ?_
    refine q_cV (rest := []) E (c_Model_fails l g n0 mo th (nI pn) (nI tn) (nI wn) w9 n9 hw9 (nI 1) (nI 1) fd hmn (Or.inl rfl)) w_1056 w_15 w_1053 w_1055 (bw_s 24 rfl) hd_Model_fails rfl ⟨by decide, by decide⟩ (OB.recv E.2.2.2.2.2 (by rfl) hm.1) hm hF hl.1 rfl (Nat.le_of_ble_eq_true rfl) d_Model_bytes_6 ⟨by decide, by decide⟩ (qi (fun rf H1 locs hq hF => ?_))
    obtain ⟨hrf, hq, hm⟩ := hq
    subst hrf
    have hfr := hfr.tr hq
    rw [if_neg (by decide)] at hm
    refine lv_if_eq (tgt := 13) hx hb d_Model_bytes_9 (by decide) (fun h9 => absurd h9 (by decide)) (fun _ => ?_)
    exact q_vret E hr hlk (⟨rfl, Or.inr ⟨hno, hP.keep hfr hw9 hm⟩⟩) hF d_Model_bytes_12
  have good : ∀ (locs : List Loc) (ls : Array Slot), okP a (nI 1) → (∀ q ∈ locs, n0 q.base) → lv_has ls 6 [(0, .ref mo), (1, .int a), (2, .int sh)] → W p l e { frames := 5, cells := 0, slots := 0, locals := 125 } s m [.ref mo, .int a, .int sh].toArray below meth c s.heap locs 0 0 (MQ below (QcP (QV (fun H H' => ((okP a (nI 1)) ∧ (∃ w8, MP g n0 H' mo 0 pn tn w8)) ∨ (¬ (okP a (nI 1)) ∧ MP g n0 H' mo 1 pn tn wn)))) [.ref mo, .int a, .int sh].toArray s 0 0 (fun q => n0 q)) (F0 m 5 ls [.int (nI 0), .ref mo]) := by
    intro  locs   ls hok hF hl
    refine lv_iconst (v := nI 1) hx hb d_Model_bytes_5 (by decide) ?_
    refine q_cV (rest := []) E (c_Model_fails l g n0 mo th (nI pn) (nI tn) (nI wn) w9 n9 hw9 (nI 0) (nI 1) fd hmn (Or.inr rfl)) w_1056 w_15 w_1053 w_1055 (bw_s 24 rfl) hd_Model_fails rfl ⟨by decide, by decide⟩ (OB.recv E.2.2.2.2.2 (by rfl) hm.1) hm hF hl.1 rfl (Nat.le_of_ble_eq_true rfl) d_Model_bytes_6 ⟨by decide, by decide⟩ (qi (fun rf H1 locs hq hF => ?_))
    obtain ⟨hrf, hq, hm⟩ := hq
    subst hrf
    have hfr := hfr.tr hq
    rw [if_pos nI_0] at hm
    refine lv_if_eq (tgt := 13) hx hb d_Model_bytes_9 (by decide) (fun _ => ?_) (fun h9 => absurd (by decide) h9)
    obtain ⟨k1, e_k1, h_k1⟩ := okP_nat (by decide) (by decide) hok
    rw [e_k1] at hl
    refine lv_aload_n hx hb d_Model_bytes_13 rfl (lv_at hl 0 rfl) ?_
    refine lv_iconst (v := nI 0) hx hb d_Model_bytes_14 (by decide) ?_
    refine q_cV (rest := []) E (c_Model_use l g n0 mo 0 (nI pn) (nI tn) (nI wn) w9 n9 hw9 0 14 hw0 fd hmn) w_967 w_15 w_964 w_966 (bw_s 15 rfl) hd_Model_use rfl ⟨by decide, by decide⟩ (OB.recv E.2.2.2.2.2 (by rfl) hm.1) hm hF hl.1 rfl (Nat.le_of_ble_eq_true rfl) d_Model_bytes_15 ⟨by decide, by decide⟩ (qv (fun H2 locs hq hF => ?_))
    obtain ⟨hq, hm⟩ := hq
    have hfr := hfr.tr hq
    refine lv_iload_n hx hb d_Model_bytes_18 rfl (lv_at hl 1 rfl) ?_
    refine q_cS (rest := []) E (c_Model_slot l g n0 (nI k1)) w_1154 w_15 w_1152 w_1153 hd_Model_slot rfl ⟨by decide, by decide⟩ trivial hF hl.1 rfl (Nat.le_of_ble_eq_true rfl) d_Model_bytes_19 ⟨by decide, by decide⟩ (qi (fun rs H3 locs hq hF => ?_))
    obtain ⟨hrs, hq9⟩ := hq
    subst hrs
    subst hq9
    refine lv_topi (fun t9 e9 => ?_)
    obtain rfl : t9 = nI (32 + 3 * k1) := e9.trans (by rw [pk_mul, nI_add])
    refine lv_istore_n (lv' := [(3, .int (nI (32 + 3 * k1))), (0, .ref mo), (1, .int (nI k1)), (2, .int sh)]) hx hb d_Model_bytes_22 rfl hl (by decide) rfl (fun ls hl => ?_)
    refine lv_aload_n hx hb d_Model_bytes_23 rfl (lv_at hl 1 rfl) ?_
    refine lv_iload_n hx hb d_Model_bytes_24 rfl (lv_at hl 0 rfl) ?_
    refine lv_iconst (v := nI 2) hx hb d_Model_bytes_25 (by decide) ?_
    refine lv_iadd hx hb d_Model_bytes_26 ?_
    refine lv_topi (fun t9 e9 => ?_)
    obtain rfl : t9 = nI ((32 + 3 * k1) + 2) := e9.trans (nI_add _ _)
    refine q_cV (rest := []) E (c_Model_isZero l g n0 mo ((32 + 3 * k1) + 2) 0 (nI pn) (nI tn) (nI wn) 0 14 hw0 fd (by omega)) w_1105 w_15 w_1102 w_1104 (bw_s 30 rfl) hd_Model_isZero rfl ⟨by decide, by decide⟩ (OB.recv E.2.2.2.2.2 (by rfl) hm.1) hm hF hl.1 rfl (Nat.le_of_ble_eq_true rfl) d_Model_bytes_27 ⟨by decide, by decide⟩ (qi (fun rz1 H4 locs hq hF => ?_))
    obtain ⟨hbrz1, hq⟩ := hq
    subst hq
    have hn7 := hP.2.2.2.2.2.2.2.1
    have tail : ∀ (NN : Nat) (H : Heap) (locs : List Loc) (ls : Array Slot) (fd1 : Nat → Int64) (x5 : Int32), MS g n0 H mo 0 (nI pn) (nI tn) (nI NN) 0 14 fd1 → (∃ f, AI g H (mo + 7) 96 f) → NN ≤ 96 → FRM (fun q => MR mo q ∨ q = mo + 7) s.heap H → (∀ q ∈ locs, n0 q.base) → lv_has ls 6 [(5, .int x5), (0, .ref mo)] → W p l e { frames := 5, cells := 0, slots := 0, locals := 125 } s m [.ref mo, .int a, .int sh].toArray below meth c H locs 0 0 (MQ below (QcP (QV (fun H H' => ((okP a (nI 1)) ∧ (∃ w8, MP g n0 H' mo 0 pn tn w8)) ∨ (¬ (okP a (nI 1)) ∧ MP g n0 H' mo 1 pn tn wn)))) [.ref mo, .int a, .int sh].toArray s 0 0 (fun q => n0 q)) (F0 m 188 ls []) := by
      intro  NN   H   locs   ls   fd1   x5 hm hh hN hfx hF hl
      have hfr : FRM (MR mo) H H := FRM.rf
      refine lv_aload_n hx hb d_Model_bytes_188 rfl (lv_at hl 1 rfl) ?_
      refine q_get (C := "KateDeskModel") (T := T_Model) (N := 14) (ci := 8) E hm.1 in_Model rfl 11 (by decide) w_1012 rfl rfl d_Model_bytes_189 ?_
      refine lv_iconst (v := nI 0) hx hb d_Model_bytes_192 (by decide) ?_
      refine lv_dup2_11 hx hb d_Model_bytes_193 rfl rfl ?_
      obtain ⟨fq, hfq⟩ := id (hh)
      refine q_iald E hfq 0 rfl (by decide) (by decide) d_Model_bytes_194 ?_
      refine lv_bipush (v := nI 32) hx hb d_Model_bytes_195 (by decide) ?_
      refine lv_iload hx hb d_Model_bytes_197 (lv_at hl 0 rfl) ?_
      refine lv_imul hx hb d_Model_bytes_199 ?_
      refine lv_iadd hx hb d_Model_bytes_200 ?_
      obtain ⟨ft, hft⟩ := hh
      refine q_iast E hft hn7 hF 0 rfl (by omega) (by decide) d_Model_bytes_201 (fun H1 locs hq hft2 hF => ?_)
      have hm := hm.frm hq (by omega) (by omega) (by omega) (by omega) (OB.off hq (by omega) hm.1)
      have hfx := (hfx.tr (hfr.mono (fun q h => (Or.inl h : MR mo q ∨ q = mo + 7)))).tr (hq.mono (fun q h => Or.inr h))
      exact q_vret E hr hlk (⟨rfl, Or.inl ⟨hok, _, hP.fin7 hfx ⟨_, hft2⟩ hw0 hm ⟨hbd.1, hbd.2.1, hN⟩⟩⟩) hF d_Model_bytes_202
    have loop : ∀ (k : Nat) (i NN : Nat) (H : Heap) (locs : List Loc) (ls : Array Slot) (fd1 : Nat → Int64) (x4 : Int32), i + k = NN → MS g n0 H mo 0 (nI pn) (nI tn) (nI NN) 0 14 fd1 → (∃ f, AI g H (mo + 7) 96 f) → NN ≤ 96 → FRM (fun q => MR mo q ∨ q = mo + 7) s.heap H → (∀ q ∈ locs, n0 q.base) → lv_has ls 6 [(5, .int (nI i)), (4, .int x4), (0, .ref mo), (2, .int sh)] → W p l e { frames := 5, cells := 0, slots := 0, locals := 125 } s m [.ref mo, .int a, .int sh].toArray below meth c H locs 0 0 (MQ below (QcP (QV (fun H H' => ((okP a (nI 1)) ∧ (∃ w8, MP g n0 H' mo 0 pn tn w8)) ∨ (¬ (okP a (nI 1)) ∧ MP g n0 H' mo 1 pn tn wn)))) [.ref mo, .int a, .int sh].toArray s 0 0 (fun q => n0 q)) (F0 m 84 ls []) := by
      intro k
      induction k with
      | zero =>
        intro  i NN   H   locs   ls   fd1   x4 hi hm hh hN hfx hF hl
        have hfr : FRM (MR mo) H H := FRM.rf
        obtain rfl : NN = i := by omega
        refine lv_iload hx hb d_Model_bytes_84 (lv_at hl 0 rfl) ?_
        refine lv_aload_n hx hb d_Model_bytes_86 rfl (lv_at hl 2 rfl) ?_
        refine q_get (C := "KateDeskModel") (T := T_Model) (N := 14) (ci := 8) E hm.1 in_Model rfl 12 (by decide) w_1013 rfl rfl d_Model_bytes_87 ?_
        refine lv_icmp_ge (tgt := 143) hx hb d_Model_bytes_90 (by decide) (fun _ => ?_) (fun h9 => absurd (nI_le (Nat.le_refl _) (by omega)) h9)
        refine lv_iload hx hb d_Model_bytes_143 (lv_at hl 1 rfl) ?_
        refine lv_if_eq (tgt := 152) hx hb d_Model_bytes_145 (by decide) (fun _ => ?_) (fun _ => ?_)
        · skip
          refine lv_iconst (v := nI 0) hx hb d_Model_bytes_152 (by decide) ?_
          refine lv_istore (lv' := [(5, .int (nI 0)), (4, .int x4), (0, .ref mo), (2, .int sh)]) hx hb d_Model_bytes_153 hl (by decide) rfl (fun ls hl => ?_)
          refine lv_iload_n hx hb d_Model_bytes_155 rfl (lv_at hl 3 rfl) ?_
          refine lv_if_eq (tgt := 188) hx hb d_Model_bytes_156 (by decide) (fun _ => ?_) (fun _ => ?_)
          · skip
            have hl : lv_has ls 6 [(5, .int (nI 0)), (0, .ref mo)] := lv_sub hl [0, 2] rfl
            exact tail NN _ _ ls _ _ hm (hh.imp (fun f h => AI.off hfr (show ¬ MR mo (mo + 7) by unfold MR; omega) h)) hN (hfx.tr (hfr.mono (fun q h => Or.inl h))) hF hl
          · skip
            refine lv_iload hx hb d_Model_bytes_159 (lv_at hl 0 rfl) ?_
            refine lv_iload hx hb d_Model_bytes_161 (lv_at hl 1 rfl) ?_
            refine lv_if_eq (tgt := 170) hx hb d_Model_bytes_163 (by decide) (fun _ => ?_) (fun _ => ?_)
            · skip
              refine lv_aload_n hx hb d_Model_bytes_170 rfl (lv_at hl 2 rfl) ?_
              refine lv_sipush (v := nI 149) hx hb d_Model_bytes_171 (by decide) ?_
              refine q_cV (rest := [.int (nI 0)]) E (c_Model_isGreat l g n0 mo 149 0 (nI pn) (nI tn) (nI NN) 0 14 hw0 fd1 (by omega)) w_1159 w_15 w_1156 w_1158 (bw_s 38 rfl) hd_Model_isGreat rfl ⟨by decide, by decide⟩ (OB.recv E.2.2.2.2.2 (by rfl) hm.1) hm hF hl.1 rfl (Nat.le_of_ble_eq_true rfl) d_Model_bytes_174 ⟨by decide, by decide⟩ (qi (fun rz1 H1 locs hq hF => ?_))
              obtain ⟨hbrz1, hq, fd_1, hm⟩ := hq
              have hfr := hfr.tr hq
              refine lv_if_eq (tgt := 184) hx hb d_Model_bytes_177 (by decide) (fun _ => ?_) (fun _ => ?_)
              · skip
                refine lv_iconst (v := nI 4) hx hb d_Model_bytes_184 (by decide) ?_
                refine lv_iadd hx hb d_Model_bytes_185 ?_
                refine lv_topi (fun t9 e9 => ?_)
                obtain rfl : t9 = nI (0 + 4) := e9.trans (nI_add _ _)
                refine lv_istore (lv' := [(5, .int (nI (0 + 4))), (4, .int x4), (0, .ref mo), (2, .int sh)]) hx hb d_Model_bytes_186 hl (by decide) rfl (fun ls hl => ?_)
                have hl : lv_has ls 6 [(5, .int (nI (0 + 4))), (0, .ref mo)] := lv_sub hl [0, 2] rfl
                exact tail NN _ _ ls _ _ hm (hh.imp (fun f h => AI.off hfr (show ¬ MR mo (mo + 7) by unfold MR; omega) h)) hN (hfx.tr (hfr.mono (fun q h => Or.inl h))) hF hl
              · skip
                refine lv_iconst (v := nI 5) hx hb d_Model_bytes_180 (by decide) ?_
                refine lv_goto (tgt := 185) hx hb d_Model_bytes_181 (by decide) ?_
                refine lv_iadd hx hb d_Model_bytes_185 ?_
                refine lv_topi (fun t9 e9 => ?_)
                obtain rfl : t9 = nI (0 + 5) := e9.trans (nI_add _ _)
                refine lv_istore (lv' := [(5, .int (nI (0 + 5))), (4, .int x4), (0, .ref mo), (2, .int sh)]) hx hb d_Model_bytes_186 hl (by decide) rfl (fun ls hl => ?_)
                have hl : lv_has ls 6 [(5, .int (nI (0 + 5))), (0, .ref mo)] := lv_sub hl [0, 2] rfl
                exact tail NN _ _ ls _ _ hm (hh.imp (fun f h => AI.off hfr (show ¬ MR mo (mo + 7) by unfold MR; omega) h)) hN (hfx.tr (hfr.mono (fun q h => Or.inl h))) hF hl
            · skip
              refine lv_iconst (v := nI 4) hx hb d_Model_bytes_166 (by decide) ?_
              refine lv_goto (tgt := 185) hx hb d_Model_bytes_167 (by decide) ?_
              refine lv_iadd hx hb d_Model_bytes_185 ?_
              refine lv_topi (fun t9 e9 => ?_)
              obtain rfl : t9 = nI (0 + 4) := e9.trans (nI_add _ _)
              refine lv_istore (lv' := [(5, .int (nI (0 + 4))), (4, .int x4), (0, .ref mo), (2, .int sh)]) hx hb d_Model_bytes_186 hl (by decide) rfl (fun ls hl => ?_)
              have hl : lv_has ls 6 [(5, .int (nI (0 + 4))), (0, .ref mo)] := lv_sub hl [0, 2] rfl
              exact tail NN _ _ ls _ _ hm (hh.imp (fun f h => AI.off hfr (show ¬ MR mo (mo + 7) by unfold MR; omega) h)) hN (hfx.tr (hfr.mono (fun q h => Or.inl h))) hF hl
        · skip
          refine lv_iconst (v := nI 2) hx hb d_Model_bytes_148 (by decide) ?_
          refine lv_goto (tgt := 153) hx hb d_Model_bytes_149 (by decide) ?_
          refine lv_istore (lv' := [(5, .int (nI 2)), (4, .int x4), (0, .ref mo), (2, .int sh)]) hx hb d_Model_bytes_153 hl (by decide) rfl (fun ls hl => ?_)
          refine lv_iload_n hx hb d_Model_bytes_155 rfl (lv_at hl 3 rfl) ?_
          refine lv_if_eq (tgt := 188) hx hb d_Model_bytes_156 (by decide) (fun _ => ?_) (fun _ => ?_)
          · skip
            have hl : lv_has ls 6 [(5, .int (nI 2)), (0, .ref mo)] := lv_sub hl [0, 2] rfl
            exact tail NN _ _ ls _ _ hm (hh.imp (fun f h => AI.off hfr (show ¬ MR mo (mo + 7) by unfold MR; omega) h)) hN (hfx.tr (hfr.mono (fun q h => Or.inl h))) hF hl
          · skip
            refine lv_iload hx hb d_Model_bytes_159 (lv_at hl 0 rfl) ?_
            refine lv_iload hx hb d_Model_bytes_161 (lv_at hl 1 rfl) ?_
            refine lv_if_eq (tgt := 170) hx hb d_Model_bytes_163 (by decide) (fun _ => ?_) (fun _ => ?_)
            · skip
              refine lv_aload_n hx hb d_Model_bytes_170 rfl (lv_at hl 2 rfl) ?_
              refine lv_sipush (v := nI 149) hx hb d_Model_bytes_171 (by decide) ?_
              refine q_cV (rest := [.int (nI 2)]) E (c_Model_isGreat l g n0 mo 149 0 (nI pn) (nI tn) (nI NN) 0 14 hw0 fd1 (by omega)) w_1159 w_15 w_1156 w_1158 (bw_s 38 rfl) hd_Model_isGreat rfl ⟨by decide, by decide⟩ (OB.recv E.2.2.2.2.2 (by rfl) hm.1) hm hF hl.1 rfl (Nat.le_of_ble_eq_true rfl) d_Model_bytes_174 ⟨by decide, by decide⟩ (qi (fun rz1 H1 locs hq hF => ?_))
              obtain ⟨hbrz1, hq, fd_2, hm⟩ := hq
              have hfr := hfr.tr hq
              refine lv_if_eq (tgt := 184) hx hb d_Model_bytes_177 (by decide) (fun _ => ?_) (fun _ => ?_)
              · skip
                refine lv_iconst (v := nI 4) hx hb d_Model_bytes_184 (by decide) ?_
                refine lv_iadd hx hb d_Model_bytes_185 ?_
                refine lv_topi (fun t9 e9 => ?_)
                obtain rfl : t9 = nI (2 + 4) := e9.trans (nI_add _ _)
                refine lv_istore (lv' := [(5, .int (nI (2 + 4))), (4, .int x4), (0, .ref mo), (2, .int sh)]) hx hb d_Model_bytes_186 hl (by decide) rfl (fun ls hl => ?_)
                have hl : lv_has ls 6 [(5, .int (nI (2 + 4))), (0, .ref mo)] := lv_sub hl [0, 2] rfl
                exact tail NN _ _ ls _ _ hm (hh.imp (fun f h => AI.off hfr (show ¬ MR mo (mo + 7) by unfold MR; omega) h)) hN (hfx.tr (hfr.mono (fun q h => Or.inl h))) hF hl
              · skip
                refine lv_iconst (v := nI 5) hx hb d_Model_bytes_180 (by decide) ?_
                refine lv_goto (tgt := 185) hx hb d_Model_bytes_181 (by decide) ?_
                refine lv_iadd hx hb d_Model_bytes_185 ?_
                refine lv_topi (fun t9 e9 => ?_)
                obtain rfl : t9 = nI (2 + 5) := e9.trans (nI_add _ _)
                refine lv_istore (lv' := [(5, .int (nI (2 + 5))), (4, .int x4), (0, .ref mo), (2, .int sh)]) hx hb d_Model_bytes_186 hl (by decide) rfl (fun ls hl => ?_)
                have hl : lv_has ls 6 [(5, .int (nI (2 + 5))), (0, .ref mo)] := lv_sub hl [0, 2] rfl
                exact tail NN _ _ ls _ _ hm (hh.imp (fun f h => AI.off hfr (show ¬ MR mo (mo + 7) by unfold MR; omega) h)) hN (hfx.tr (hfr.mono (fun q h => Or.inl h))) hF hl
            · skip
              refine lv_iconst (v := nI 4) hx hb d_Model_bytes_166 (by decide) ?_
              refine lv_goto (tgt := 185) hx hb d_Model_bytes_167 (by decide) ?_
              refine lv_iadd hx hb d_Model_bytes_185 ?_
              refine lv_topi (fun t9 e9 => ?_)
              obtain rfl : t9 = nI (2 + 4) := e9.trans (nI_add _ _)
              refine lv_istore (lv' := [(5, .int (nI (2 + 4))), (4, .int x4), (0, .ref mo), (2, .int sh)]) hx hb d_Model_bytes_186 hl (by decide) rfl (fun ls hl => ?_)
              have hl : lv_has ls 6 [(5, .int (nI (2 + 4))), (0, .ref mo)] := lv_sub hl [0, 2] rfl
              exact tail NN _ _ ls _ _ hm (hh.imp (fun f h => AI.off hfr (show ¬ MR mo (mo + 7) by unfold MR; omega) h)) hN (hfx.tr (hfr.mono (fun q h => Or.inl h))) hF hl
      | succ k ih =>
        intro  i NN   H   locs   ls   fd1   x4 hi hm hh hN hfx hF hl
        have hfr : FRM (MR mo) H H := FRM.rf
        refine lv_iload hx hb d_Model_bytes_84 (lv_at hl 0 rfl) ?_
        refine lv_aload_n hx hb d_Model_bytes_86 rfl (lv_at hl 2 rfl) ?_
        refine q_get (C := "KateDeskModel") (T := T_Model) (N := 14) (ci := 8) E hm.1 in_Model rfl 12 (by decide) w_1013 rfl rfl d_Model_bytes_87 ?_
        refine lv_icmp_ge (tgt := 143) hx hb d_Model_bytes_90 (by decide) (fun h9 => absurd h9 (nI_ge (by omega) (by omega))) (fun _ => ?_)
        refine lv_aload_n hx hb d_Model_bytes_93 rfl (lv_at hl 2 rfl) ?_
        refine q_get (C := "KateDeskModel") (T := T_Model) (N := 14) (ci := 8) E hm.1 in_Model rfl 11 (by decide) w_1012 rfl rfl d_Model_bytes_94 ?_
        refine lv_iload hx hb d_Model_bytes_97 (lv_at hl 0 rfl) ?_
        refine lv_iload hx hb d_Model_bytes_99 (lv_at hl 1 rfl) ?_
        refine lv_if_eq (tgt := 108) hx hb d_Model_bytes_101 (by decide) (fun _ => ?_) (fun _ => ?_)
        · skip
          refine lv_aload_n hx hb d_Model_bytes_108 rfl (lv_at hl 2 rfl) ?_
          refine lv_iload hx hb d_Model_bytes_109 (lv_at hl 0 rfl) ?_
          refine lv_bipush (v := nI 48) hx hb d_Model_bytes_111 (by decide) ?_
          refine lv_icmp_ge (tgt := 122) hx hb d_Model_bytes_113 (by decide) (fun _ => ?_) (fun _ => ?_)
          · skip
            refine lv_sipush (v := nI 149) hx hb d_Model_bytes_122 (by decide) ?_
            refine lv_bipush (v := nI 47) hx hb d_Model_bytes_125 (by decide) ?_
            refine lv_iload hx hb d_Model_bytes_127 (lv_at hl 0 rfl) ?_
            refine lv_bipush (v := nI 48) hx hb d_Model_bytes_129 (by decide) ?_
            refine lv_irem hx hb d_Model_bytes_131 (by decide) ?_
            refine lv_topi (fun t9 e9 => ?_)
            obtain rfl : t9 = nI (i - i / 48 * 48) := e9.trans (rem48 (by omega))
            refine lv_isub hx hb d_Model_bytes_132 ?_
            refine lv_topi (fun t9 e9 => ?_)
            obtain rfl : t9 = nI (47 - (i - i / 48 * 48)) := e9.trans (pk_sub (by omega))
            refine q_cV (rest := [.int (nI i), .ref (mo + 7)]) E (c_Model_byteOf l g n0 mo 149 (47 - (i - i / 48 * 48)) 0 (nI pn) (nI tn) (nI NN) 0 14 hw0 fd1 (by omega) (by omega)) w_1187 w_15 w_1184 w_1186 (bw_s 44 rfl) hd_Model_byteOf rfl ⟨by decide, by decide⟩ (OB.recv E.2.2.2.2.2 (by rfl) hm.1) hm hF hl.1 rfl (Nat.le_of_ble_eq_true rfl) d_Model_bytes_133 ⟨by decide, by decide⟩ (qi (fun rz1 H1 locs hq hF => ?_))
            subst hq
            obtain ⟨ft, hft⟩ := hh
            refine q_iast E hft hn7 hF i rfl (by omega) (by decide) d_Model_bytes_136 (fun H2 locs hq hft2 hF => ?_)
            have hm := hm.frm hq (by omega) (by omega) (by omega) (by omega) (OB.off hq (by omega) hm.1)
            have hfx := (hfx.tr (hfr.mono (fun q h => (Or.inl h : MR mo q ∨ q = mo + 7)))).tr (hq.mono (fun q h => Or.inr h))
            refine lv_iinc (k := 0) (v := nI (i + 1)) (lv' := [(5, .int (nI (i + 1))), (4, .int x4), (0, .ref mo), (2, .int sh)]) hx hb d_Model_bytes_137 hl rfl (i_inc i) (by decide) rfl (fun ls hl => ?_)
            refine lv_goto (tgt := 84) hx hb d_Model_bytes_140 (by decide) ?_
            have hl : lv_has ls 6 [(5, .int (nI (i + 1))), (4, .int x4), (0, .ref mo), (2, .int sh)] := lv_sub hl [0, 1, 2, 3] rfl
            exact ih (i + 1) NN _ _ ls _ _ (by omega) hm ⟨_, hft2⟩ hN hfx hF hl
          · skip
            refine lv_sipush (v := nI 148) hx hb d_Model_bytes_116 (by decide) ?_
            refine lv_goto (tgt := 125) hx hb d_Model_bytes_119 (by decide) ?_
            refine lv_bipush (v := nI 47) hx hb d_Model_bytes_125 (by decide) ?_
            refine lv_iload hx hb d_Model_bytes_127 (lv_at hl 0 rfl) ?_
            refine lv_bipush (v := nI 48) hx hb d_Model_bytes_129 (by decide) ?_
            refine lv_irem hx hb d_Model_bytes_131 (by decide) ?_
            refine lv_topi (fun t9 e9 => ?_)
            obtain rfl : t9 = nI (i - i / 48 * 48) := e9.trans (rem48 (by omega))
            refine lv_isub hx hb d_Model_bytes_132 ?_
            refine lv_topi (fun t9 e9 => ?_)
            obtain rfl : t9 = nI (47 - (i - i / 48 * 48)) := e9.trans (pk_sub (by omega))
            refine q_cV (rest := [.int (nI i), .ref (mo + 7)]) E (c_Model_byteOf l g n0 mo 148 (47 - (i - i / 48 * 48)) 0 (nI pn) (nI tn) (nI NN) 0 14 hw0 fd1 (by omega) (by omega)) w_1187 w_15 w_1184 w_1186 (bw_s 44 rfl) hd_Model_byteOf rfl ⟨by decide, by decide⟩ (OB.recv E.2.2.2.2.2 (by rfl) hm.1) hm hF hl.1 rfl (Nat.le_of_ble_eq_true rfl) d_Model_bytes_133 ⟨by decide, by decide⟩ (qi (fun rz1 H1 locs hq hF => ?_))
            subst hq
            obtain ⟨ft, hft⟩ := hh
            refine q_iast E hft hn7 hF i rfl (by omega) (by decide) d_Model_bytes_136 (fun H2 locs hq hft2 hF => ?_)
            have hm := hm.frm hq (by omega) (by omega) (by omega) (by omega) (OB.off hq (by omega) hm.1)
            have hfx := (hfx.tr (hfr.mono (fun q h => (Or.inl h : MR mo q ∨ q = mo + 7)))).tr (hq.mono (fun q h => Or.inr h))
            refine lv_iinc (k := 0) (v := nI (i + 1)) (lv' := [(5, .int (nI (i + 1))), (4, .int x4), (0, .ref mo), (2, .int sh)]) hx hb d_Model_bytes_137 hl rfl (i_inc i) (by decide) rfl (fun ls hl => ?_)
            refine lv_goto (tgt := 84) hx hb d_Model_bytes_140 (by decide) ?_
            have hl : lv_has ls 6 [(5, .int (nI (i + 1))), (4, .int x4), (0, .ref mo), (2, .int sh)] := lv_sub hl [0, 1, 2, 3] rfl
            exact ih (i + 1) NN _ _ ls _ _ (by omega) hm ⟨_, hft2⟩ hN hfx hF hl
        · skip
          refine lv_iconst (v := nI 0) hx hb d_Model_bytes_104 (by decide) ?_
          refine lv_goto (tgt := 136) hx hb d_Model_bytes_105 (by decide) ?_
          obtain ⟨ft, hft⟩ := hh
          refine q_iast E hft hn7 hF i rfl (by omega) (by decide) d_Model_bytes_136 (fun H1 locs hq hft2 hF => ?_)
          have hm := hm.frm hq (by omega) (by omega) (by omega) (by omega) (OB.off hq (by omega) hm.1)
          have hfx := (hfx.tr (hfr.mono (fun q h => (Or.inl h : MR mo q ∨ q = mo + 7)))).tr (hq.mono (fun q h => Or.inr h))
          refine lv_iinc (k := 0) (v := nI (i + 1)) (lv' := [(5, .int (nI (i + 1))), (4, .int x4), (0, .ref mo), (2, .int sh)]) hx hb d_Model_bytes_137 hl rfl (i_inc i) (by decide) rfl (fun ls hl => ?_)
          refine lv_goto (tgt := 84) hx hb d_Model_bytes_140 (by decide) ?_
          have hl : lv_has ls 6 [(5, .int (nI (i + 1))), (4, .int x4), (0, .ref mo), (2, .int sh)] := lv_sub hl [0, 1, 2, 3] rfl
          exact ih (i + 1) NN _ _ ls _ _ (by omega) hm ⟨_, hft2⟩ hN hfx hF hl
    refine lv_istore (lv' := [(4, .int rz1), (3, .int (nI (32 + 3 * k1))), (0, .ref mo), (1, .int (nI k1)), (2, .int sh)]) hx hb d_Model_bytes_30 hl (by decide) rfl (fun ls hl => ?_)
    refine lv_aload_n hx hb d_Model_bytes_32 rfl (lv_at hl 2 rfl) ?_
    refine lv_sipush (v := nI 148) hx hb d_Model_bytes_33 (by decide) ?_
    refine lv_iload_n hx hb d_Model_bytes_36 rfl (lv_at hl 1 rfl) ?_
    refine lv_iconst (v := nI 2) hx hb d_Model_bytes_37 (by decide) ?_
    refine lv_iadd hx hb d_Model_bytes_38 ?_
    refine lv_topi (fun t9 e9 => ?_)
    obtain rfl : t9 = nI ((32 + 3 * k1) + 2) := e9.trans (nI_add _ _)
    refine q_cV (rest := []) E (c_Model_inverse l g n0 mo 148 ((32 + 3 * k1) + 2) 0 (nI pn) (nI tn) (nI wn) 0 14 hw0  fd (by omega) (by omega) ) w_1117 w_15 w_1114 w_1116 (bw_s 33 rfl) hd_Model_inverse rfl ⟨by decide, by decide⟩ (OB.recv E.2.2.2.2.2 (by rfl) hm.1) hm hF hl.1 rfl (Nat.le_of_ble_eq_true rfl) d_Model_bytes_39 ⟨by decide, by decide⟩ (qv (fun H5 locs hq hF => ?_))
    obtain ⟨hq, fd_3, hm, -⟩ := hq
    have hfr := hfr.tr hq
    refine lv_aload_n hx hb d_Model_bytes_42 rfl (lv_at hl 2 rfl) ?_
    refine lv_sipush (v := nI 149) hx hb d_Model_bytes_43 (by decide) ?_
    refine lv_iload_n hx hb d_Model_bytes_46 rfl (lv_at hl 1 rfl) ?_
    refine lv_iconst (v := nI 1) hx hb d_Model_bytes_47 (by decide) ?_
    refine lv_iadd hx hb d_Model_bytes_48 ?_
    refine lv_topi (fun t9 e9 => ?_)
    obtain rfl : t9 = nI ((32 + 3 * k1) + 1) := e9.trans (nI_add _ _)
    refine lv_sipush (v := nI 148) hx hb d_Model_bytes_49 (by decide) ?_
    refine q_cV (rest := []) E (c_Model_product l g n0 mo 149 ((32 + 3 * k1) + 1) 148 0 (nI pn) (nI tn) (nI wn) 0 14 hw0  fd_3 (by omega) (by omega) (by omega) ) w_1113 w_15 w_1110 w_1112 (bw_s 32 rfl) hd_Model_product rfl ⟨by decide, by decide⟩ (OB.recv E.2.2.2.2.2 (by rfl) hm.1) hm hF hl.1 rfl (Nat.le_of_ble_eq_true rfl) d_Model_bytes_52 ⟨by decide, by decide⟩ (qv (fun H6 locs hq hF => ?_))
    obtain ⟨hq, fd_4, hm, hpv, hv⟩ := hq
    have hfr := hfr.tr (kjR hq)
    refine lv_aload_n hx hb d_Model_bytes_55 rfl (lv_at hl 2 rfl) ?_
    refine lv_sipush (v := nI 148) hx hb d_Model_bytes_56 (by decide) ?_
    refine lv_iload_n hx hb d_Model_bytes_59 rfl (lv_at hl 1 rfl) ?_
    refine lv_sipush (v := nI 148) hx hb d_Model_bytes_60 (by decide) ?_
    refine q_cV (rest := []) E (c_Model_product l g n0 mo 148 (32 + 3 * k1) 148 0 (nI pn) (nI tn) (nI wn) 0 14 hw0  fd_4 (by omega) (by omega) (by omega) ) w_1113 w_15 w_1110 w_1112 (bw_s 32 rfl) hd_Model_product rfl ⟨by decide, by decide⟩ (OB.recv E.2.2.2.2.2 (by rfl) hm.1) hm hF hl.1 rfl (Nat.le_of_ble_eq_true rfl) d_Model_bytes_63 ⟨by decide, by decide⟩ (qv (fun H7 locs hq hF => ?_))
    obtain ⟨hq, fd_5, hm, hpv, hv⟩ := hq
    have hfr := hfr.tr (kjR hq)
    refine lv_aload_n hx hb d_Model_bytes_66 rfl (lv_at hl 2 rfl) ?_
    refine lv_iload_n hx hb d_Model_bytes_67 rfl (lv_at hl 4 rfl) ?_
    refine lv_if_eq (tgt := 76) hx hb d_Model_bytes_68 (by decide) (fun hs => ?_) (fun hs => ?_)
    rotate_left
    · skip
      refine lv_bipush (v := nI 48) hx hb d_Model_bytes_71 (by decide) ?_
      refine lv_goto (tgt := 78) hx hb d_Model_bytes_73 (by decide) ?_
      refine q_put (C := "KateDeskModel") (T := T_Model) (N := 14) (ci := 8) (ty := .int) E hm.1 in_Model ty_Model tyok_Model nm_Model rfl 12 (by decide) w_1013 rfl rfl (by decide +kernel) rfl rfl (Nat.le_of_ble_eq_true rfl) hmn hF d_Model_bytes_78 (fun H8 locs hq ho2 hF => ?_)
      have hfr := hfr.tr (hq.mono (fun q h => Or.inl h))
      have hm : MS g n0 H8 mo 0 (nI pn) (nI tn) (nI 48) 0 14 fd_5 := hm.frm hq (by omega) (by omega) (by omega) (by omega) ho2
      refine lv_iconst (v := nI 0) hx hb d_Model_bytes_81 (by decide) ?_
      refine lv_istore (lv' := [(5, .int (nI 0)), (4, .int rz1), (3, .int (nI (32 + 3 * k1))), (0, .ref mo), (1, .int (nI k1)), (2, .int sh)]) hx hb d_Model_bytes_82 hl (by decide) rfl (fun ls hl => ?_)
      have hl : lv_has ls 6 [(5, .int (nI 0)), (4, .int rz1), (0, .ref mo), (2, .int sh)] := lv_sub hl [0, 1, 3, 5] rfl
      exact loop 48 0 48 _ _ ls _ _ (by omega) hm (hP.2.2.2.1.imp (fun f hf => AI.off hfr (show ¬ MR mo (mo + 7) by unfold MR; omega) hf)) (by decide) (hfr.mono (fun q h => Or.inl h)) hF hl
    refine lv_bipush (v := nI 96) hx hb d_Model_bytes_76 (by decide) ?_
    refine q_put (C := "KateDeskModel") (T := T_Model) (N := 14) (ci := 8) (ty := .int) E hm.1 in_Model ty_Model tyok_Model nm_Model rfl 12 (by decide) w_1013 rfl rfl (by decide +kernel) rfl rfl (Nat.le_of_ble_eq_true rfl) hmn hF d_Model_bytes_78 (fun H8 locs hq ho2 hF => ?_)
    have hfr := hfr.tr (hq.mono (fun q h => Or.inl h))
    have hm : MS g n0 H8 mo 0 (nI pn) (nI tn) (nI 96) 0 14 fd_5 := hm.frm hq (by omega) (by omega) (by omega) (by omega) ho2
    refine lv_iconst (v := nI 0) hx hb d_Model_bytes_81 (by decide) ?_
    refine lv_istore (lv' := [(5, .int (nI 0)), (4, .int rz1), (3, .int (nI (32 + 3 * k1))), (0, .ref mo), (1, .int (nI k1)), (2, .int sh)]) hx hb d_Model_bytes_82 hl (by decide) rfl (fun ls hl => ?_)
    have hl : lv_has ls 6 [(5, .int (nI 0)), (4, .int rz1), (0, .ref mo), (2, .int sh)] := lv_sub hl [0, 1, 3, 5] rfl
    exact loop 96 0 96 _ _ ls _ _ (by omega) hm (hP.2.2.2.1.imp (fun f hf => AI.off hfr (show ¬ MR mo (mo + 7) by unfold MR; omega) hf)) (by decide) (hfr.mono (fun q h => Or.inl h)) hF hl
  refine lv_aload_n hx hb d_Model_bytes_0 rfl (lv_at hl 0 rfl) ?_
  refine lv_iload_n hx hb d_Model_bytes_1 rfl (lv_at hl 1 rfl) ?_
  refine q_cS (rest := [.ref mo]) E (c_Model_noPoint l g n0 a ) w_1151 w_15 w_1149 w_1150 hd_Model_noPoint rfl ⟨by decide, by decide⟩ trivial hF hl.1 rfl (Nat.le_of_ble_eq_true rfl) d_Model_bytes_2 ⟨by decide, by decide⟩ (qi (fun r_0 H1 locs hq hF => ?_))
  obtain ⟨h_0, hq⟩ := hq
  subst hq
  rcases h_0 with ⟨rfl, f_0⟩ | ⟨rfl, f_0⟩
  · skip
    have hl : lv_has ls 6 [(0, .ref mo), (1, .int a), (2, .int sh)] := lv_sub hl [0, 1, 2] rfl
    exact bad _ ls (fun h => (f_0) h) hF hl
  · skip
    have hl : lv_has ls 6 [(0, .ref mo), (1, .int a), (2, .int sh)] := lv_sub hl [0, 1, 2] rfl
    exact good _ ls f_0 hF hl
set_option maxHeartbeats 4000000 in
set_option maxRecDepth 100000 in
theorem G_Model_transform (l : Launch) (g : WG) (n0 : Nat → Prop) (mo : Nat) (th : Int32) (pn tn wn : Nat) (a : Int32) (kv : Int32) (bk : Int32) : Ctr l y_Model_transform (.code y_Model_transform prog_11_method_59_code 7 none) 5 125 0 0 n0 g [.ref mo, .int a, .int kv, .int bk] (fun H => MP g n0 H mo th pn tn wn) (QV (fun H H' => ((okC kv (nI 0) (nI 4) ∧ okS a (nI 1 <<< ((kv &&& nI 7) &&& 31))) ∧ MP g n0 H' mo 0 pn tn wn) ∨ (¬ (okC kv (nI 0) (nI 4) ∧ okS a (nI 1 <<< ((kv &&& nI 7) &&& 31))) ∧ MP g n0 H' mo 1 pn tn wn))) := by
  refine ctr_mk l (lv0 := [(0, .ref mo), (1, .int a), (2, .int kv), (3, .int bk)]) (by decide) (Nat.le_of_ble_eq_true rfl) rfl ?_
  intro p e s m below meth c ls E hr hlk hnm hl hP
  have hx := E.1
  have hb := E.2.1
  have hK := E.2.2.2.2.2
  have hF : ∀ q ∈ ([] : List Loc), n0 q.base := fun q hq => absurd hq List.not_mem_nil
  obtain ⟨⟨w9, n9, fd, hw9, hm⟩, -⟩ := id hP
  have hmn := hP.mn
  have hbd := hP.2.2.2.2.1
  have hfr : FRM (MR mo) s.heap s.heap := FRM.rf
  have bad : ∀ (locs : List Loc) (ls : Array Slot), ¬ (okC kv (nI 0) (nI 4) ∧ okS a (nI 1 <<< ((kv &&& nI 7) &&& 31))) → (∀ q ∈ locs, n0 q.base) → lv_has ls 7 [(0, .ref mo), (1, .int a), (2, .int kv), (3, .int bk), (4, .int (nI 1 <<< ((kv &&& nI 7) &&& 31)))] → W p l e { frames := 5, cells := 0, slots := 0, locals := 125 } s m [.ref mo, .int a, .int kv, .int bk].toArray below meth c s.heap locs 0 0 (MQ below (QcP (QV (fun H H' => ((okC kv (nI 0) (nI 4) ∧ okS a (nI 1 <<< ((kv &&& nI 7) &&& 31))) ∧ MP g n0 H' mo 0 pn tn wn) ∨ (¬ (okC kv (nI 0) (nI 4) ∧ okS a (nI 1 <<< ((kv &&& nI 7) &&& 31))) ∧ MP g n0 H' mo 1 pn tn wn)))) [.ref mo, .int a, .int kv, .int bk].toArray s 0 0 (fun q => n0 q)) (F0 m 35 ls [.int (nI 1), .ref mo]) := by
    intro  locs   ls hno hF hl
    refine lv_iconst (v := nI 1) hx hb d_Model_transform_35 (by decide) ?_
    refine q_cV (rest := []) E (c_Model_fails l g n0 mo th (nI pn) (nI tn) (nI wn) w9 n9 hw9 (nI 1) (nI 1) fd hmn (Or.inl rfl)) w_1056 w_15 w_1053 w_1055 (bw_s 24 rfl) hd_Model_fails rfl ⟨by decide, by decide⟩ (OB.recv E.2.2.2.2.2 (by rfl) hm.1) hm hF hl.1 rfl (Nat.le_of_ble_eq_true rfl) d_Model_transform_36 ⟨by decide, by decide⟩ (qi (fun rf H1 locs hq hF => ?_))
    obtain ⟨hrf, hq, hm⟩ := hq
    subst hrf
    have hfr := hfr.tr hq
    rw [if_neg (by decide)] at hm
    refine lv_if_eq (tgt := 43) hx hb d_Model_transform_39 (by decide) (fun h9 => absurd h9 (by decide)) (fun _ => ?_)
    exact q_vret E hr hlk (⟨rfl, Or.inr ⟨hno, hP.keep hfr hw9 hm⟩⟩) hF d_Model_transform_42
  have good : ∀ (locs : List Loc) (ls : Array Slot), okC kv (nI 0) (nI 4) ∧ okS a (nI 1 <<< ((kv &&& nI 7) &&& 31)) → (∀ q ∈ locs, n0 q.base) → lv_has ls 7 [(0, .ref mo), (1, .int a), (2, .int kv), (3, .int bk), (4, .int (nI 1 <<< ((kv &&& nI 7) &&& 31)))] → W p l e { frames := 5, cells := 0, slots := 0, locals := 125 } s m [.ref mo, .int a, .int kv, .int bk].toArray below meth c s.heap locs 0 0 (MQ below (QcP (QV (fun H H' => ((okC kv (nI 0) (nI 4) ∧ okS a (nI 1 <<< ((kv &&& nI 7) &&& 31))) ∧ MP g n0 H' mo 0 pn tn wn) ∨ (¬ (okC kv (nI 0) (nI 4) ∧ okS a (nI 1 <<< ((kv &&& nI 7) &&& 31))) ∧ MP g n0 H' mo 1 pn tn wn)))) [.ref mo, .int a, .int kv, .int bk].toArray s 0 0 (fun q => n0 q)) (F0 m 35 ls [.int (nI 0), .ref mo]) := by
    intro  locs   ls hok hF hl
    refine lv_iconst (v := nI 1) hx hb d_Model_transform_35 (by decide) ?_
    refine q_cV (rest := []) E (c_Model_fails l g n0 mo th (nI pn) (nI tn) (nI wn) w9 n9 hw9 (nI 0) (nI 1) fd hmn (Or.inr rfl)) w_1056 w_15 w_1053 w_1055 (bw_s 24 rfl) hd_Model_fails rfl ⟨by decide, by decide⟩ (OB.recv E.2.2.2.2.2 (by rfl) hm.1) hm hF hl.1 rfl (Nat.le_of_ble_eq_true rfl) d_Model_transform_36 ⟨by decide, by decide⟩ (qi (fun rf H1 locs hq hF => ?_))
    obtain ⟨hrf, hq, hm⟩ := hq
    subst hrf
    have hfr := hfr.tr hq
    rw [if_pos nI_0] at hm
    refine lv_if_eq (tgt := 43) hx hb d_Model_transform_39 (by decide) (fun _ => ?_) (fun h9 => absurd (by decide) h9)
    obtain ⟨k2, e_k2, h_k2, h2_k2⟩ := okC_nat (by decide) (by decide) hok.1
    rw [e_k2] at hl
    rw [tk2 h2_k2] at hl
    have hok2 := hok.2
    rw [e_k2, tk2 h2_k2] at hok2
    obtain ⟨hN1, hN16⟩ := tk3 h2_k2
    obtain ⟨NN, hNN⟩ : ∃ NN, NN = 2 ^ k2 := ⟨_, rfl⟩
    rw [← hNN] at hok2 hl hN1 hN16
    obtain ⟨k1, e_k1, h_k1⟩ := okS_nat (by omega) (by omega) hok2
    rw [e_k1] at hl
    have hn8 := hP.2.2.2.2.2.2.2.2
    have last : ∀ (k : Nat) (i : Nat) (H : Heap) (locs : List Loc) (ls : Array Slot) (fd1 : Nat → Int64), i + k = NN → MS g n0 H mo 0 (nI pn) (nI tn) (nI wn) 1 10 fd1 → HO g H mo → FRM (fun q => MR mo q ∨ q = mo + 8) s.heap H → (∀ q ∈ locs, n0 q.base) → lv_has ls 7 [(5, .int (nI i)), (0, .ref mo), (1, .int (nI k1)), (3, .int bk), (4, .int (nI NN))] → W p l e { frames := 5, cells := 0, slots := 0, locals := 125 } s m [.ref mo, .int a, .int kv, .int bk].toArray below meth c H locs 0 0 (MQ below (QcP (QV (fun H H' => ((okC kv (nI 0) (nI 4) ∧ okS a (nI 1 <<< ((kv &&& nI 7) &&& 31))) ∧ MP g n0 H' mo 0 pn tn wn) ∨ (¬ (okC kv (nI 0) (nI 4) ∧ okS a (nI 1 <<< ((kv &&& nI 7) &&& 31))) ∧ MP g n0 H' mo 1 pn tn wn)))) [.ref mo, .int a, .int kv, .int bk].toArray s 0 0 (fun q => n0 q)) (F0 m 185 ls []) := by
      intro k
      induction k with
      | zero =>
        intro  i   H   locs   ls   fd1 hi hm hh hfx hF hl
        obtain rfl : NN = i := by omega
        refine lv_iload hx hb d_Model_transform_185 (lv_at hl 0 rfl) ?_
        refine lv_iload hx hb d_Model_transform_187 (lv_at hl 4 rfl) ?_
        refine lv_icmp_ge (tgt := 261) hx hb d_Model_transform_189 (by decide) (fun _ => ?_) (fun h9 => absurd (nI_le (Nat.le_refl _) (by omega)) h9)
        exact q_vret E hr hlk (⟨rfl, Or.inl ⟨hok, hP.fin8 hfx hh hw1 hm⟩⟩) hF d_Model_transform_261
      | succ k ih =>
        intro  i   H   locs   ls   fd1 hi hm hh hfx hF hl
        refine lv_iload hx hb d_Model_transform_185 (lv_at hl 0 rfl) ?_
        refine lv_iload hx hb d_Model_transform_187 (lv_at hl 4 rfl) ?_
        refine lv_icmp_ge (tgt := 261) hx hb d_Model_transform_189 (by decide) (fun h9 => absurd h9 (nI_ge (by omega) (by omega))) (fun _ => ?_)
        refine lv_iconst (v := nI 0) hx hb d_Model_transform_192 (by decide) ?_
        refine lv_istore (lv' := [(6, .int (nI 0)), (5, .int (nI i)), (0, .ref mo), (1, .int (nI k1)), (3, .int bk), (4, .int (nI NN))]) hx hb d_Model_transform_193 hl (by decide) rfl (fun ls hl => ?_)
        have hl : lv_has ls 7 [(6, .int (nI 0)), (5, .int (nI i)), (0, .ref mo), (1, .int (nI k1)), (3, .int bk), (4, .int (nI NN))] := lv_sub hl [0, 1, 2, 3, 4, 5] rfl
        have inner : ∀ (k2x : Nat) (j : Nat) (H : Heap) (locs : List Loc) (ls : Array Slot) (fd1 : Nat → Int64), j + k2x = 14 → MS g n0 H mo 0 (nI pn) (nI tn) (nI wn) 1 10 fd1 → HO g H mo → FRM (fun q => MR mo q ∨ q = mo + 8) s.heap H → (∀ q ∈ locs, n0 q.base) → lv_has ls 7 [(6, .int (nI j)), (5, .int (nI i)), (0, .ref mo), (1, .int (nI k1)), (3, .int bk), (4, .int (nI NN))] → W p l e { frames := 5, cells := 0, slots := 0, locals := 125 } s m [.ref mo, .int a, .int kv, .int bk].toArray below meth c H locs 0 0 (MQ below (QcP (QV (fun H H' => ((okC kv (nI 0) (nI 4) ∧ okS a (nI 1 <<< ((kv &&& nI 7) &&& 31))) ∧ MP g n0 H' mo 0 pn tn wn) ∨ (¬ (okC kv (nI 0) (nI 4) ∧ okS a (nI 1 <<< ((kv &&& nI 7) &&& 31))) ∧ MP g n0 H' mo 1 pn tn wn)))) [.ref mo, .int a, .int kv, .int bk].toArray s 0 0 (fun q => n0 q)) (F0 m 195 ls []) := by
          intro k2x
          induction k2x with
          | zero =>
            intro  j   H   locs   ls   fd1 hj hm hh hfx hF hl
            have hfr : FRM (MR mo) H H := FRM.rf
            obtain rfl : j = 14 := by omega
            refine lv_iload hx hb d_Model_transform_195 (lv_at hl 0 rfl) ?_
            refine lv_bipush (v := nI 14) hx hb d_Model_transform_197 (by decide) ?_
            refine lv_icmp_ge (tgt := 236) hx hb d_Model_transform_199 (by decide) (fun _ => ?_) (fun h9 => absurd (by decide) h9)
            refine lv_iload_n hx hb d_Model_transform_236 rfl (lv_at hl 4 rfl) ?_
            refine lv_if_eq (tgt := 255) hx hb d_Model_transform_237 (by decide) (fun hb9 => ?_) (fun hb9 => ?_)
            rotate_left
            · skip
              refine lv_aload_n hx hb d_Model_transform_240 rfl (lv_at hl 2 rfl) ?_
              refine lv_iload_n hx hb d_Model_transform_241 rfl (lv_at hl 3 rfl) ?_
              refine lv_iload hx hb d_Model_transform_242 (lv_at hl 1 rfl) ?_
              refine lv_iadd hx hb d_Model_transform_244 ?_
              refine lv_topi (fun t9 e9 => ?_)
              obtain rfl : t9 = nI (k1 + i) := e9.trans (nI_add _ _)
              refine lv_iload_n hx hb d_Model_transform_245 rfl (lv_at hl 3 rfl) ?_
              refine lv_iload hx hb d_Model_transform_246 (lv_at hl 1 rfl) ?_
              refine lv_iadd hx hb d_Model_transform_248 ?_
              refine lv_topi (fun t9 e9 => ?_)
              obtain rfl : t9 = nI (k1 + i) := e9.trans (nI_add _ _)
              refine lv_sipush (v := nI 168) hx hb d_Model_transform_249 (by decide) ?_
              refine q_cV (rest := []) E (c_Model_product l g n0 mo (k1 + i) (k1 + i) 168 0 (nI pn) (nI tn) (nI wn) 1 10 hw1  fd1 (by omega) (by omega) (by omega) ) w_1113 w_15 w_1110 w_1112 (bw_s 32 rfl) hd_Model_product rfl ⟨by decide, by decide⟩ (OB.recv E.2.2.2.2.2 (by rfl) hm.1) hm hF hl.1 rfl (Nat.le_of_ble_eq_true rfl) d_Model_transform_252 ⟨by decide, by decide⟩ (qv (fun H1 locs hq hF => ?_))
              obtain ⟨hq, fd_1, hm, hpv, hv⟩ := hq
              have hfr := hfr.tr (kjR hq)
              refine lv_iinc (k := 1) (v := nI (i + 1)) (lv' := [(5, .int (nI (i + 1))), (6, .int (nI 14)), (0, .ref mo), (1, .int (nI k1)), (3, .int bk), (4, .int (nI NN))]) hx hb d_Model_transform_255 hl rfl (i_inc i) (by decide) rfl (fun ls hl => ?_)
              refine lv_goto (tgt := 185) hx hb d_Model_transform_258 (by decide) ?_
              have hl : lv_has ls 7 [(5, .int (nI (i + 1))), (0, .ref mo), (1, .int (nI k1)), (3, .int bk), (4, .int (nI NN))] := lv_sub hl [0, 2, 3, 4, 5] rfl
              exact ih (i + 1) _ _ ls _ (by omega) hm (hh.off hfr) (hfx.tr (hfr.mono (fun q h => Or.inl h))) hF hl
            refine lv_iinc (k := 1) (v := nI (i + 1)) (lv' := [(5, .int (nI (i + 1))), (6, .int (nI 14)), (0, .ref mo), (1, .int (nI k1)), (3, .int bk), (4, .int (nI NN))]) hx hb d_Model_transform_255 hl rfl (i_inc i) (by decide) rfl (fun ls hl => ?_)
            refine lv_goto (tgt := 185) hx hb d_Model_transform_258 (by decide) ?_
            have hl : lv_has ls 7 [(5, .int (nI (i + 1))), (0, .ref mo), (1, .int (nI k1)), (3, .int bk), (4, .int (nI NN))] := lv_sub hl [0, 2, 3, 4, 5] rfl
            exact ih (i + 1) _ _ ls _ (by omega) hm (hh.off hfr) (hfx.tr (hfr.mono (fun q h => Or.inl h))) hF hl
          | succ k2x ih2 =>
            intro  j   H   locs   ls   fd1 hj hm hh hfx hF hl
            have hfr : FRM (MR mo) H H := FRM.rf
            refine lv_iload hx hb d_Model_transform_195 (lv_at hl 0 rfl) ?_
            refine lv_bipush (v := nI 14) hx hb d_Model_transform_197 (by decide) ?_
            refine lv_icmp_ge (tgt := 236) hx hb d_Model_transform_199 (by decide) (fun h9 => absurd h9 (nI_ge (by omega) (by decide))) (fun _ => ?_)
            refine lv_aload_n hx hb d_Model_transform_202 rfl (lv_at hl 2 rfl) ?_
            refine q_get (C := "KateDeskModel") (T := T_Model) (N := 14) (ci := 8) E hm.1 in_Model rfl 1 (by decide) w_1002 rfl rfl d_Model_transform_203 ?_
            refine lv_bipush (v := nI 14) hx hb d_Model_transform_206 (by decide) ?_
            refine lv_iload_n hx hb d_Model_transform_208 rfl (lv_at hl 3 rfl) ?_
            refine lv_iload hx hb d_Model_transform_209 (lv_at hl 1 rfl) ?_
            refine lv_iadd hx hb d_Model_transform_211 ?_
            refine lv_topi (fun t9 e9 => ?_)
            obtain rfl : t9 = nI (k1 + i) := e9.trans (nI_add _ _)
            refine lv_imul hx hb d_Model_transform_212 ?_
            refine lv_topi (fun t9 e9 => ?_)
            obtain rfl : t9 = nI (14 * (k1 + i)) := e9.trans (pk_mul _ _)
            refine lv_iload hx hb d_Model_transform_213 (lv_at hl 0 rfl) ?_
            refine lv_iadd hx hb d_Model_transform_215 ?_
            refine lv_topi (fun t9 e9 => ?_)
            obtain rfl : t9 = nI ((14 * (k1 + i)) + j) := e9.trans (nI_add _ _)
            refine lv_aload_n hx hb d_Model_transform_216 rfl (lv_at hl 2 rfl) ?_
            refine q_get (C := "KateDeskModel") (T := T_Model) (N := 14) (ci := 8) E hm.1 in_Model rfl 13 (by decide) w_1014 rfl rfl d_Model_transform_217 ?_
            refine lv_bipush (v := nI 14) hx hb d_Model_transform_220 (by decide) ?_
            refine lv_iload hx hb d_Model_transform_222 (lv_at hl 1 rfl) ?_
            refine lv_imul hx hb d_Model_transform_224 ?_
            refine lv_topi (fun t9 e9 => ?_)
            obtain rfl : t9 = nI (14 * i) := e9.trans (pk_mul _ _)
            refine lv_iload hx hb d_Model_transform_225 (lv_at hl 0 rfl) ?_
            refine lv_iadd hx hb d_Model_transform_227 ?_
            refine lv_topi (fun t9 e9 => ?_)
            obtain rfl : t9 = nI ((14 * i) + j) := e9.trans (nI_add _ _)
            obtain ⟨fh, hh1, hh2⟩ := id hh
            refine q_lald (N := 224) (f := fh) E hh1 (14 * i + j) rfl (by omega) (by decide) d_Model_transform_228 ?_
            have hdv : dg (fh (14 * i + j)) := hh2 _ (by omega)
            refine q_last E hm.2.2.2.2.1 hm.2.2.2.2.2.2.1 hF (14 * (k1 + i) + j) rfl (by omega) (by decide) d_Model_transform_229 (fun H1 locs hq hf2 hF => ?_)
            have hm := hm.step hK (hq.mono (fun q h => Or.inl h)) hf2 ((hm.2.2.2.2.2.1).upd hdv)
            have hfr := hfr.tr (kjR1 hq)
            refine lv_iinc (k := 0) (v := nI (j + 1)) (lv' := [(6, .int (nI (j + 1))), (5, .int (nI i)), (0, .ref mo), (1, .int (nI k1)), (3, .int bk), (4, .int (nI NN))]) hx hb d_Model_transform_230 hl rfl (i_inc j) (by decide) rfl (fun ls hl => ?_)
            refine lv_goto (tgt := 195) hx hb d_Model_transform_233 (by decide) ?_
            have hl : lv_has ls 7 [(6, .int (nI (j + 1))), (5, .int (nI i)), (0, .ref mo), (1, .int (nI k1)), (3, .int bk), (4, .int (nI NN))] := lv_sub hl [0, 1, 2, 3, 4, 5] rfl
            exact ih2 (j + 1) _ _ ls _ (by omega) hm (hh.off hfr) (hfx.tr (hfr.mono (fun q h => Or.inl h))) hF hl
        exact inner 14 0 _ _ ls _ (by omega) hm hh hfx hF hl
    have first : ∀ (k : Nat) (i : Nat) (H : Heap) (locs : List Loc) (ls : Array Slot) (fd1 : Nat → Int64), i + k = NN → MS g n0 H mo 0 (nI pn) (nI tn) (nI wn) 1 10 fd1 → HO g H mo → FRM (fun q => MR mo q ∨ q = mo + 8) s.heap H → (∀ q ∈ locs, n0 q.base) → lv_has ls 7 [(5, .int (nI i)), (0, .ref mo), (1, .int (nI k1)), (3, .int bk), (4, .int (nI NN))] → W p l e { frames := 5, cells := 0, slots := 0, locals := 125 } s m [.ref mo, .int a, .int kv, .int bk].toArray below meth c H locs 0 0 (MQ below (QcP (QV (fun H H' => ((okC kv (nI 0) (nI 4) ∧ okS a (nI 1 <<< ((kv &&& nI 7) &&& 31))) ∧ MP g n0 H' mo 0 pn tn wn) ∨ (¬ (okC kv (nI 0) (nI 4) ∧ okS a (nI 1 <<< ((kv &&& nI 7) &&& 31))) ∧ MP g n0 H' mo 1 pn tn wn)))) [.ref mo, .int a, .int kv, .int bk].toArray s 0 0 (fun q => n0 q)) (F0 m 85 ls []) := by
      intro k
      induction k with
      | zero =>
        intro  i   H   locs   ls   fd1 hi hm hh hfx hF hl
        have hfr : FRM (MR mo) H H := FRM.rf
        obtain rfl : NN = i := by omega
        refine lv_iload hx hb d_Model_transform_85 (lv_at hl 0 rfl) ?_
        refine lv_iload hx hb d_Model_transform_87 (lv_at hl 4 rfl) ?_
        refine lv_icmp_ge (tgt := 162) hx hb d_Model_transform_89 (by decide) (fun _ => ?_) (fun h9 => absurd (nI_le (Nat.le_refl _) (by omega)) h9)
        refine lv_aload_n hx hb d_Model_transform_162 rfl (lv_at hl 1 rfl) ?_
        refine lv_sipush (v := nI 166) hx hb d_Model_transform_163 (by decide) ?_
        refine lv_iload hx hb d_Model_transform_166 (lv_at hl 4 rfl) ?_
        refine lv_i2l (v := (nI NN).toInt64) hx hb d_Model_transform_168 rfl ?_
        refine q_cV (rest := []) E (c_Model_small l g n0 mo 166 ((nI NN).toInt64) 0 (nI pn) (nI tn) (nI wn) 1 10 hw1 fd1 (by omega)) w_1084 w_15 w_1081 w_1083 (bw_s 28 rfl) hd_Model_small rfl ⟨by decide, by decide⟩ (OB.recv E.2.2.2.2.2 (by rfl) hm.1) hm hF hl.1 rfl (Nat.le_of_ble_eq_true rfl) d_Model_transform_169 ⟨by decide, by decide⟩ (qv (fun H1 locs hq hF => ?_))
        obtain ⟨hq, fd_2, hm, -⟩ := hq
        have hfr := hfr.tr hq
        refine lv_aload_n hx hb d_Model_transform_172 rfl (lv_at hl 1 rfl) ?_
        refine lv_sipush (v := nI 168) hx hb d_Model_transform_173 (by decide) ?_
        refine lv_sipush (v := nI 166) hx hb d_Model_transform_176 (by decide) ?_
        refine q_cV (rest := []) E (c_Model_inverse l g n0 mo 168 166 0 (nI pn) (nI tn) (nI wn) 1 10 hw1  fd_2 (by omega) (by omega) ) w_1117 w_15 w_1114 w_1116 (bw_s 33 rfl) hd_Model_inverse rfl ⟨by decide, by decide⟩ (OB.recv E.2.2.2.2.2 (by rfl) hm.1) hm hF hl.1 rfl (Nat.le_of_ble_eq_true rfl) d_Model_transform_179 ⟨by decide, by decide⟩ (qv (fun H2 locs hq hF => ?_))
        obtain ⟨hq, fd_3, hm, -⟩ := hq
        have hfr := hfr.tr hq
        refine lv_iconst (v := nI 0) hx hb d_Model_transform_182 (by decide) ?_
        refine lv_istore (lv' := [(5, .int (nI 0)), (0, .ref mo), (1, .int (nI k1)), (3, .int bk), (4, .int (nI NN))]) hx hb d_Model_transform_183 hl (by decide) rfl (fun ls hl => ?_)
        have hl : lv_has ls 7 [(5, .int (nI 0)), (0, .ref mo), (1, .int (nI k1)), (3, .int bk), (4, .int (nI NN))] := lv_sub hl [0, 1, 2, 3, 4] rfl
        exact last NN 0 _ _ ls _ (by omega) hm (hh.off hfr) (hfx.tr (hfr.mono (fun q h => Or.inl h))) hF hl
      | succ k ih =>
        intro  i   H   locs   ls   fd1 hi hm hh hfx hF hl
        have hfr : FRM (MR mo) H H := FRM.rf
        refine lv_iload hx hb d_Model_transform_85 (lv_at hl 0 rfl) ?_
        refine lv_iload hx hb d_Model_transform_87 (lv_at hl 4 rfl) ?_
        refine lv_icmp_ge (tgt := 162) hx hb d_Model_transform_89 (by decide) (fun h9 => absurd h9 (nI_ge (by omega) (by omega))) (fun _ => ?_)
        refine lv_aload_n hx hb d_Model_transform_92 rfl (lv_at hl 1 rfl) ?_
        refine lv_sipush (v := nI 168) hx hb d_Model_transform_93 (by decide) ?_
        refine lv_iload_n hx hb d_Model_transform_96 rfl (lv_at hl 2 rfl) ?_
        refine lv_iload hx hb d_Model_transform_97 (lv_at hl 4 rfl) ?_
        refine lv_sipush (v := nI 169) hx hb d_Model_transform_99 (by decide) ?_
        refine q_cV (rest := []) E (c_Model_value l g n0 mo 168 k1 NN 169 0 (nI pn) (nI tn) (nI wn) 1 10 hw1 fd1 (by omega) (by omega) (by omega) (by omega)) w_1235 w_15 w_1232 w_1234 (bw_s 47 rfl) hd_Model_value rfl ⟨by decide, by decide⟩ (OB.recv E.2.2.2.2.2 (by rfl) hm.1) hm hF hl.1 rfl (Nat.le_of_ble_eq_true rfl) d_Model_transform_102 ⟨by decide, by decide⟩ (qv (fun H1 locs hq hF => ?_))
        obtain ⟨hq, fd_4, hm, -⟩ := hq
        have hfr := hfr.tr hq
        refine lv_iconst (v := nI 0) hx hb d_Model_transform_105 (by decide) ?_
        refine lv_istore (lv' := [(6, .int (nI 0)), (5, .int (nI i)), (0, .ref mo), (1, .int (nI k1)), (3, .int bk), (4, .int (nI NN))]) hx hb d_Model_transform_106 hl (by decide) rfl (fun ls hl => ?_)
        have hh := hh.off hfr
        have hfx : FRM (fun q => MR mo q ∨ q = mo + 8) s.heap H1 := hfx.tr (hfr.mono (fun q h => Or.inl h))
        have hl : lv_has ls 7 [(6, .int (nI 0)), (5, .int (nI i)), (0, .ref mo), (1, .int (nI k1)), (3, .int bk), (4, .int (nI NN))] := lv_sub hl [0, 1, 2, 3, 4, 5] rfl
        have inner : ∀ (k2x : Nat) (j : Nat) (H : Heap) (locs : List Loc) (ls : Array Slot) (fd1 : Nat → Int64), j + k2x = 14 → MS g n0 H mo 0 (nI pn) (nI tn) (nI wn) 1 10 fd1 → HO g H mo → FRM (fun q => MR mo q ∨ q = mo + 8) s.heap H → (∀ q ∈ locs, n0 q.base) → lv_has ls 7 [(6, .int (nI j)), (5, .int (nI i)), (0, .ref mo), (1, .int (nI k1)), (3, .int bk), (4, .int (nI NN))] → W p l e { frames := 5, cells := 0, slots := 0, locals := 125 } s m [.ref mo, .int a, .int kv, .int bk].toArray below meth c H locs 0 0 (MQ below (QcP (QV (fun H H' => ((okC kv (nI 0) (nI 4) ∧ okS a (nI 1 <<< ((kv &&& nI 7) &&& 31))) ∧ MP g n0 H' mo 0 pn tn wn) ∨ (¬ (okC kv (nI 0) (nI 4) ∧ okS a (nI 1 <<< ((kv &&& nI 7) &&& 31))) ∧ MP g n0 H' mo 1 pn tn wn)))) [.ref mo, .int a, .int kv, .int bk].toArray s 0 0 (fun q => n0 q)) (F0 m 108 ls []) := by
          intro k2x
          induction k2x with
          | zero =>
            intro  j   H   locs   ls   fd1 hj hm hh hfx hF hl
            have hfr : FRM (MR mo) H H := FRM.rf
            obtain rfl : j = 14 := by omega
            refine lv_iload hx hb d_Model_transform_108 (lv_at hl 0 rfl) ?_
            refine lv_bipush (v := nI 14) hx hb d_Model_transform_110 (by decide) ?_
            refine lv_icmp_ge (tgt := 143) hx hb d_Model_transform_112 (by decide) (fun _ => ?_) (fun h9 => absurd (by decide) h9)
            refine lv_aload_n hx hb d_Model_transform_143 rfl (lv_at hl 2 rfl) ?_
            refine lv_sipush (v := nI 169) hx hb d_Model_transform_144 (by decide) ?_
            refine lv_sipush (v := nI 169) hx hb d_Model_transform_147 (by decide) ?_
            refine lv_sipush (v := nI 166) hx hb d_Model_transform_150 (by decide) ?_
            refine q_cV (rest := []) E (c_Model_product l g n0 mo 169 169 166 0 (nI pn) (nI tn) (nI wn) 1 10 hw1  fd1 (by omega) (by omega) (by omega) ) w_1113 w_15 w_1110 w_1112 (bw_s 32 rfl) hd_Model_product rfl ⟨by decide, by decide⟩ (OB.recv E.2.2.2.2.2 (by rfl) hm.1) hm hF hl.1 rfl (Nat.le_of_ble_eq_true rfl) d_Model_transform_153 ⟨by decide, by decide⟩ (qv (fun H1 locs hq hF => ?_))
            obtain ⟨hq, fd_5, hm, hpv, hv⟩ := hq
            have hfr := hfr.tr (kjR hq)
            refine lv_iinc (k := 1) (v := nI (i + 1)) (lv' := [(5, .int (nI (i + 1))), (6, .int (nI 14)), (0, .ref mo), (1, .int (nI k1)), (3, .int bk), (4, .int (nI NN))]) hx hb d_Model_transform_156 hl rfl (i_inc i) (by decide) rfl (fun ls hl => ?_)
            refine lv_goto (tgt := 85) hx hb d_Model_transform_159 (by decide) ?_
            have hl : lv_has ls 7 [(5, .int (nI (i + 1))), (0, .ref mo), (1, .int (nI k1)), (3, .int bk), (4, .int (nI NN))] := lv_sub hl [0, 2, 3, 4, 5] rfl
            exact ih (i + 1) _ _ ls _ (by omega) hm (hh.off hfr) (hfx.tr (hfr.mono (fun q h => Or.inl h))) hF hl
          | succ k2x ih2 =>
            intro  j   H   locs   ls   fd1 hj hm hh hfx hF hl
            refine lv_iload hx hb d_Model_transform_108 (lv_at hl 0 rfl) ?_
            refine lv_bipush (v := nI 14) hx hb d_Model_transform_110 (by decide) ?_
            refine lv_icmp_ge (tgt := 143) hx hb d_Model_transform_112 (by decide) (fun h9 => absurd h9 (nI_ge (by omega) (by decide))) (fun _ => ?_)
            refine lv_aload_n hx hb d_Model_transform_115 rfl (lv_at hl 2 rfl) ?_
            refine q_get (C := "KateDeskModel") (T := T_Model) (N := 14) (ci := 8) E hm.1 in_Model rfl 13 (by decide) w_1014 rfl rfl d_Model_transform_116 ?_
            refine lv_bipush (v := nI 14) hx hb d_Model_transform_119 (by decide) ?_
            refine lv_iload hx hb d_Model_transform_121 (lv_at hl 1 rfl) ?_
            refine lv_imul hx hb d_Model_transform_123 ?_
            refine lv_topi (fun t9 e9 => ?_)
            obtain rfl : t9 = nI (14 * i) := e9.trans (pk_mul _ _)
            refine lv_iload hx hb d_Model_transform_124 (lv_at hl 0 rfl) ?_
            refine lv_iadd hx hb d_Model_transform_126 ?_
            refine lv_topi (fun t9 e9 => ?_)
            obtain rfl : t9 = nI ((14 * i) + j) := e9.trans (nI_add _ _)
            refine lv_aload_n hx hb d_Model_transform_127 rfl (lv_at hl 2 rfl) ?_
            refine lv_sipush (v := nI 168) hx hb d_Model_transform_128 (by decide) ?_
            refine lv_iload hx hb d_Model_transform_131 (lv_at hl 0 rfl) ?_
            refine q_cV (rest := [.int (nI ((14 * i) + j)), .ref (mo + 8)]) E (c_Model_limb l g n0 mo 168 j 0 (nI 1) (nI 10) (nI pn) (nI tn) (nI wn) fd1 (by omega) (by omega)) w_979 w_15 w_976 w_978 (bw_s 18 rfl) hd_Model_limb rfl ⟨by decide, by decide⟩ (OB.recv E.2.2.2.2.2 (by rfl) hm.1) (⟨hm.1, hm.2.2.2.2.1⟩) hF hl.1 rfl (Nat.le_of_ble_eq_true rfl) d_Model_transform_133 ⟨by decide, by decide⟩ (ql (fun v1 H1 locs hq hF => ?_))
            obtain ⟨hq, hq9⟩ := hq
            obtain rfl := hq9
            subst hq
            obtain ⟨fh, hh1, hh2⟩ := id hh
            have hdv : dg (fd1 (14 * 168 + j)) := hm.2.2.2.2.2.1 _ (by omega)
            refine q_last E hh1 hn8 hF (14 * i + j) rfl (by omega) (by decide) d_Model_transform_136 (fun H2 locs hq hf2 hF => ?_)
            have hm := hm.hold hK hq
            refine lv_iinc (k := 0) (v := nI (j + 1)) (lv' := [(6, .int (nI (j + 1))), (5, .int (nI i)), (0, .ref mo), (1, .int (nI k1)), (3, .int bk), (4, .int (nI NN))]) hx hb d_Model_transform_137 hl rfl (i_inc j) (by decide) rfl (fun ls hl => ?_)
            refine lv_goto (tgt := 108) hx hb d_Model_transform_140 (by decide) ?_
            have hl : lv_has ls 7 [(6, .int (nI (j + 1))), (5, .int (nI i)), (0, .ref mo), (1, .int (nI k1)), (3, .int bk), (4, .int (nI NN))] := lv_sub hl [0, 1, 2, 3, 4, 5] rfl
            exact ih2 (j + 1) _ _ ls _ (by omega) hm ⟨_, hf2, fun k hk1 => by by_cases e : k = 14 * i + j; (rw [e, pk_uLs]; exact hdv); (rw [pk_uLn e]; exact hh2 k hk1)⟩ (hfx.tr (hq.frm.mono (fun q h => Or.inr h))) hF hl
        exact inner 14 0 _ _ ls _ (by omega) hm hh hfx hF hl
    refine lv_aload_n hx hb d_Model_transform_43 rfl (lv_at hl 0 rfl) ?_
    refine lv_sipush (v := nI 166) hx hb d_Model_transform_44 (by decide) ?_
    refine lv_iload_n hx hb d_Model_transform_47 rfl (lv_at hl 2 rfl) ?_
    refine q_cV (rest := []) E (c_Model_unit l g n0 mo 166 k2 0 (nI pn) (nI tn) (nI wn) w9 n9 hw9 fd hmn (by omega) (by omega)) w_1139 w_15 w_1136 w_1138 (bw_s 36 rfl) hd_Model_unit rfl ⟨by decide, by decide⟩ (OB.recv E.2.2.2.2.2 (by rfl) hm.1) hm hF hl.1 rfl (Nat.le_of_ble_eq_true rfl) d_Model_transform_48 ⟨by decide, by decide⟩ (qv (fun H2 locs hq hF => ?_))
    obtain ⟨hq, fd_6, hm⟩ := hq
    have hfr := hfr.tr hq
    refine lv_iload_n hx hb d_Model_transform_51 rfl (lv_at hl 3 rfl) ?_
    have hl : lv_has ls 7 [(0, .ref mo), (1, .int (nI k1)), (3, .int bk), (4, .int (nI NN))] := lv_sub hl [0, 1, 3, 4] rfl
    refine lv_if_eq (tgt := 75) hx hb d_Model_transform_52 (by decide) (fun hb8 => ?_) (fun hb8 => ?_)
    rotate_left
    · skip
      refine lv_aload_n hx hb d_Model_transform_55 rfl (lv_at hl 0 rfl) ?_
      refine lv_sipush (v := nI 168) hx hb d_Model_transform_56 (by decide) ?_
      refine lv_sipush (v := nI 166) hx hb d_Model_transform_59 (by decide) ?_
      refine q_cV (rest := []) E (c_Model_inverse l g n0 mo 168 166 0 (nI pn) (nI tn) (nI wn) 1 10 hw1  fd_6 (by omega) (by omega) ) w_1117 w_15 w_1114 w_1116 (bw_s 33 rfl) hd_Model_inverse rfl ⟨by decide, by decide⟩ (OB.recv E.2.2.2.2.2 (by rfl) hm.1) hm hF hl.1 rfl (Nat.le_of_ble_eq_true rfl) d_Model_transform_62 ⟨by decide, by decide⟩ (qv (fun H3 locs hq hF => ?_))
      obtain ⟨hq, fd_7, hm, -⟩ := hq
      have hfr := hfr.tr hq
      refine lv_aload_n hx hb d_Model_transform_65 rfl (lv_at hl 0 rfl) ?_
      refine lv_sipush (v := nI 166) hx hb d_Model_transform_66 (by decide) ?_
      refine lv_sipush (v := nI 168) hx hb d_Model_transform_69 (by decide) ?_
      refine q_cV (rest := []) E (c_Model_move l g n0 mo 166 168 0 (nI pn) (nI tn) (nI wn) 1 10 hw1  fd_7 (by omega) (by omega) ) w_1076 w_15 w_1073 w_1075 (bw_s 27 rfl) hd_Model_move rfl ⟨by decide, by decide⟩ (OB.recv E.2.2.2.2.2 (by rfl) hm.1) hm hF hl.1 rfl (Nat.le_of_ble_eq_true rfl) d_Model_transform_72 ⟨by decide, by decide⟩ (qv (fun H4 locs hq hF => ?_))
      obtain ⟨hq, fd_8, hm, hpv⟩ := hq
      have hfr := hfr.tr hq
      refine lv_aload_n hx hb d_Model_transform_75 rfl (lv_at hl 0 rfl) ?_
      refine lv_sipush (v := nI 169) hx hb d_Model_transform_76 (by decide) ?_
      refine q_cV (rest := []) E (c_Model_one l g n0 mo 169 0 (nI pn) (nI tn) (nI wn) 1 10 hw1  fd_8 (by omega) ) w_971 w_15 w_968 w_970 (bw_s 16 rfl) hd_Model_one rfl ⟨by decide, by decide⟩ (OB.recv E.2.2.2.2.2 (by rfl) hm.1) hm hF hl.1 rfl (Nat.le_of_ble_eq_true rfl) d_Model_transform_79 ⟨by decide, by decide⟩ (qv (fun H5 locs hq hF => ?_))
      obtain ⟨hq, fd_9, hm, hpv⟩ := hq
      have hfr := hfr.tr hq
      refine lv_iconst (v := nI 0) hx hb d_Model_transform_82 (by decide) ?_
      refine lv_istore (lv' := [(5, .int (nI 0)), (0, .ref mo), (1, .int (nI k1)), (3, .int bk), (4, .int (nI NN))]) hx hb d_Model_transform_83 hl (by decide) rfl (fun ls hl => ?_)
      have hl : lv_has ls 7 [(5, .int (nI 0)), (0, .ref mo), (1, .int (nI k1)), (3, .int bk), (4, .int (nI NN))] := lv_sub hl [0, 1, 2, 3, 4] rfl
      exact first NN 0 _ _ ls _ (by omega) hm (hP.2.1.off hfr) (hfr.mono (fun q h => Or.inl h)) hF hl
    refine lv_aload_n hx hb d_Model_transform_75 rfl (lv_at hl 0 rfl) ?_
    refine lv_sipush (v := nI 169) hx hb d_Model_transform_76 (by decide) ?_
    refine q_cV (rest := []) E (c_Model_one l g n0 mo 169 0 (nI pn) (nI tn) (nI wn) 1 10 hw1  fd_6 (by omega) ) w_971 w_15 w_968 w_970 (bw_s 16 rfl) hd_Model_one rfl ⟨by decide, by decide⟩ (OB.recv E.2.2.2.2.2 (by rfl) hm.1) hm hF hl.1 rfl (Nat.le_of_ble_eq_true rfl) d_Model_transform_79 ⟨by decide, by decide⟩ (qv (fun H3 locs hq hF => ?_))
    obtain ⟨hq, fd_10, hm, hpv⟩ := hq
    have hfr := hfr.tr hq
    refine lv_iconst (v := nI 0) hx hb d_Model_transform_82 (by decide) ?_
    refine lv_istore (lv' := [(5, .int (nI 0)), (0, .ref mo), (1, .int (nI k1)), (3, .int bk), (4, .int (nI NN))]) hx hb d_Model_transform_83 hl (by decide) rfl (fun ls hl => ?_)
    have hl : lv_has ls 7 [(5, .int (nI 0)), (0, .ref mo), (1, .int (nI k1)), (3, .int bk), (4, .int (nI NN))] := lv_sub hl [0, 1, 2, 3, 4] rfl
    exact first NN 0 _ _ ls _ (by omega) hm (hP.2.1.off hfr) (hfr.mono (fun q h => Or.inl h)) hF hl
  refine lv_iconst (v := nI 1) hx hb d_Model_transform_0 (by decide) ?_
  refine lv_iload_n hx hb d_Model_transform_1 rfl (lv_at hl 2 rfl) ?_
  refine lv_bipush (v := nI 7) hx hb d_Model_transform_2 (by decide) ?_
  refine lv_iand hx hb d_Model_transform_4 ?_
  refine lv_ishl hx hb d_Model_transform_5 ?_
  refine lv_istore (lv' := [(4, .int ((nI 1) <<< ((kv &&& (nI 7)) &&& 31))), (0, .ref mo), (1, .int a), (2, .int kv), (3, .int bk)]) hx hb d_Model_transform_6 hl (by decide) rfl (fun ls hl => ?_)
  refine lv_aload_n hx hb d_Model_transform_8 rfl (lv_at hl 1 rfl) ?_
  refine lv_iload_n hx hb d_Model_transform_9 rfl (lv_at hl 3 rfl) ?_
  refine lv_i2l (v := kv.toInt64) hx hb d_Model_transform_10 rfl ?_
  refine lv_lconst (v := 0) hx hb d_Model_transform_11 (by decide) ?_
  refine lv_ldc2 (v := 4) hx hb E.2.2.2.1 (E.2.2.2.2.1 _ w_1155) d_Model_transform_12 ?_
  refine q_cS (rest := [.ref mo]) E (c_Model_in l g n0 kv.toInt64 0 4 ) w_1101 w_15 w_1099 w_1100 hd_Model_in rfl ⟨by decide, by decide⟩ trivial hF hl.1 rfl (Nat.le_of_ble_eq_true rfl) d_Model_transform_15 ⟨by decide, by decide⟩ (qi (fun r_0 H1 locs hq hF => ?_))
  obtain ⟨h_0, hq⟩ := hq
  subst hq
  rcases h_0 with ⟨rfl, f_0⟩ | ⟨rfl, f_0⟩
  · skip
    refine lv_if_eq (tgt := 30) hx hb d_Model_transform_18 (by decide) (fun _ => ?_) (fun h9 => absurd (by decide) h9)
    refine lv_iconst (v := nI 1) hx hb d_Model_transform_30 (by decide) ?_
    refine lv_goto (tgt := 35) hx hb d_Model_transform_31 (by decide) ?_
    have hl : lv_has ls 7 [(0, .ref mo), (1, .int a), (2, .int kv), (3, .int bk), (4, .int ((nI 1) <<< ((kv &&& (nI 7)) &&& 31)))] := lv_sub hl [1, 2, 3, 4, 0] rfl
    exact bad _ ls (fun h => (fun q => f_0 ((in_okC (a := 0) (b := 4) (by decide) (by decide) (by decide) (by decide)).mpr q)) h.1) hF hl
  · skip
    refine lv_if_eq (tgt := 30) hx hb d_Model_transform_18 (by decide) (fun h9 => absurd h9 (by decide)) (fun _ => ?_)
    refine lv_iload_n hx hb d_Model_transform_21 rfl (lv_at hl 2 rfl) ?_
    refine lv_iload hx hb d_Model_transform_22 (lv_at hl 0 rfl) ?_
    refine q_cS (rest := [.ref mo]) E (c_Model_noScalars l g n0 a ((nI 1) <<< ((kv &&& (nI 7)) &&& 31)) (tk ((in_okC (a := 0) (b := 4) (by decide) (by decide) (by decide) (by decide)).mp f_0))) w_1206 w_15 w_1204 w_1205 hd_Model_noScalars rfl ⟨by decide, by decide⟩ trivial hF hl.1 rfl (Nat.le_of_ble_eq_true rfl) d_Model_transform_24 ⟨by decide, by decide⟩ (qi (fun r_1 H2 locs hq hF => ?_))
    obtain ⟨h_1, hq⟩ := hq
    subst hq
    rcases h_1 with ⟨rfl, f_1⟩ | ⟨rfl, f_1⟩
    · skip
      refine lv_if_eq (tgt := 34) hx hb d_Model_transform_27 (by decide) (fun h9 => absurd h9 (by decide)) (fun _ => ?_)
      refine lv_iconst (v := nI 1) hx hb d_Model_transform_30 (by decide) ?_
      refine lv_goto (tgt := 35) hx hb d_Model_transform_31 (by decide) ?_
      have hl : lv_has ls 7 [(0, .ref mo), (1, .int a), (2, .int kv), (3, .int bk), (4, .int ((nI 1) <<< ((kv &&& (nI 7)) &&& 31)))] := lv_sub hl [1, 2, 3, 4, 0] rfl
      exact bad _ ls (fun h => (f_1) h.2) hF hl
    · skip
      refine lv_if_eq (tgt := 34) hx hb d_Model_transform_27 (by decide) (fun _ => ?_) (fun h9 => absurd (by decide) h9)
      refine lv_iconst (v := nI 0) hx hb d_Model_transform_34 (by decide) ?_
      have hl : lv_has ls 7 [(0, .ref mo), (1, .int a), (2, .int kv), (3, .int bk), (4, .int ((nI 1) <<< ((kv &&& (nI 7)) &&& 31)))] := lv_sub hl [1, 2, 3, 4, 0] rfl
      exact good _ ls ⟨(in_okC (a := 0) (b := 4) (by decide) (by decide) (by decide) (by decide)).mp f_0, f_1⟩ hF hl
