theorem out_k {kv : Int32} {wn : Nat} (hw : wn ≤ 96) (h : (0 : Int64).toInt ≤ kv.toInt64.toInt ∧ kv.toInt64.toInt ≤ (nI wn - nI 1).toInt64.toInt) : ∃ k, kv = nI k ∧ k < wn := by
  rw [i2l_toInt, i2l_toInt] at h
  have h0 : (0 : Int64).toInt = 0 := by decide
  rw [h0] at h
  have h1 : ¬ kv < 0 := fun q => by
    have := Int32.lt_iff_toInt_lt.mp q
    rw [show (0 : Int32).toInt = 0 by decide] at this
    omega
  obtain ⟨k, hk, rfl⟩ := nI_of h1
  refine ⟨k, rfl, ?_⟩
  rcases Nat.eq_zero_or_pos wn with h2 | h2
  · subst h2
    rw [show (nI 0 - nI 1).toInt = -1 by decide] at h
    omega
  · rw [pk_sub h2, nI_toInt hk, nI_toInt (show wn - Nat.succ 0 < 2 ^ 31 by omega)] at h
    omega
set_option maxHeartbeats 4000000 in
set_option maxRecDepth 100000 in
theorem G_Model_reckon (l : Launch) (g : WG) (n0 : Nat → Prop) (mo : Nat) (th : Int32) (pn tn wn : Nat) (w0 : Int32) (a : Int32) (a2 : Int32) (a3 : Int32) : Ctr l y_Model_reckon (.code y_Model_reckon prog_11_method_41_code 5 none) 5 125 0 0 n0 g [.ref mo, .int w0, .int a, .int a2, .int a3] (fun H => MP g n0 H mo th pn tn wn) (QV (fun H H' => ((okC w0 (nI 0) (nI 3) ∧ okS a (nI 1) ∧ okS a2 (nI 1) ∧ okS a3 (nI 1)) ∧ (MP g n0 H' mo 0 pn tn wn ∨ MP g n0 H' mo (nI 2) pn tn wn)) ∨ (¬ (okC w0 (nI 0) (nI 3) ∧ okS a (nI 1) ∧ okS a2 (nI 1) ∧ okS a3 (nI 1)) ∧ MP g n0 H' mo 1 pn tn wn))) := by
  refine ctr_mk l (lv0 := [(0, .ref mo), (1, .int w0), (2, .int a), (3, .int a2), (4, .int a3)]) (by decide) (Nat.le_of_ble_eq_true rfl) rfl ?_
  intro p e s m below meth c ls E hr hlk hnm hl hP
  have hx := E.1
  have hb := E.2.1
  have hK := E.2.2.2.2.2
  have hF : ∀ q ∈ ([] : List Loc), n0 q.base := fun q hq => absurd hq List.not_mem_nil
  obtain ⟨⟨w9, n9, fd, hw9, hm⟩, -⟩ := id hP
  have hmn := hP.mn
  have hbd := hP.2.2.2.2.1
  have hfr : FRM (MR mo) s.heap s.heap := FRM.rf
  have bad : ∀ (locs : List Loc) (ls : Array Slot), ¬ (okC w0 (nI 0) (nI 3) ∧ okS a (nI 1) ∧ okS a2 (nI 1) ∧ okS a3 (nI 1)) → (∀ q ∈ locs, n0 q.base) → lv_has ls 5 [(0, .ref mo), (1, .int w0), (2, .int a), (3, .int a2), (4, .int a3)] → W p l e { frames := 5, cells := 0, slots := 0, locals := 125 } s m [.ref mo, .int w0, .int a, .int a2, .int a3].toArray below meth c s.heap locs 0 0 (MQ below (QcP (QV (fun H H' => ((okC w0 (nI 0) (nI 3) ∧ okS a (nI 1) ∧ okS a2 (nI 1) ∧ okS a3 (nI 1)) ∧ (MP g n0 H' mo 0 pn tn wn ∨ MP g n0 H' mo (nI 2) pn tn wn)) ∨ (¬ (okC w0 (nI 0) (nI 3) ∧ okS a (nI 1) ∧ okS a2 (nI 1) ∧ okS a3 (nI 1)) ∧ MP g n0 H' mo 1 pn tn wn)))) [.ref mo, .int w0, .int a, .int a2, .int a3].toArray s 0 0 (fun q => n0 q)) (F0 m 40 ls [.int (nI 1), .ref mo]) := by
    intro  locs   ls hno hF hl
    refine lv_iconst (v := nI 1) hx hb d_Model_reckon_40 (by decide) ?_
    refine q_cV (rest := []) E (c_Model_fails l g n0 mo th (nI pn) (nI tn) (nI wn) w9 n9 hw9 (nI 1) (nI 1) fd hmn (Or.inl rfl)) w_1056 w_15 w_1053 w_1055 (bw_s 24 rfl) hd_Model_fails rfl ⟨by decide, by decide⟩ (OB.recv E.2.2.2.2.2 (by rfl) hm.1) hm hF hl.1 rfl (Nat.le_of_ble_eq_true rfl) d_Model_reckon_41 ⟨by decide, by decide⟩ (qi (fun rf H1 locs hq hF => ?_))
    obtain ⟨hrf, hq, hm⟩ := hq
    subst hrf
    have hfr := hfr.tr hq
    rw [if_neg (by decide)] at hm
    refine lv_if_ne (tgt := 77) hx hb d_Model_reckon_44 (by decide) (fun _ => ?_) (fun h9 => absurd h9 (by decide))
    exact q_vret E hr hlk (⟨rfl, Or.inr ⟨hno, hP.keep hfr hw9 hm⟩⟩) hF d_Model_reckon_77
  have good : ∀ (locs : List Loc) (ls : Array Slot), okC w0 (nI 0) (nI 3) ∧ okS a (nI 1) ∧ okS a2 (nI 1) ∧ okS a3 (nI 1) → (∀ q ∈ locs, n0 q.base) → lv_has ls 5 [(0, .ref mo), (1, .int w0), (2, .int a), (3, .int a2), (4, .int a3)] → W p l e { frames := 5, cells := 0, slots := 0, locals := 125 } s m [.ref mo, .int w0, .int a, .int a2, .int a3].toArray below meth c s.heap locs 0 0 (MQ below (QcP (QV (fun H H' => ((okC w0 (nI 0) (nI 3) ∧ okS a (nI 1) ∧ okS a2 (nI 1) ∧ okS a3 (nI 1)) ∧ (MP g n0 H' mo 0 pn tn wn ∨ MP g n0 H' mo (nI 2) pn tn wn)) ∨ (¬ (okC w0 (nI 0) (nI 3) ∧ okS a (nI 1) ∧ okS a2 (nI 1) ∧ okS a3 (nI 1)) ∧ MP g n0 H' mo 1 pn tn wn)))) [.ref mo, .int w0, .int a, .int a2, .int a3].toArray s 0 0 (fun q => n0 q)) (F0 m 40 ls [.int (nI 0), .ref mo]) := by
    intro  locs   ls hok hF hl
    refine lv_iconst (v := nI 1) hx hb d_Model_reckon_40 (by decide) ?_
    refine q_cV (rest := []) E (c_Model_fails l g n0 mo th (nI pn) (nI tn) (nI wn) w9 n9 hw9 (nI 0) (nI 1) fd hmn (Or.inr rfl)) w_1056 w_15 w_1053 w_1055 (bw_s 24 rfl) hd_Model_fails rfl ⟨by decide, by decide⟩ (OB.recv E.2.2.2.2.2 (by rfl) hm.1) hm hF hl.1 rfl (Nat.le_of_ble_eq_true rfl) d_Model_reckon_41 ⟨by decide, by decide⟩ (qi (fun rf H1 locs hq hF => ?_))
    obtain ⟨hrf, hq, hm⟩ := hq
    subst hrf
    have hfr := hfr.tr hq
    rw [if_pos nI_0] at hm
    refine lv_if_ne (tgt := 77) hx hb d_Model_reckon_44 (by decide) (fun h9 => absurd (by decide) h9) (fun _ => ?_)
    obtain ⟨k0, e_k0, h_k0, h2_k0⟩ := okC_nat (by decide) (by decide) hok.1
    rw [e_k0] at hl
    obtain ⟨k1, e_k1, h_k1⟩ := okS_nat (by decide) (by decide) hok.2.1
    rw [e_k1] at hl
    obtain ⟨k2, e_k2, h_k2⟩ := okS_nat (by decide) (by decide) hok.2.2.1
    rw [e_k2] at hl
    obtain ⟨k3, e_k3, h_k3⟩ := okS_nat (by decide) (by decide) hok.2.2.2
    rw [e_k3] at hl
    obtain ⟨hq9, -⟩ : k0 ≤ 3 ∧ True := ⟨h2_k0, trivial⟩
    match k0, hq9 with
    | 0, _ =>
      refine lv_aload_n hx hb d_Model_reckon_47 rfl (lv_at hl 0 rfl) ?_
      refine lv_iload_n hx hb d_Model_reckon_48 rfl (lv_at hl 1 rfl) ?_
      refine lv_iconst (v := nI 3) hx hb d_Model_reckon_49 (by decide) ?_
      refine lv_icmp_ne (tgt := 69) hx hb d_Model_reckon_50 (by decide) (fun _ => ?_) (fun h9 => absurd h9 (by decide))
      refine lv_iconst (v := nI 0) hx hb d_Model_reckon_69 (by decide) ?_
      refine lv_iconst (v := nI 2) hx hb d_Model_reckon_70 (by decide) ?_
      refine q_cV (rest := []) E (c_Model_fails l g n0 mo 0 (nI pn) (nI tn) (nI wn) w9 n9 hw9 (nI 0) (nI 2) fd hmn (Or.inr rfl)) w_1056 w_15 w_1053 w_1055 (bw_s 24 rfl) hd_Model_fails rfl ⟨by decide, by decide⟩ (OB.recv E.2.2.2.2.2 (by rfl) hm.1) hm hF hl.1 rfl (Nat.le_of_ble_eq_true rfl) d_Model_reckon_71 ⟨by decide, by decide⟩ (qi (fun rf H2 locs hq hF => ?_))
      obtain ⟨hrf, hq, hm⟩ := hq
      subst hrf
      have hfr := hfr.tr hq
      rw [if_pos nI_0] at hm
      refine lv_if_eq (tgt := 78) hx hb d_Model_reckon_74 (by decide) (fun _ => ?_) (fun h9 => absurd (by decide) h9)
      refine lv_aload_n hx hb d_Model_reckon_78 rfl (lv_at hl 0 rfl) ?_
      refine lv_iconst (v := nI 1) hx hb d_Model_reckon_79 (by decide) ?_
      refine q_cV (rest := []) E (c_Model_use l g n0 mo 0 (nI pn) (nI tn) (nI wn) w9 n9 hw9 1 10 hw1 fd hmn) w_967 w_15 w_964 w_966 (bw_s 15 rfl) hd_Model_use rfl ⟨by decide, by decide⟩ (OB.recv E.2.2.2.2.2 (by rfl) hm.1) hm hF hl.1 rfl (Nat.le_of_ble_eq_true rfl) d_Model_reckon_80 ⟨by decide, by decide⟩ (qv (fun H3 locs hq hF => ?_))
      obtain ⟨hq, hm⟩ := hq
      have hfr := hfr.tr hq
      refine lv_iload_n hx hb d_Model_reckon_83 rfl (lv_at hl 1 rfl) ?_
      refine lv_if_ne (tgt := 95) hx hb d_Model_reckon_84 (by decide) (fun h9 => absurd (by decide) h9) (fun _ => ?_)
      refine lv_aload_n hx hb d_Model_reckon_87 rfl (lv_at hl 0 rfl) ?_
      refine lv_iload_n hx hb d_Model_reckon_88 rfl (lv_at hl 2 rfl) ?_
      refine lv_iload_n hx hb d_Model_reckon_89 rfl (lv_at hl 3 rfl) ?_
      refine lv_iload hx hb d_Model_reckon_90 (lv_at hl 4 rfl) ?_
      refine q_cV (rest := []) E (c_Model_add l g n0 mo k1 k2 k3 0 (nI pn) (nI tn) (nI wn) 1 10 hw1  fd (by omega) (by omega) (by omega) ) w_975 w_15 w_972 w_974 (bw_s 17 rfl) hd_Model_add rfl ⟨by decide, by decide⟩ (OB.recv E.2.2.2.2.2 (by rfl) hm.1) hm hF hl.1 rfl (Nat.le_of_ble_eq_true rfl) d_Model_reckon_92 ⟨by decide, by decide⟩ (qv (fun H4 locs hq hF => ?_))
      obtain ⟨hq, fd_1, hm, hpv, hv⟩ := hq
      have hfr := hfr.tr (kjR hq)
      refine lv_iload_n hx hb d_Model_reckon_95 rfl (lv_at hl 1 rfl) ?_
      refine lv_iconst (v := nI 1) hx hb d_Model_reckon_96 (by decide) ?_
      refine lv_icmp_ne (tgt := 108) hx hb d_Model_reckon_97 (by decide) (fun _ => ?_) (fun h9 => absurd h9 (by decide))
      refine lv_iload_n hx hb d_Model_reckon_108 rfl (lv_at hl 1 rfl) ?_
      refine lv_iconst (v := nI 2) hx hb d_Model_reckon_109 (by decide) ?_
      refine lv_icmp_ne (tgt := 121) hx hb d_Model_reckon_110 (by decide) (fun _ => ?_) (fun h9 => absurd h9 (by decide))
      refine lv_iload_n hx hb d_Model_reckon_121 rfl (lv_at hl 1 rfl) ?_
      refine lv_iconst (v := nI 3) hx hb d_Model_reckon_122 (by decide) ?_
      refine lv_icmp_ge (tgt := 127) hx hb d_Model_reckon_123 (by decide) (fun h9 => absurd h9 (by decide)) (fun _ => ?_)
      exact q_vret E hr hlk (⟨rfl, Or.inl ⟨hok, Or.inl (hP.keep hfr hw1 hm)⟩⟩) hF d_Model_reckon_126
    | 1, _ =>
      refine lv_aload_n hx hb d_Model_reckon_47 rfl (lv_at hl 0 rfl) ?_
      refine lv_iload_n hx hb d_Model_reckon_48 rfl (lv_at hl 1 rfl) ?_
      refine lv_iconst (v := nI 3) hx hb d_Model_reckon_49 (by decide) ?_
      refine lv_icmp_ne (tgt := 69) hx hb d_Model_reckon_50 (by decide) (fun _ => ?_) (fun h9 => absurd h9 (by decide))
      refine lv_iconst (v := nI 0) hx hb d_Model_reckon_69 (by decide) ?_
      refine lv_iconst (v := nI 2) hx hb d_Model_reckon_70 (by decide) ?_
      refine q_cV (rest := []) E (c_Model_fails l g n0 mo 0 (nI pn) (nI tn) (nI wn) w9 n9 hw9 (nI 0) (nI 2) fd hmn (Or.inr rfl)) w_1056 w_15 w_1053 w_1055 (bw_s 24 rfl) hd_Model_fails rfl ⟨by decide, by decide⟩ (OB.recv E.2.2.2.2.2 (by rfl) hm.1) hm hF hl.1 rfl (Nat.le_of_ble_eq_true rfl) d_Model_reckon_71 ⟨by decide, by decide⟩ (qi (fun rf H2 locs hq hF => ?_))
      obtain ⟨hrf, hq, hm⟩ := hq
      subst hrf
      have hfr := hfr.tr hq
      rw [if_pos nI_0] at hm
      refine lv_if_eq (tgt := 78) hx hb d_Model_reckon_74 (by decide) (fun _ => ?_) (fun h9 => absurd (by decide) h9)
      refine lv_aload_n hx hb d_Model_reckon_78 rfl (lv_at hl 0 rfl) ?_
      refine lv_iconst (v := nI 1) hx hb d_Model_reckon_79 (by decide) ?_
      refine q_cV (rest := []) E (c_Model_use l g n0 mo 0 (nI pn) (nI tn) (nI wn) w9 n9 hw9 1 10 hw1 fd hmn) w_967 w_15 w_964 w_966 (bw_s 15 rfl) hd_Model_use rfl ⟨by decide, by decide⟩ (OB.recv E.2.2.2.2.2 (by rfl) hm.1) hm hF hl.1 rfl (Nat.le_of_ble_eq_true rfl) d_Model_reckon_80 ⟨by decide, by decide⟩ (qv (fun H3 locs hq hF => ?_))
      obtain ⟨hq, hm⟩ := hq
      have hfr := hfr.tr hq
      refine lv_iload_n hx hb d_Model_reckon_83 rfl (lv_at hl 1 rfl) ?_
      refine lv_if_ne (tgt := 95) hx hb d_Model_reckon_84 (by decide) (fun _ => ?_) (fun h9 => absurd h9 (by decide))
      refine lv_iload_n hx hb d_Model_reckon_95 rfl (lv_at hl 1 rfl) ?_
      refine lv_iconst (v := nI 1) hx hb d_Model_reckon_96 (by decide) ?_
      refine lv_icmp_ne (tgt := 108) hx hb d_Model_reckon_97 (by decide) (fun h9 => absurd (by decide) h9) (fun _ => ?_)
      refine lv_aload_n hx hb d_Model_reckon_100 rfl (lv_at hl 0 rfl) ?_
      refine lv_iload_n hx hb d_Model_reckon_101 rfl (lv_at hl 2 rfl) ?_
      refine lv_iload_n hx hb d_Model_reckon_102 rfl (lv_at hl 3 rfl) ?_
      refine lv_iload hx hb d_Model_reckon_103 (lv_at hl 4 rfl) ?_
      refine q_cV (rest := []) E (c_Model_less l g n0 mo k1 k2 k3 0 (nI pn) (nI tn) (nI wn) 1 10 hw1  fd (by omega) (by omega) (by omega) ) w_1109 w_15 w_1106 w_1108 (bw_s 31 rfl) hd_Model_less rfl ⟨by decide, by decide⟩ (OB.recv E.2.2.2.2.2 (by rfl) hm.1) hm hF hl.1 rfl (Nat.le_of_ble_eq_true rfl) d_Model_reckon_105 ⟨by decide, by decide⟩ (qv (fun H4 locs hq hF => ?_))
      obtain ⟨hq, fd_2, hm, hpv, hv⟩ := hq
      have hfr := hfr.tr (kjR hq)
      refine lv_iload_n hx hb d_Model_reckon_108 rfl (lv_at hl 1 rfl) ?_
      refine lv_iconst (v := nI 2) hx hb d_Model_reckon_109 (by decide) ?_
      refine lv_icmp_ne (tgt := 121) hx hb d_Model_reckon_110 (by decide) (fun _ => ?_) (fun h9 => absurd h9 (by decide))
      refine lv_iload_n hx hb d_Model_reckon_121 rfl (lv_at hl 1 rfl) ?_
      refine lv_iconst (v := nI 3) hx hb d_Model_reckon_122 (by decide) ?_
      refine lv_icmp_ge (tgt := 127) hx hb d_Model_reckon_123 (by decide) (fun h9 => absurd h9 (by decide)) (fun _ => ?_)
      exact q_vret E hr hlk (⟨rfl, Or.inl ⟨hok, Or.inl (hP.keep hfr hw1 hm)⟩⟩) hF d_Model_reckon_126
    | 2, _ =>
      refine lv_aload_n hx hb d_Model_reckon_47 rfl (lv_at hl 0 rfl) ?_
      refine lv_iload_n hx hb d_Model_reckon_48 rfl (lv_at hl 1 rfl) ?_
      refine lv_iconst (v := nI 3) hx hb d_Model_reckon_49 (by decide) ?_
      refine lv_icmp_ne (tgt := 69) hx hb d_Model_reckon_50 (by decide) (fun _ => ?_) (fun h9 => absurd h9 (by decide))
      refine lv_iconst (v := nI 0) hx hb d_Model_reckon_69 (by decide) ?_
      refine lv_iconst (v := nI 2) hx hb d_Model_reckon_70 (by decide) ?_
      refine q_cV (rest := []) E (c_Model_fails l g n0 mo 0 (nI pn) (nI tn) (nI wn) w9 n9 hw9 (nI 0) (nI 2) fd hmn (Or.inr rfl)) w_1056 w_15 w_1053 w_1055 (bw_s 24 rfl) hd_Model_fails rfl ⟨by decide, by decide⟩ (OB.recv E.2.2.2.2.2 (by rfl) hm.1) hm hF hl.1 rfl (Nat.le_of_ble_eq_true rfl) d_Model_reckon_71 ⟨by decide, by decide⟩ (qi (fun rf H2 locs hq hF => ?_))
      obtain ⟨hrf, hq, hm⟩ := hq
      subst hrf
      have hfr := hfr.tr hq
      rw [if_pos nI_0] at hm
      refine lv_if_eq (tgt := 78) hx hb d_Model_reckon_74 (by decide) (fun _ => ?_) (fun h9 => absurd (by decide) h9)
      refine lv_aload_n hx hb d_Model_reckon_78 rfl (lv_at hl 0 rfl) ?_
      refine lv_iconst (v := nI 1) hx hb d_Model_reckon_79 (by decide) ?_
      refine q_cV (rest := []) E (c_Model_use l g n0 mo 0 (nI pn) (nI tn) (nI wn) w9 n9 hw9 1 10 hw1 fd hmn) w_967 w_15 w_964 w_966 (bw_s 15 rfl) hd_Model_use rfl ⟨by decide, by decide⟩ (OB.recv E.2.2.2.2.2 (by rfl) hm.1) hm hF hl.1 rfl (Nat.le_of_ble_eq_true rfl) d_Model_reckon_80 ⟨by decide, by decide⟩ (qv (fun H3 locs hq hF => ?_))
      obtain ⟨hq, hm⟩ := hq
      have hfr := hfr.tr hq
      refine lv_iload_n hx hb d_Model_reckon_83 rfl (lv_at hl 1 rfl) ?_
      refine lv_if_ne (tgt := 95) hx hb d_Model_reckon_84 (by decide) (fun _ => ?_) (fun h9 => absurd h9 (by decide))
      refine lv_iload_n hx hb d_Model_reckon_95 rfl (lv_at hl 1 rfl) ?_
      refine lv_iconst (v := nI 1) hx hb d_Model_reckon_96 (by decide) ?_
      refine lv_icmp_ne (tgt := 108) hx hb d_Model_reckon_97 (by decide) (fun _ => ?_) (fun h9 => absurd h9 (by decide))
      refine lv_iload_n hx hb d_Model_reckon_108 rfl (lv_at hl 1 rfl) ?_
      refine lv_iconst (v := nI 2) hx hb d_Model_reckon_109 (by decide) ?_
      refine lv_icmp_ne (tgt := 121) hx hb d_Model_reckon_110 (by decide) (fun h9 => absurd (by decide) h9) (fun _ => ?_)
      refine lv_aload_n hx hb d_Model_reckon_113 rfl (lv_at hl 0 rfl) ?_
      refine lv_iload_n hx hb d_Model_reckon_114 rfl (lv_at hl 2 rfl) ?_
      refine lv_iload_n hx hb d_Model_reckon_115 rfl (lv_at hl 3 rfl) ?_
      refine lv_iload hx hb d_Model_reckon_116 (lv_at hl 4 rfl) ?_
      refine q_cV (rest := []) E (c_Model_product l g n0 mo k1 k2 k3 0 (nI pn) (nI tn) (nI wn) 1 10 hw1  fd (by omega) (by omega) (by omega) ) w_1113 w_15 w_1110 w_1112 (bw_s 32 rfl) hd_Model_product rfl ⟨by decide, by decide⟩ (OB.recv E.2.2.2.2.2 (by rfl) hm.1) hm hF hl.1 rfl (Nat.le_of_ble_eq_true rfl) d_Model_reckon_118 ⟨by decide, by decide⟩ (qv (fun H4 locs hq hF => ?_))
      obtain ⟨hq, fd_3, hm, hpv, hv⟩ := hq
      have hfr := hfr.tr (kjR hq)
      refine lv_iload_n hx hb d_Model_reckon_121 rfl (lv_at hl 1 rfl) ?_
      refine lv_iconst (v := nI 3) hx hb d_Model_reckon_122 (by decide) ?_
      refine lv_icmp_ge (tgt := 127) hx hb d_Model_reckon_123 (by decide) (fun h9 => absurd h9 (by decide)) (fun _ => ?_)
      exact q_vret E hr hlk (⟨rfl, Or.inl ⟨hok, Or.inl (hP.keep hfr hw1 hm)⟩⟩) hF d_Model_reckon_126
    | 3, _ =>
      refine lv_aload_n hx hb d_Model_reckon_47 rfl (lv_at hl 0 rfl) ?_
      refine lv_iload_n hx hb d_Model_reckon_48 rfl (lv_at hl 1 rfl) ?_
      refine lv_iconst (v := nI 3) hx hb d_Model_reckon_49 (by decide) ?_
      refine lv_icmp_ne (tgt := 69) hx hb d_Model_reckon_50 (by decide) (fun h9 => absurd (by decide) h9) (fun _ => ?_)
      refine lv_aload_n hx hb d_Model_reckon_53 rfl (lv_at hl 0 rfl) ?_
      refine lv_iload hx hb d_Model_reckon_54 (lv_at hl 4 rfl) ?_
      refine lv_bipush (v := nI 31) hx hb d_Model_reckon_56 (by decide) ?_
      refine lv_iand hx hb d_Model_reckon_58 ?_
      refine lv_topi (fun t9 e9 => ?_)
      obtain rfl : t9 = nI k3 := e9.trans (by rw [pk_andN (by omega) (k := 5) (by decide), Nat.mod_eq_of_lt (by omega)])
      refine q_cV (rest := [.ref mo]) E (c_Model_isZero l g n0 mo k3 0 (nI pn) (nI tn) (nI wn) w9 n9 hw9 fd (by omega)) w_1105 w_15 w_1102 w_1104 (bw_s 30 rfl) hd_Model_isZero rfl ⟨by decide, by decide⟩ (OB.recv E.2.2.2.2.2 (by rfl) hm.1) hm hF hl.1 rfl (Nat.le_of_ble_eq_true rfl) d_Model_reckon_59 ⟨by decide, by decide⟩ (qi (fun rz1 H2 locs hq hF => ?_))
      obtain ⟨hbrz1, hq⟩ := hq
      subst hq
      refine lv_if_eq (tgt := 69) hx hb d_Model_reckon_62 (by decide) (fun _ => ?_) (fun _ => ?_)
      rotate_left
      · skip
        refine lv_iconst (v := nI 1) hx hb d_Model_reckon_65 (by decide) ?_
        refine lv_goto (tgt := 70) hx hb d_Model_reckon_66 (by decide) ?_
        refine lv_iconst (v := nI 2) hx hb d_Model_reckon_70 (by decide) ?_
        refine q_cV (rest := []) E (c_Model_fails l g n0 mo 0 (nI pn) (nI tn) (nI wn) w9 n9 hw9 (nI 1) (nI 2) fd hmn (Or.inl rfl)) w_1056 w_15 w_1053 w_1055 (bw_s 24 rfl) hd_Model_fails rfl ⟨by decide, by decide⟩ (OB.recv E.2.2.2.2.2 (by rfl) hm.1) hm hF hl.1 rfl (Nat.le_of_ble_eq_true rfl) d_Model_reckon_71 ⟨by decide, by decide⟩ (qi (fun rf H3 locs hq hF => ?_))
        obtain ⟨hrf, hq, hm⟩ := hq
        subst hrf
        have hfr := hfr.tr hq
        rw [if_neg (by decide)] at hm
        refine lv_if_eq (tgt := 78) hx hb d_Model_reckon_74 (by decide) (fun h9 => absurd h9 (by decide)) (fun _ => ?_)
        exact q_vret E hr hlk (⟨rfl, Or.inl ⟨hok, Or.inr (hP.keep hfr hw9 hm)⟩⟩) hF d_Model_reckon_77
      refine lv_iconst (v := nI 0) hx hb d_Model_reckon_69 (by decide) ?_
      refine lv_iconst (v := nI 2) hx hb d_Model_reckon_70 (by decide) ?_
      refine q_cV (rest := []) E (c_Model_fails l g n0 mo 0 (nI pn) (nI tn) (nI wn) w9 n9 hw9 (nI 0) (nI 2) fd hmn (Or.inr rfl)) w_1056 w_15 w_1053 w_1055 (bw_s 24 rfl) hd_Model_fails rfl ⟨by decide, by decide⟩ (OB.recv E.2.2.2.2.2 (by rfl) hm.1) hm hF hl.1 rfl (Nat.le_of_ble_eq_true rfl) d_Model_reckon_71 ⟨by decide, by decide⟩ (qi (fun rf H3 locs hq hF => ?_))
      obtain ⟨hrf, hq, hm⟩ := hq
      subst hrf
      have hfr := hfr.tr hq
      rw [if_pos nI_0] at hm
      refine lv_if_eq (tgt := 78) hx hb d_Model_reckon_74 (by decide) (fun _ => ?_) (fun h9 => absurd (by decide) h9)
      refine lv_aload_n hx hb d_Model_reckon_78 rfl (lv_at hl 0 rfl) ?_
      refine lv_iconst (v := nI 1) hx hb d_Model_reckon_79 (by decide) ?_
      refine q_cV (rest := []) E (c_Model_use l g n0 mo 0 (nI pn) (nI tn) (nI wn) w9 n9 hw9 1 10 hw1 fd hmn) w_967 w_15 w_964 w_966 (bw_s 15 rfl) hd_Model_use rfl ⟨by decide, by decide⟩ (OB.recv E.2.2.2.2.2 (by rfl) hm.1) hm hF hl.1 rfl (Nat.le_of_ble_eq_true rfl) d_Model_reckon_80 ⟨by decide, by decide⟩ (qv (fun H4 locs hq hF => ?_))
      obtain ⟨hq, hm⟩ := hq
      have hfr := hfr.tr hq
      refine lv_iload_n hx hb d_Model_reckon_83 rfl (lv_at hl 1 rfl) ?_
      refine lv_if_ne (tgt := 95) hx hb d_Model_reckon_84 (by decide) (fun _ => ?_) (fun h9 => absurd h9 (by decide))
      refine lv_iload_n hx hb d_Model_reckon_95 rfl (lv_at hl 1 rfl) ?_
      refine lv_iconst (v := nI 1) hx hb d_Model_reckon_96 (by decide) ?_
      refine lv_icmp_ne (tgt := 108) hx hb d_Model_reckon_97 (by decide) (fun _ => ?_) (fun h9 => absurd h9 (by decide))
      refine lv_iload_n hx hb d_Model_reckon_108 rfl (lv_at hl 1 rfl) ?_
      refine lv_iconst (v := nI 2) hx hb d_Model_reckon_109 (by decide) ?_
      refine lv_icmp_ne (tgt := 121) hx hb d_Model_reckon_110 (by decide) (fun _ => ?_) (fun h9 => absurd h9 (by decide))
      refine lv_iload_n hx hb d_Model_reckon_121 rfl (lv_at hl 1 rfl) ?_
      refine lv_iconst (v := nI 3) hx hb d_Model_reckon_122 (by decide) ?_
      refine lv_icmp_ge (tgt := 127) hx hb d_Model_reckon_123 (by decide) (fun _ => ?_) (fun h9 => absurd (by decide) h9)
      refine lv_aload_n hx hb d_Model_reckon_127 rfl (lv_at hl 0 rfl) ?_
      refine lv_sipush (v := nI 145) hx hb d_Model_reckon_128 (by decide) ?_
      refine lv_iload_n hx hb d_Model_reckon_131 rfl (lv_at hl 3 rfl) ?_
      refine q_cV (rest := []) E (c_Model_move l g n0 mo 145 k2 0 (nI pn) (nI tn) (nI wn) 1 10 hw1  fd (by omega) (by omega) ) w_1076 w_15 w_1073 w_1075 (bw_s 27 rfl) hd_Model_move rfl ⟨by decide, by decide⟩ (OB.recv E.2.2.2.2.2 (by rfl) hm.1) hm hF hl.1 rfl (Nat.le_of_ble_eq_true rfl) d_Model_reckon_132 ⟨by decide, by decide⟩ (qv (fun H5 locs hq hF => ?_))
      obtain ⟨hq, fd_4, hm, hpv⟩ := hq
      have hfr := hfr.tr hq
      refine lv_aload_n hx hb d_Model_reckon_135 rfl (lv_at hl 0 rfl) ?_
      refine lv_sipush (v := nI 146) hx hb d_Model_reckon_136 (by decide) ?_
      refine lv_iload hx hb d_Model_reckon_139 (lv_at hl 4 rfl) ?_
      refine q_cV (rest := []) E (c_Model_inverse l g n0 mo 146 k3 0 (nI pn) (nI tn) (nI wn) 1 10 hw1  fd_4 (by omega) (by omega) ) w_1117 w_15 w_1114 w_1116 (bw_s 33 rfl) hd_Model_inverse rfl ⟨by decide, by decide⟩ (OB.recv E.2.2.2.2.2 (by rfl) hm.1) hm hF hl.1 rfl (Nat.le_of_ble_eq_true rfl) d_Model_reckon_141 ⟨by decide, by decide⟩ (qv (fun H6 locs hq hF => ?_))
      obtain ⟨hq, fd_5, hm, -⟩ := hq
      have hfr := hfr.tr hq
      refine lv_aload_n hx hb d_Model_reckon_144 rfl (lv_at hl 0 rfl) ?_
      refine lv_iload_n hx hb d_Model_reckon_145 rfl (lv_at hl 2 rfl) ?_
      refine lv_sipush (v := nI 145) hx hb d_Model_reckon_146 (by decide) ?_
      refine lv_sipush (v := nI 146) hx hb d_Model_reckon_149 (by decide) ?_
      refine q_cV (rest := []) E (c_Model_product l g n0 mo k1 145 146 0 (nI pn) (nI tn) (nI wn) 1 10 hw1  fd_5 (by omega) (by omega) (by omega) ) w_1113 w_15 w_1110 w_1112 (bw_s 32 rfl) hd_Model_product rfl ⟨by decide, by decide⟩ (OB.recv E.2.2.2.2.2 (by rfl) hm.1) hm hF hl.1 rfl (Nat.le_of_ble_eq_true rfl) d_Model_reckon_152 ⟨by decide, by decide⟩ (qv (fun H7 locs hq hF => ?_))
      obtain ⟨hq, fd_6, hm, hpv, hv⟩ := hq
      have hfr := hfr.tr (kjR hq)
      exact q_vret E hr hlk (⟨rfl, Or.inl ⟨hok, Or.inl (hP.keep hfr hw1 hm)⟩⟩) hF d_Model_reckon_155
  refine lv_aload_n hx hb d_Model_reckon_0 rfl (lv_at hl 0 rfl) ?_
  refine lv_iload_n hx hb d_Model_reckon_1 rfl (lv_at hl 1 rfl) ?_
  refine lv_i2l (v := w0.toInt64) hx hb d_Model_reckon_2 rfl ?_
  refine lv_lconst (v := 0) hx hb d_Model_reckon_3 (by decide) ?_
  refine lv_ldc2 (v := 3) hx hb E.2.2.2.1 (E.2.2.2.2.1 _ w_1098) d_Model_reckon_4 ?_
  refine q_cS (rest := [.ref mo]) E (c_Model_in l g n0 w0.toInt64 0 3 ) w_1101 w_15 w_1099 w_1100 hd_Model_in rfl ⟨by decide, by decide⟩ trivial hF hl.1 rfl (Nat.le_of_ble_eq_true rfl) d_Model_reckon_7 ⟨by decide, by decide⟩ (qi (fun r_0 H1 locs hq hF => ?_))
  obtain ⟨h_0, hq⟩ := hq
  subst hq
  rcases h_0 with ⟨rfl, f_0⟩ | ⟨rfl, f_0⟩
  · skip
    refine lv_if_eq (tgt := 35) hx hb d_Model_reckon_10 (by decide) (fun _ => ?_) (fun h9 => absurd (by decide) h9)
    refine lv_iconst (v := nI 1) hx hb d_Model_reckon_35 (by decide) ?_
    refine lv_goto (tgt := 40) hx hb d_Model_reckon_36 (by decide) ?_
    have hl : lv_has ls 5 [(0, .ref mo), (1, .int w0), (2, .int a), (3, .int a2), (4, .int a3)] := lv_sub hl [0, 1, 2, 3, 4] rfl
    exact bad _ ls (fun h => (fun q => f_0 ((in_okC (a := 0) (b := 3) (by decide) (by decide) (by decide) (by decide)).mpr q)) h.1) hF hl
  · skip
    refine lv_if_eq (tgt := 35) hx hb d_Model_reckon_10 (by decide) (fun h9 => absurd h9 (by decide)) (fun _ => ?_)
    refine lv_iload_n hx hb d_Model_reckon_13 rfl (lv_at hl 2 rfl) ?_
    refine q_cS (rest := [.ref mo]) E (c_Model_noScalar l g n0 a ) w_1064 w_15 w_1062 w_1063 hd_Model_noScalar rfl ⟨by decide, by decide⟩ trivial hF hl.1 rfl (Nat.le_of_ble_eq_true rfl) d_Model_reckon_14 ⟨by decide, by decide⟩ (qi (fun r_1 H2 locs hq hF => ?_))
    obtain ⟨h_1, hq⟩ := hq
    subst hq
    rcases h_1 with ⟨rfl, f_1⟩ | ⟨rfl, f_1⟩
    · skip
      refine lv_if_ne (tgt := 35) hx hb d_Model_reckon_17 (by decide) (fun _ => ?_) (fun h9 => absurd h9 (by decide))
      refine lv_iconst (v := nI 1) hx hb d_Model_reckon_35 (by decide) ?_
      refine lv_goto (tgt := 40) hx hb d_Model_reckon_36 (by decide) ?_
      have hl : lv_has ls 5 [(0, .ref mo), (1, .int w0), (2, .int a), (3, .int a2), (4, .int a3)] := lv_sub hl [0, 1, 2, 3, 4] rfl
      exact bad _ ls (fun h => (f_1) h.2.1) hF hl
    · skip
      refine lv_if_ne (tgt := 35) hx hb d_Model_reckon_17 (by decide) (fun h9 => absurd (by decide) h9) (fun _ => ?_)
      refine lv_iload_n hx hb d_Model_reckon_20 rfl (lv_at hl 3 rfl) ?_
      refine q_cS (rest := [.ref mo]) E (c_Model_noScalar l g n0 a2 ) w_1064 w_15 w_1062 w_1063 hd_Model_noScalar rfl ⟨by decide, by decide⟩ trivial hF hl.1 rfl (Nat.le_of_ble_eq_true rfl) d_Model_reckon_21 ⟨by decide, by decide⟩ (qi (fun r_2 H3 locs hq hF => ?_))
      obtain ⟨h_2, hq⟩ := hq
      subst hq
      rcases h_2 with ⟨rfl, f_2⟩ | ⟨rfl, f_2⟩
      · skip
        refine lv_if_ne (tgt := 35) hx hb d_Model_reckon_24 (by decide) (fun _ => ?_) (fun h9 => absurd h9 (by decide))
        refine lv_iconst (v := nI 1) hx hb d_Model_reckon_35 (by decide) ?_
        refine lv_goto (tgt := 40) hx hb d_Model_reckon_36 (by decide) ?_
        have hl : lv_has ls 5 [(0, .ref mo), (1, .int w0), (2, .int a), (3, .int a2), (4, .int a3)] := lv_sub hl [0, 1, 2, 3, 4] rfl
        exact bad _ ls (fun h => (f_2) h.2.2.1) hF hl
      · skip
        refine lv_if_ne (tgt := 35) hx hb d_Model_reckon_24 (by decide) (fun h9 => absurd (by decide) h9) (fun _ => ?_)
        refine lv_iload hx hb d_Model_reckon_27 (lv_at hl 4 rfl) ?_
        refine q_cS (rest := [.ref mo]) E (c_Model_noScalar l g n0 a3 ) w_1064 w_15 w_1062 w_1063 hd_Model_noScalar rfl ⟨by decide, by decide⟩ trivial hF hl.1 rfl (Nat.le_of_ble_eq_true rfl) d_Model_reckon_29 ⟨by decide, by decide⟩ (qi (fun r_3 H4 locs hq hF => ?_))
        obtain ⟨h_3, hq⟩ := hq
        subst hq
        rcases h_3 with ⟨rfl, f_3⟩ | ⟨rfl, f_3⟩
        · skip
          refine lv_if_eq (tgt := 39) hx hb d_Model_reckon_32 (by decide) (fun h9 => absurd h9 (by decide)) (fun _ => ?_)
          refine lv_iconst (v := nI 1) hx hb d_Model_reckon_35 (by decide) ?_
          refine lv_goto (tgt := 40) hx hb d_Model_reckon_36 (by decide) ?_
          have hl : lv_has ls 5 [(0, .ref mo), (1, .int w0), (2, .int a), (3, .int a2), (4, .int a3)] := lv_sub hl [0, 1, 2, 3, 4] rfl
          exact bad _ ls (fun h => (f_3) h.2.2.2) hF hl
        · skip
          refine lv_if_eq (tgt := 39) hx hb d_Model_reckon_32 (by decide) (fun _ => ?_) (fun h9 => absurd (by decide) h9)
          refine lv_iconst (v := nI 0) hx hb d_Model_reckon_39 (by decide) ?_
          have hl : lv_has ls 5 [(0, .ref mo), (1, .int w0), (2, .int a), (3, .int a2), (4, .int a3)] := lv_sub hl [0, 1, 2, 3, 4] rfl
          exact good _ ls ⟨(in_okC (a := 0) (b := 3) (by decide) (by decide) (by decide) (by decide)).mp f_0, f_1, f_2, f_3⟩ hF hl
set_option maxHeartbeats 4000000 in
set_option maxRecDepth 100000 in
theorem G_Model_commit (l : Launch) (g : WG) (n0 : Nat → Prop) (mo : Nat) (th : Int32) (pn tn wn : Nat) (a : Int32) (a2 : Int32) (n : Int32) : Ctr l y_Model_commit (.code y_Model_commit prog_11_method_55_code 4 none) 7 167 0 0 n0 g [.ref mo, .int a, .int a2, .int n] (fun H => MP g n0 H mo th pn tn wn) (QV (fun H H' => ((okP a (nI 1) ∧ okC n (nI 0) (nI 16) ∧ okS a2 n) ∧ ((n ≤ nI pn ∧ MP g n0 H' mo 0 pn tn wn) ∨ (¬ n ≤ nI pn ∧ MP g n0 H' mo (nI 2) pn tn wn))) ∨ (¬ (okP a (nI 1) ∧ okC n (nI 0) (nI 16) ∧ okS a2 n) ∧ MP g n0 H' mo 1 pn tn wn))) := by
  refine ctr_mk l (lv0 := [(0, .ref mo), (1, .int a), (2, .int a2), (3, .int n)]) (by decide) (Nat.le_of_ble_eq_true rfl) rfl ?_
  intro p e s m below meth c ls E hr hlk hnm hl hP
  have hx := E.1
  have hb := E.2.1
  have hK := E.2.2.2.2.2
  have hF : ∀ q ∈ ([] : List Loc), n0 q.base := fun q hq => absurd hq List.not_mem_nil
  obtain ⟨⟨w9, n9, fd, hw9, hm⟩, -⟩ := id hP
  have hmn := hP.mn
  have hbd := hP.2.2.2.2.1
  have hfr : FRM (MR mo) s.heap s.heap := FRM.rf
  have bad : ∀ (locs : List Loc) (ls : Array Slot), ¬ (okP a (nI 1) ∧ okC n (nI 0) (nI 16) ∧ okS a2 n) → (∀ q ∈ locs, n0 q.base) → lv_has ls 4 [(0, .ref mo), (1, .int a), (2, .int a2), (3, .int n)] → W p l e { frames := 7, cells := 0, slots := 0, locals := 167 } s m [.ref mo, .int a, .int a2, .int n].toArray below meth c s.heap locs 0 0 (MQ below (QcP (QV (fun H H' => ((okP a (nI 1) ∧ okC n (nI 0) (nI 16) ∧ okS a2 n) ∧ ((n ≤ nI pn ∧ MP g n0 H' mo 0 pn tn wn) ∨ (¬ n ≤ nI pn ∧ MP g n0 H' mo (nI 2) pn tn wn))) ∨ (¬ (okP a (nI 1) ∧ okC n (nI 0) (nI 16) ∧ okS a2 n) ∧ MP g n0 H' mo 1 pn tn wn)))) [.ref mo, .int a, .int a2, .int n].toArray s 0 0 (fun q => n0 q)) (F0 m 33 ls [.int (nI 1), .ref mo]) := by
    intro  locs   ls hno hF hl
    refine lv_iconst (v := nI 1) hx hb d_Model_commit_33 (by decide) ?_
    refine q_cV (rest := []) E (c_Model_fails l g n0 mo th (nI pn) (nI tn) (nI wn) w9 n9 hw9 (nI 1) (nI 1) fd hmn (Or.inl rfl)) w_1056 w_15 w_1053 w_1055 (bw_s 24 rfl) hd_Model_fails rfl ⟨by decide, by decide⟩ (OB.recv E.2.2.2.2.2 (by rfl) hm.1) hm hF hl.1 rfl (Nat.le_of_ble_eq_true rfl) d_Model_commit_34 ⟨by decide, by decide⟩ (qi (fun rf H1 locs hq hF => ?_))
    obtain ⟨hrf, hq, hm⟩ := hq
    subst hrf
    have hfr := hfr.tr hq
    rw [if_neg (by decide)] at hm
    refine lv_if_ne (tgt := 61) hx hb d_Model_commit_37 (by decide) (fun _ => ?_) (fun h9 => absurd h9 (by decide))
    exact q_vret E hr hlk (⟨rfl, Or.inr ⟨hno, hP.keep hfr hw9 hm⟩⟩) hF d_Model_commit_61
  have good : ∀ (locs : List Loc) (ls : Array Slot), okP a (nI 1) ∧ okC n (nI 0) (nI 16) ∧ okS a2 n → (∀ q ∈ locs, n0 q.base) → lv_has ls 4 [(0, .ref mo), (1, .int a), (2, .int a2), (3, .int n)] → W p l e { frames := 7, cells := 0, slots := 0, locals := 167 } s m [.ref mo, .int a, .int a2, .int n].toArray below meth c s.heap locs 0 0 (MQ below (QcP (QV (fun H H' => ((okP a (nI 1) ∧ okC n (nI 0) (nI 16) ∧ okS a2 n) ∧ ((n ≤ nI pn ∧ MP g n0 H' mo 0 pn tn wn) ∨ (¬ n ≤ nI pn ∧ MP g n0 H' mo (nI 2) pn tn wn))) ∨ (¬ (okP a (nI 1) ∧ okC n (nI 0) (nI 16) ∧ okS a2 n) ∧ MP g n0 H' mo 1 pn tn wn)))) [.ref mo, .int a, .int a2, .int n].toArray s 0 0 (fun q => n0 q)) (F0 m 33 ls [.int (nI 0), .ref mo]) := by
    intro  locs   ls hok hF hl
    refine lv_iconst (v := nI 1) hx hb d_Model_commit_33 (by decide) ?_
    refine q_cV (rest := []) E (c_Model_fails l g n0 mo th (nI pn) (nI tn) (nI wn) w9 n9 hw9 (nI 0) (nI 1) fd hmn (Or.inr rfl)) w_1056 w_15 w_1053 w_1055 (bw_s 24 rfl) hd_Model_fails rfl ⟨by decide, by decide⟩ (OB.recv E.2.2.2.2.2 (by rfl) hm.1) hm hF hl.1 rfl (Nat.le_of_ble_eq_true rfl) d_Model_commit_34 ⟨by decide, by decide⟩ (qi (fun rf H1 locs hq hF => ?_))
    obtain ⟨hrf, hq, hm⟩ := hq
    subst hrf
    have hfr := hfr.tr hq
    rw [if_pos nI_0] at hm
    refine lv_if_ne (tgt := 61) hx hb d_Model_commit_37 (by decide) (fun h9 => absurd (by decide) h9) (fun _ => ?_)
    obtain ⟨k3, e_k3, h_k3, h2_k3⟩ := okC_nat (by decide) (by decide) hok.2.1
    rw [e_k3] at hl
    obtain ⟨k1, e_k1, h_k1⟩ := okP_nat (by decide) (by decide) hok.1
    rw [e_k1] at hl
    refine lv_aload_n hx hb d_Model_commit_40 rfl (lv_at hl 0 rfl) ?_
    refine lv_iload_n hx hb d_Model_commit_41 rfl (lv_at hl 3 rfl) ?_
    refine lv_aload_n hx hb d_Model_commit_42 rfl (lv_at hl 0 rfl) ?_
    refine q_get (C := "KateDeskModel") (T := T_Model) (N := 14) (ci := 8) E hm.1 in_Model rfl 8 (by decide) w_1009 rfl rfl d_Model_commit_43 ?_
    refine lv_icmp_le (tgt := 53) hx hb d_Model_commit_46 (by decide) (fun hc => ?_) (fun hc => ?_)
    rotate_left
    · skip
      refine lv_iconst (v := nI 1) hx hb d_Model_commit_49 (by decide) ?_
      refine lv_goto (tgt := 54) hx hb d_Model_commit_50 (by decide) ?_
      refine lv_iconst (v := nI 2) hx hb d_Model_commit_54 (by decide) ?_
      refine q_cV (rest := []) E (c_Model_fails l g n0 mo 0 (nI pn) (nI tn) (nI wn) w9 n9 hw9 (nI 1) (nI 2) fd hmn (Or.inl rfl)) w_1056 w_15 w_1053 w_1055 (bw_s 24 rfl) hd_Model_fails rfl ⟨by decide, by decide⟩ (OB.recv E.2.2.2.2.2 (by rfl) hm.1) hm hF hl.1 rfl (Nat.le_of_ble_eq_true rfl) d_Model_commit_55 ⟨by decide, by decide⟩ (qi (fun rf H2 locs hq hF => ?_))
      obtain ⟨hrf, hq, hm⟩ := hq
      subst hrf
      have hfr := hfr.tr hq
      rw [if_neg (by decide)] at hm
      refine lv_if_eq (tgt := 62) hx hb d_Model_commit_58 (by decide) (fun h9 => absurd h9 (by decide)) (fun _ => ?_)
      exact q_vret E hr hlk (⟨rfl, Or.inl ⟨hok, Or.inr ⟨by rw [e_k3]; exact hc, hP.keep hfr hw9 hm⟩⟩⟩) hF d_Model_commit_61
    refine lv_iconst (v := nI 0) hx hb d_Model_commit_53 (by decide) ?_
    refine lv_iconst (v := nI 2) hx hb d_Model_commit_54 (by decide) ?_
    refine q_cV (rest := []) E (c_Model_fails l g n0 mo 0 (nI pn) (nI tn) (nI wn) w9 n9 hw9 (nI 0) (nI 2) fd hmn (Or.inr rfl)) w_1056 w_15 w_1053 w_1055 (bw_s 24 rfl) hd_Model_fails rfl ⟨by decide, by decide⟩ (OB.recv E.2.2.2.2.2 (by rfl) hm.1) hm hF hl.1 rfl (Nat.le_of_ble_eq_true rfl) d_Model_commit_55 ⟨by decide, by decide⟩ (qi (fun rf H2 locs hq hF => ?_))
    obtain ⟨hrf, hq, hm⟩ := hq
    subst hrf
    have hfr := hfr.tr hq
    rw [if_pos nI_0] at hm
    refine lv_if_eq (tgt := 62) hx hb d_Model_commit_58 (by decide) (fun _ => ?_) (fun h9 => absurd (by decide) h9)
    refine lv_aload_n hx hb d_Model_commit_62 rfl (lv_at hl 0 rfl) ?_
    refine lv_iload_n hx hb d_Model_commit_63 rfl (lv_at hl 2 rfl) ?_
    refine lv_bipush (v := nI 68) hx hb d_Model_commit_64 (by decide) ?_
    refine lv_iload_n hx hb d_Model_commit_66 rfl (lv_at hl 3 rfl) ?_
    have hsv : 0 < k3 → ∃ s1 q1, a2 = nI s1 ∧ nI 68 = nI q1 ∧ s1 + k3 ≤ 32 ∧ q1 + 3 * k3 ≤ 124 := by
      intro h0
      have h1 := hok.2.2
      rw [e_k3] at h1
      obtain ⟨s1, e1, h3⟩ := okS_nat h0 (by omega) h1
      exact ⟨s1, 68, e1, rfl, h3, by omega⟩
    refine q_cV (rest := []) E (c_Model_sums l g n0 mo k3 a2 (nI 68) 0 (nI pn) (nI tn) (nI wn) w9 n9 hw9 fd hmn (by omega) hsv) w_1210 w_15 w_1207 w_1209 (bw_s 45 rfl) hd_Model_sums rfl ⟨by decide, by decide⟩ (OB.recv E.2.2.2.2.2 (by rfl) hm.1) hm hF hl.1 rfl (Nat.le_of_ble_eq_true rfl) d_Model_commit_67 ⟨by decide, by decide⟩ (qv (fun H3 locs hq hF => ?_))
    obtain ⟨hq, fd_1, hm⟩ := hq
    have hfr := hfr.tr hq
    refine lv_aload_n hx hb d_Model_commit_70 rfl (lv_at hl 0 rfl) ?_
    refine lv_iload_n hx hb d_Model_commit_71 rfl (lv_at hl 1 rfl) ?_
    refine q_cS (rest := [.ref mo]) E (c_Model_slot l g n0 (nI k1)) w_1154 w_15 w_1152 w_1153 hd_Model_slot rfl ⟨by decide, by decide⟩ trivial hF hl.1 rfl (Nat.le_of_ble_eq_true rfl) d_Model_commit_72 ⟨by decide, by decide⟩ (qi (fun rs H4 locs hq hF => ?_))
    obtain ⟨hrs, hq9⟩ := hq
    subst hrs
    subst hq9
    refine lv_topi (fun t9 e9 => ?_)
    obtain rfl : t9 = nI (32 + 3 * k1) := e9.trans (by rw [pk_mul, nI_add])
    refine lv_sipush (v := nI 164) hx hb d_Model_commit_75 (by decide) ?_
    refine q_cV (rest := []) E (c_Model_movePoint l g n0 mo (32 + 3 * k1) 164 0 (nI pn) (nI tn) (nI wn) 0 14 hw0 fd_1 (by omega) (by omega) (by omega)) w_1171 w_15 w_1168 w_1170 (bw_s 41 rfl) hd_Model_movePoint rfl ⟨by decide, by decide⟩ (OB.recv E.2.2.2.2.2 (by rfl) hm.1) hm hF hl.1 rfl (Nat.le_of_ble_eq_true rfl) d_Model_commit_78 ⟨by decide, by decide⟩ (qv (fun H5 locs hq hF => ?_))
    obtain ⟨hq, fd_2, hm, hS9, hcp⟩ := hq
    have hfr := hfr.tr hq
    exact q_vret E hr hlk (⟨rfl, Or.inl ⟨hok, Or.inl ⟨by rw [e_k3]; exact hc, hP.keep hfr hw0 hm⟩⟩⟩) hF d_Model_commit_81
  refine lv_aload_n hx hb d_Model_commit_0 rfl (lv_at hl 0 rfl) ?_
  refine lv_iload_n hx hb d_Model_commit_1 rfl (lv_at hl 1 rfl) ?_
  refine q_cS (rest := [.ref mo]) E (c_Model_noPoint l g n0 a ) w_1151 w_15 w_1149 w_1150 hd_Model_noPoint rfl ⟨by decide, by decide⟩ trivial hF hl.1 rfl (Nat.le_of_ble_eq_true rfl) d_Model_commit_2 ⟨by decide, by decide⟩ (qi (fun r_0 H1 locs hq hF => ?_))
  obtain ⟨h_0, hq⟩ := hq
  subst hq
  rcases h_0 with ⟨rfl, f_0⟩ | ⟨rfl, f_0⟩
  · skip
    refine lv_if_ne (tgt := 28) hx hb d_Model_commit_5 (by decide) (fun _ => ?_) (fun h9 => absurd h9 (by decide))
    refine lv_iconst (v := nI 1) hx hb d_Model_commit_28 (by decide) ?_
    refine lv_goto (tgt := 33) hx hb d_Model_commit_29 (by decide) ?_
    have hl : lv_has ls 4 [(0, .ref mo), (1, .int a), (2, .int a2), (3, .int n)] := lv_sub hl [0, 1, 2, 3] rfl
    exact bad _ ls (fun h => (f_0) h.1) hF hl
  · skip
    refine lv_if_ne (tgt := 28) hx hb d_Model_commit_5 (by decide) (fun h9 => absurd (by decide) h9) (fun _ => ?_)
    refine lv_iload_n hx hb d_Model_commit_8 rfl (lv_at hl 3 rfl) ?_
    refine lv_i2l (v := n.toInt64) hx hb d_Model_commit_9 rfl ?_
    refine lv_lconst (v := 0) hx hb d_Model_commit_10 (by decide) ?_
    refine lv_ldc2 (v := 16) hx hb E.2.2.2.1 (E.2.2.2.2.1 _ w_1223) d_Model_commit_11 ?_
    refine q_cS (rest := [.ref mo]) E (c_Model_in l g n0 n.toInt64 0 16 ) w_1101 w_15 w_1099 w_1100 hd_Model_in rfl ⟨by decide, by decide⟩ trivial hF hl.1 rfl (Nat.le_of_ble_eq_true rfl) d_Model_commit_14 ⟨by decide, by decide⟩ (qi (fun r_1 H2 locs hq hF => ?_))
    obtain ⟨h_1, hq⟩ := hq
    subst hq
    rcases h_1 with ⟨rfl, f_1⟩ | ⟨rfl, f_1⟩
    · skip
      refine lv_if_eq (tgt := 28) hx hb d_Model_commit_17 (by decide) (fun _ => ?_) (fun h9 => absurd (by decide) h9)
      refine lv_iconst (v := nI 1) hx hb d_Model_commit_28 (by decide) ?_
      refine lv_goto (tgt := 33) hx hb d_Model_commit_29 (by decide) ?_
      have hl : lv_has ls 4 [(0, .ref mo), (1, .int a), (2, .int a2), (3, .int n)] := lv_sub hl [0, 1, 2, 3] rfl
      exact bad _ ls (fun h => (fun q => f_1 ((in_okC (a := 0) (b := 16) (by decide) (by decide) (by decide) (by decide)).mpr q)) h.2.1) hF hl
    · skip
      refine lv_if_eq (tgt := 28) hx hb d_Model_commit_17 (by decide) (fun h9 => absurd h9 (by decide)) (fun _ => ?_)
      refine lv_iload_n hx hb d_Model_commit_20 rfl (lv_at hl 2 rfl) ?_
      refine lv_iload_n hx hb d_Model_commit_21 rfl (lv_at hl 3 rfl) ?_
      refine q_cS (rest := [.ref mo]) E (c_Model_noScalars l g n0 a2 n (okC_n ((in_okC (a := 0) (b := 16) (by decide) (by decide) (by decide) (by decide)).mp f_1))) w_1206 w_15 w_1204 w_1205 hd_Model_noScalars rfl ⟨by decide, by decide⟩ trivial hF hl.1 rfl (Nat.le_of_ble_eq_true rfl) d_Model_commit_22 ⟨by decide, by decide⟩ (qi (fun r_2 H3 locs hq hF => ?_))
      obtain ⟨h_2, hq⟩ := hq
      subst hq
      rcases h_2 with ⟨rfl, f_2⟩ | ⟨rfl, f_2⟩
      · skip
        refine lv_if_eq (tgt := 32) hx hb d_Model_commit_25 (by decide) (fun h9 => absurd h9 (by decide)) (fun _ => ?_)
        refine lv_iconst (v := nI 1) hx hb d_Model_commit_28 (by decide) ?_
        refine lv_goto (tgt := 33) hx hb d_Model_commit_29 (by decide) ?_
        have hl : lv_has ls 4 [(0, .ref mo), (1, .int a), (2, .int a2), (3, .int n)] := lv_sub hl [0, 1, 2, 3] rfl
        exact bad _ ls (fun h => (f_2) h.2.2) hF hl
      · skip
        refine lv_if_eq (tgt := 32) hx hb d_Model_commit_25 (by decide) (fun _ => ?_) (fun h9 => absurd (by decide) h9)
        refine lv_iconst (v := nI 0) hx hb d_Model_commit_32 (by decide) ?_
        have hl : lv_has ls 4 [(0, .ref mo), (1, .int a), (2, .int a2), (3, .int n)] := lv_sub hl [0, 1, 2, 3] rfl
        exact good _ ls ⟨f_0, (in_okC (a := 0) (b := 16) (by decide) (by decide) (by decide) (by decide)).mp f_1, f_2⟩ hF hl
set_option maxHeartbeats 4000000 in
set_option maxRecDepth 100000 in
theorem G_Model_combine (l : Launch) (g : WG) (n0 : Nat → Prop) (mo : Nat) (th : Int32) (pn tn wn : Nat) (a : Int32) (a2 : Int32) (a3 : Int32) (n : Int32) : Ctr l y_Model_combine (.code y_Model_combine prog_11_method_52_code 6 none) 7 167 0 0 n0 g [.ref mo, .int a, .int a2, .int a3, .int n] (fun H => MP g n0 H mo th pn tn wn) (QV (fun H H' => ((okP a (nI 1) ∧ okC n (nI 0) (nI 12) ∧ okS a2 n ∧ okP a3 n) ∧ MP g n0 H' mo 0 pn tn wn) ∨ (¬ (okP a (nI 1) ∧ okC n (nI 0) (nI 12) ∧ okS a2 n ∧ okP a3 n) ∧ MP g n0 H' mo 1 pn tn wn))) := by
  refine ctr_mk l (lv0 := [(0, .ref mo), (1, .int a), (2, .int a2), (3, .int a3), (4, .int n)]) (by decide) (Nat.le_of_ble_eq_true rfl) rfl ?_
  intro p e s m below meth c ls E hr hlk hnm hl hP
  have hx := E.1
  have hb := E.2.1
  have hK := E.2.2.2.2.2
  have hF : ∀ q ∈ ([] : List Loc), n0 q.base := fun q hq => absurd hq List.not_mem_nil
  obtain ⟨⟨w9, n9, fd, hw9, hm⟩, -⟩ := id hP
  have hmn := hP.mn
  have hbd := hP.2.2.2.2.1
  have hfr : FRM (MR mo) s.heap s.heap := FRM.rf
  have bad : ∀ (locs : List Loc) (ls : Array Slot), ¬ (okP a (nI 1) ∧ okC n (nI 0) (nI 12) ∧ okS a2 n ∧ okP a3 n) → (∀ q ∈ locs, n0 q.base) → lv_has ls 6 [(0, .ref mo), (1, .int a), (2, .int a2), (3, .int a3), (4, .int n)] → W p l e { frames := 7, cells := 0, slots := 0, locals := 167 } s m [.ref mo, .int a, .int a2, .int a3, .int n].toArray below meth c s.heap locs 0 0 (MQ below (QcP (QV (fun H H' => ((okP a (nI 1) ∧ okC n (nI 0) (nI 12) ∧ okS a2 n ∧ okP a3 n) ∧ MP g n0 H' mo 0 pn tn wn) ∨ (¬ (okP a (nI 1) ∧ okC n (nI 0) (nI 12) ∧ okS a2 n ∧ okP a3 n) ∧ MP g n0 H' mo 1 pn tn wn)))) [.ref mo, .int a, .int a2, .int a3, .int n].toArray s 0 0 (fun q => n0 q)) (F0 m 69 ls [.int (nI 1)]) := by
    intro  locs   ls hno hF hl
    refine lv_istore (lv' := [(5, .int (nI 1)), (0, .ref mo), (1, .int a), (2, .int a2), (3, .int a3), (4, .int n)]) hx hb d_Model_combine_69 hl (by decide) rfl (fun ls hl => ?_)
    refine lv_aload_n hx hb d_Model_combine_71 rfl (lv_at hl 1 rfl) ?_
    refine lv_iload hx hb d_Model_combine_72 (lv_at hl 0 rfl) ?_
    refine lv_iconst (v := nI 1) hx hb d_Model_combine_74 (by decide) ?_
    refine q_cV (rest := []) E (c_Model_fails l g n0 mo th (nI pn) (nI tn) (nI wn) w9 n9 hw9 (nI 1) (nI 1) fd hmn (Or.inl rfl)) w_1056 w_15 w_1053 w_1055 (bw_s 24 rfl) hd_Model_fails rfl ⟨by decide, by decide⟩ (OB.recv E.2.2.2.2.2 (by rfl) hm.1) hm hF hl.1 rfl (Nat.le_of_ble_eq_true rfl) d_Model_combine_75 ⟨by decide, by decide⟩ (qi (fun rf H1 locs hq hF => ?_))
    obtain ⟨hrf, hq, hm⟩ := hq
    subst hrf
    have hfr := hfr.tr hq
    rw [if_neg (by decide)] at hm
    refine lv_if_eq (tgt := 82) hx hb d_Model_combine_78 (by decide) (fun h9 => absurd h9 (by decide)) (fun _ => ?_)
    exact q_vret E hr hlk (⟨rfl, Or.inr ⟨hno, hP.keep hfr hw9 hm⟩⟩) hF d_Model_combine_81
  have good : ∀ (locs : List Loc) (ls : Array Slot), okP a (nI 1) ∧ okC n (nI 0) (nI 12) ∧ okS a2 n ∧ okP a3 n → (∀ q ∈ locs, n0 q.base) → lv_has ls 6 [(0, .ref mo), (1, .int a), (2, .int a2), (3, .int a3), (4, .int n)] → W p l e { frames := 7, cells := 0, slots := 0, locals := 167 } s m [.ref mo, .int a, .int a2, .int a3, .int n].toArray below meth c s.heap locs 0 0 (MQ below (QcP (QV (fun H H' => ((okP a (nI 1) ∧ okC n (nI 0) (nI 12) ∧ okS a2 n ∧ okP a3 n) ∧ MP g n0 H' mo 0 pn tn wn) ∨ (¬ (okP a (nI 1) ∧ okC n (nI 0) (nI 12) ∧ okS a2 n ∧ okP a3 n) ∧ MP g n0 H' mo 1 pn tn wn)))) [.ref mo, .int a, .int a2, .int a3, .int n].toArray s 0 0 (fun q => n0 q)) (F0 m 69 ls [.int (nI 0)]) := by
    intro  locs   ls hok hF hl
    refine lv_istore (lv' := [(5, .int (nI 0)), (0, .ref mo), (1, .int a), (2, .int a2), (3, .int a3), (4, .int n)]) hx hb d_Model_combine_69 hl (by decide) rfl (fun ls hl => ?_)
    refine lv_aload_n hx hb d_Model_combine_71 rfl (lv_at hl 1 rfl) ?_
    refine lv_iload hx hb d_Model_combine_72 (lv_at hl 0 rfl) ?_
    refine lv_iconst (v := nI 1) hx hb d_Model_combine_74 (by decide) ?_
    refine q_cV (rest := []) E (c_Model_fails l g n0 mo th (nI pn) (nI tn) (nI wn) w9 n9 hw9 (nI 0) (nI 1) fd hmn (Or.inr rfl)) w_1056 w_15 w_1053 w_1055 (bw_s 24 rfl) hd_Model_fails rfl ⟨by decide, by decide⟩ (OB.recv E.2.2.2.2.2 (by rfl) hm.1) hm hF hl.1 rfl (Nat.le_of_ble_eq_true rfl) d_Model_combine_75 ⟨by decide, by decide⟩ (qi (fun rf H1 locs hq hF => ?_))
    obtain ⟨hrf, hq, hm⟩ := hq
    subst hrf
    have hfr := hfr.tr hq
    rw [if_pos nI_0] at hm
    refine lv_if_eq (tgt := 82) hx hb d_Model_combine_78 (by decide) (fun _ => ?_) (fun h9 => absurd (by decide) h9)
    obtain ⟨k1, e_k1, h_k1⟩ := okP_nat (by decide) (by decide) hok.1
    rw [e_k1] at hl
    refine lv_aload_n hx hb d_Model_combine_82 rfl (lv_at hl 1 rfl) ?_
    refine lv_iload_n hx hb d_Model_combine_83 rfl (lv_at hl 3 rfl) ?_
    refine lv_iload_n hx hb d_Model_combine_84 rfl (lv_at hl 4 rfl) ?_
    refine q_cS (rest := [.int a2, .ref mo]) E (c_Model_slot l g n0 a3) w_1154 w_15 w_1152 w_1153 hd_Model_slot rfl ⟨by decide, by decide⟩ trivial hF hl.1 rfl (Nat.le_of_ble_eq_true rfl) d_Model_combine_85 ⟨by decide, by decide⟩ (qi (fun rs H2 locs hq hF => ?_))
    obtain ⟨hrs, hq9⟩ := hq
    subst hq9
    obtain ⟨k4, e_k4, h_k4, h2_k4⟩ := okC_nat (by decide) (by decide) hok.2.1
    rw [e_k4] at hl
    refine lv_iload hx hb d_Model_combine_88 (lv_at hl 5 rfl) ?_
    have hsv : 0 < k4 → ∃ s1 q1, a2 = nI s1 ∧ rs = nI q1 ∧ s1 + k4 ≤ 32 ∧ q1 + 3 * k4 ≤ 124 := by
      intro h0
      have h1 := hok.2.2.1
      have h2 := hok.2.2.2
      rw [e_k4] at h1 h2
      obtain ⟨s1, e1, h3⟩ := okS_nat h0 (by omega) h1
      obtain ⟨q1, e2, h4⟩ := okP_nat h0 h2_k4 h2
      exact ⟨s1, 32 + 3 * q1, e1, by rw [hrs, e2, pk_mul, nI_add], h3, by omega⟩
    refine q_cV (rest := []) E (c_Model_sums l g n0 mo k4 a2 rs 0 (nI pn) (nI tn) (nI wn) w9 n9 hw9 fd hmn (by omega) hsv) w_1210 w_15 w_1207 w_1209 (bw_s 45 rfl) hd_Model_sums rfl ⟨by decide, by decide⟩ (OB.recv E.2.2.2.2.2 (by rfl) hm.1) hm hF hl.1 rfl (Nat.le_of_ble_eq_true rfl) d_Model_combine_90 ⟨by decide, by decide⟩ (qv (fun H3 locs hq hF => ?_))
    obtain ⟨hq, fd_1, hm⟩ := hq
    have hfr := hfr.tr hq
    refine lv_aload_n hx hb d_Model_combine_93 rfl (lv_at hl 1 rfl) ?_
    refine lv_iload_n hx hb d_Model_combine_94 rfl (lv_at hl 2 rfl) ?_
    refine q_cS (rest := [.ref mo]) E (c_Model_slot l g n0 (nI k1)) w_1154 w_15 w_1152 w_1153 hd_Model_slot rfl ⟨by decide, by decide⟩ trivial hF hl.1 rfl (Nat.le_of_ble_eq_true rfl) d_Model_combine_95 ⟨by decide, by decide⟩ (qi (fun rs H4 locs hq hF => ?_))
    obtain ⟨hrs, hq9⟩ := hq
    subst hrs
    subst hq9
    refine lv_topi (fun t9 e9 => ?_)
    obtain rfl : t9 = nI (32 + 3 * k1) := e9.trans (by rw [pk_mul, nI_add])
    refine lv_sipush (v := nI 164) hx hb d_Model_combine_98 (by decide) ?_
    refine q_cV (rest := []) E (c_Model_movePoint l g n0 mo (32 + 3 * k1) 164 0 (nI pn) (nI tn) (nI wn) 0 14 hw0 fd_1 (by omega) (by omega) (by omega)) w_1171 w_15 w_1168 w_1170 (bw_s 41 rfl) hd_Model_movePoint rfl ⟨by decide, by decide⟩ (OB.recv E.2.2.2.2.2 (by rfl) hm.1) hm hF hl.1 rfl (Nat.le_of_ble_eq_true rfl) d_Model_combine_101 ⟨by decide, by decide⟩ (qv (fun H5 locs hq hF => ?_))
    obtain ⟨hq, fd_2, hm, hS9, hcp⟩ := hq
    have hfr := hfr.tr hq
    exact q_vret E hr hlk (⟨rfl, Or.inl ⟨hok, hP.keep hfr hw0 hm⟩⟩) hF d_Model_combine_104
  refine lv_iload_n hx hb d_Model_combine_0 rfl (lv_at hl 1 rfl) ?_
  refine q_cS (rest := []) E (c_Model_noPoint l g n0 a ) w_1151 w_15 w_1149 w_1150 hd_Model_noPoint rfl ⟨by decide, by decide⟩ trivial hF hl.1 rfl (Nat.le_of_ble_eq_true rfl) d_Model_combine_1 ⟨by decide, by decide⟩ (qi (fun r_0 H1 locs hq hF => ?_))
  obtain ⟨h_0, hq⟩ := hq
  subst hq
  rcases h_0 with ⟨rfl, f_0⟩ | ⟨rfl, f_0⟩
  · skip
    refine lv_if_ne (tgt := 19) hx hb d_Model_combine_4 (by decide) (fun _ => ?_) (fun h9 => absurd h9 (by decide))
    refine lv_iconst (v := nI 1) hx hb d_Model_combine_19 (by decide) ?_
    refine lv_goto (tgt := 24) hx hb d_Model_combine_20 (by decide) ?_
    refine lv_istore (lv' := [(5, .int (nI 1)), (0, .ref mo), (1, .int a), (2, .int a2), (3, .int a3), (4, .int n)]) hx hb d_Model_combine_24 hl (by decide) rfl (fun ls hl => ?_)
    refine lv_iload hx hb d_Model_combine_26 (lv_at hl 0 rfl) ?_
    refine lv_if_ne (tgt := 64) hx hb d_Model_combine_28 (by decide) (fun _ => ?_) (fun h9 => absurd h9 (by decide))
    refine lv_iconst (v := nI 1) hx hb d_Model_combine_64 (by decide) ?_
    refine lv_goto (tgt := 69) hx hb d_Model_combine_65 (by decide) ?_
    have hl : lv_has ls 6 [(0, .ref mo), (1, .int a), (2, .int a2), (3, .int a3), (4, .int n)] := lv_sub hl [1, 2, 3, 4, 5] rfl
    exact bad _ ls (fun h => (f_0) h.1) hF hl
  · skip
    refine lv_if_ne (tgt := 19) hx hb d_Model_combine_4 (by decide) (fun h9 => absurd (by decide) h9) (fun _ => ?_)
    refine lv_iload hx hb d_Model_combine_7 (lv_at hl 4 rfl) ?_
    refine lv_if_lt (tgt := 19) hx hb d_Model_combine_9 (by decide) (fun g_9 => ?_) (fun g_9 => ?_)
    rotate_left
    · skip
      refine lv_iload hx hb d_Model_combine_12 (lv_at hl 4 rfl) ?_
      refine lv_bipush (v := nI 12) hx hb d_Model_combine_14 (by decide) ?_
      refine lv_icmp_le (tgt := 23) hx hb d_Model_combine_16 (by decide) (fun g_16 => ?_) (fun g_16 => ?_)
      rotate_left
      · skip
        refine lv_iconst (v := nI 1) hx hb d_Model_combine_19 (by decide) ?_
        refine lv_goto (tgt := 24) hx hb d_Model_combine_20 (by decide) ?_
        refine lv_istore (lv' := [(5, .int (nI 1)), (0, .ref mo), (1, .int a), (2, .int a2), (3, .int a3), (4, .int n)]) hx hb d_Model_combine_24 hl (by decide) rfl (fun ls hl => ?_)
        refine lv_iload hx hb d_Model_combine_26 (lv_at hl 0 rfl) ?_
        refine lv_if_ne (tgt := 64) hx hb d_Model_combine_28 (by decide) (fun _ => ?_) (fun h9 => absurd h9 (by decide))
        refine lv_iconst (v := nI 1) hx hb d_Model_combine_64 (by decide) ?_
        refine lv_goto (tgt := 69) hx hb d_Model_combine_65 (by decide) ?_
        have hl : lv_has ls 6 [(0, .ref mo), (1, .int a), (2, .int a2), (3, .int a3), (4, .int n)] := lv_sub hl [1, 2, 3, 4, 5] rfl
        exact bad _ ls (fun h => (fun q => g_16 q.2) h.2.1) hF hl
      refine lv_iconst (v := nI 0) hx hb d_Model_combine_23 (by decide) ?_
      refine lv_istore (lv' := [(5, .int (nI 0)), (0, .ref mo), (1, .int a), (2, .int a2), (3, .int a3), (4, .int n)]) hx hb d_Model_combine_24 hl (by decide) rfl (fun ls hl => ?_)
      refine lv_iload hx hb d_Model_combine_26 (lv_at hl 0 rfl) ?_
      refine lv_if_ne (tgt := 64) hx hb d_Model_combine_28 (by decide) (fun h9 => absurd (by decide) h9) (fun _ => ?_)
      refine lv_iload hx hb d_Model_combine_31 (lv_at hl 5 rfl) ?_
      refine lv_if_le (tgt := 68) hx hb d_Model_combine_33 (by decide) (fun g_33 => ?_) (fun g_33 => ?_)
      rotate_left
      · skip
        refine lv_iload_n hx hb d_Model_combine_36 rfl (lv_at hl 3 rfl) ?_
        refine lv_iload hx hb d_Model_combine_37 (lv_at hl 5 rfl) ?_
        refine q_cS (rest := []) E (c_Model_noScalars l g n0 a2 n (okC_n12 ⟨g_9, g_16⟩)) w_1206 w_15 w_1204 w_1205 hd_Model_noScalars rfl ⟨by decide, by decide⟩ trivial hF hl.1 rfl (Nat.le_of_ble_eq_true rfl) d_Model_combine_39 ⟨by decide, by decide⟩ (qi (fun r_2 H2 locs hq hF => ?_))
        obtain ⟨h_2, hq⟩ := hq
        subst hq
        rcases h_2 with ⟨rfl, f_2⟩ | ⟨rfl, f_2⟩
        · skip
          refine lv_if_ne (tgt := 64) hx hb d_Model_combine_42 (by decide) (fun _ => ?_) (fun h9 => absurd h9 (by decide))
          refine lv_iconst (v := nI 1) hx hb d_Model_combine_64 (by decide) ?_
          refine lv_goto (tgt := 69) hx hb d_Model_combine_65 (by decide) ?_
          have hl : lv_has ls 6 [(0, .ref mo), (1, .int a), (2, .int a2), (3, .int a3), (4, .int n)] := lv_sub hl [1, 2, 3, 4, 5] rfl
          exact bad _ ls (fun h => (f_2) h.2.2.1) hF hl
        · skip
          refine lv_if_ne (tgt := 64) hx hb d_Model_combine_42 (by decide) (fun h9 => absurd (by decide) h9) (fun _ => ?_)
          refine lv_iload_n hx hb d_Model_combine_45 rfl (lv_at hl 4 rfl) ?_
          refine q_cS (rest := []) E (c_Model_noPoint l g n0 a3) w_1151 w_15 w_1149 w_1150 hd_Model_noPoint rfl ⟨by decide, by decide⟩ trivial hF hl.1 rfl (Nat.le_of_ble_eq_true rfl) d_Model_combine_46 ⟨by decide, by decide⟩ (qi (fun r_46 H3 locs hq hF => ?_))
          obtain ⟨h_9, hq⟩ := hq
          subst hq
          rcases h_9 with ⟨rfl, f_46⟩ | ⟨rfl, f_46⟩
          · skip
            refine lv_if_ne (tgt := 64) hx hb d_Model_combine_49 (by decide) (fun _ => ?_) (fun h9 => absurd h9 (by decide))
            refine lv_iconst (v := nI 1) hx hb d_Model_combine_64 (by decide) ?_
            refine lv_goto (tgt := 69) hx hb d_Model_combine_65 (by decide) ?_
            have hl : lv_has ls 6 [(0, .ref mo), (1, .int a), (2, .int a2), (3, .int a3), (4, .int n)] := lv_sub hl [1, 2, 3, 4, 5] rfl
            exact bad _ ls (fun h => (fun q => f_46 (okP_s ⟨g_9, g_16⟩ g_33 q)) h.2.2.2) hF hl
          · skip
            refine lv_if_ne (tgt := 64) hx hb d_Model_combine_49 (by decide) (fun h9 => absurd (by decide) h9) (fun _ => ?_)
            refine lv_iload_n hx hb d_Model_combine_52 rfl (lv_at hl 4 rfl) ?_
            refine lv_iload hx hb d_Model_combine_53 (lv_at hl 5 rfl) ?_
            refine lv_iadd hx hb d_Model_combine_55 ?_
            refine lv_iconst (v := nI 1) hx hb d_Model_combine_56 (by decide) ?_
            refine lv_isub hx hb d_Model_combine_57 ?_
            refine q_cS (rest := []) E (c_Model_noPoint l g n0 ((a3 + n) - (nI 1))) w_1151 w_15 w_1149 w_1150 hd_Model_noPoint rfl ⟨by decide, by decide⟩ trivial hF hl.1 rfl (Nat.le_of_ble_eq_true rfl) d_Model_combine_58 ⟨by decide, by decide⟩ (qi (fun r_58 H4 locs hq hF => ?_))
            obtain ⟨h_9, hq⟩ := hq
            subst hq
            rcases h_9 with ⟨rfl, f_58⟩ | ⟨rfl, f_58⟩
            · skip
              refine lv_if_eq (tgt := 68) hx hb d_Model_combine_61 (by decide) (fun h9 => absurd h9 (by decide)) (fun _ => ?_)
              refine lv_iconst (v := nI 1) hx hb d_Model_combine_64 (by decide) ?_
              refine lv_goto (tgt := 69) hx hb d_Model_combine_65 (by decide) ?_
              have hl : lv_has ls 6 [(0, .ref mo), (1, .int a), (2, .int a2), (3, .int a3), (4, .int n)] := lv_sub hl [1, 2, 3, 4, 5] rfl
              exact bad _ ls (fun h => (fun q => f_58 ((okP_t ⟨g_9, g_16⟩ g_33 f_46).mp q)) h.2.2.2) hF hl
            · skip
              refine lv_if_eq (tgt := 68) hx hb d_Model_combine_61 (by decide) (fun _ => ?_) (fun h9 => absurd (by decide) h9)
              refine lv_iconst (v := nI 0) hx hb d_Model_combine_68 (by decide) ?_
              have hl : lv_has ls 6 [(0, .ref mo), (1, .int a), (2, .int a2), (3, .int a3), (4, .int n)] := lv_sub hl [1, 2, 3, 4, 5] rfl
              exact good _ ls ⟨f_0, ⟨g_9, g_16⟩, f_2, (okP_t ⟨g_9, g_16⟩ g_33 f_46).mpr f_58⟩ hF hl
      refine lv_iconst (v := nI 0) hx hb d_Model_combine_68 (by decide) ?_
      have hl : lv_has ls 6 [(0, .ref mo), (1, .int a), (2, .int a2), (3, .int a3), (4, .int n)] := lv_sub hl [1, 2, 3, 4, 5] rfl
      exact good _ ls ⟨f_0, ⟨g_9, g_16⟩, Or.inl g_33, Or.inl g_33⟩ hF hl
    refine lv_iconst (v := nI 1) hx hb d_Model_combine_19 (by decide) ?_
    refine lv_goto (tgt := 24) hx hb d_Model_combine_20 (by decide) ?_
    refine lv_istore (lv' := [(5, .int (nI 1)), (0, .ref mo), (1, .int a), (2, .int a2), (3, .int a3), (4, .int n)]) hx hb d_Model_combine_24 hl (by decide) rfl (fun ls hl => ?_)
    refine lv_iload hx hb d_Model_combine_26 (lv_at hl 0 rfl) ?_
    refine lv_if_ne (tgt := 64) hx hb d_Model_combine_28 (by decide) (fun _ => ?_) (fun h9 => absurd h9 (by decide))
    refine lv_iconst (v := nI 1) hx hb d_Model_combine_64 (by decide) ?_
    refine lv_goto (tgt := 69) hx hb d_Model_combine_65 (by decide) ?_
    have hl : lv_has ls 6 [(0, .ref mo), (1, .int a), (2, .int a2), (3, .int a3), (4, .int n)] := lv_sub hl [1, 2, 3, 4, 5] rfl
    exact bad _ ls (fun h => (fun q => q.1 g_9) h.2.1) hF hl
set_option maxHeartbeats 4000000 in
set_option maxRecDepth 100000 in
theorem G_Model_setup (l : Launch) (g : WG) (n0 : Nat → Prop) (mo : Nat) (th : Int32) (pn tn wn : Nat) (a : Int32) (n : Int32) : Ctr l y_Model_setup (.code y_Model_setup prog_11_method_54_code 4 none) 6 143 0 0 n0 g [.ref mo, .int a, .int n] (fun H => MP g n0 H mo th pn tn wn) (QV (fun H H' => ((okS a (nI 1) ∧ okC n (nI 1) (nI 16)) ∧ (∃ k9, n = nI k9 ∧ MP g n0 H' mo 0 k9 tn wn)) ∨ (¬ (okS a (nI 1) ∧ okC n (nI 1) (nI 16)) ∧ MP g n0 H' mo 1 pn tn wn))) := by
  refine ctr_mk l (lv0 := [(0, .ref mo), (1, .int a), (2, .int n)]) (by decide) (Nat.le_of_ble_eq_true rfl) rfl ?_
  intro p e s m below meth c ls E hr hlk hnm hl hP
  have hx := E.1
  have hb := E.2.1
  have hK := E.2.2.2.2.2
  have hF : ∀ q ∈ ([] : List Loc), n0 q.base := fun q hq => absurd hq List.not_mem_nil
  obtain ⟨⟨w9, n9, fd, hw9, hm⟩, -⟩ := id hP
  have hmn := hP.mn
  have hbd := hP.2.2.2.2.1
  have hfr : FRM (MR mo) s.heap s.heap := FRM.rf
  have bad : ∀ (locs : List Loc) (ls : Array Slot), ¬ (okS a (nI 1) ∧ okC n (nI 1) (nI 16)) → (∀ q ∈ locs, n0 q.base) → lv_has ls 4 [(0, .ref mo), (1, .int a), (2, .int n)] → W p l e { frames := 6, cells := 0, slots := 0, locals := 143 } s m [.ref mo, .int a, .int n].toArray below meth c s.heap locs 0 0 (MQ below (QcP (QV (fun H H' => ((okS a (nI 1) ∧ okC n (nI 1) (nI 16)) ∧ (∃ k9, n = nI k9 ∧ MP g n0 H' mo 0 k9 tn wn)) ∨ (¬ (okS a (nI 1) ∧ okC n (nI 1) (nI 16)) ∧ MP g n0 H' mo 1 pn tn wn)))) [.ref mo, .int a, .int n].toArray s 0 0 (fun q => n0 q)) (F0 m 25 ls [.int (nI 1), .ref mo]) := by
    intro  locs   ls hno hF hl
    refine lv_iconst (v := nI 1) hx hb d_Model_setup_25 (by decide) ?_
    refine q_cV (rest := []) E (c_Model_fails l g n0 mo th (nI pn) (nI tn) (nI wn) w9 n9 hw9 (nI 1) (nI 1) fd hmn (Or.inl rfl)) w_1056 w_15 w_1053 w_1055 (bw_s 24 rfl) hd_Model_fails rfl ⟨by decide, by decide⟩ (OB.recv E.2.2.2.2.2 (by rfl) hm.1) hm hF hl.1 rfl (Nat.le_of_ble_eq_true rfl) d_Model_setup_26 ⟨by decide, by decide⟩ (qi (fun rf H1 locs hq hF => ?_))
    obtain ⟨hrf, hq, hm⟩ := hq
    subst hrf
    have hfr := hfr.tr hq
    rw [if_neg (by decide)] at hm
    refine lv_if_eq (tgt := 33) hx hb d_Model_setup_29 (by decide) (fun h9 => absurd h9 (by decide)) (fun _ => ?_)
    exact q_vret E hr hlk (⟨rfl, Or.inr ⟨hno, hP.keep hfr hw9 hm⟩⟩) hF d_Model_setup_32
  have good : ∀ (locs : List Loc) (ls : Array Slot), okS a (nI 1) ∧ okC n (nI 1) (nI 16) → (∀ q ∈ locs, n0 q.base) → lv_has ls 4 [(0, .ref mo), (1, .int a), (2, .int n)] → W p l e { frames := 6, cells := 0, slots := 0, locals := 143 } s m [.ref mo, .int a, .int n].toArray below meth c s.heap locs 0 0 (MQ below (QcP (QV (fun H H' => ((okS a (nI 1) ∧ okC n (nI 1) (nI 16)) ∧ (∃ k9, n = nI k9 ∧ MP g n0 H' mo 0 k9 tn wn)) ∨ (¬ (okS a (nI 1) ∧ okC n (nI 1) (nI 16)) ∧ MP g n0 H' mo 1 pn tn wn)))) [.ref mo, .int a, .int n].toArray s 0 0 (fun q => n0 q)) (F0 m 25 ls [.int (nI 0), .ref mo]) := by
    intro  locs   ls hok hF hl
    refine lv_iconst (v := nI 1) hx hb d_Model_setup_25 (by decide) ?_
    refine q_cV (rest := []) E (c_Model_fails l g n0 mo th (nI pn) (nI tn) (nI wn) w9 n9 hw9 (nI 0) (nI 1) fd hmn (Or.inr rfl)) w_1056 w_15 w_1053 w_1055 (bw_s 24 rfl) hd_Model_fails rfl ⟨by decide, by decide⟩ (OB.recv E.2.2.2.2.2 (by rfl) hm.1) hm hF hl.1 rfl (Nat.le_of_ble_eq_true rfl) d_Model_setup_26 ⟨by decide, by decide⟩ (qi (fun rf H1 locs hq hF => ?_))
    obtain ⟨hrf, hq, hm⟩ := hq
    subst hrf
    have hfr := hfr.tr hq
    rw [if_pos nI_0] at hm
    refine lv_if_eq (tgt := 33) hx hb d_Model_setup_29 (by decide) (fun _ => ?_) (fun h9 => absurd (by decide) h9)
    obtain ⟨k1, e_k1, h_k1⟩ := okS_nat (by decide) (by decide) hok.1
    rw [e_k1] at hl
    obtain ⟨k2, e_k2, h_k2, h2_k2⟩ := okC_nat (by decide) (by decide) hok.2
    rw [e_k2] at hl
    refine lv_aload_n hx hb d_Model_setup_33 rfl (lv_at hl 0 rfl) ?_
    refine lv_iload_n hx hb d_Model_setup_34 rfl (lv_at hl 2 rfl) ?_
    refine q_put (C := "KateDeskModel") (T := T_Model) (N := 14) (ci := 8) (ty := .int) E hm.1 in_Model ty_Model tyok_Model nm_Model rfl 8 (by decide) w_1009 rfl rfl (by decide +kernel) rfl rfl (Nat.le_of_ble_eq_true rfl) hmn hF d_Model_setup_35 (fun H2 locs hq ho2 hF => ?_)
    have hm : MS g n0 H2 mo 0 (nI k2) (nI tn) (nI wn) w9 n9 fd := hm.frm hq (by omega) (by omega) (by omega) (by omega) ho2
    have hfr := hfr.tr (hq.mono (fun q h => Or.inl h))
    refine lv_aload_n hx hb d_Model_setup_38 rfl (lv_at hl 0 rfl) ?_
    refine lv_sipush (v := nI 165) hx hb d_Model_setup_39 (by decide) ?_
    refine q_cV (rest := []) E (c_Model_one l g n0 mo 165 0 (nI k2) (nI tn) (nI wn) w9 n9 hw9  fd (by omega) ) w_971 w_15 w_968 w_970 (bw_s 16 rfl) hd_Model_one rfl ⟨by decide, by decide⟩ (OB.recv E.2.2.2.2.2 (by rfl) hm.1) hm hF hl.1 rfl (Nat.le_of_ble_eq_true rfl) d_Model_setup_42 ⟨by decide, by decide⟩ (qv (fun H3 locs hq hF => ?_))
    obtain ⟨hq, fd_1, hm, hpv⟩ := hq
    have hfr := hfr.tr hq
    refine lv_iconst (v := nI 0) hx hb d_Model_setup_45 (by decide) ?_
    refine lv_istore_n (lv' := [(3, .int (nI 0)), (0, .ref mo), (1, .int (nI k1)), (2, .int (nI k2))]) hx hb d_Model_setup_46 rfl hl (by decide) rfl (fun ls hl => ?_)
    have hl : lv_has ls 4 [(3, .int (nI 0)), (0, .ref mo), (1, .int (nI k1)), (2, .int (nI k2))] := lv_sub hl [0, 1, 2, 3] rfl
    have loop : ∀ (k : Nat) (i : Nat) (H : Heap) (locs : List Loc) (ls : Array Slot) (w n8 : Nat) (fd1 : Nat → Int64), i + k = k2 → WH w n8 → FRM (MR mo) s.heap H → MS g n0 H mo 0 (nI k2) (nI tn) (nI wn) w n8 fd1 → (∀ q ∈ locs, n0 q.base) → lv_has ls 4 [(3, .int (nI i)), (0, .ref mo), (1, .int (nI k1)), (2, .int (nI k2))] → W p l e { frames := 6, cells := 0, slots := 0, locals := 143 } s m [.ref mo, .int a, .int n].toArray below meth c H locs 0 0 (MQ below (QcP (QV (fun H H' => ((okS a (nI 1) ∧ okC n (nI 1) (nI 16)) ∧ (∃ k9, n = nI k9 ∧ MP g n0 H' mo 0 k9 tn wn)) ∨ (¬ (okS a (nI 1) ∧ okC n (nI 1) (nI 16)) ∧ MP g n0 H' mo 1 pn tn wn)))) [.ref mo, .int a, .int n].toArray s 0 0 (fun q => n0 q)) (F0 m 47 ls []) := by
      intro k
      induction k with
      | zero =>
        intro  i   H   locs   ls   w n8   fd1 hi hw hfr hm hF hl
        obtain rfl : i = k2 := by omega
        refine lv_iload_n hx hb d_Model_setup_47 rfl (lv_at hl 0 rfl) ?_
        refine lv_iload_n hx hb d_Model_setup_48 rfl (lv_at hl 3 rfl) ?_
        refine lv_icmp_ge (tgt := 94) hx hb d_Model_setup_49 (by decide) (fun _ => ?_) (fun h9 => absurd (nI_le (Nat.le_refl _) (by omega)) h9)
        exact q_vret E hr hlk (⟨rfl, Or.inl ⟨hok, _, e_k2, hP.fin hfr hw hm ⟨by omega, hbd.2⟩⟩⟩) hF d_Model_setup_94
      | succ k ih =>
        intro  i   H   locs   ls   w n8   fd1 hi hw hfr hm hF hl
        refine lv_iload_n hx hb d_Model_setup_47 rfl (lv_at hl 0 rfl) ?_
        refine lv_iload_n hx hb d_Model_setup_48 rfl (lv_at hl 3 rfl) ?_
        refine lv_icmp_ge (tgt := 94) hx hb d_Model_setup_49 (by decide) (fun h9 => absurd h9 (nI_ge (by omega) (by omega))) (fun _ => ?_)
        refine lv_aload_n hx hb d_Model_setup_52 rfl (lv_at hl 1 rfl) ?_
        refine lv_iconst (v := nI 0) hx hb d_Model_setup_53 (by decide) ?_
        refine q_cV (rest := []) E (c_Model_use l g n0 mo 0 (nI k2) (nI tn) (nI wn) w n8 hw 0 14 hw0 fd1 hmn) w_967 w_15 w_964 w_966 (bw_s 15 rfl) hd_Model_use rfl ⟨by decide, by decide⟩ (OB.recv E.2.2.2.2.2 (by rfl) hm.1) hm hF hl.1 rfl (Nat.le_of_ble_eq_true rfl) d_Model_setup_54 ⟨by decide, by decide⟩ (qv (fun H1 locs hq hF => ?_))
        obtain ⟨hq, hm⟩ := hq
        have hfr := hfr.tr hq
        refine lv_aload_n hx hb d_Model_setup_57 rfl (lv_at hl 1 rfl) ?_
        refine lv_bipush (v := nI 68) hx hb d_Model_setup_58 (by decide) ?_
        refine lv_iconst (v := nI 3) hx hb d_Model_setup_60 (by decide) ?_
        refine lv_iload_n hx hb d_Model_setup_61 rfl (lv_at hl 0 rfl) ?_
        refine lv_imul hx hb d_Model_setup_62 ?_
        refine lv_topi (fun t9 e9 => ?_)
        obtain rfl : t9 = nI (3 * i) := e9.trans (pk_mul _ _)
        refine lv_iadd hx hb d_Model_setup_63 ?_
        refine lv_topi (fun t9 e9 => ?_)
        obtain rfl : t9 = nI (68 + (3 * i)) := e9.trans (nI_add _ _)
        refine lv_sipush (v := nI 165) hx hb d_Model_setup_64 (by decide) ?_
        refine lv_bipush (v := nI 116) hx hb d_Model_setup_67 (by decide) ?_
        refine q_cV (rest := []) E (c_Model_multiple l g n0 mo (68 + (3 * i)) 165 116 0 (nI k2) (nI tn) (nI wn) 0 14 hw0 fd1 (by omega) (by omega) (by omega)) w_1167 w_15 w_1164 w_1166 (bw_s 40 rfl) hd_Model_multiple rfl ⟨by decide, by decide⟩ (OB.recv E.2.2.2.2.2 (by rfl) hm.1) hm hF hl.1 rfl (Nat.le_of_ble_eq_true rfl) d_Model_setup_69 ⟨by decide, by decide⟩ (qv (fun H2 locs hq hF => ?_))
        obtain ⟨hq, fd_2, hm, hS9, hV9⟩ := hq
        have hfr := hfr.tr hq
        refine lv_aload_n hx hb d_Model_setup_72 rfl (lv_at hl 1 rfl) ?_
        refine lv_iconst (v := nI 1) hx hb d_Model_setup_73 (by decide) ?_
        refine q_cV (rest := []) E (c_Model_use l g n0 mo 0 (nI k2) (nI tn) (nI wn) 0 14 hw0 1 10 hw1 fd_2 hmn) w_967 w_15 w_964 w_966 (bw_s 15 rfl) hd_Model_use rfl ⟨by decide, by decide⟩ (OB.recv E.2.2.2.2.2 (by rfl) hm.1) hm hF hl.1 rfl (Nat.le_of_ble_eq_true rfl) d_Model_setup_74 ⟨by decide, by decide⟩ (qv (fun H3 locs hq hF => ?_))
        obtain ⟨hq, hm⟩ := hq
        have hfr := hfr.tr hq
        refine lv_aload_n hx hb d_Model_setup_77 rfl (lv_at hl 1 rfl) ?_
        refine lv_sipush (v := nI 165) hx hb d_Model_setup_78 (by decide) ?_
        refine lv_sipush (v := nI 165) hx hb d_Model_setup_81 (by decide) ?_
        refine lv_iload_n hx hb d_Model_setup_84 rfl (lv_at hl 2 rfl) ?_
        refine q_cV (rest := []) E (c_Model_product l g n0 mo 165 165 k1 0 (nI k2) (nI tn) (nI wn) 1 10 hw1  fd_2 (by omega) (by omega) (by omega) ) w_1113 w_15 w_1110 w_1112 (bw_s 32 rfl) hd_Model_product rfl ⟨by decide, by decide⟩ (OB.recv E.2.2.2.2.2 (by rfl) hm.1) hm hF hl.1 rfl (Nat.le_of_ble_eq_true rfl) d_Model_setup_85 ⟨by decide, by decide⟩ (qv (fun H4 locs hq hF => ?_))
        obtain ⟨hq, fd_3, hm, hpv, hv⟩ := hq
        have hfr := hfr.tr (kjR hq)
        refine lv_iinc (k := 0) (v := nI (i + 1)) (lv' := [(3, .int (nI (i + 1))), (0, .ref mo), (1, .int (nI k1)), (2, .int (nI k2))]) hx hb d_Model_setup_88 hl rfl (i_inc i) (by decide) rfl (fun ls hl => ?_)
        refine lv_goto (tgt := 47) hx hb d_Model_setup_91 (by decide) ?_
        have hl : lv_has ls 4 [(3, .int (nI (i + 1))), (0, .ref mo), (1, .int (nI k1)), (2, .int (nI k2))] := lv_sub hl [0, 1, 2, 3] rfl
        exact ih (i + 1) _ _ ls 1 10 _ (by omega) hw1 hfr hm hF hl
    exact loop k2 0 _ _ ls w9 n9 _ (by omega) hw9 hfr hm hF hl
  refine lv_aload_n hx hb d_Model_setup_0 rfl (lv_at hl 0 rfl) ?_
  refine lv_iload_n hx hb d_Model_setup_1 rfl (lv_at hl 1 rfl) ?_
  refine q_cS (rest := [.ref mo]) E (c_Model_noScalar l g n0 a ) w_1064 w_15 w_1062 w_1063 hd_Model_noScalar rfl ⟨by decide, by decide⟩ trivial hF hl.1 rfl (Nat.le_of_ble_eq_true rfl) d_Model_setup_2 ⟨by decide, by decide⟩ (qi (fun r_0 H1 locs hq hF => ?_))
  obtain ⟨h_0, hq⟩ := hq
  subst hq
  rcases h_0 with ⟨rfl, f_0⟩ | ⟨rfl, f_0⟩
  · skip
    refine lv_if_ne (tgt := 20) hx hb d_Model_setup_5 (by decide) (fun _ => ?_) (fun h9 => absurd h9 (by decide))
    refine lv_iconst (v := nI 1) hx hb d_Model_setup_20 (by decide) ?_
    refine lv_goto (tgt := 25) hx hb d_Model_setup_21 (by decide) ?_
    have hl : lv_has ls 4 [(0, .ref mo), (1, .int a), (2, .int n)] := lv_sub hl [0, 1, 2] rfl
    exact bad _ ls (fun h => (f_0) h.1) hF hl
  · skip
    refine lv_if_ne (tgt := 20) hx hb d_Model_setup_5 (by decide) (fun h9 => absurd (by decide) h9) (fun _ => ?_)
    refine lv_iload_n hx hb d_Model_setup_8 rfl (lv_at hl 2 rfl) ?_
    refine lv_i2l (v := n.toInt64) hx hb d_Model_setup_9 rfl ?_
    refine lv_lconst (v := 1) hx hb d_Model_setup_10 (by decide) ?_
    refine lv_ldc2 (v := 16) hx hb E.2.2.2.1 (E.2.2.2.2.1 _ w_1223) d_Model_setup_11 ?_
    refine q_cS (rest := [.ref mo]) E (c_Model_in l g n0 n.toInt64 1 16 ) w_1101 w_15 w_1099 w_1100 hd_Model_in rfl ⟨by decide, by decide⟩ trivial hF hl.1 rfl (Nat.le_of_ble_eq_true rfl) d_Model_setup_14 ⟨by decide, by decide⟩ (qi (fun r_1 H2 locs hq hF => ?_))
    obtain ⟨h_1, hq⟩ := hq
    subst hq
    rcases h_1 with ⟨rfl, f_1⟩ | ⟨rfl, f_1⟩
    · skip
      refine lv_if_ne (tgt := 24) hx hb d_Model_setup_17 (by decide) (fun h9 => absurd (by decide) h9) (fun _ => ?_)
      refine lv_iconst (v := nI 1) hx hb d_Model_setup_20 (by decide) ?_
      refine lv_goto (tgt := 25) hx hb d_Model_setup_21 (by decide) ?_
      have hl : lv_has ls 4 [(0, .ref mo), (1, .int a), (2, .int n)] := lv_sub hl [0, 1, 2] rfl
      exact bad _ ls (fun h => (fun q => f_1 ((in_okC (a := 1) (b := 16) (by decide) (by decide) (by decide) (by decide)).mpr q)) h.2) hF hl
    · skip
      refine lv_if_ne (tgt := 24) hx hb d_Model_setup_17 (by decide) (fun _ => ?_) (fun h9 => absurd h9 (by decide))
      refine lv_iconst (v := nI 0) hx hb d_Model_setup_24 (by decide) ?_
      have hl : lv_has ls 4 [(0, .ref mo), (1, .int a), (2, .int n)] := lv_sub hl [0, 1, 2] rfl
      exact good _ ls ⟨f_0, (in_okC (a := 1) (b := 16) (by decide) (by decide) (by decide) (by decide)).mp f_1⟩ hF hl
set_option maxHeartbeats 4000000 in
set_option maxRecDepth 100000 in
theorem G_Model_open (l : Launch) (g : WG) (n0 : Nat → Prop) (mo : Nat) (th : Int32) (pn tn wn : Nat) (a : Int32) (n : Int32) (z0 : Int32) (y0 : Int32) : Ctr l y_Model_open (.code y_Model_open prog_11_method_57_code 6 none) 4 104 0 0 n0 g [.ref mo, .int a, .int n, .int z0, .int y0] (fun H => MP g n0 H mo th pn tn wn) (QV (fun H H' => ((okC n (nI 1) (nI 16) ∧ okS a n ∧ okS z0 (nI 1) ∧ okS y0 (nI 1)) ∧ MP g n0 H' mo 0 pn tn wn) ∨ (¬ (okC n (nI 1) (nI 16) ∧ okS a n ∧ okS z0 (nI 1) ∧ okS y0 (nI 1)) ∧ MP g n0 H' mo 1 pn tn wn))) := by
  refine ctr_mk l (lv0 := [(0, .ref mo), (1, .int a), (2, .int n), (3, .int z0), (4, .int y0)]) (by decide) (Nat.le_of_ble_eq_true rfl) rfl ?_
  intro p e s m below meth c ls E hr hlk hnm hl hP
  have hx := E.1
  have hb := E.2.1
  have hK := E.2.2.2.2.2
  have hF : ∀ q ∈ ([] : List Loc), n0 q.base := fun q hq => absurd hq List.not_mem_nil
  obtain ⟨⟨w9, n9, fd, hw9, hm⟩, -⟩ := id hP
  have hmn := hP.mn
  have hbd := hP.2.2.2.2.1
  have hfr : FRM (MR mo) s.heap s.heap := FRM.rf
  have bad : ∀ (locs : List Loc) (ls : Array Slot), ¬ (okC n (nI 1) (nI 16) ∧ okS a n ∧ okS z0 (nI 1) ∧ okS y0 (nI 1)) → (∀ q ∈ locs, n0 q.base) → lv_has ls 6 [(0, .ref mo), (1, .int a), (2, .int n), (3, .int z0), (4, .int y0)] → W p l e { frames := 4, cells := 0, slots := 0, locals := 104 } s m [.ref mo, .int a, .int n, .int z0, .int y0].toArray below meth c s.heap locs 0 0 (MQ below (QcP (QV (fun H H' => ((okC n (nI 1) (nI 16) ∧ okS a n ∧ okS z0 (nI 1) ∧ okS y0 (nI 1)) ∧ MP g n0 H' mo 0 pn tn wn) ∨ (¬ (okC n (nI 1) (nI 16) ∧ okS a n ∧ okS z0 (nI 1) ∧ okS y0 (nI 1)) ∧ MP g n0 H' mo 1 pn tn wn)))) [.ref mo, .int a, .int n, .int z0, .int y0].toArray s 0 0 (fun q => n0 q)) (F0 m 41 ls [.int (nI 1), .ref mo]) := by
    intro  locs   ls hno hF hl
    refine lv_iconst (v := nI 1) hx hb d_Model_open_41 (by decide) ?_
    refine q_cV (rest := []) E (c_Model_fails l g n0 mo th (nI pn) (nI tn) (nI wn) w9 n9 hw9 (nI 1) (nI 1) fd hmn (Or.inl rfl)) w_1056 w_15 w_1053 w_1055 (bw_s 24 rfl) hd_Model_fails rfl ⟨by decide, by decide⟩ (OB.recv E.2.2.2.2.2 (by rfl) hm.1) hm hF hl.1 rfl (Nat.le_of_ble_eq_true rfl) d_Model_open_42 ⟨by decide, by decide⟩ (qi (fun rf H1 locs hq hF => ?_))
    obtain ⟨hrf, hq, hm⟩ := hq
    subst hrf
    have hfr := hfr.tr hq
    rw [if_neg (by decide)] at hm
    refine lv_if_eq (tgt := 49) hx hb d_Model_open_45 (by decide) (fun h9 => absurd h9 (by decide)) (fun _ => ?_)
    exact q_vret E hr hlk (⟨rfl, Or.inr ⟨hno, hP.keep hfr hw9 hm⟩⟩) hF d_Model_open_48
  have good : ∀ (locs : List Loc) (ls : Array Slot), okC n (nI 1) (nI 16) ∧ okS a n ∧ okS z0 (nI 1) ∧ okS y0 (nI 1) → (∀ q ∈ locs, n0 q.base) → lv_has ls 6 [(0, .ref mo), (1, .int a), (2, .int n), (3, .int z0), (4, .int y0)] → W p l e { frames := 4, cells := 0, slots := 0, locals := 104 } s m [.ref mo, .int a, .int n, .int z0, .int y0].toArray below meth c s.heap locs 0 0 (MQ below (QcP (QV (fun H H' => ((okC n (nI 1) (nI 16) ∧ okS a n ∧ okS z0 (nI 1) ∧ okS y0 (nI 1)) ∧ MP g n0 H' mo 0 pn tn wn) ∨ (¬ (okC n (nI 1) (nI 16) ∧ okS a n ∧ okS z0 (nI 1) ∧ okS y0 (nI 1)) ∧ MP g n0 H' mo 1 pn tn wn)))) [.ref mo, .int a, .int n, .int z0, .int y0].toArray s 0 0 (fun q => n0 q)) (F0 m 41 ls [.int (nI 0), .ref mo]) := by
    intro  locs   ls hok hF hl
    refine lv_iconst (v := nI 1) hx hb d_Model_open_41 (by decide) ?_
    refine q_cV (rest := []) E (c_Model_fails l g n0 mo th (nI pn) (nI tn) (nI wn) w9 n9 hw9 (nI 0) (nI 1) fd hmn (Or.inr rfl)) w_1056 w_15 w_1053 w_1055 (bw_s 24 rfl) hd_Model_fails rfl ⟨by decide, by decide⟩ (OB.recv E.2.2.2.2.2 (by rfl) hm.1) hm hF hl.1 rfl (Nat.le_of_ble_eq_true rfl) d_Model_open_42 ⟨by decide, by decide⟩ (qi (fun rf H1 locs hq hF => ?_))
    obtain ⟨hrf, hq, hm⟩ := hq
    subst hrf
    have hfr := hfr.tr hq
    rw [if_pos nI_0] at hm
    refine lv_if_eq (tgt := 49) hx hb d_Model_open_45 (by decide) (fun _ => ?_) (fun h9 => absurd (by decide) h9)
    obtain ⟨k2, e_k2, h_k2, h2_k2⟩ := okC_nat (by decide) (by decide) hok.1
    rw [e_k2] at hl
    have hok2 := hok.2.1
    rw [e_k2] at hok2
    obtain ⟨k1, e_k1, h_k1⟩ := okS_nat (by omega) (by omega) hok2
    rw [e_k1] at hl
    obtain ⟨k3, e_k3, h_k3⟩ := okS_nat (by decide) (by decide) hok.2.2.1
    rw [e_k3] at hl
    obtain ⟨k4, e_k4, h_k4⟩ := okS_nat (by decide) (by decide) hok.2.2.2
    rw [e_k4] at hl
    refine lv_aload_n hx hb d_Model_open_49 rfl (lv_at hl 0 rfl) ?_
    refine lv_iconst (v := nI 1) hx hb d_Model_open_50 (by decide) ?_
    refine q_cV (rest := []) E (c_Model_use l g n0 mo 0 (nI pn) (nI tn) (nI wn) w9 n9 hw9 1 10 hw1 fd hmn) w_967 w_15 w_964 w_966 (bw_s 15 rfl) hd_Model_use rfl ⟨by decide, by decide⟩ (OB.recv E.2.2.2.2.2 (by rfl) hm.1) hm hF hl.1 rfl (Nat.le_of_ble_eq_true rfl) d_Model_open_51 ⟨by decide, by decide⟩ (qv (fun H2 locs hq hF => ?_))
    obtain ⟨hq, hm⟩ := hq
    have hfr := hfr.tr hq
    refine lv_aload_n hx hb d_Model_open_54 rfl (lv_at hl 0 rfl) ?_
    refine lv_sipush (v := nI 166) hx hb d_Model_open_55 (by decide) ?_
    refine lv_iload_n hx hb d_Model_open_58 rfl (lv_at hl 3 rfl) ?_
    refine q_cV (rest := []) E (c_Model_move l g n0 mo 166 k3 0 (nI pn) (nI tn) (nI wn) 1 10 hw1  fd (by omega) (by omega) ) w_1076 w_15 w_1073 w_1075 (bw_s 27 rfl) hd_Model_move rfl ⟨by decide, by decide⟩ (OB.recv E.2.2.2.2.2 (by rfl) hm.1) hm hF hl.1 rfl (Nat.le_of_ble_eq_true rfl) d_Model_open_59 ⟨by decide, by decide⟩ (qv (fun H3 locs hq hF => ?_))
    obtain ⟨hq, fd_1, hm, hpv⟩ := hq
    have hfr := hfr.tr hq
    refine lv_aload_n hx hb d_Model_open_62 rfl (lv_at hl 0 rfl) ?_
    refine lv_sipush (v := nI 168) hx hb d_Model_open_63 (by decide) ?_
    refine lv_iload_n hx hb d_Model_open_66 rfl (lv_at hl 1 rfl) ?_
    refine lv_iload_n hx hb d_Model_open_67 rfl (lv_at hl 2 rfl) ?_
    refine lv_sipush (v := nI 166) hx hb d_Model_open_68 (by decide) ?_
    refine q_cV (rest := []) E (c_Model_value l g n0 mo 168 k1 k2 166 0 (nI pn) (nI tn) (nI wn) 1 10 hw1 fd_1 (by omega) (by omega) (by omega) (by omega)) w_1235 w_15 w_1232 w_1234 (bw_s 47 rfl) hd_Model_value rfl ⟨by decide, by decide⟩ (OB.recv E.2.2.2.2.2 (by rfl) hm.1) hm hF hl.1 rfl (Nat.le_of_ble_eq_true rfl) d_Model_open_71 ⟨by decide, by decide⟩ (qv (fun H4 locs hq hF => ?_))
    obtain ⟨hq, fd_2, hm, -⟩ := hq
    have hfr := hfr.tr hq
    refine lv_iconst (v := nI 0) hx hb d_Model_open_74 (by decide) ?_
    refine lv_istore (lv' := [(5, .int (nI 0)), (0, .ref mo), (1, .int (nI k1)), (2, .int (nI k2)), (3, .int (nI k3)), (4, .int (nI k4))]) hx hb d_Model_open_75 hl (by decide) rfl (fun ls hl => ?_)
    have hl : lv_has ls 6 [(5, .int (nI 0)), (0, .ref mo), (1, .int (nI k1)), (2, .int (nI k2)), (4, .int (nI k4))] := lv_sub hl [0, 1, 2, 3, 5] rfl
    have loop : ∀ (k : Nat) (i : Nat) (H : Heap) (locs : List Loc) (ls : Array Slot) (fd1 : Nat → Int64), i + k = k2 → FRM (MR mo) s.heap H → MS g n0 H mo 0 (nI pn) (nI tn) (nI wn) 1 10 fd1 → (∀ q ∈ locs, n0 q.base) → lv_has ls 6 [(5, .int (nI i)), (0, .ref mo), (1, .int (nI k1)), (2, .int (nI k2)), (4, .int (nI k4))] → W p l e { frames := 4, cells := 0, slots := 0, locals := 104 } s m [.ref mo, .int a, .int n, .int z0, .int y0].toArray below meth c H locs 0 0 (MQ below (QcP (QV (fun H H' => ((okC n (nI 1) (nI 16) ∧ okS a n ∧ okS z0 (nI 1) ∧ okS y0 (nI 1)) ∧ MP g n0 H' mo 0 pn tn wn) ∨ (¬ (okC n (nI 1) (nI 16) ∧ okS a n ∧ okS z0 (nI 1) ∧ okS y0 (nI 1)) ∧ MP g n0 H' mo 1 pn tn wn)))) [.ref mo, .int a, .int n, .int z0, .int y0].toArray s 0 0 (fun q => n0 q)) (F0 m 77 ls []) := by
      intro k
      induction k with
      | zero =>
        intro  i   H   locs   ls   fd1 hi hfr hm hF hl
        obtain rfl : i = k2 := by omega
        refine lv_iload hx hb d_Model_open_77 (lv_at hl 0 rfl) ?_
        refine lv_iload_n hx hb d_Model_open_79 rfl (lv_at hl 3 rfl) ?_
        refine lv_icmp_ge (tgt := 112) hx hb d_Model_open_80 (by decide) (fun _ => ?_) (fun h9 => absurd (nI_le (Nat.le_refl _) (by omega)) h9)
        refine lv_aload_n hx hb d_Model_open_112 rfl (lv_at hl 1 rfl) ?_
        refine lv_iload hx hb d_Model_open_113 (lv_at hl 4 rfl) ?_
        refine lv_sipush (v := nI 168) hx hb d_Model_open_115 (by decide) ?_
        refine q_cV (rest := []) E (c_Model_move l g n0 mo k4 168 0 (nI pn) (nI tn) (nI wn) 1 10 hw1  fd1 (by omega) (by omega) ) w_1076 w_15 w_1073 w_1075 (bw_s 27 rfl) hd_Model_move rfl ⟨by decide, by decide⟩ (OB.recv E.2.2.2.2.2 (by rfl) hm.1) hm hF hl.1 rfl (Nat.le_of_ble_eq_true rfl) d_Model_open_118 ⟨by decide, by decide⟩ (qv (fun H1 locs hq hF => ?_))
        obtain ⟨hq, fd_3, hm, hpv⟩ := hq
        have hfr := hfr.tr hq
        exact q_vret E hr hlk (⟨rfl, Or.inl ⟨hok, hP.keep hfr hw1 hm⟩⟩) hF d_Model_open_121
      | succ k ih =>
        intro  i   H   locs   ls   fd1 hi hfr hm hF hl
        refine lv_iload hx hb d_Model_open_77 (lv_at hl 0 rfl) ?_
        refine lv_iload_n hx hb d_Model_open_79 rfl (lv_at hl 3 rfl) ?_
        refine lv_icmp_ge (tgt := 112) hx hb d_Model_open_80 (by decide) (fun h9 => absurd h9 (nI_ge (by omega) (by omega))) (fun _ => ?_)
        refine lv_aload_n hx hb d_Model_open_83 rfl (lv_at hl 1 rfl) ?_
        refine lv_iload_n hx hb d_Model_open_84 rfl (lv_at hl 2 rfl) ?_
        refine lv_iload hx hb d_Model_open_85 (lv_at hl 0 rfl) ?_
        refine lv_iadd hx hb d_Model_open_87 ?_
        refine lv_topi (fun t9 e9 => ?_)
        obtain rfl : t9 = nI (k1 + i) := e9.trans (nI_add _ _)
        refine lv_iload_n hx hb d_Model_open_88 rfl (lv_at hl 2 rfl) ?_
        refine lv_iload hx hb d_Model_open_89 (lv_at hl 0 rfl) ?_
        refine lv_iadd hx hb d_Model_open_91 ?_
        refine lv_topi (fun t9 e9 => ?_)
        obtain rfl : t9 = nI (k1 + i) := e9.trans (nI_add _ _)
        refine lv_iconst (v := nI 1) hx hb d_Model_open_92 (by decide) ?_
        refine lv_iadd hx hb d_Model_open_93 ?_
        refine lv_topi (fun t9 e9 => ?_)
        obtain rfl : t9 = nI ((k1 + i) + 1) := e9.trans (nI_add _ _)
        refine lv_iload_n hx hb d_Model_open_94 rfl (lv_at hl 3 rfl) ?_
        refine lv_iconst (v := nI 1) hx hb d_Model_open_95 (by decide) ?_
        refine lv_isub hx hb d_Model_open_96 ?_
        refine lv_topi (fun t9 e9 => ?_)
        obtain rfl : t9 = nI (k2 - 1) := e9.trans (pk_sub (by omega))
        refine lv_iload hx hb d_Model_open_97 (lv_at hl 0 rfl) ?_
        refine lv_isub hx hb d_Model_open_99 ?_
        refine lv_topi (fun t9 e9 => ?_)
        obtain rfl : t9 = nI ((k2 - 1) - i) := e9.trans (pk_sub (by omega))
        refine lv_sipush (v := nI 166) hx hb d_Model_open_100 (by decide) ?_
        refine q_cV (rest := []) E (c_Model_value l g n0 mo (k1 + i) ((k1 + i) + 1) ((k2 - 1) - i) 166 0 (nI pn) (nI tn) (nI wn) 1 10 hw1 fd1 (by omega) (by omega) (by omega) (by omega)) w_1235 w_15 w_1232 w_1234 (bw_s 47 rfl) hd_Model_value rfl ⟨by decide, by decide⟩ (OB.recv E.2.2.2.2.2 (by rfl) hm.1) hm hF hl.1 rfl (Nat.le_of_ble_eq_true rfl) d_Model_open_103 ⟨by decide, by decide⟩ (qv (fun H1 locs hq hF => ?_))
        obtain ⟨hq, fd_4, hm, -⟩ := hq
        have hfr := hfr.tr hq
        refine lv_iinc (k := 0) (v := nI (i + 1)) (lv' := [(5, .int (nI (i + 1))), (0, .ref mo), (1, .int (nI k1)), (2, .int (nI k2)), (4, .int (nI k4))]) hx hb d_Model_open_106 hl rfl (i_inc i) (by decide) rfl (fun ls hl => ?_)
        refine lv_goto (tgt := 77) hx hb d_Model_open_109 (by decide) ?_
        have hl : lv_has ls 6 [(5, .int (nI (i + 1))), (0, .ref mo), (1, .int (nI k1)), (2, .int (nI k2)), (4, .int (nI k4))] := lv_sub hl [0, 1, 2, 3, 4] rfl
        exact ih (i + 1) _ _ ls _ (by omega) hfr hm hF hl
    exact loop k2 0 _ _ ls _ (by omega) hfr hm hF hl
  refine lv_aload_n hx hb d_Model_open_0 rfl (lv_at hl 0 rfl) ?_
  refine lv_iload_n hx hb d_Model_open_1 rfl (lv_at hl 2 rfl) ?_
  refine lv_i2l (v := n.toInt64) hx hb d_Model_open_2 rfl ?_
  refine lv_lconst (v := 1) hx hb d_Model_open_3 (by decide) ?_
  refine lv_ldc2 (v := 16) hx hb E.2.2.2.1 (E.2.2.2.2.1 _ w_1223) d_Model_open_4 ?_
  refine q_cS (rest := [.ref mo]) E (c_Model_in l g n0 n.toInt64 1 16 ) w_1101 w_15 w_1099 w_1100 hd_Model_in rfl ⟨by decide, by decide⟩ trivial hF hl.1 rfl (Nat.le_of_ble_eq_true rfl) d_Model_open_7 ⟨by decide, by decide⟩ (qi (fun r_0 H1 locs hq hF => ?_))
  obtain ⟨h_0, hq⟩ := hq
  subst hq
  rcases h_0 with ⟨rfl, f_0⟩ | ⟨rfl, f_0⟩
  · skip
    refine lv_if_eq (tgt := 36) hx hb d_Model_open_10 (by decide) (fun _ => ?_) (fun h9 => absurd (by decide) h9)
    refine lv_iconst (v := nI 1) hx hb d_Model_open_36 (by decide) ?_
    refine lv_goto (tgt := 41) hx hb d_Model_open_37 (by decide) ?_
    have hl : lv_has ls 6 [(0, .ref mo), (1, .int a), (2, .int n), (3, .int z0), (4, .int y0)] := lv_sub hl [0, 1, 2, 3, 4] rfl
    exact bad _ ls (fun h => (fun q => f_0 ((in_okC (a := 1) (b := 16) (by decide) (by decide) (by decide) (by decide)).mpr q)) h.1) hF hl
  · skip
    refine lv_if_eq (tgt := 36) hx hb d_Model_open_10 (by decide) (fun h9 => absurd h9 (by decide)) (fun _ => ?_)
    refine lv_iload_n hx hb d_Model_open_13 rfl (lv_at hl 1 rfl) ?_
    refine lv_iload_n hx hb d_Model_open_14 rfl (lv_at hl 2 rfl) ?_
    refine q_cS (rest := [.ref mo]) E (c_Model_noScalars l g n0 a n (okC_n1 ((in_okC (a := 1) (b := 16) (by decide) (by decide) (by decide) (by decide)).mp f_0))) w_1206 w_15 w_1204 w_1205 hd_Model_noScalars rfl ⟨by decide, by decide⟩ trivial hF hl.1 rfl (Nat.le_of_ble_eq_true rfl) d_Model_open_15 ⟨by decide, by decide⟩ (qi (fun r_1 H2 locs hq hF => ?_))
    obtain ⟨h_1, hq⟩ := hq
    subst hq
    rcases h_1 with ⟨rfl, f_1⟩ | ⟨rfl, f_1⟩
    · skip
      refine lv_if_ne (tgt := 36) hx hb d_Model_open_18 (by decide) (fun _ => ?_) (fun h9 => absurd h9 (by decide))
      refine lv_iconst (v := nI 1) hx hb d_Model_open_36 (by decide) ?_
      refine lv_goto (tgt := 41) hx hb d_Model_open_37 (by decide) ?_
      have hl : lv_has ls 6 [(0, .ref mo), (1, .int a), (2, .int n), (3, .int z0), (4, .int y0)] := lv_sub hl [0, 1, 2, 3, 4] rfl
      exact bad _ ls (fun h => (f_1) h.2.1) hF hl
    · skip
      refine lv_if_ne (tgt := 36) hx hb d_Model_open_18 (by decide) (fun h9 => absurd (by decide) h9) (fun _ => ?_)
      refine lv_iload_n hx hb d_Model_open_21 rfl (lv_at hl 3 rfl) ?_
      refine q_cS (rest := [.ref mo]) E (c_Model_noScalar l g n0 z0 ) w_1064 w_15 w_1062 w_1063 hd_Model_noScalar rfl ⟨by decide, by decide⟩ trivial hF hl.1 rfl (Nat.le_of_ble_eq_true rfl) d_Model_open_22 ⟨by decide, by decide⟩ (qi (fun r_2 H3 locs hq hF => ?_))
      obtain ⟨h_2, hq⟩ := hq
      subst hq
      rcases h_2 with ⟨rfl, f_2⟩ | ⟨rfl, f_2⟩
      · skip
        refine lv_if_ne (tgt := 36) hx hb d_Model_open_25 (by decide) (fun _ => ?_) (fun h9 => absurd h9 (by decide))
        refine lv_iconst (v := nI 1) hx hb d_Model_open_36 (by decide) ?_
        refine lv_goto (tgt := 41) hx hb d_Model_open_37 (by decide) ?_
        have hl : lv_has ls 6 [(0, .ref mo), (1, .int a), (2, .int n), (3, .int z0), (4, .int y0)] := lv_sub hl [0, 1, 2, 3, 4] rfl
        exact bad _ ls (fun h => (f_2) h.2.2.1) hF hl
      · skip
        refine lv_if_ne (tgt := 36) hx hb d_Model_open_25 (by decide) (fun h9 => absurd (by decide) h9) (fun _ => ?_)
        refine lv_iload hx hb d_Model_open_28 (lv_at hl 4 rfl) ?_
        refine q_cS (rest := [.ref mo]) E (c_Model_noScalar l g n0 y0 ) w_1064 w_15 w_1062 w_1063 hd_Model_noScalar rfl ⟨by decide, by decide⟩ trivial hF hl.1 rfl (Nat.le_of_ble_eq_true rfl) d_Model_open_30 ⟨by decide, by decide⟩ (qi (fun r_3 H4 locs hq hF => ?_))
        obtain ⟨h_3, hq⟩ := hq
        subst hq
        rcases h_3 with ⟨rfl, f_3⟩ | ⟨rfl, f_3⟩
        · skip
          refine lv_if_eq (tgt := 40) hx hb d_Model_open_33 (by decide) (fun h9 => absurd h9 (by decide)) (fun _ => ?_)
          refine lv_iconst (v := nI 1) hx hb d_Model_open_36 (by decide) ?_
          refine lv_goto (tgt := 41) hx hb d_Model_open_37 (by decide) ?_
          have hl : lv_has ls 6 [(0, .ref mo), (1, .int a), (2, .int n), (3, .int z0), (4, .int y0)] := lv_sub hl [0, 1, 2, 3, 4] rfl
          exact bad _ ls (fun h => (f_3) h.2.2.2) hF hl
        · skip
          refine lv_if_eq (tgt := 40) hx hb d_Model_open_33 (by decide) (fun _ => ?_) (fun h9 => absurd (by decide) h9)
          refine lv_iconst (v := nI 0) hx hb d_Model_open_40 (by decide) ?_
          have hl : lv_has ls 6 [(0, .ref mo), (1, .int a), (2, .int n), (3, .int z0), (4, .int y0)] := lv_sub hl [0, 1, 2, 3, 4] rfl
          exact good _ ls ⟨(in_okC (a := 1) (b := 16) (by decide) (by decide) (by decide) (by decide)).mp f_0, f_1, f_2, f_3⟩ hF hl
set_option maxHeartbeats 4000000 in
set_option maxRecDepth 100000 in
theorem G_Model_word (l : Launch) (g : WG) (n0 : Nat → Prop) (mo : Nat) (th : Int32) (pn tn wn : Nat) (a : Int32) (kk : Int32) : Ctr l y_Model_word (.code y_Model_word prog_11_method_40_code 6 (some FieldType.long)) 2 44 0 0 n0 g [.ref mo, .int a, .int kk] (fun H => MP g n0 H mo th pn tn wn) (QL (fun r H H' => ((okS a (nI 1) ∧ okC kk (nI 0) (nI 7)) ∧ MP g n0 H' mo 0 pn tn wn) ∨ (¬ (okS a (nI 1) ∧ okC kk (nI 0) (nI 7)) ∧ MP g n0 H' mo 1 pn tn wn))) := by
  refine ctr_mk l (lv0 := [(0, .ref mo), (1, .int a), (2, .int kk)]) (by decide) (Nat.le_of_ble_eq_true rfl) rfl ?_
  intro p e s m below meth c ls E hr hlk hnm hl hP
  have hx := E.1
  have hb := E.2.1
  have hK := E.2.2.2.2.2
  have hF : ∀ q ∈ ([] : List Loc), n0 q.base := fun q hq => absurd hq List.not_mem_nil
  obtain ⟨⟨w9, n9, fd, hw9, hm⟩, -⟩ := id hP
  have hmn := hP.mn
  have hbd := hP.2.2.2.2.1
  have hfr : FRM (MR mo) s.heap s.heap := FRM.rf
  have bad : ∀ (locs : List Loc) (ls : Array Slot), ¬ (okS a (nI 1) ∧ okC kk (nI 0) (nI 7)) → (∀ q ∈ locs, n0 q.base) → lv_has ls 6 [(0, .ref mo), (1, .int a), (2, .int kk)] → W p l e { frames := 2, cells := 0, slots := 0, locals := 44 } s m [.ref mo, .int a, .int kk].toArray below meth c s.heap locs 0 0 (MQ below (QcP (QL (fun r H H' => ((okS a (nI 1) ∧ okC kk (nI 0) (nI 7)) ∧ MP g n0 H' mo 0 pn tn wn) ∨ (¬ (okS a (nI 1) ∧ okC kk (nI 0) (nI 7)) ∧ MP g n0 H' mo 1 pn tn wn)))) [.ref mo, .int a, .int kk].toArray s 0 0 (fun q => n0 q)) (F0 m 23 ls [.int (nI 1), .ref mo]) := by
    intro  locs   ls hno hF hl
    refine lv_iconst (v := nI 1) hx hb d_Model_word_23 (by decide) ?_
    refine q_cV (rest := []) E (c_Model_fails l g n0 mo th (nI pn) (nI tn) (nI wn) w9 n9 hw9 (nI 1) (nI 1) fd hmn (Or.inl rfl)) w_1056 w_15 w_1053 w_1055 (bw_s 24 rfl) hd_Model_fails rfl ⟨by decide, by decide⟩ (OB.recv E.2.2.2.2.2 (by rfl) hm.1) hm hF hl.1 rfl (Nat.le_of_ble_eq_true rfl) d_Model_word_24 ⟨by decide, by decide⟩ (qi (fun rf H1 locs hq hF => ?_))
    obtain ⟨hrf, hq, hm⟩ := hq
    subst hrf
    have hfr := hfr.tr hq
    rw [if_neg (by decide)] at hm
    refine lv_if_eq (tgt := 32) hx hb d_Model_word_27 (by decide) (fun h9 => absurd h9 (by decide)) (fun _ => ?_)
    refine lv_lconst (v := 0) hx hb d_Model_word_30 (by decide) ?_
    exact q_lret E hr hlk (⟨_, rfl, Or.inr ⟨hno, hP.keep hfr hw9 hm⟩⟩) hF d_Model_word_31
  have good : ∀ (locs : List Loc) (ls : Array Slot), okS a (nI 1) ∧ okC kk (nI 0) (nI 7) → (∀ q ∈ locs, n0 q.base) → lv_has ls 6 [(0, .ref mo), (1, .int a), (2, .int kk)] → W p l e { frames := 2, cells := 0, slots := 0, locals := 44 } s m [.ref mo, .int a, .int kk].toArray below meth c s.heap locs 0 0 (MQ below (QcP (QL (fun r H H' => ((okS a (nI 1) ∧ okC kk (nI 0) (nI 7)) ∧ MP g n0 H' mo 0 pn tn wn) ∨ (¬ (okS a (nI 1) ∧ okC kk (nI 0) (nI 7)) ∧ MP g n0 H' mo 1 pn tn wn)))) [.ref mo, .int a, .int kk].toArray s 0 0 (fun q => n0 q)) (F0 m 23 ls [.int (nI 0), .ref mo]) := by
    intro  locs   ls hok hF hl
    refine lv_iconst (v := nI 1) hx hb d_Model_word_23 (by decide) ?_
    refine q_cV (rest := []) E (c_Model_fails l g n0 mo th (nI pn) (nI tn) (nI wn) w9 n9 hw9 (nI 0) (nI 1) fd hmn (Or.inr rfl)) w_1056 w_15 w_1053 w_1055 (bw_s 24 rfl) hd_Model_fails rfl ⟨by decide, by decide⟩ (OB.recv E.2.2.2.2.2 (by rfl) hm.1) hm hF hl.1 rfl (Nat.le_of_ble_eq_true rfl) d_Model_word_24 ⟨by decide, by decide⟩ (qi (fun rf H1 locs hq hF => ?_))
    obtain ⟨hrf, hq, hm⟩ := hq
    subst hrf
    have hfr := hfr.tr hq
    rw [if_pos nI_0] at hm
    refine lv_if_eq (tgt := 32) hx hb d_Model_word_27 (by decide) (fun _ => ?_) (fun h9 => absurd (by decide) h9)
    obtain ⟨k1, e_k1, h_k1⟩ := okS_nat (by decide) (by decide) hok.1
    rw [e_k1] at hl
    obtain ⟨k2, e_k2, h_k2, h2_k2⟩ := okC_nat (by decide) (by decide) hok.2
    rw [e_k2] at hl
    refine lv_lconst (v := 0) hx hb d_Model_word_32 (by decide) ?_
    refine lv_lstore_n (lv' := [(3, .long 0), (0, .ref mo), (1, .int (nI k1)), (2, .int (nI k2))]) hx hb d_Model_word_33 rfl hl (by decide) rfl (fun ls hl => ?_)
    refine lv_bipush (v := nI 31) hx hb d_Model_word_34 (by decide) ?_
    refine lv_istore (lv' := [(5, .int (nI 31)), (3, .long 0), (0, .ref mo), (1, .int (nI k1)), (2, .int (nI k2))]) hx hb d_Model_word_36 hl (by decide) rfl (fun ls hl => ?_)
    have hl : lv_has ls 6 [(5, .int (nI 31)), (3, .long 0), (0, .ref mo), (1, .int (nI k1)), (2, .int (nI k2))] := lv_sub hl [0, 1, 2, 3, 4] rfl
    have loop : ∀ (k : Nat) (locs : List Loc) (ls : Array Slot) (v : Int32) (y : Int64), k ≤ 32 → v = nI k - 1 → (∀ q ∈ locs, n0 q.base) → lv_has ls 6 [(5, .int v), (3, .long y), (0, .ref mo), (1, .int (nI k1)), (2, .int (nI k2))] → W p l e { frames := 2, cells := 0, slots := 0, locals := 44 } s m [.ref mo, .int a, .int kk].toArray below meth c H1 locs 0 0 (MQ below (QcP (QL (fun r H H' => ((okS a (nI 1) ∧ okC kk (nI 0) (nI 7)) ∧ MP g n0 H' mo 0 pn tn wn) ∨ (¬ (okS a (nI 1) ∧ okC kk (nI 0) (nI 7)) ∧ MP g n0 H' mo 1 pn tn wn)))) [.ref mo, .int a, .int kk].toArray s 0 0 (fun q => n0 q)) (F0 m 38 ls []) := by
      intro k
      induction k with
      | zero =>
        intro  locs   ls   v   y hk32 hv0 hF hl
        subst hv0
        refine lv_iload hx hb d_Model_word_38 (lv_at hl 0 rfl) ?_
        refine lv_if_lt (tgt := 69) hx hb d_Model_word_40 (by decide) (fun _ => ?_) (fun h9 => absurd (by decide) h9)
        refine lv_lload_n hx hb d_Model_word_69 rfl (lv_at hl 1 rfl) ?_
        exact q_lret E hr hlk (⟨_, rfl, Or.inl ⟨hok, hP.keep hfr hw9 hm⟩⟩) hF d_Model_word_70
      | succ k ih =>
        intro  locs   ls   v   y hk32 hv0 hF hl
        rw [nI_pred] at hv0
        subst hv0
        refine lv_iload hx hb d_Model_word_38 (lv_at hl 0 rfl) ?_
        refine lv_if_lt (tgt := 69) hx hb d_Model_word_40 (by decide) (fun h9 => absurd h9 (nI_pos (by omega))) (fun _ => ?_)
        refine lv_ldc2 (v := 2) hx hb E.2.2.2.1 (E.2.2.2.2.1 _ w_1089) d_Model_word_43 ?_
        refine lv_lload_n hx hb d_Model_word_46 rfl (lv_at hl 1 rfl) ?_
        refine lv_lmul hx hb d_Model_word_47 ?_
        refine lv_topl (fun v1 _ => ?_)
        refine lv_aload_n hx hb d_Model_word_48 rfl (lv_at hl 2 rfl) ?_
        refine lv_iload_n hx hb d_Model_word_49 rfl (lv_at hl 3 rfl) ?_
        refine lv_bipush (v := nI 32) hx hb d_Model_word_50 (by decide) ?_
        refine lv_iload_n hx hb d_Model_word_52 rfl (lv_at hl 4 rfl) ?_
        refine lv_imul hx hb d_Model_word_53 ?_
        refine lv_topi (fun t9 e9 => ?_)
        obtain rfl : t9 = nI (32 * k2) := e9.trans (pk_mul _ _)
        refine lv_iload hx hb d_Model_word_54 (lv_at hl 0 rfl) ?_
        refine lv_iadd hx hb d_Model_word_56 ?_
        refine lv_topi (fun t9 e9 => ?_)
        obtain rfl : t9 = nI ((32 * k2) + k) := e9.trans (nI_add _ _)
        refine q_cV (rest := [.long v1]) E (c_Model_bit l g n0 mo k1 ((32 * k2) + k) 0 (nI pn) (nI tn) (nI wn) w9 n9 hw9  fd (by omega) (by omega) ) w_1093 w_15 w_1090 w_1092 (bw_s 29 rfl) hd_Model_bit rfl ⟨by decide, by decide⟩ (OB.recv E.2.2.2.2.2 (by rfl) hm.1) hm hF hl.1 rfl (Nat.le_of_ble_eq_true rfl) d_Model_word_57 ⟨by decide, by decide⟩ (qi (fun rb H1 locs hq hF => ?_))
        obtain ⟨hbit, hq⟩ := hq
        subst hq
        refine lv_i2l (v := rb.toInt64) hx hb d_Model_word_60 rfl ?_
        refine lv_ladd hx hb d_Model_word_61 ?_
        refine lv_topl (fun v2 _ => ?_)
        refine lv_lstore_n (lv' := [(3, .long v2), (5, .int (nI k)), (0, .ref mo), (1, .int (nI k1)), (2, .int (nI k2))]) hx hb d_Model_word_62 rfl hl (by decide) rfl (fun ls hl => ?_)
        refine lv_iinc (k := 1) (v := nI k - 1) (lv' := [(5, .int (nI k - 1)), (3, .long v2), (0, .ref mo), (1, .int (nI k1)), (2, .int (nI k2))]) hx hb d_Model_word_63 hl rfl (i_dec _) (by decide) rfl (fun ls hl => ?_)
        refine lv_goto (tgt := 38) hx hb d_Model_word_66 (by decide) ?_
        have hl : lv_has ls 6 [(5, .int (nI k - 1)), (3, .long v2), (0, .ref mo), (1, .int (nI k1)), (2, .int (nI k2))] := lv_sub hl [0, 1, 2, 3, 4] rfl
        exact ih _ ls _ _ (by omega) rfl hF hl
    exact loop 32 _ ls _ _ (by decide) (by decide) hF hl
  refine lv_aload_n hx hb d_Model_word_0 rfl (lv_at hl 0 rfl) ?_
  refine lv_iload_n hx hb d_Model_word_1 rfl (lv_at hl 1 rfl) ?_
  refine q_cS (rest := [.ref mo]) E (c_Model_noScalar l g n0 a ) w_1064 w_15 w_1062 w_1063 hd_Model_noScalar rfl ⟨by decide, by decide⟩ trivial hF hl.1 rfl (Nat.le_of_ble_eq_true rfl) d_Model_word_2 ⟨by decide, by decide⟩ (qi (fun r_0 H1 locs hq hF => ?_))
  obtain ⟨h_0, hq⟩ := hq
  subst hq
  rcases h_0 with ⟨rfl, f_0⟩ | ⟨rfl, f_0⟩
  · skip
    refine lv_if_ne (tgt := 18) hx hb d_Model_word_5 (by decide) (fun _ => ?_) (fun h9 => absurd h9 (by decide))
    refine lv_iconst (v := nI 1) hx hb d_Model_word_18 (by decide) ?_
    refine lv_goto (tgt := 23) hx hb d_Model_word_19 (by decide) ?_
    have hl : lv_has ls 6 [(0, .ref mo), (1, .int a), (2, .int kk)] := lv_sub hl [0, 1, 2] rfl
    exact bad _ ls (fun h => (f_0) h.1) hF hl
  · skip
    refine lv_if_ne (tgt := 18) hx hb d_Model_word_5 (by decide) (fun h9 => absurd (by decide) h9) (fun _ => ?_)
    refine lv_iload_n hx hb d_Model_word_8 rfl (lv_at hl 2 rfl) ?_
    refine lv_if_lt (tgt := 18) hx hb d_Model_word_9 (by decide) (fun g_9 => ?_) (fun g_9 => ?_)
    rotate_left
    · skip
      refine lv_iload_n hx hb d_Model_word_12 rfl (lv_at hl 2 rfl) ?_
      refine lv_bipush (v := nI 7) hx hb d_Model_word_13 (by decide) ?_
      refine lv_icmp_le (tgt := 22) hx hb d_Model_word_15 (by decide) (fun g_15 => ?_) (fun g_15 => ?_)
      rotate_left
      · skip
        refine lv_iconst (v := nI 1) hx hb d_Model_word_18 (by decide) ?_
        refine lv_goto (tgt := 23) hx hb d_Model_word_19 (by decide) ?_
        have hl : lv_has ls 6 [(0, .ref mo), (1, .int a), (2, .int kk)] := lv_sub hl [0, 1, 2] rfl
        exact bad _ ls (fun h => (fun q => g_15 q.2) h.2) hF hl
      refine lv_iconst (v := nI 0) hx hb d_Model_word_22 (by decide) ?_
      have hl : lv_has ls 6 [(0, .ref mo), (1, .int a), (2, .int kk)] := lv_sub hl [0, 1, 2] rfl
      exact good _ ls ⟨f_0, ⟨g_9, g_15⟩⟩ hF hl
    refine lv_iconst (v := nI 1) hx hb d_Model_word_18 (by decide) ?_
    refine lv_goto (tgt := 23) hx hb d_Model_word_19 (by decide) ?_
    have hl : lv_has ls 6 [(0, .ref mo), (1, .int a), (2, .int kk)] := lv_sub hl [0, 1, 2] rfl
    exact bad _ ls (fun h => (fun q => q.1 g_9) h.2) hF hl
set_option maxHeartbeats 4000000 in
set_option maxRecDepth 100000 in
theorem G_Model_out (l : Launch) (g : WG) (n0 : Nat → Prop) (mo : Nat) (th : Int32) (pn tn wn : Nat) (kv : Int32) : Ctr l y_Model_out (.code y_Model_out prog_11_method_48_code 5 (some FieldType.long)) 1 25 0 0 n0 g [.ref mo, .int kv] (fun H => MP g n0 H mo th pn tn wn) (QL (fun r H H' => ((((0 : Int64).toInt ≤ kv.toInt64.toInt ∧ kv.toInt64.toInt ≤ (nI wn - nI 1).toInt64.toInt)) ∧ MP g n0 H' mo 0 pn tn wn) ∨ (¬ (((0 : Int64).toInt ≤ kv.toInt64.toInt ∧ kv.toInt64.toInt ≤ (nI wn - nI 1).toInt64.toInt)) ∧ MP g n0 H' mo 1 pn tn wn))) := by
  refine ctr_mk l (lv0 := [(0, .ref mo), (1, .int kv)]) (by decide) (Nat.le_of_ble_eq_true rfl) rfl ?_
  intro p e s m below meth c ls E hr hlk hnm hl hP
  have hx := E.1
  have hb := E.2.1
  have hK := E.2.2.2.2.2
  have hF : ∀ q ∈ ([] : List Loc), n0 q.base := fun q hq => absurd hq List.not_mem_nil
  obtain ⟨⟨w9, n9, fd, hw9, hm⟩, -⟩ := id hP
  have hmn := hP.mn
  have hbd := hP.2.2.2.2.1
  have hfr : FRM (MR mo) s.heap s.heap := FRM.rf
  have bad : ∀ (locs : List Loc) (ls : Array Slot), ¬ (((0 : Int64).toInt ≤ kv.toInt64.toInt ∧ kv.toInt64.toInt ≤ (nI wn - nI 1).toInt64.toInt)) → (∀ q ∈ locs, n0 q.base) → lv_has ls 5 [(0, .ref mo), (1, .int kv)] → W p l e { frames := 1, cells := 0, slots := 0, locals := 25 } s m [.ref mo, .int kv].toArray below meth c s.heap locs 0 0 (MQ below (QcP (QL (fun r H H' => ((((0 : Int64).toInt ≤ kv.toInt64.toInt ∧ kv.toInt64.toInt ≤ (nI wn - nI 1).toInt64.toInt)) ∧ MP g n0 H' mo 0 pn tn wn) ∨ (¬ (((0 : Int64).toInt ≤ kv.toInt64.toInt ∧ kv.toInt64.toInt ≤ (nI wn - nI 1).toInt64.toInt)) ∧ MP g n0 H' mo 1 pn tn wn)))) [.ref mo, .int kv].toArray s 0 0 (fun q => n0 q)) (F0 m 22 ls [.int (nI 1), .ref mo]) := by
    intro  locs   ls hno hF hl
    refine lv_iconst (v := nI 1) hx hb d_Model_out_22 (by decide) ?_
    refine q_cV (rest := []) E (c_Model_fails l g n0 mo th (nI pn) (nI tn) (nI wn) w9 n9 hw9 (nI 1) (nI 1) fd hmn (Or.inl rfl)) w_1056 w_15 w_1053 w_1055 (bw_s 24 rfl) hd_Model_fails rfl ⟨by decide, by decide⟩ (OB.recv E.2.2.2.2.2 (by rfl) hm.1) hm hF hl.1 rfl (Nat.le_of_ble_eq_true rfl) d_Model_out_23 ⟨by decide, by decide⟩ (qi (fun rf H1 locs hq hF => ?_))
    obtain ⟨hrf, hq, hm⟩ := hq
    subst hrf
    have hfr := hfr.tr hq
    rw [if_neg (by decide)] at hm
    refine lv_if_eq (tgt := 31) hx hb d_Model_out_26 (by decide) (fun h9 => absurd h9 (by decide)) (fun _ => ?_)
    refine lv_lconst (v := 0) hx hb d_Model_out_29 (by decide) ?_
    exact q_lret E hr hlk (⟨_, rfl, Or.inr ⟨hno, hP.keep hfr hw9 hm⟩⟩) hF d_Model_out_30
  have good : ∀ (locs : List Loc) (ls : Array Slot), ((0 : Int64).toInt ≤ kv.toInt64.toInt ∧ kv.toInt64.toInt ≤ (nI wn - nI 1).toInt64.toInt) → (∀ q ∈ locs, n0 q.base) → lv_has ls 5 [(0, .ref mo), (1, .int kv)] → W p l e { frames := 1, cells := 0, slots := 0, locals := 25 } s m [.ref mo, .int kv].toArray below meth c s.heap locs 0 0 (MQ below (QcP (QL (fun r H H' => ((((0 : Int64).toInt ≤ kv.toInt64.toInt ∧ kv.toInt64.toInt ≤ (nI wn - nI 1).toInt64.toInt)) ∧ MP g n0 H' mo 0 pn tn wn) ∨ (¬ (((0 : Int64).toInt ≤ kv.toInt64.toInt ∧ kv.toInt64.toInt ≤ (nI wn - nI 1).toInt64.toInt)) ∧ MP g n0 H' mo 1 pn tn wn)))) [.ref mo, .int kv].toArray s 0 0 (fun q => n0 q)) (F0 m 22 ls [.int (nI 0), .ref mo]) := by
    intro  locs   ls hok hF hl
    refine lv_iconst (v := nI 1) hx hb d_Model_out_22 (by decide) ?_
    refine q_cV (rest := []) E (c_Model_fails l g n0 mo th (nI pn) (nI tn) (nI wn) w9 n9 hw9 (nI 0) (nI 1) fd hmn (Or.inr rfl)) w_1056 w_15 w_1053 w_1055 (bw_s 24 rfl) hd_Model_fails rfl ⟨by decide, by decide⟩ (OB.recv E.2.2.2.2.2 (by rfl) hm.1) hm hF hl.1 rfl (Nat.le_of_ble_eq_true rfl) d_Model_out_23 ⟨by decide, by decide⟩ (qi (fun rf H1 locs hq hF => ?_))
    obtain ⟨hrf, hq, hm⟩ := hq
    subst hrf
    have hfr := hfr.tr hq
    rw [if_pos nI_0] at hm
    refine lv_if_eq (tgt := 31) hx hb d_Model_out_26 (by decide) (fun _ => ?_) (fun h9 => absurd (by decide) h9)
    obtain ⟨k1, e_k1, h_k1⟩ := out_k hbd.2.2 hok
    rw [e_k1] at hl
    have ht7 := hP.2.2.2.1.imp (fun f hf => AI.off hfr (show ¬ MR mo (mo + 7) by unfold MR; omega) hf)
    refine lv_lconst (v := 0) hx hb d_Model_out_31 (by decide) ?_
    refine lv_lstore_n (lv' := [(2, .long 0), (0, .ref mo), (1, .int (nI k1))]) hx hb d_Model_out_32 rfl hl (by decide) rfl (fun ls hl => ?_)
    refine lv_iconst (v := nI 0) hx hb d_Model_out_33 (by decide) ?_
    refine lv_istore (lv' := [(4, .int (nI 0)), (2, .long 0), (0, .ref mo), (1, .int (nI k1))]) hx hb d_Model_out_34 hl (by decide) rfl (fun ls hl => ?_)
    have hl : lv_has ls 5 [(4, .int (nI 0)), (2, .long 0), (0, .ref mo), (1, .int (nI k1))] := lv_sub hl [0, 1, 2, 3] rfl
    have loop : ∀ (k : Nat) (i : Nat) (locs : List Loc) (ls : Array Slot) (y : Int64), i + k = 8 → (∀ q ∈ locs, n0 q.base) → lv_has ls 5 [(4, .int (nI i)), (2, .long y), (0, .ref mo), (1, .int (nI k1))] → W p l e { frames := 1, cells := 0, slots := 0, locals := 25 } s m [.ref mo, .int kv].toArray below meth c H1 locs 0 0 (MQ below (QcP (QL (fun r H H' => ((((0 : Int64).toInt ≤ kv.toInt64.toInt ∧ kv.toInt64.toInt ≤ (nI wn - nI 1).toInt64.toInt)) ∧ MP g n0 H' mo 0 pn tn wn) ∨ (¬ (((0 : Int64).toInt ≤ kv.toInt64.toInt ∧ kv.toInt64.toInt ≤ (nI wn - nI 1).toInt64.toInt)) ∧ MP g n0 H' mo 1 pn tn wn)))) [.ref mo, .int kv].toArray s 0 0 (fun q => n0 q)) (F0 m 36 ls []) := by
      intro k
      induction k with
      | zero =>
        intro  i   locs   ls   y hi hF hl
        obtain rfl : i = 8 := by omega
        refine lv_iload hx hb d_Model_out_36 (lv_at hl 0 rfl) ?_
        refine lv_bipush (v := nI 8) hx hb d_Model_out_38 (by decide) ?_
        refine lv_icmp_ge (tgt := 79) hx hb d_Model_out_40 (by decide) (fun _ => ?_) (fun h9 => absurd (by decide) h9)
        refine lv_lload_n hx hb d_Model_out_79 rfl (lv_at hl 1 rfl) ?_
        exact q_lret E hr hlk (⟨_, rfl, Or.inl ⟨hok, hP.keep hfr hw9 hm⟩⟩) hF d_Model_out_80
      | succ k ih =>
        intro  i   locs   ls   y hi hF hl
        refine lv_iload hx hb d_Model_out_36 (lv_at hl 0 rfl) ?_
        refine lv_bipush (v := nI 8) hx hb d_Model_out_38 (by decide) ?_
        refine lv_icmp_ge (tgt := 79) hx hb d_Model_out_40 (by decide) (fun h9 => absurd h9 (nI_ge (by omega) (by decide))) (fun _ => ?_)
        refine lv_iload_n hx hb d_Model_out_43 rfl (lv_at hl 3 rfl) ?_
        refine lv_iload hx hb d_Model_out_44 (lv_at hl 0 rfl) ?_
        refine lv_iadd hx hb d_Model_out_46 ?_
        refine lv_topi (fun t9 e9 => ?_)
        obtain rfl : t9 = nI (k1 + i) := e9.trans (nI_add _ _)
        refine lv_aload_n hx hb d_Model_out_47 rfl (lv_at hl 2 rfl) ?_
        refine q_get (C := "KateDeskModel") (T := T_Model) (N := 14) (ci := 8) E hm.1 in_Model rfl 12 (by decide) w_1013 rfl rfl d_Model_out_48 ?_
        refine lv_icmp_ge (tgt := 79) hx hb d_Model_out_51 (by decide) (fun hc => ?_) (fun hc => ?_)
        rotate_left
        · skip
          have hc2 : k1 + i < wn := Nat.lt_of_not_le (fun q => hc (nI_le q (by omega)))
          refine lv_lload_n hx hb d_Model_out_54 rfl (lv_at hl 1 rfl) ?_
          refine lv_aload_n hx hb d_Model_out_55 rfl (lv_at hl 2 rfl) ?_
          refine q_get (C := "KateDeskModel") (T := T_Model) (N := 14) (ci := 8) E hm.1 in_Model rfl 11 (by decide) w_1012 rfl rfl d_Model_out_56 ?_
          refine lv_iload_n hx hb d_Model_out_59 rfl (lv_at hl 3 rfl) ?_
          refine lv_iload hx hb d_Model_out_60 (lv_at hl 0 rfl) ?_
          refine lv_iadd hx hb d_Model_out_62 ?_
          refine lv_topi (fun t9 e9 => ?_)
          obtain rfl : t9 = nI (k1 + i) := e9.trans (nI_add _ _)
          obtain ⟨fq, hfq⟩ := id (ht7)
          refine q_iald E hfq (k1 + i) rfl (by omega) (by decide) d_Model_out_63 ?_
          refine lv_i2l (v := (fq (k1 + i)).toInt64) hx hb d_Model_out_64 rfl ?_
          refine lv_bipush (v := nI 8) hx hb d_Model_out_65 (by decide) ?_
          refine lv_iload hx hb d_Model_out_67 (lv_at hl 0 rfl) ?_
          refine lv_imul hx hb d_Model_out_69 ?_
          refine lv_lshl (v := ((fq (k1 + i)).toInt64) <<< (((nI 8) * (nI i)).toInt64 &&& 63)) hx hb d_Model_out_70 rfl ?_
          refine lv_lor hx hb d_Model_out_71 ?_
          refine lv_topl (fun v1 _ => ?_)
          refine lv_lstore_n (lv' := [(2, .long v1), (4, .int (nI i)), (0, .ref mo), (1, .int (nI k1))]) hx hb d_Model_out_72 rfl hl (by decide) rfl (fun ls hl => ?_)
          refine lv_iinc (k := 1) (v := nI (i + 1)) (lv' := [(4, .int (nI (i + 1))), (2, .long v1), (0, .ref mo), (1, .int (nI k1))]) hx hb d_Model_out_73 hl rfl (i_inc i) (by decide) rfl (fun ls hl => ?_)
          refine lv_goto (tgt := 36) hx hb d_Model_out_76 (by decide) ?_
          have hl : lv_has ls 5 [(4, .int (nI (i + 1))), (2, .long v1), (0, .ref mo), (1, .int (nI k1))] := lv_sub hl [0, 1, 2, 3] rfl
          exact ih (i + 1) _ ls _ (by omega) hF hl
        refine lv_lload_n hx hb d_Model_out_79 rfl (lv_at hl 1 rfl) ?_
        exact q_lret E hr hlk (⟨_, rfl, Or.inl ⟨hok, hP.keep hfr hw9 hm⟩⟩) hF d_Model_out_80
    exact loop 8 0 _ ls _ (by omega) hF hl
  refine lv_aload_n hx hb d_Model_out_0 rfl (lv_at hl 0 rfl) ?_
  refine lv_iload_n hx hb d_Model_out_1 rfl (lv_at hl 1 rfl) ?_
  refine lv_i2l (v := kv.toInt64) hx hb d_Model_out_2 rfl ?_
  refine lv_lconst (v := 0) hx hb d_Model_out_3 (by decide) ?_
  refine lv_aload_n hx hb d_Model_out_4 rfl (lv_at hl 0 rfl) ?_
  refine q_get (C := "KateDeskModel") (T := T_Model) (N := 14) (ci := 8) E hm.1 in_Model rfl 12 (by decide) w_1013 rfl rfl d_Model_out_5 ?_
  refine lv_iconst (v := nI 1) hx hb d_Model_out_8 (by decide) ?_
  refine lv_isub hx hb d_Model_out_9 ?_
  refine lv_i2l (v := ((nI wn) - (nI 1)).toInt64) hx hb d_Model_out_10 rfl ?_
  refine q_cS (rest := [.ref mo]) E (c_Model_in l g n0 kv.toInt64 0 (((nI wn) - (nI 1)).toInt64) ) w_1101 w_15 w_1099 w_1100 hd_Model_in rfl ⟨by decide, by decide⟩ trivial hF hl.1 rfl (Nat.le_of_ble_eq_true rfl) d_Model_out_11 ⟨by decide, by decide⟩ (qi (fun r_0 H1 locs hq hF => ?_))
  obtain ⟨h_0, hq⟩ := hq
  subst hq
  rcases h_0 with ⟨rfl, f_0⟩ | ⟨rfl, f_0⟩
  · skip
    refine lv_if_ne (tgt := 21) hx hb d_Model_out_14 (by decide) (fun h9 => absurd (by decide) h9) (fun _ => ?_)
    refine lv_iconst (v := nI 1) hx hb d_Model_out_17 (by decide) ?_
    refine lv_goto (tgt := 22) hx hb d_Model_out_18 (by decide) ?_
    have hl : lv_has ls 5 [(0, .ref mo), (1, .int kv)] := lv_sub hl [0, 1] rfl
    exact bad _ ls (fun h => (f_0) h) hF hl
  · skip
    refine lv_if_ne (tgt := 21) hx hb d_Model_out_14 (by decide) (fun _ => ?_) (fun h9 => absurd h9 (by decide))
    refine lv_iconst (v := nI 0) hx hb d_Model_out_21 (by decide) ?_
    have hl : lv_has ls 5 [(0, .ref mo), (1, .int kv)] := lv_sub hl [0, 1] rfl
    exact good _ ls f_0 hF hl
set_option maxHeartbeats 4000000 in
set_option maxRecDepth 100000 in
theorem G_Model_feed (l : Launch) (g : WG) (n0 : Nat → Prop) (mo : Nat) (th : Int32) (pn tn wn : Nat) (n : Int32) (v : Int64) : Ctr l y_Model_feed (.code y_Model_feed prog_11_method_37_code 5 (some FieldType.int)) 1 22 0 0 n0 g [.ref mo, .int n, .long v] (fun H => MP g n0 H mo th pn tn wn) (QI (fun r H H' => ((okC n (nI 1) (nI 8)) ∧ ((∃ k9, n = nI k9 ∧ tn + k9 ≤ 96 ∧ r = nI (tn + k9) ∧ MP g n0 H' mo 0 pn (tn + k9) wn) ∨ (¬ nI tn + n ≤ nI 96 ∧ MP g n0 H' mo (nI 2) pn tn wn))) ∨ (¬ (okC n (nI 1) (nI 8)) ∧ MP g n0 H' mo 1 pn tn wn))) := by
  refine ctr_mk l (lv0 := [(0, .ref mo), (1, .int n), (2, .long v)]) (by decide) (Nat.le_of_ble_eq_true rfl) rfl ?_
  intro p e s m below meth c ls E hr hlk hnm hl hP
  have hx := E.1
  have hb := E.2.1
  have hK := E.2.2.2.2.2
  have hF : ∀ q ∈ ([] : List Loc), n0 q.base := fun q hq => absurd hq List.not_mem_nil
  obtain ⟨⟨w9, n9, fd, hw9, hm⟩, -⟩ := id hP
  have hmn := hP.mn
  have hbd := hP.2.2.2.2.1
  have hfr : FRM (MR mo) s.heap s.heap := FRM.rf
  have bad : ∀ (locs : List Loc) (ls : Array Slot), ¬ (okC n (nI 1) (nI 8)) → (∀ q ∈ locs, n0 q.base) → lv_has ls 5 [(0, .ref mo), (1, .int n), (2, .long v)] → W p l e { frames := 1, cells := 0, slots := 0, locals := 22 } s m [.ref mo, .int n, .long v].toArray below meth c s.heap locs 0 0 (MQ below (QcP (QI (fun r H H' => ((okC n (nI 1) (nI 8)) ∧ ((∃ k9, n = nI k9 ∧ tn + k9 ≤ 96 ∧ r = nI (tn + k9) ∧ MP g n0 H' mo 0 pn (tn + k9) wn) ∨ (¬ nI tn + n ≤ nI 96 ∧ MP g n0 H' mo (nI 2) pn tn wn))) ∨ (¬ (okC n (nI 1) (nI 8)) ∧ MP g n0 H' mo 1 pn tn wn)))) [.ref mo, .int n, .long v].toArray s 0 0 (fun q => n0 q)) (F0 m 17 ls [.int (nI 1), .ref mo]) := by
    intro  locs   ls hno hF hl
    refine lv_iconst (v := nI 1) hx hb d_Model_feed_17 (by decide) ?_
    refine q_cV (rest := []) E (c_Model_fails l g n0 mo th (nI pn) (nI tn) (nI wn) w9 n9 hw9 (nI 1) (nI 1) fd hmn (Or.inl rfl)) w_1056 w_15 w_1053 w_1055 (bw_s 24 rfl) hd_Model_fails rfl ⟨by decide, by decide⟩ (OB.recv E.2.2.2.2.2 (by rfl) hm.1) hm hF hl.1 rfl (Nat.le_of_ble_eq_true rfl) d_Model_feed_18 ⟨by decide, by decide⟩ (qi (fun rf H1 locs hq hF => ?_))
    obtain ⟨hrf, hq, hm⟩ := hq
    subst hrf
    have hfr := hfr.tr hq
    rw [if_neg (by decide)] at hm
    refine lv_if_ne (tgt := 48) hx hb d_Model_feed_21 (by decide) (fun _ => ?_) (fun h9 => absurd h9 (by decide))
    refine lv_iconst (v := nI 0) hx hb d_Model_feed_48 (by decide) ?_
    exact q_iret E hr hlk (⟨_, rfl, Or.inr ⟨hno, hP.keep hfr hw9 hm⟩⟩) hF d_Model_feed_49
  have good : ∀ (locs : List Loc) (ls : Array Slot), okC n (nI 1) (nI 8) → (∀ q ∈ locs, n0 q.base) → lv_has ls 5 [(0, .ref mo), (1, .int n), (2, .long v)] → W p l e { frames := 1, cells := 0, slots := 0, locals := 22 } s m [.ref mo, .int n, .long v].toArray below meth c s.heap locs 0 0 (MQ below (QcP (QI (fun r H H' => ((okC n (nI 1) (nI 8)) ∧ ((∃ k9, n = nI k9 ∧ tn + k9 ≤ 96 ∧ r = nI (tn + k9) ∧ MP g n0 H' mo 0 pn (tn + k9) wn) ∨ (¬ nI tn + n ≤ nI 96 ∧ MP g n0 H' mo (nI 2) pn tn wn))) ∨ (¬ (okC n (nI 1) (nI 8)) ∧ MP g n0 H' mo 1 pn tn wn)))) [.ref mo, .int n, .long v].toArray s 0 0 (fun q => n0 q)) (F0 m 17 ls [.int (nI 0), .ref mo]) := by
    intro  locs   ls hok hF hl
    refine lv_iconst (v := nI 1) hx hb d_Model_feed_17 (by decide) ?_
    refine q_cV (rest := []) E (c_Model_fails l g n0 mo th (nI pn) (nI tn) (nI wn) w9 n9 hw9 (nI 0) (nI 1) fd hmn (Or.inr rfl)) w_1056 w_15 w_1053 w_1055 (bw_s 24 rfl) hd_Model_fails rfl ⟨by decide, by decide⟩ (OB.recv E.2.2.2.2.2 (by rfl) hm.1) hm hF hl.1 rfl (Nat.le_of_ble_eq_true rfl) d_Model_feed_18 ⟨by decide, by decide⟩ (qi (fun rf H1 locs hq hF => ?_))
    obtain ⟨hrf, hq, hm⟩ := hq
    subst hrf
    have hfr := hfr.tr hq
    rw [if_pos nI_0] at hm
    refine lv_if_ne (tgt := 48) hx hb d_Model_feed_21 (by decide) (fun h9 => absurd (by decide) h9) (fun _ => ?_)
    obtain ⟨k1, e_k1, h_k1, h2_k1⟩ := okC_nat (by decide) (by decide) hok
    rw [e_k1] at hl
    refine lv_aload_n hx hb d_Model_feed_24 rfl (lv_at hl 0 rfl) ?_
    refine lv_aload_n hx hb d_Model_feed_25 rfl (lv_at hl 0 rfl) ?_
    refine q_get (C := "KateDeskModel") (T := T_Model) (N := 14) (ci := 8) E hm.1 in_Model rfl 10 (by decide) w_1011 rfl rfl d_Model_feed_26 ?_
    refine lv_iload_n hx hb d_Model_feed_29 rfl (lv_at hl 1 rfl) ?_
    refine lv_iadd hx hb d_Model_feed_30 ?_
    refine lv_bipush (v := nI 96) hx hb d_Model_feed_31 (by decide) ?_
    refine lv_icmp_le (tgt := 40) hx hb d_Model_feed_33 (by decide) (fun hc => ?_) (fun hc => ?_)
    rotate_left
    · skip
      refine lv_iconst (v := nI 1) hx hb d_Model_feed_36 (by decide) ?_
      refine lv_goto (tgt := 41) hx hb d_Model_feed_37 (by decide) ?_
      refine lv_iconst (v := nI 2) hx hb d_Model_feed_41 (by decide) ?_
      refine q_cV (rest := []) E (c_Model_fails l g n0 mo 0 (nI pn) (nI tn) (nI wn) w9 n9 hw9 (nI 1) (nI 2) fd hmn (Or.inl rfl)) w_1056 w_15 w_1053 w_1055 (bw_s 24 rfl) hd_Model_fails rfl ⟨by decide, by decide⟩ (OB.recv E.2.2.2.2.2 (by rfl) hm.1) hm hF hl.1 rfl (Nat.le_of_ble_eq_true rfl) d_Model_feed_42 ⟨by decide, by decide⟩ (qi (fun rf H2 locs hq hF => ?_))
      obtain ⟨hrf, hq, hm⟩ := hq
      subst hrf
      have hfr := hfr.tr hq
      rw [if_neg (by decide)] at hm
      refine lv_if_eq (tgt := 50) hx hb d_Model_feed_45 (by decide) (fun h9 => absurd h9 (by decide)) (fun _ => ?_)
      refine lv_iconst (v := nI 0) hx hb d_Model_feed_48 (by decide) ?_
      exact q_iret E hr hlk (⟨_, rfl, Or.inl ⟨hok, Or.inr ⟨by rw [e_k1]; exact hc, hP.keep hfr hw9 hm⟩⟩⟩) hF d_Model_feed_49
    have hfit : tn + k1 ≤ 96 := by rw [nI_add] at hc; exact (nI_leI (by omega) (by decide)).mp hc
    refine lv_iconst (v := nI 0) hx hb d_Model_feed_40 (by decide) ?_
    refine lv_iconst (v := nI 2) hx hb d_Model_feed_41 (by decide) ?_
    refine q_cV (rest := []) E (c_Model_fails l g n0 mo 0 (nI pn) (nI tn) (nI wn) w9 n9 hw9 (nI 0) (nI 2) fd hmn (Or.inr rfl)) w_1056 w_15 w_1053 w_1055 (bw_s 24 rfl) hd_Model_fails rfl ⟨by decide, by decide⟩ (OB.recv E.2.2.2.2.2 (by rfl) hm.1) hm hF hl.1 rfl (Nat.le_of_ble_eq_true rfl) d_Model_feed_42 ⟨by decide, by decide⟩ (qi (fun rf H2 locs hq hF => ?_))
    obtain ⟨hrf, hq, hm⟩ := hq
    subst hrf
    have hfr := hfr.tr hq
    rw [if_pos nI_0] at hm
    refine lv_if_eq (tgt := 50) hx hb d_Model_feed_45 (by decide) (fun _ => ?_) (fun h9 => absurd (by decide) h9)
    refine lv_iconst (v := nI 0) hx hb d_Model_feed_50 (by decide) ?_
    refine lv_istore (lv' := [(4, .int (nI 0)), (0, .ref mo), (1, .int (nI k1)), (2, .long v)]) hx hb d_Model_feed_51 hl (by decide) rfl (fun ls hl => ?_)
    have hl : lv_has ls 5 [(4, .int (nI 0)), (0, .ref mo), (1, .int (nI k1)), (2, .long v)] := lv_sub hl [0, 1, 2, 3] rfl
    have hh := hP.2.2.1.imp (fun f h => AI.off hfr (show ¬ MR mo (mo + 6) by unfold MR; omega) h)
    have hn6 := hP.2.2.2.2.2.2.1
    have hfr6 := hfr.mono (fun q h => (Or.inl h : MR mo q ∨ q = mo + 6))
    have loop : ∀ (k : Nat) (i : Nat) (H : Heap) (locs : List Loc) (ls : Array Slot), i + k = k1 → MS g n0 H mo 0 (nI pn) (nI tn) (nI wn) w9 n9 fd → (∃ f, AI g H (mo + 6) 96 f) → FRM (fun q => MR mo q ∨ q = mo + 6) s.heap H → (∀ q ∈ locs, n0 q.base) → lv_has ls 5 [(4, .int (nI i)), (0, .ref mo), (1, .int (nI k1)), (2, .long v)] → W p l e { frames := 1, cells := 0, slots := 0, locals := 22 } s m [.ref mo, .int n, .long v].toArray below meth c H locs 0 0 (MQ below (QcP (QI (fun r H H' => ((okC n (nI 1) (nI 8)) ∧ ((∃ k9, n = nI k9 ∧ tn + k9 ≤ 96 ∧ r = nI (tn + k9) ∧ MP g n0 H' mo 0 pn (tn + k9) wn) ∨ (¬ nI tn + n ≤ nI 96 ∧ MP g n0 H' mo (nI 2) pn tn wn))) ∨ (¬ (okC n (nI 1) (nI 8)) ∧ MP g n0 H' mo 1 pn tn wn)))) [.ref mo, .int n, .long v].toArray s 0 0 (fun q => n0 q)) (F0 m 53 ls []) := by
      intro k
      induction k with
      | zero =>
        intro  i   H   locs   ls hi hm hh hfr6 hF hl
        obtain rfl : i = k1 := by omega
        refine lv_iload hx hb d_Model_feed_53 (lv_at hl 0 rfl) ?_
        refine lv_iload_n hx hb d_Model_feed_55 rfl (lv_at hl 2 rfl) ?_
        refine lv_icmp_ge (tgt := 89) hx hb d_Model_feed_56 (by decide) (fun _ => ?_) (fun h9 => absurd (nI_le (Nat.le_refl _) (by omega)) h9)
        refine lv_aload_n hx hb d_Model_feed_89 rfl (lv_at hl 1 rfl) ?_
        refine lv_dup hx hb d_Model_feed_90 rfl ?_
        refine q_get (C := "KateDeskModel") (T := T_Model) (N := 14) (ci := 8) E hm.1 in_Model rfl 10 (by decide) w_1011 rfl rfl d_Model_feed_91 ?_
        refine lv_iload_n hx hb d_Model_feed_94 rfl (lv_at hl 2 rfl) ?_
        refine lv_iadd hx hb d_Model_feed_95 ?_
        refine lv_topi (fun t9 e9 => ?_)
        obtain rfl : t9 = nI (tn + i) := e9.trans (nI_add _ _)
        refine q_put (C := "KateDeskModel") (T := T_Model) (N := 14) (ci := 8) (ty := .int) E hm.1 in_Model ty_Model tyok_Model nm_Model rfl 10 (by decide) w_1011 rfl rfl (by decide +kernel) rfl rfl (Nat.le_of_ble_eq_true rfl) hmn hF d_Model_feed_96 (fun H1 locs hq ho2 hF => ?_)
        have hm : MS g n0 H1 mo 0 (nI pn) (nI (tn + i)) (nI wn) w9 n9 fd := hm.frm hq (by omega) (by omega) (by omega) (by omega) ho2
        have hh := hh.imp (fun f h => AI.off hq (by omega) h)
        have hfr6 := hfr6.tr (hq.mono (fun q h => Or.inl (Or.inl h)))
        refine lv_aload_n hx hb d_Model_feed_99 rfl (lv_at hl 1 rfl) ?_
        refine q_get (C := "KateDeskModel") (T := T_Model) (N := 14) (ci := 8) E hm.1 in_Model rfl 10 (by decide) w_1011 rfl rfl d_Model_feed_100 ?_
        exact q_iret E hr hlk (⟨_, rfl, Or.inl ⟨hok, Or.inl ⟨_, e_k1, hfit, rfl, hP.fin6 hfr6 hh hw9 hm ⟨hbd.1, hfit, hbd.2.2⟩⟩⟩⟩) hF d_Model_feed_103
      | succ k ih =>
        intro  i   H   locs   ls hi hm hh hfr6 hF hl
        refine lv_iload hx hb d_Model_feed_53 (lv_at hl 0 rfl) ?_
        refine lv_iload_n hx hb d_Model_feed_55 rfl (lv_at hl 2 rfl) ?_
        refine lv_icmp_ge (tgt := 89) hx hb d_Model_feed_56 (by decide) (fun h9 => absurd h9 (nI_ge (by omega) (by omega))) (fun _ => ?_)
        refine lv_aload_n hx hb d_Model_feed_59 rfl (lv_at hl 1 rfl) ?_
        refine q_get (C := "KateDeskModel") (T := T_Model) (N := 14) (ci := 8) E hm.1 in_Model rfl 9 (by decide) w_1010 rfl rfl d_Model_feed_60 ?_
        refine lv_aload_n hx hb d_Model_feed_63 rfl (lv_at hl 1 rfl) ?_
        refine q_get (C := "KateDeskModel") (T := T_Model) (N := 14) (ci := 8) E hm.1 in_Model rfl 10 (by decide) w_1011 rfl rfl d_Model_feed_64 ?_
        refine lv_iload hx hb d_Model_feed_67 (lv_at hl 0 rfl) ?_
        refine lv_iadd hx hb d_Model_feed_69 ?_
        refine lv_topi (fun t9 e9 => ?_)
        obtain rfl : t9 = nI (tn + i) := e9.trans (nI_add _ _)
        refine lv_lload_n hx hb d_Model_feed_70 rfl (lv_at hl 3 rfl) ?_
        refine lv_bipush (v := nI 8) hx hb d_Model_feed_71 (by decide) ?_
        refine lv_iload hx hb d_Model_feed_73 (lv_at hl 0 rfl) ?_
        refine lv_imul hx hb d_Model_feed_75 ?_
        refine lv_lshr (v := v >>> (((nI 8) * (nI i)).toInt64 &&& 63)) hx hb d_Model_feed_76 rfl ?_
        refine lv_ldc2 (v := 255) hx hb E.2.2.2.1 (E.2.2.2.2.1 _ w_1057) d_Model_feed_77 ?_
        refine lv_land hx hb d_Model_feed_80 ?_
        refine lv_l2i (v := ((v >>> (((nI 8) * (nI i)).toInt64 &&& 63)) &&& 255).toInt32) hx hb d_Model_feed_81 rfl ?_
        obtain ⟨ft, hft⟩ := hh
        refine q_iast E hft hn6 hF (tn + i) rfl (by omega) (by decide) d_Model_feed_82 (fun H1 locs hq hft2 hF => ?_)
        have hm := hm.frm hq (by omega) (by omega) (by omega) (by omega) (OB.off hq (by omega) hm.1)
        refine lv_iinc (k := 0) (v := nI (i + 1)) (lv' := [(4, .int (nI (i + 1))), (0, .ref mo), (1, .int (nI k1)), (2, .long v)]) hx hb d_Model_feed_83 hl rfl (i_inc i) (by decide) rfl (fun ls hl => ?_)
        refine lv_goto (tgt := 53) hx hb d_Model_feed_86 (by decide) ?_
        have hl : lv_has ls 5 [(4, .int (nI (i + 1))), (0, .ref mo), (1, .int (nI k1)), (2, .long v)] := lv_sub hl [0, 1, 2, 3] rfl
        exact ih (i + 1) _ _ ls (by omega) hm ⟨_, hft2⟩ (hfr6.tr (hq.mono (fun q h => Or.inr h))) hF hl
    exact loop k1 0 _ _ ls (by omega) hm hh hfr6 hF hl
  refine lv_aload_n hx hb d_Model_feed_0 rfl (lv_at hl 0 rfl) ?_
  refine lv_iload_n hx hb d_Model_feed_1 rfl (lv_at hl 1 rfl) ?_
  refine lv_iconst (v := nI 1) hx hb d_Model_feed_2 (by decide) ?_
  refine lv_icmp_lt (tgt := 12) hx hb d_Model_feed_3 (by decide) (fun g_3 => ?_) (fun g_3 => ?_)
  rotate_left
  · skip
    refine lv_iload_n hx hb d_Model_feed_6 rfl (lv_at hl 1 rfl) ?_
    refine lv_bipush (v := nI 8) hx hb d_Model_feed_7 (by decide) ?_
    refine lv_icmp_le (tgt := 16) hx hb d_Model_feed_9 (by decide) (fun g_9 => ?_) (fun g_9 => ?_)
    rotate_left
    · skip
      refine lv_iconst (v := nI 1) hx hb d_Model_feed_12 (by decide) ?_
      refine lv_goto (tgt := 17) hx hb d_Model_feed_13 (by decide) ?_
      have hl : lv_has ls 5 [(0, .ref mo), (1, .int n), (2, .long v)] := lv_sub hl [0, 1, 2] rfl
      exact bad _ ls (fun h => (fun q => g_9 q.2) h) hF hl
    refine lv_iconst (v := nI 0) hx hb d_Model_feed_16 (by decide) ?_
    have hl : lv_has ls 5 [(0, .ref mo), (1, .int n), (2, .long v)] := lv_sub hl [0, 1, 2] rfl
    exact good _ ls (⟨g_3, g_9⟩) hF hl
  refine lv_iconst (v := nI 1) hx hb d_Model_feed_12 (by decide) ?_
  refine lv_goto (tgt := 17) hx hb d_Model_feed_13 (by decide) ?_
  have hl : lv_has ls 5 [(0, .ref mo), (1, .int n), (2, .long v)] := lv_sub hl [0, 1, 2] rfl
  exact bad _ ls (fun h => (fun q => q.1 g_3) h) hF hl
