set_option maxHeartbeats 4000000 in
set_option maxRecDepth 100000 in
theorem M_Model_twelve (l : Launch) (g : WG) (n0 : Nat → Prop) (mo r : Nat) (th pw td wr : Int32) (fd : Nat → Int64) (hr1 : r < 170) (hr2 : r ≠ 134) (X : Int) (m_r : MQ9 fd r X) : Ctr l y_Model_twelve (.code y_Model_twelve prog_11_method_29_code 2 none) 3 75 0 0 n0 g [.ref mo, .int (nI r)] (fun H => MS g n0 H mo th pw td wr 0 14 fd) (QV (fun H H' => FRM (MR mo) H H' ∧ ∃ fd', MS g n0 H' mo th pw td wr 0 14 fd' ∧ SAME fd fd' (fun t => t = 134 ∨ t = r) ∧ MQ9 fd' r (12 * X))) := by
  refine ctr_mk l (lv0 := [(0, .ref mo), (1, .int (nI r))]) (by decide) (Nat.le_of_ble_eq_true rfl) rfl ?_
  intro p e s m below meth c ls E hr hlk hnm hl hP
  have hx := E.1
  have hb := E.2.1
  have hK := E.2.2.2.2.2
  have hF : ∀ q ∈ ([] : List Loc), n0 q.base := fun q hq => absurd hq List.not_mem_nil
  have hm := hP
  have hfr : FRM (MR mo) s.heap s.heap := FRM.rf
  have hsm : SAME fd fd (fun t => t = 134 ∨ t = r) := SAME.rf
  refine lv_aload_n hx hb d_Model_twelve_0 rfl (lv_at hl 0 rfl) ?_
  refine lv_sipush (v := nI 134) hx hb d_Model_twelve_1 (by decide) ?_
  refine lv_iload_n hx hb d_Model_twelve_4 rfl (lv_at hl 1 rfl) ?_
  refine lv_iload_n hx hb d_Model_twelve_5 rfl (lv_at hl 1 rfl) ?_
  refine q_cV (rest := []) E (M_Model_add l g n0 mo 134 r r th pw td wr fd (by decide) hr1 hr1 X X m_r m_r) w_975 w_15 w_972 w_974 (bw_s 17 rfl) hd_Model_add rfl ⟨by decide, by decide⟩ (OB.recv E.2.2.2.2.2 (by rfl) hm.1) hm hF hl.1 rfl (Nat.le_of_ble_eq_true rfl) d_Model_twelve_6 ⟨by decide, by decide⟩ (qv (fun H1 locs hq hF => ?_))
  obtain ⟨hq, fd1, hm, ho, hn⟩ := hq
  have hfr := hfr.tr (kjR hq)
  have m_r := m_r.off ho (by omega)
  have m_134 : MQ9 fd1 134 (X + X) := hn
  have hsm : SAME fd fd1 (fun t => t = 134 ∨ t = r) := hsm.put ho (by show 134 = 134 ∨ 134 = r; omega)
  refine lv_aload_n hx hb d_Model_twelve_9 rfl (lv_at hl 0 rfl) ?_
  refine lv_iload_n hx hb d_Model_twelve_10 rfl (lv_at hl 1 rfl) ?_
  refine lv_sipush (v := nI 134) hx hb d_Model_twelve_11 (by decide) ?_
  refine lv_iload_n hx hb d_Model_twelve_14 rfl (lv_at hl 1 rfl) ?_
  refine q_cV (rest := []) E (M_Model_add l g n0 mo r 134 r th pw td wr fd1 hr1 (by decide) hr1 (X + X) X m_134 m_r) w_975 w_15 w_972 w_974 (bw_s 17 rfl) hd_Model_add rfl ⟨by decide, by decide⟩ (OB.recv E.2.2.2.2.2 (by rfl) hm.1) hm hF hl.1 rfl (Nat.le_of_ble_eq_true rfl) d_Model_twelve_15 ⟨by decide, by decide⟩ (qv (fun H2 locs hq hF => ?_))
  obtain ⟨hq, fd2, hm, ho, hn⟩ := hq
  have hfr := hfr.tr (kjR hq)
  have m_134 := m_134.off ho (by omega)
  have m_r : MQ9 fd2 r ((X + X) + X) := hn
  have hsm : SAME fd fd2 (fun t => t = 134 ∨ t = r) := hsm.put ho (by show r = 134 ∨ r = r; omega)
  refine lv_aload_n hx hb d_Model_twelve_18 rfl (lv_at hl 0 rfl) ?_
  refine lv_iload_n hx hb d_Model_twelve_19 rfl (lv_at hl 1 rfl) ?_
  refine lv_iload_n hx hb d_Model_twelve_20 rfl (lv_at hl 1 rfl) ?_
  refine lv_iload_n hx hb d_Model_twelve_21 rfl (lv_at hl 1 rfl) ?_
  refine q_cV (rest := []) E (M_Model_add l g n0 mo r r r th pw td wr fd2 hr1 hr1 hr1 ((X + X) + X) ((X + X) + X) m_r m_r) w_975 w_15 w_972 w_974 (bw_s 17 rfl) hd_Model_add rfl ⟨by decide, by decide⟩ (OB.recv E.2.2.2.2.2 (by rfl) hm.1) hm hF hl.1 rfl (Nat.le_of_ble_eq_true rfl) d_Model_twelve_22 ⟨by decide, by decide⟩ (qv (fun H3 locs hq hF => ?_))
  obtain ⟨hq, fd3, hm, ho, hn⟩ := hq
  have hfr := hfr.tr (kjR hq)
  have m_134 := m_134.off ho (by omega)
  have m_r : MQ9 fd3 r (((X + X) + X) + ((X + X) + X)) := hn
  have hsm : SAME fd fd3 (fun t => t = 134 ∨ t = r) := hsm.put ho (by show r = 134 ∨ r = r; omega)
  refine lv_aload_n hx hb d_Model_twelve_25 rfl (lv_at hl 0 rfl) ?_
  refine lv_iload_n hx hb d_Model_twelve_26 rfl (lv_at hl 1 rfl) ?_
  refine lv_iload_n hx hb d_Model_twelve_27 rfl (lv_at hl 1 rfl) ?_
  refine lv_iload_n hx hb d_Model_twelve_28 rfl (lv_at hl 1 rfl) ?_
  refine q_cV (rest := []) E (M_Model_add l g n0 mo r r r th pw td wr fd3 hr1 hr1 hr1 (((X + X) + X) + ((X + X) + X)) (((X + X) + X) + ((X + X) + X)) m_r m_r) w_975 w_15 w_972 w_974 (bw_s 17 rfl) hd_Model_add rfl ⟨by decide, by decide⟩ (OB.recv E.2.2.2.2.2 (by rfl) hm.1) hm hF hl.1 rfl (Nat.le_of_ble_eq_true rfl) d_Model_twelve_29 ⟨by decide, by decide⟩ (qv (fun H4 locs hq hF => ?_))
  obtain ⟨hq, fd4, hm, ho, hn⟩ := hq
  have hfr := hfr.tr (kjR hq)
  have m_134 := m_134.off ho (by omega)
  have m_r : MQ9 fd4 r ((((X + X) + X) + ((X + X) + X)) + (((X + X) + X) + ((X + X) + X))) := hn
  have hsm : SAME fd fd4 (fun t => t = 134 ∨ t = r) := hsm.put ho (by show r = 134 ∨ r = r; omega)
  exact q_vret E hr hlk (⟨rfl, hfr, fd4, hm, hsm, m_r.cg (by grind)⟩) hF d_Model_twelve_32
set_option maxHeartbeats 4000000 in
set_option maxRecDepth 100000 in
theorem M_Model_sum (l : Launch) (g : WG) (n0 : Nat → Prop) (mo r a b : Nat) (th pw td wr : Int32) (fd fa : Nat → Int64) (hr1 : r + 2 < 124 ∨ (134 < r ∧ r + 2 < 170)) (ha : a + 2 < 124 ∨ (134 < a ∧ a + 2 < 170)) (hb1 : b + 2 < 124 ∨ (134 < b ∧ b + 2 < 170)) (hAT : (∀ j, j ≤ 14 → PP 0 14 ∣ VL (fun k => fa (210 * 0 + 14 * j + k)) 14 - 268435456 ^ (14 + j))) (P R : P3) : Ctr l y_Model_sum (.code y_Model_sum prog_11_method_30_code 4 none) 4 96 0 0 n0 g [.ref mo, .int (nI r), .int (nI a), .int (nI b)] (fun H => MS g n0 H mo th pw td wr 0 14 fd ∧ AJ g H (mo + 4) 420 fa ∧ (MQ9 fd a P.1 ∧ MQ9 fd (a + 1) P.2.1 ∧ MQ9 fd (a + 2) P.2.2) ∧ MQ9 fd b R.1 ∧ MQ9 fd (b + 1) R.2.1 ∧ MQ9 fd (b + 2) R.2.2) (QV (fun H H' => FRM (MR mo) H H' ∧ AJ g H' (mo + 4) 420 fa ∧ ∃ fd', MS g n0 H' mo th pw td wr 0 14 fd' ∧ SAME fd fd' (fun t => (124 ≤ t ∧ t ≤ 134) ∨ t = r ∨ t = r + 1 ∨ t = r + 2) ∧ MQ9 fd' r (AD P R).1 ∧ MQ9 fd' (r + 1) (AD P R).2.1 ∧ MQ9 fd' (r + 2) (AD P R).2.2)) := by
  refine ctr_mk l (lv0 := [(0, .ref mo), (1, .int (nI r)), (2, .int (nI a)), (3, .int (nI b))]) (by decide) (Nat.le_of_ble_eq_true rfl) rfl ?_
  intro p e s m below meth c ls E hr hlk hnm hl hP
  have hx := E.1
  have hb := E.2.1
  have hK := E.2.2.2.2.2
  have hF : ∀ q ∈ ([] : List Loc), n0 q.base := fun q hq => absurd hq List.not_mem_nil
  obtain ⟨hm, hab, ⟨m_a, m_ap1, m_ap2⟩, m_b, m_bp1, m_bp2⟩ := hP
  have hfr : FRM (MR mo) s.heap s.heap := FRM.rf
  have hsm : SAME fd fd (fun t => (124 ≤ t ∧ t ≤ 134) ∨ t = r ∨ t = r + 1 ∨ t = r + 2) := SAME.rf
  refine lv_aload_n hx hb d_Model_sum_0 rfl (lv_at hl 0 rfl) ?_
  refine lv_bipush (v := nI 124) hx hb d_Model_sum_1 (by decide) ?_
  refine lv_iload_n hx hb d_Model_sum_3 rfl (lv_at hl 2 rfl) ?_
  refine lv_iload_n hx hb d_Model_sum_4 rfl (lv_at hl 3 rfl) ?_
  refine q_cV (rest := []) E (M_Model_product l g n0 mo 124 a b th pw td wr fd (by decide) (by omega) (by omega) fa hAT P.1 R.1 m_a m_b) w_1113 w_15 w_1110 w_1112 (bw_s 32 rfl) hd_Model_product rfl ⟨by decide, by decide⟩ (OB.recv E.2.2.2.2.2 (by rfl) hm.1) (⟨hm, hab⟩) hF hl.1 rfl (Nat.le_of_ble_eq_true rfl) d_Model_sum_5 ⟨by decide, by decide⟩ (qv (fun H1 locs hq hF => ?_))
  obtain ⟨hq, fd1, hm, ho, hn⟩ := hq
  have hab := hq.ajo (by omega) hab
  have hfr := hfr.tr (kjR hq)
  have m_a := m_a.off ho (by omega)
  have m_ap1 := m_ap1.off ho (by omega)
  have m_ap2 := m_ap2.off ho (by omega)
  have m_b := m_b.off ho (by omega)
  have m_bp1 := m_bp1.off ho (by omega)
  have m_bp2 := m_bp2.off ho (by omega)
  have m_124 : MQ9 fd1 124 (P.1 * R.1) := hn
  have hsm : SAME fd fd1 (fun t => (124 ≤ t ∧ t ≤ 134) ∨ t = r ∨ t = r + 1 ∨ t = r + 2) := hsm.put ho (by show (124 ≤ 124 ∧ 124 ≤ 134) ∨ 124 = r ∨ 124 = r + 1 ∨ 124 = r + 2; omega)
  refine lv_aload_n hx hb d_Model_sum_8 rfl (lv_at hl 0 rfl) ?_
  refine lv_bipush (v := nI 125) hx hb d_Model_sum_9 (by decide) ?_
  refine lv_iload_n hx hb d_Model_sum_11 rfl (lv_at hl 2 rfl) ?_
  refine lv_iconst (v := nI 1) hx hb d_Model_sum_12 (by decide) ?_
  refine lv_iadd hx hb d_Model_sum_13 ?_
  refine lv_topi (fun t9 e9 => ?_)
  obtain rfl : t9 = nI (a + 1) := e9.trans (nI_add _ _)
  refine lv_iload_n hx hb d_Model_sum_14 rfl (lv_at hl 3 rfl) ?_
  refine lv_iconst (v := nI 1) hx hb d_Model_sum_15 (by decide) ?_
  refine lv_iadd hx hb d_Model_sum_16 ?_
  refine lv_topi (fun t9 e9 => ?_)
  obtain rfl : t9 = nI (b + 1) := e9.trans (nI_add _ _)
  refine q_cV (rest := []) E (M_Model_product l g n0 mo 125 (a + 1) (b + 1) th pw td wr fd1 (by decide) (by omega) (by omega) fa hAT P.2.1 R.2.1 m_ap1 m_bp1) w_1113 w_15 w_1110 w_1112 (bw_s 32 rfl) hd_Model_product rfl ⟨by decide, by decide⟩ (OB.recv E.2.2.2.2.2 (by rfl) hm.1) (⟨hm, hab⟩) hF hl.1 rfl (Nat.le_of_ble_eq_true rfl) d_Model_sum_17 ⟨by decide, by decide⟩ (qv (fun H2 locs hq hF => ?_))
  obtain ⟨hq, fd2, hm, ho, hn⟩ := hq
  have hab := hq.ajo (by omega) hab
  have hfr := hfr.tr (kjR hq)
  have m_a := m_a.off ho (by omega)
  have m_ap1 := m_ap1.off ho (by omega)
  have m_ap2 := m_ap2.off ho (by omega)
  have m_b := m_b.off ho (by omega)
  have m_bp1 := m_bp1.off ho (by omega)
  have m_bp2 := m_bp2.off ho (by omega)
  have m_124 := m_124.off ho (by omega)
  have m_125 : MQ9 fd2 125 (P.2.1 * R.2.1) := hn
  have hsm : SAME fd fd2 (fun t => (124 ≤ t ∧ t ≤ 134) ∨ t = r ∨ t = r + 1 ∨ t = r + 2) := hsm.put ho (by show (124 ≤ 125 ∧ 125 ≤ 134) ∨ 125 = r ∨ 125 = r + 1 ∨ 125 = r + 2; omega)
  refine lv_aload_n hx hb d_Model_sum_20 rfl (lv_at hl 0 rfl) ?_
  refine lv_bipush (v := nI 126) hx hb d_Model_sum_21 (by decide) ?_
  refine lv_iload_n hx hb d_Model_sum_23 rfl (lv_at hl 2 rfl) ?_
  refine lv_iconst (v := nI 2) hx hb d_Model_sum_24 (by decide) ?_
  refine lv_iadd hx hb d_Model_sum_25 ?_
  refine lv_topi (fun t9 e9 => ?_)
  obtain rfl : t9 = nI (a + 2) := e9.trans (nI_add _ _)
  refine lv_iload_n hx hb d_Model_sum_26 rfl (lv_at hl 3 rfl) ?_
  refine lv_iconst (v := nI 2) hx hb d_Model_sum_27 (by decide) ?_
  refine lv_iadd hx hb d_Model_sum_28 ?_
  refine lv_topi (fun t9 e9 => ?_)
  obtain rfl : t9 = nI (b + 2) := e9.trans (nI_add _ _)
  refine q_cV (rest := []) E (M_Model_product l g n0 mo 126 (a + 2) (b + 2) th pw td wr fd2 (by decide) (by omega) (by omega) fa hAT P.2.2 R.2.2 m_ap2 m_bp2) w_1113 w_15 w_1110 w_1112 (bw_s 32 rfl) hd_Model_product rfl ⟨by decide, by decide⟩ (OB.recv E.2.2.2.2.2 (by rfl) hm.1) (⟨hm, hab⟩) hF hl.1 rfl (Nat.le_of_ble_eq_true rfl) d_Model_sum_29 ⟨by decide, by decide⟩ (qv (fun H3 locs hq hF => ?_))
  obtain ⟨hq, fd3, hm, ho, hn⟩ := hq
  have hab := hq.ajo (by omega) hab
  have hfr := hfr.tr (kjR hq)
  have m_a := m_a.off ho (by omega)
  have m_ap1 := m_ap1.off ho (by omega)
  have m_ap2 := m_ap2.off ho (by omega)
  have m_b := m_b.off ho (by omega)
  have m_bp1 := m_bp1.off ho (by omega)
  have m_bp2 := m_bp2.off ho (by omega)
  have m_124 := m_124.off ho (by omega)
  have m_125 := m_125.off ho (by omega)
  have m_126 : MQ9 fd3 126 (P.2.2 * R.2.2) := hn
  have hsm : SAME fd fd3 (fun t => (124 ≤ t ∧ t ≤ 134) ∨ t = r ∨ t = r + 1 ∨ t = r + 2) := hsm.put ho (by show (124 ≤ 126 ∧ 126 ≤ 134) ∨ 126 = r ∨ 126 = r + 1 ∨ 126 = r + 2; omega)
  refine lv_aload_n hx hb d_Model_sum_32 rfl (lv_at hl 0 rfl) ?_
  refine lv_bipush (v := nI 127) hx hb d_Model_sum_33 (by decide) ?_
  refine lv_iload_n hx hb d_Model_sum_35 rfl (lv_at hl 2 rfl) ?_
  refine lv_iload_n hx hb d_Model_sum_36 rfl (lv_at hl 2 rfl) ?_
  refine lv_iconst (v := nI 1) hx hb d_Model_sum_37 (by decide) ?_
  refine lv_iadd hx hb d_Model_sum_38 ?_
  refine lv_topi (fun t9 e9 => ?_)
  obtain rfl : t9 = nI (a + 1) := e9.trans (nI_add _ _)
  refine q_cV (rest := []) E (M_Model_add l g n0 mo 127 a (a + 1) th pw td wr fd3 (by decide) (by omega) (by omega) P.1 P.2.1 m_a m_ap1) w_975 w_15 w_972 w_974 (bw_s 17 rfl) hd_Model_add rfl ⟨by decide, by decide⟩ (OB.recv E.2.2.2.2.2 (by rfl) hm.1) hm hF hl.1 rfl (Nat.le_of_ble_eq_true rfl) d_Model_sum_39 ⟨by decide, by decide⟩ (qv (fun H4 locs hq hF => ?_))
  obtain ⟨hq, fd4, hm, ho, hn⟩ := hq
  have hab := hq.ajo (by omega) hab
  have hfr := hfr.tr (kjR hq)
  have m_a := m_a.off ho (by omega)
  have m_ap1 := m_ap1.off ho (by omega)
  have m_ap2 := m_ap2.off ho (by omega)
  have m_b := m_b.off ho (by omega)
  have m_bp1 := m_bp1.off ho (by omega)
  have m_bp2 := m_bp2.off ho (by omega)
  have m_124 := m_124.off ho (by omega)
  have m_125 := m_125.off ho (by omega)
  have m_126 := m_126.off ho (by omega)
  have m_127 : MQ9 fd4 127 (P.1 + P.2.1) := hn
  have hsm : SAME fd fd4 (fun t => (124 ≤ t ∧ t ≤ 134) ∨ t = r ∨ t = r + 1 ∨ t = r + 2) := hsm.put ho (by show (124 ≤ 127 ∧ 127 ≤ 134) ∨ 127 = r ∨ 127 = r + 1 ∨ 127 = r + 2; omega)
  refine lv_aload_n hx hb d_Model_sum_42 rfl (lv_at hl 0 rfl) ?_
  refine lv_sipush (v := nI 128) hx hb d_Model_sum_43 (by decide) ?_
  refine lv_iload_n hx hb d_Model_sum_46 rfl (lv_at hl 3 rfl) ?_
  refine lv_iload_n hx hb d_Model_sum_47 rfl (lv_at hl 3 rfl) ?_
  refine lv_iconst (v := nI 1) hx hb d_Model_sum_48 (by decide) ?_
  refine lv_iadd hx hb d_Model_sum_49 ?_
  refine lv_topi (fun t9 e9 => ?_)
  obtain rfl : t9 = nI (b + 1) := e9.trans (nI_add _ _)
  refine q_cV (rest := []) E (M_Model_add l g n0 mo 128 b (b + 1) th pw td wr fd4 (by decide) (by omega) (by omega) R.1 R.2.1 m_b m_bp1) w_975 w_15 w_972 w_974 (bw_s 17 rfl) hd_Model_add rfl ⟨by decide, by decide⟩ (OB.recv E.2.2.2.2.2 (by rfl) hm.1) hm hF hl.1 rfl (Nat.le_of_ble_eq_true rfl) d_Model_sum_50 ⟨by decide, by decide⟩ (qv (fun H5 locs hq hF => ?_))
  obtain ⟨hq, fd5, hm, ho, hn⟩ := hq
  have hab := hq.ajo (by omega) hab
  have hfr := hfr.tr (kjR hq)
  have m_a := m_a.off ho (by omega)
  have m_ap1 := m_ap1.off ho (by omega)
  have m_ap2 := m_ap2.off ho (by omega)
  have m_b := m_b.off ho (by omega)
  have m_bp1 := m_bp1.off ho (by omega)
  have m_bp2 := m_bp2.off ho (by omega)
  have m_124 := m_124.off ho (by omega)
  have m_125 := m_125.off ho (by omega)
  have m_126 := m_126.off ho (by omega)
  have m_127 := m_127.off ho (by omega)
  have m_128 : MQ9 fd5 128 (R.1 + R.2.1) := hn
  have hsm : SAME fd fd5 (fun t => (124 ≤ t ∧ t ≤ 134) ∨ t = r ∨ t = r + 1 ∨ t = r + 2) := hsm.put ho (by show (124 ≤ 128 ∧ 128 ≤ 134) ∨ 128 = r ∨ 128 = r + 1 ∨ 128 = r + 2; omega)
  refine lv_aload_n hx hb d_Model_sum_53 rfl (lv_at hl 0 rfl) ?_
  refine lv_bipush (v := nI 127) hx hb d_Model_sum_54 (by decide) ?_
  refine lv_bipush (v := nI 127) hx hb d_Model_sum_56 (by decide) ?_
  refine lv_sipush (v := nI 128) hx hb d_Model_sum_58 (by decide) ?_
  refine q_cV (rest := []) E (M_Model_product l g n0 mo 127 127 128 th pw td wr fd5 (by decide) (by decide) (by decide) fa hAT (P.1 + P.2.1) (R.1 + R.2.1) m_127 m_128) w_1113 w_15 w_1110 w_1112 (bw_s 32 rfl) hd_Model_product rfl ⟨by decide, by decide⟩ (OB.recv E.2.2.2.2.2 (by rfl) hm.1) (⟨hm, hab⟩) hF hl.1 rfl (Nat.le_of_ble_eq_true rfl) d_Model_sum_61 ⟨by decide, by decide⟩ (qv (fun H6 locs hq hF => ?_))
  obtain ⟨hq, fd6, hm, ho, hn⟩ := hq
  have hab := hq.ajo (by omega) hab
  have hfr := hfr.tr (kjR hq)
  have m_a := m_a.off ho (by omega)
  have m_ap1 := m_ap1.off ho (by omega)
  have m_ap2 := m_ap2.off ho (by omega)
  have m_b := m_b.off ho (by omega)
  have m_bp1 := m_bp1.off ho (by omega)
  have m_bp2 := m_bp2.off ho (by omega)
  have m_124 := m_124.off ho (by omega)
  have m_125 := m_125.off ho (by omega)
  have m_126 := m_126.off ho (by omega)
  have m_128 := m_128.off ho (by omega)
  have m_127 : MQ9 fd6 127 ((P.1 + P.2.1) * (R.1 + R.2.1)) := hn
  have hsm : SAME fd fd6 (fun t => (124 ≤ t ∧ t ≤ 134) ∨ t = r ∨ t = r + 1 ∨ t = r + 2) := hsm.put ho (by show (124 ≤ 127 ∧ 127 ≤ 134) ∨ 127 = r ∨ 127 = r + 1 ∨ 127 = r + 2; omega)
  refine lv_aload_n hx hb d_Model_sum_64 rfl (lv_at hl 0 rfl) ?_
  refine lv_sipush (v := nI 128) hx hb d_Model_sum_65 (by decide) ?_
  refine lv_bipush (v := nI 124) hx hb d_Model_sum_68 (by decide) ?_
  refine lv_bipush (v := nI 125) hx hb d_Model_sum_70 (by decide) ?_
  refine q_cV (rest := []) E (M_Model_add l g n0 mo 128 124 125 th pw td wr fd6 (by decide) (by decide) (by decide) (P.1 * R.1) (P.2.1 * R.2.1) m_124 m_125) w_975 w_15 w_972 w_974 (bw_s 17 rfl) hd_Model_add rfl ⟨by decide, by decide⟩ (OB.recv E.2.2.2.2.2 (by rfl) hm.1) hm hF hl.1 rfl (Nat.le_of_ble_eq_true rfl) d_Model_sum_72 ⟨by decide, by decide⟩ (qv (fun H7 locs hq hF => ?_))
  obtain ⟨hq, fd7, hm, ho, hn⟩ := hq
  have hab := hq.ajo (by omega) hab
  have hfr := hfr.tr (kjR hq)
  have m_a := m_a.off ho (by omega)
  have m_ap1 := m_ap1.off ho (by omega)
  have m_ap2 := m_ap2.off ho (by omega)
  have m_b := m_b.off ho (by omega)
  have m_bp1 := m_bp1.off ho (by omega)
  have m_bp2 := m_bp2.off ho (by omega)
  have m_124 := m_124.off ho (by omega)
  have m_125 := m_125.off ho (by omega)
  have m_126 := m_126.off ho (by omega)
  have m_127 := m_127.off ho (by omega)
  have m_128 : MQ9 fd7 128 ((P.1 * R.1) + (P.2.1 * R.2.1)) := hn
  have hsm : SAME fd fd7 (fun t => (124 ≤ t ∧ t ≤ 134) ∨ t = r ∨ t = r + 1 ∨ t = r + 2) := hsm.put ho (by show (124 ≤ 128 ∧ 128 ≤ 134) ∨ 128 = r ∨ 128 = r + 1 ∨ 128 = r + 2; omega)
  refine lv_aload_n hx hb d_Model_sum_75 rfl (lv_at hl 0 rfl) ?_
  refine lv_bipush (v := nI 127) hx hb d_Model_sum_76 (by decide) ?_
  refine lv_bipush (v := nI 127) hx hb d_Model_sum_78 (by decide) ?_
  refine lv_sipush (v := nI 128) hx hb d_Model_sum_80 (by decide) ?_
  refine q_cV (rest := []) E (M_Model_less l g n0 mo 127 127 128 th pw td wr fd7 (by decide) (by decide) (by decide) ((P.1 + P.2.1) * (R.1 + R.2.1)) ((P.1 * R.1) + (P.2.1 * R.2.1)) m_127 m_128) w_1109 w_15 w_1106 w_1108 (bw_s 31 rfl) hd_Model_less rfl ⟨by decide, by decide⟩ (OB.recv E.2.2.2.2.2 (by rfl) hm.1) hm hF hl.1 rfl (Nat.le_of_ble_eq_true rfl) d_Model_sum_83 ⟨by decide, by decide⟩ (qv (fun H8 locs hq hF => ?_))
  obtain ⟨hq, fd8, hm, ho, hn⟩ := hq
  have hab := hq.ajo (by omega) hab
  have hfr := hfr.tr (kjR hq)
  have m_a := m_a.off ho (by omega)
  have m_ap1 := m_ap1.off ho (by omega)
  have m_ap2 := m_ap2.off ho (by omega)
  have m_b := m_b.off ho (by omega)
  have m_bp1 := m_bp1.off ho (by omega)
  have m_bp2 := m_bp2.off ho (by omega)
  have m_124 := m_124.off ho (by omega)
  have m_125 := m_125.off ho (by omega)
  have m_126 := m_126.off ho (by omega)
  have m_128 := m_128.off ho (by omega)
  have m_127 : MQ9 fd8 127 (((P.1 + P.2.1) * (R.1 + R.2.1)) - ((P.1 * R.1) + (P.2.1 * R.2.1))) := hn
  have hsm : SAME fd fd8 (fun t => (124 ≤ t ∧ t ≤ 134) ∨ t = r ∨ t = r + 1 ∨ t = r + 2) := hsm.put ho (by show (124 ≤ 127 ∧ 127 ≤ 134) ∨ 127 = r ∨ 127 = r + 1 ∨ 127 = r + 2; omega)
  have m_127 : MQ9 fd8 127 (ecI 1 P.1 R.2.1 R.1 P.2.1) := m_127.cg (by unfold ecI; grind)
  refine lv_aload_n hx hb d_Model_sum_86 rfl (lv_at hl 0 rfl) ?_
  refine lv_sipush (v := nI 128) hx hb d_Model_sum_87 (by decide) ?_
  refine lv_iload_n hx hb d_Model_sum_90 rfl (lv_at hl 2 rfl) ?_
  refine lv_iconst (v := nI 1) hx hb d_Model_sum_91 (by decide) ?_
  refine lv_iadd hx hb d_Model_sum_92 ?_
  refine lv_topi (fun t9 e9 => ?_)
  obtain rfl : t9 = nI (a + 1) := e9.trans (nI_add _ _)
  refine lv_iload_n hx hb d_Model_sum_93 rfl (lv_at hl 2 rfl) ?_
  refine lv_iconst (v := nI 2) hx hb d_Model_sum_94 (by decide) ?_
  refine lv_iadd hx hb d_Model_sum_95 ?_
  refine lv_topi (fun t9 e9 => ?_)
  obtain rfl : t9 = nI (a + 2) := e9.trans (nI_add _ _)
  refine q_cV (rest := []) E (M_Model_add l g n0 mo 128 (a + 1) (a + 2) th pw td wr fd8 (by decide) (by omega) (by omega) P.2.1 P.2.2 m_ap1 m_ap2) w_975 w_15 w_972 w_974 (bw_s 17 rfl) hd_Model_add rfl ⟨by decide, by decide⟩ (OB.recv E.2.2.2.2.2 (by rfl) hm.1) hm hF hl.1 rfl (Nat.le_of_ble_eq_true rfl) d_Model_sum_96 ⟨by decide, by decide⟩ (qv (fun H9 locs hq hF => ?_))
  obtain ⟨hq, fd9, hm, ho, hn⟩ := hq
  have hab := hq.ajo (by omega) hab
  have hfr := hfr.tr (kjR hq)
  have m_a := m_a.off ho (by omega)
  have m_ap1 := m_ap1.off ho (by omega)
  have m_ap2 := m_ap2.off ho (by omega)
  have m_b := m_b.off ho (by omega)
  have m_bp1 := m_bp1.off ho (by omega)
  have m_bp2 := m_bp2.off ho (by omega)
  have m_124 := m_124.off ho (by omega)
  have m_125 := m_125.off ho (by omega)
  have m_126 := m_126.off ho (by omega)
  have m_127 := m_127.off ho (by omega)
  have m_128 : MQ9 fd9 128 (P.2.1 + P.2.2) := hn
  have hsm : SAME fd fd9 (fun t => (124 ≤ t ∧ t ≤ 134) ∨ t = r ∨ t = r + 1 ∨ t = r + 2) := hsm.put ho (by show (124 ≤ 128 ∧ 128 ≤ 134) ∨ 128 = r ∨ 128 = r + 1 ∨ 128 = r + 2; omega)
  refine lv_aload_n hx hb d_Model_sum_99 rfl (lv_at hl 0 rfl) ?_
  refine lv_sipush (v := nI 129) hx hb d_Model_sum_100 (by decide) ?_
  refine lv_iload_n hx hb d_Model_sum_103 rfl (lv_at hl 3 rfl) ?_
  refine lv_iconst (v := nI 1) hx hb d_Model_sum_104 (by decide) ?_
  refine lv_iadd hx hb d_Model_sum_105 ?_
  refine lv_topi (fun t9 e9 => ?_)
  obtain rfl : t9 = nI (b + 1) := e9.trans (nI_add _ _)
  refine lv_iload_n hx hb d_Model_sum_106 rfl (lv_at hl 3 rfl) ?_
  refine lv_iconst (v := nI 2) hx hb d_Model_sum_107 (by decide) ?_
  refine lv_iadd hx hb d_Model_sum_108 ?_
  refine lv_topi (fun t9 e9 => ?_)
  obtain rfl : t9 = nI (b + 2) := e9.trans (nI_add _ _)
  refine q_cV (rest := []) E (M_Model_add l g n0 mo 129 (b + 1) (b + 2) th pw td wr fd9 (by decide) (by omega) (by omega) R.2.1 R.2.2 m_bp1 m_bp2) w_975 w_15 w_972 w_974 (bw_s 17 rfl) hd_Model_add rfl ⟨by decide, by decide⟩ (OB.recv E.2.2.2.2.2 (by rfl) hm.1) hm hF hl.1 rfl (Nat.le_of_ble_eq_true rfl) d_Model_sum_109 ⟨by decide, by decide⟩ (qv (fun H10 locs hq hF => ?_))
  obtain ⟨hq, fd10, hm, ho, hn⟩ := hq
  have hab := hq.ajo (by omega) hab
  have hfr := hfr.tr (kjR hq)
  have m_a := m_a.off ho (by omega)
  have m_ap1 := m_ap1.off ho (by omega)
  have m_ap2 := m_ap2.off ho (by omega)
  have m_b := m_b.off ho (by omega)
  have m_bp1 := m_bp1.off ho (by omega)
  have m_bp2 := m_bp2.off ho (by omega)
  have m_124 := m_124.off ho (by omega)
  have m_125 := m_125.off ho (by omega)
  have m_126 := m_126.off ho (by omega)
  have m_127 := m_127.off ho (by omega)
  have m_128 := m_128.off ho (by omega)
  have m_129 : MQ9 fd10 129 (R.2.1 + R.2.2) := hn
  have hsm : SAME fd fd10 (fun t => (124 ≤ t ∧ t ≤ 134) ∨ t = r ∨ t = r + 1 ∨ t = r + 2) := hsm.put ho (by show (124 ≤ 129 ∧ 129 ≤ 134) ∨ 129 = r ∨ 129 = r + 1 ∨ 129 = r + 2; omega)
  refine lv_aload_n hx hb d_Model_sum_112 rfl (lv_at hl 0 rfl) ?_
  refine lv_sipush (v := nI 128) hx hb d_Model_sum_113 (by decide) ?_
  refine lv_sipush (v := nI 128) hx hb d_Model_sum_116 (by decide) ?_
  refine lv_sipush (v := nI 129) hx hb d_Model_sum_119 (by decide) ?_
  refine q_cV (rest := []) E (M_Model_product l g n0 mo 128 128 129 th pw td wr fd10 (by decide) (by decide) (by decide) fa hAT (P.2.1 + P.2.2) (R.2.1 + R.2.2) m_128 m_129) w_1113 w_15 w_1110 w_1112 (bw_s 32 rfl) hd_Model_product rfl ⟨by decide, by decide⟩ (OB.recv E.2.2.2.2.2 (by rfl) hm.1) (⟨hm, hab⟩) hF hl.1 rfl (Nat.le_of_ble_eq_true rfl) d_Model_sum_122 ⟨by decide, by decide⟩ (qv (fun H11 locs hq hF => ?_))
  obtain ⟨hq, fd11, hm, ho, hn⟩ := hq
  have hab := hq.ajo (by omega) hab
  have hfr := hfr.tr (kjR hq)
  have m_a := m_a.off ho (by omega)
  have m_ap1 := m_ap1.off ho (by omega)
  have m_ap2 := m_ap2.off ho (by omega)
  have m_b := m_b.off ho (by omega)
  have m_bp1 := m_bp1.off ho (by omega)
  have m_bp2 := m_bp2.off ho (by omega)
  have m_124 := m_124.off ho (by omega)
  have m_125 := m_125.off ho (by omega)
  have m_126 := m_126.off ho (by omega)
  have m_127 := m_127.off ho (by omega)
  have m_129 := m_129.off ho (by omega)
  have m_128 : MQ9 fd11 128 ((P.2.1 + P.2.2) * (R.2.1 + R.2.2)) := hn
  have hsm : SAME fd fd11 (fun t => (124 ≤ t ∧ t ≤ 134) ∨ t = r ∨ t = r + 1 ∨ t = r + 2) := hsm.put ho (by show (124 ≤ 128 ∧ 128 ≤ 134) ∨ 128 = r ∨ 128 = r + 1 ∨ 128 = r + 2; omega)
  refine lv_aload_n hx hb d_Model_sum_125 rfl (lv_at hl 0 rfl) ?_
  refine lv_sipush (v := nI 129) hx hb d_Model_sum_126 (by decide) ?_
  refine lv_bipush (v := nI 125) hx hb d_Model_sum_129 (by decide) ?_
  refine lv_bipush (v := nI 126) hx hb d_Model_sum_131 (by decide) ?_
  refine q_cV (rest := []) E (M_Model_add l g n0 mo 129 125 126 th pw td wr fd11 (by decide) (by decide) (by decide) (P.2.1 * R.2.1) (P.2.2 * R.2.2) m_125 m_126) w_975 w_15 w_972 w_974 (bw_s 17 rfl) hd_Model_add rfl ⟨by decide, by decide⟩ (OB.recv E.2.2.2.2.2 (by rfl) hm.1) hm hF hl.1 rfl (Nat.le_of_ble_eq_true rfl) d_Model_sum_133 ⟨by decide, by decide⟩ (qv (fun H12 locs hq hF => ?_))
  obtain ⟨hq, fd12, hm, ho, hn⟩ := hq
  have hab := hq.ajo (by omega) hab
  have hfr := hfr.tr (kjR hq)
  have m_a := m_a.off ho (by omega)
  have m_ap1 := m_ap1.off ho (by omega)
  have m_ap2 := m_ap2.off ho (by omega)
  have m_b := m_b.off ho (by omega)
  have m_bp1 := m_bp1.off ho (by omega)
  have m_bp2 := m_bp2.off ho (by omega)
  have m_124 := m_124.off ho (by omega)
  have m_125 := m_125.off ho (by omega)
  have m_126 := m_126.off ho (by omega)
  have m_127 := m_127.off ho (by omega)
  have m_128 := m_128.off ho (by omega)
  have m_129 : MQ9 fd12 129 ((P.2.1 * R.2.1) + (P.2.2 * R.2.2)) := hn
  have hsm : SAME fd fd12 (fun t => (124 ≤ t ∧ t ≤ 134) ∨ t = r ∨ t = r + 1 ∨ t = r + 2) := hsm.put ho (by show (124 ≤ 129 ∧ 129 ≤ 134) ∨ 129 = r ∨ 129 = r + 1 ∨ 129 = r + 2; omega)
  refine lv_aload_n hx hb d_Model_sum_136 rfl (lv_at hl 0 rfl) ?_
  refine lv_sipush (v := nI 128) hx hb d_Model_sum_137 (by decide) ?_
  refine lv_sipush (v := nI 128) hx hb d_Model_sum_140 (by decide) ?_
  refine lv_sipush (v := nI 129) hx hb d_Model_sum_143 (by decide) ?_
  refine q_cV (rest := []) E (M_Model_less l g n0 mo 128 128 129 th pw td wr fd12 (by decide) (by decide) (by decide) ((P.2.1 + P.2.2) * (R.2.1 + R.2.2)) ((P.2.1 * R.2.1) + (P.2.2 * R.2.2)) m_128 m_129) w_1109 w_15 w_1106 w_1108 (bw_s 31 rfl) hd_Model_less rfl ⟨by decide, by decide⟩ (OB.recv E.2.2.2.2.2 (by rfl) hm.1) hm hF hl.1 rfl (Nat.le_of_ble_eq_true rfl) d_Model_sum_146 ⟨by decide, by decide⟩ (qv (fun H13 locs hq hF => ?_))
  obtain ⟨hq, fd13, hm, ho, hn⟩ := hq
  have hab := hq.ajo (by omega) hab
  have hfr := hfr.tr (kjR hq)
  have m_a := m_a.off ho (by omega)
  have m_ap1 := m_ap1.off ho (by omega)
  have m_ap2 := m_ap2.off ho (by omega)
  have m_b := m_b.off ho (by omega)
  have m_bp1 := m_bp1.off ho (by omega)
  have m_bp2 := m_bp2.off ho (by omega)
  have m_124 := m_124.off ho (by omega)
  have m_125 := m_125.off ho (by omega)
  have m_126 := m_126.off ho (by omega)
  have m_127 := m_127.off ho (by omega)
  have m_129 := m_129.off ho (by omega)
  have m_128 : MQ9 fd13 128 (((P.2.1 + P.2.2) * (R.2.1 + R.2.2)) - ((P.2.1 * R.2.1) + (P.2.2 * R.2.2))) := hn
  have hsm : SAME fd fd13 (fun t => (124 ≤ t ∧ t ≤ 134) ∨ t = r ∨ t = r + 1 ∨ t = r + 2) := hsm.put ho (by show (124 ≤ 128 ∧ 128 ≤ 134) ∨ 128 = r ∨ 128 = r + 1 ∨ 128 = r + 2; omega)
  have m_128 : MQ9 fd13 128 (ecI 1 P.2.1 R.2.2 R.2.1 P.2.2) := m_128.cg (by unfold ecI; grind)
  refine lv_aload_n hx hb d_Model_sum_149 rfl (lv_at hl 0 rfl) ?_
  refine lv_sipush (v := nI 129) hx hb d_Model_sum_150 (by decide) ?_
  refine lv_iload_n hx hb d_Model_sum_153 rfl (lv_at hl 2 rfl) ?_
  refine lv_iload_n hx hb d_Model_sum_154 rfl (lv_at hl 2 rfl) ?_
  refine lv_iconst (v := nI 2) hx hb d_Model_sum_155 (by decide) ?_
  refine lv_iadd hx hb d_Model_sum_156 ?_
  refine lv_topi (fun t9 e9 => ?_)
  obtain rfl : t9 = nI (a + 2) := e9.trans (nI_add _ _)
  refine q_cV (rest := []) E (M_Model_add l g n0 mo 129 a (a + 2) th pw td wr fd13 (by decide) (by omega) (by omega) P.1 P.2.2 m_a m_ap2) w_975 w_15 w_972 w_974 (bw_s 17 rfl) hd_Model_add rfl ⟨by decide, by decide⟩ (OB.recv E.2.2.2.2.2 (by rfl) hm.1) hm hF hl.1 rfl (Nat.le_of_ble_eq_true rfl) d_Model_sum_157 ⟨by decide, by decide⟩ (qv (fun H14 locs hq hF => ?_))
  obtain ⟨hq, fd14, hm, ho, hn⟩ := hq
  have hab := hq.ajo (by omega) hab
  have hfr := hfr.tr (kjR hq)
  have m_a := m_a.off ho (by omega)
  have m_ap1 := m_ap1.off ho (by omega)
  have m_ap2 := m_ap2.off ho (by omega)
  have m_b := m_b.off ho (by omega)
  have m_bp1 := m_bp1.off ho (by omega)
  have m_bp2 := m_bp2.off ho (by omega)
  have m_124 := m_124.off ho (by omega)
  have m_125 := m_125.off ho (by omega)
  have m_126 := m_126.off ho (by omega)
  have m_127 := m_127.off ho (by omega)
  have m_128 := m_128.off ho (by omega)
  have m_129 : MQ9 fd14 129 (P.1 + P.2.2) := hn
  have hsm : SAME fd fd14 (fun t => (124 ≤ t ∧ t ≤ 134) ∨ t = r ∨ t = r + 1 ∨ t = r + 2) := hsm.put ho (by show (124 ≤ 129 ∧ 129 ≤ 134) ∨ 129 = r ∨ 129 = r + 1 ∨ 129 = r + 2; omega)
  refine lv_aload_n hx hb d_Model_sum_160 rfl (lv_at hl 0 rfl) ?_
  refine lv_sipush (v := nI 130) hx hb d_Model_sum_161 (by decide) ?_
  refine lv_iload_n hx hb d_Model_sum_164 rfl (lv_at hl 3 rfl) ?_
  refine lv_iload_n hx hb d_Model_sum_165 rfl (lv_at hl 3 rfl) ?_
  refine lv_iconst (v := nI 2) hx hb d_Model_sum_166 (by decide) ?_
  refine lv_iadd hx hb d_Model_sum_167 ?_
  refine lv_topi (fun t9 e9 => ?_)
  obtain rfl : t9 = nI (b + 2) := e9.trans (nI_add _ _)
  refine q_cV (rest := []) E (M_Model_add l g n0 mo 130 b (b + 2) th pw td wr fd14 (by decide) (by omega) (by omega) R.1 R.2.2 m_b m_bp2) w_975 w_15 w_972 w_974 (bw_s 17 rfl) hd_Model_add rfl ⟨by decide, by decide⟩ (OB.recv E.2.2.2.2.2 (by rfl) hm.1) hm hF hl.1 rfl (Nat.le_of_ble_eq_true rfl) d_Model_sum_168 ⟨by decide, by decide⟩ (qv (fun H15 locs hq hF => ?_))
  obtain ⟨hq, fd15, hm, ho, hn⟩ := hq
  have hab := hq.ajo (by omega) hab
  have hfr := hfr.tr (kjR hq)
  have m_a := m_a.off ho (by omega)
  have m_ap1 := m_ap1.off ho (by omega)
  have m_ap2 := m_ap2.off ho (by omega)
  have m_b := m_b.off ho (by omega)
  have m_bp1 := m_bp1.off ho (by omega)
  have m_bp2 := m_bp2.off ho (by omega)
  have m_124 := m_124.off ho (by omega)
  have m_125 := m_125.off ho (by omega)
  have m_126 := m_126.off ho (by omega)
  have m_127 := m_127.off ho (by omega)
  have m_128 := m_128.off ho (by omega)
  have m_129 := m_129.off ho (by omega)
  have m_130 : MQ9 fd15 130 (R.1 + R.2.2) := hn
  have hsm : SAME fd fd15 (fun t => (124 ≤ t ∧ t ≤ 134) ∨ t = r ∨ t = r + 1 ∨ t = r + 2) := hsm.put ho (by show (124 ≤ 130 ∧ 130 ≤ 134) ∨ 130 = r ∨ 130 = r + 1 ∨ 130 = r + 2; omega)
  refine lv_aload_n hx hb d_Model_sum_171 rfl (lv_at hl 0 rfl) ?_
  refine lv_sipush (v := nI 129) hx hb d_Model_sum_172 (by decide) ?_
  refine lv_sipush (v := nI 129) hx hb d_Model_sum_175 (by decide) ?_
  refine lv_sipush (v := nI 130) hx hb d_Model_sum_178 (by decide) ?_
  refine q_cV (rest := []) E (M_Model_product l g n0 mo 129 129 130 th pw td wr fd15 (by decide) (by decide) (by decide) fa hAT (P.1 + P.2.2) (R.1 + R.2.2) m_129 m_130) w_1113 w_15 w_1110 w_1112 (bw_s 32 rfl) hd_Model_product rfl ⟨by decide, by decide⟩ (OB.recv E.2.2.2.2.2 (by rfl) hm.1) (⟨hm, hab⟩) hF hl.1 rfl (Nat.le_of_ble_eq_true rfl) d_Model_sum_181 ⟨by decide, by decide⟩ (qv (fun H16 locs hq hF => ?_))
  obtain ⟨hq, fd16, hm, ho, hn⟩ := hq
  have hab := hq.ajo (by omega) hab
  have hfr := hfr.tr (kjR hq)
  have m_a := m_a.off ho (by omega)
  have m_ap1 := m_ap1.off ho (by omega)
  have m_ap2 := m_ap2.off ho (by omega)
  have m_b := m_b.off ho (by omega)
  have m_bp1 := m_bp1.off ho (by omega)
  have m_bp2 := m_bp2.off ho (by omega)
  have m_124 := m_124.off ho (by omega)
  have m_125 := m_125.off ho (by omega)
  have m_126 := m_126.off ho (by omega)
  have m_127 := m_127.off ho (by omega)
  have m_128 := m_128.off ho (by omega)
  have m_130 := m_130.off ho (by omega)
  have m_129 : MQ9 fd16 129 ((P.1 + P.2.2) * (R.1 + R.2.2)) := hn
  have hsm : SAME fd fd16 (fun t => (124 ≤ t ∧ t ≤ 134) ∨ t = r ∨ t = r + 1 ∨ t = r + 2) := hsm.put ho (by show (124 ≤ 129 ∧ 129 ≤ 134) ∨ 129 = r ∨ 129 = r + 1 ∨ 129 = r + 2; omega)
  refine lv_aload_n hx hb d_Model_sum_184 rfl (lv_at hl 0 rfl) ?_
  refine lv_sipush (v := nI 130) hx hb d_Model_sum_185 (by decide) ?_
  refine lv_bipush (v := nI 124) hx hb d_Model_sum_188 (by decide) ?_
  refine lv_bipush (v := nI 126) hx hb d_Model_sum_190 (by decide) ?_
  refine q_cV (rest := []) E (M_Model_add l g n0 mo 130 124 126 th pw td wr fd16 (by decide) (by decide) (by decide) (P.1 * R.1) (P.2.2 * R.2.2) m_124 m_126) w_975 w_15 w_972 w_974 (bw_s 17 rfl) hd_Model_add rfl ⟨by decide, by decide⟩ (OB.recv E.2.2.2.2.2 (by rfl) hm.1) hm hF hl.1 rfl (Nat.le_of_ble_eq_true rfl) d_Model_sum_192 ⟨by decide, by decide⟩ (qv (fun H17 locs hq hF => ?_))
  obtain ⟨hq, fd17, hm, ho, hn⟩ := hq
  have hab := hq.ajo (by omega) hab
  have hfr := hfr.tr (kjR hq)
  have m_a := m_a.off ho (by omega)
  have m_ap1 := m_ap1.off ho (by omega)
  have m_ap2 := m_ap2.off ho (by omega)
  have m_b := m_b.off ho (by omega)
  have m_bp1 := m_bp1.off ho (by omega)
  have m_bp2 := m_bp2.off ho (by omega)
  have m_124 := m_124.off ho (by omega)
  have m_125 := m_125.off ho (by omega)
  have m_126 := m_126.off ho (by omega)
  have m_127 := m_127.off ho (by omega)
  have m_128 := m_128.off ho (by omega)
  have m_129 := m_129.off ho (by omega)
  have m_130 : MQ9 fd17 130 ((P.1 * R.1) + (P.2.2 * R.2.2)) := hn
  have hsm : SAME fd fd17 (fun t => (124 ≤ t ∧ t ≤ 134) ∨ t = r ∨ t = r + 1 ∨ t = r + 2) := hsm.put ho (by show (124 ≤ 130 ∧ 130 ≤ 134) ∨ 130 = r ∨ 130 = r + 1 ∨ 130 = r + 2; omega)
  refine lv_aload_n hx hb d_Model_sum_195 rfl (lv_at hl 0 rfl) ?_
  refine lv_sipush (v := nI 130) hx hb d_Model_sum_196 (by decide) ?_
  refine lv_sipush (v := nI 129) hx hb d_Model_sum_199 (by decide) ?_
  refine lv_sipush (v := nI 130) hx hb d_Model_sum_202 (by decide) ?_
  refine q_cV (rest := []) E (M_Model_less l g n0 mo 130 129 130 th pw td wr fd17 (by decide) (by decide) (by decide) ((P.1 + P.2.2) * (R.1 + R.2.2)) ((P.1 * R.1) + (P.2.2 * R.2.2)) m_129 m_130) w_1109 w_15 w_1106 w_1108 (bw_s 31 rfl) hd_Model_less rfl ⟨by decide, by decide⟩ (OB.recv E.2.2.2.2.2 (by rfl) hm.1) hm hF hl.1 rfl (Nat.le_of_ble_eq_true rfl) d_Model_sum_205 ⟨by decide, by decide⟩ (qv (fun H18 locs hq hF => ?_))
  obtain ⟨hq, fd18, hm, ho, hn⟩ := hq
  have hab := hq.ajo (by omega) hab
  have hfr := hfr.tr (kjR hq)
  have m_a := m_a.off ho (by omega)
  have m_ap1 := m_ap1.off ho (by omega)
  have m_ap2 := m_ap2.off ho (by omega)
  have m_b := m_b.off ho (by omega)
  have m_bp1 := m_bp1.off ho (by omega)
  have m_bp2 := m_bp2.off ho (by omega)
  have m_124 := m_124.off ho (by omega)
  have m_125 := m_125.off ho (by omega)
  have m_126 := m_126.off ho (by omega)
  have m_127 := m_127.off ho (by omega)
  have m_128 := m_128.off ho (by omega)
  have m_129 := m_129.off ho (by omega)
  have m_130 : MQ9 fd18 130 (((P.1 + P.2.2) * (R.1 + R.2.2)) - ((P.1 * R.1) + (P.2.2 * R.2.2))) := hn
  have hsm : SAME fd fd18 (fun t => (124 ≤ t ∧ t ≤ 134) ∨ t = r ∨ t = r + 1 ∨ t = r + 2) := hsm.put ho (by show (124 ≤ 130 ∧ 130 ≤ 134) ∨ 130 = r ∨ 130 = r + 1 ∨ 130 = r + 2; omega)
  have m_130 : MQ9 fd18 130 (ecI 1 P.1 R.2.2 R.1 P.2.2) := m_130.cg (by unfold ecI; grind)
  refine lv_aload_n hx hb d_Model_sum_208 rfl (lv_at hl 0 rfl) ?_
  refine lv_sipush (v := nI 129) hx hb d_Model_sum_209 (by decide) ?_
  refine lv_bipush (v := nI 124) hx hb d_Model_sum_212 (by decide) ?_
  refine lv_bipush (v := nI 124) hx hb d_Model_sum_214 (by decide) ?_
  refine q_cV (rest := []) E (M_Model_add l g n0 mo 129 124 124 th pw td wr fd18 (by decide) (by decide) (by decide) (P.1 * R.1) (P.1 * R.1) m_124 m_124) w_975 w_15 w_972 w_974 (bw_s 17 rfl) hd_Model_add rfl ⟨by decide, by decide⟩ (OB.recv E.2.2.2.2.2 (by rfl) hm.1) hm hF hl.1 rfl (Nat.le_of_ble_eq_true rfl) d_Model_sum_216 ⟨by decide, by decide⟩ (qv (fun H19 locs hq hF => ?_))
  obtain ⟨hq, fd19, hm, ho, hn⟩ := hq
  have hab := hq.ajo (by omega) hab
  have hfr := hfr.tr (kjR hq)
  have m_a := m_a.off ho (by omega)
  have m_ap1 := m_ap1.off ho (by omega)
  have m_ap2 := m_ap2.off ho (by omega)
  have m_b := m_b.off ho (by omega)
  have m_bp1 := m_bp1.off ho (by omega)
  have m_bp2 := m_bp2.off ho (by omega)
  have m_124 := m_124.off ho (by omega)
  have m_125 := m_125.off ho (by omega)
  have m_126 := m_126.off ho (by omega)
  have m_127 := m_127.off ho (by omega)
  have m_128 := m_128.off ho (by omega)
  have m_130 := m_130.off ho (by omega)
  have m_129 : MQ9 fd19 129 ((P.1 * R.1) + (P.1 * R.1)) := hn
  have hsm : SAME fd fd19 (fun t => (124 ≤ t ∧ t ≤ 134) ∨ t = r ∨ t = r + 1 ∨ t = r + 2) := hsm.put ho (by show (124 ≤ 129 ∧ 129 ≤ 134) ∨ 129 = r ∨ 129 = r + 1 ∨ 129 = r + 2; omega)
  refine lv_aload_n hx hb d_Model_sum_219 rfl (lv_at hl 0 rfl) ?_
  refine lv_bipush (v := nI 124) hx hb d_Model_sum_220 (by decide) ?_
  refine lv_sipush (v := nI 129) hx hb d_Model_sum_222 (by decide) ?_
  refine lv_bipush (v := nI 124) hx hb d_Model_sum_225 (by decide) ?_
  refine q_cV (rest := []) E (M_Model_add l g n0 mo 124 129 124 th pw td wr fd19 (by decide) (by decide) (by decide) ((P.1 * R.1) + (P.1 * R.1)) (P.1 * R.1) m_129 m_124) w_975 w_15 w_972 w_974 (bw_s 17 rfl) hd_Model_add rfl ⟨by decide, by decide⟩ (OB.recv E.2.2.2.2.2 (by rfl) hm.1) hm hF hl.1 rfl (Nat.le_of_ble_eq_true rfl) d_Model_sum_227 ⟨by decide, by decide⟩ (qv (fun H20 locs hq hF => ?_))
  obtain ⟨hq, fd20, hm, ho, hn⟩ := hq
  have hab := hq.ajo (by omega) hab
  have hfr := hfr.tr (kjR hq)
  have m_a := m_a.off ho (by omega)
  have m_ap1 := m_ap1.off ho (by omega)
  have m_ap2 := m_ap2.off ho (by omega)
  have m_b := m_b.off ho (by omega)
  have m_bp1 := m_bp1.off ho (by omega)
  have m_bp2 := m_bp2.off ho (by omega)
  have m_125 := m_125.off ho (by omega)
  have m_126 := m_126.off ho (by omega)
  have m_127 := m_127.off ho (by omega)
  have m_128 := m_128.off ho (by omega)
  have m_129 := m_129.off ho (by omega)
  have m_130 := m_130.off ho (by omega)
  have m_124 : MQ9 fd20 124 (((P.1 * R.1) + (P.1 * R.1)) + (P.1 * R.1)) := hn
  have hsm : SAME fd fd20 (fun t => (124 ≤ t ∧ t ≤ 134) ∨ t = r ∨ t = r + 1 ∨ t = r + 2) := hsm.put ho (by show (124 ≤ 124 ∧ 124 ≤ 134) ∨ 124 = r ∨ 124 = r + 1 ∨ 124 = r + 2; omega)
  refine lv_aload_n hx hb d_Model_sum_230 rfl (lv_at hl 0 rfl) ?_
  refine lv_bipush (v := nI 126) hx hb d_Model_sum_231 (by decide) ?_
  refine q_cV (rest := []) E (M_Model_twelve l g n0 mo 126 th pw td wr fd20 (by decide) (by decide) (P.2.2 * R.2.2) m_126) w_1179 w_15 w_1176 w_1178 (bw_s 43 rfl) hd_Model_twelve rfl ⟨by decide, by decide⟩ (OB.recv E.2.2.2.2.2 (by rfl) hm.1) hm hF hl.1 rfl (Nat.le_of_ble_eq_true rfl) d_Model_sum_233 ⟨by decide, by decide⟩ (qv (fun H21 locs hq hF => ?_))
  obtain ⟨hq, fd21, hm, ho, hn⟩ := hq
  have hab := AJ.off hq (by unfold MR; omega) hab
  have hfr := hfr.tr hq
  have m_a := m_a.sm ho (by show ¬ (a = 134 ∨ a = 126); omega)
  have m_ap1 := m_ap1.sm ho (by show ¬ (a + 1 = 134 ∨ a + 1 = 126); omega)
  have m_ap2 := m_ap2.sm ho (by show ¬ (a + 2 = 134 ∨ a + 2 = 126); omega)
  have m_b := m_b.sm ho (by show ¬ (b = 134 ∨ b = 126); omega)
  have m_bp1 := m_bp1.sm ho (by show ¬ (b + 1 = 134 ∨ b + 1 = 126); omega)
  have m_bp2 := m_bp2.sm ho (by show ¬ (b + 2 = 134 ∨ b + 2 = 126); omega)
  have m_124 := m_124.sm ho (by show ¬ (124 = 134 ∨ 124 = 126); omega)
  have m_125 := m_125.sm ho (by show ¬ (125 = 134 ∨ 125 = 126); omega)
  have m_127 := m_127.sm ho (by show ¬ (127 = 134 ∨ 127 = 126); omega)
  have m_128 := m_128.sm ho (by show ¬ (128 = 134 ∨ 128 = 126); omega)
  have m_129 := m_129.sm ho (by show ¬ (129 = 134 ∨ 129 = 126); omega)
  have m_130 := m_130.sm ho (by show ¬ (130 = 134 ∨ 130 = 126); omega)
  have m_126 : MQ9 fd21 126 (12 * (P.2.2 * R.2.2)) := hn
  have hsm : SAME fd fd21 (fun t => (124 ≤ t ∧ t ≤ 134) ∨ t = r ∨ t = r + 1 ∨ t = r + 2) := hsm.tr (ho.mono (fun t h => by omega))
  refine lv_aload_n hx hb d_Model_sum_236 rfl (lv_at hl 0 rfl) ?_
  refine lv_sipush (v := nI 131) hx hb d_Model_sum_237 (by decide) ?_
  refine lv_bipush (v := nI 125) hx hb d_Model_sum_240 (by decide) ?_
  refine lv_bipush (v := nI 126) hx hb d_Model_sum_242 (by decide) ?_
  refine q_cV (rest := []) E (M_Model_add l g n0 mo 131 125 126 th pw td wr fd21 (by decide) (by decide) (by decide) (P.2.1 * R.2.1) (12 * (P.2.2 * R.2.2)) m_125 m_126) w_975 w_15 w_972 w_974 (bw_s 17 rfl) hd_Model_add rfl ⟨by decide, by decide⟩ (OB.recv E.2.2.2.2.2 (by rfl) hm.1) hm hF hl.1 rfl (Nat.le_of_ble_eq_true rfl) d_Model_sum_244 ⟨by decide, by decide⟩ (qv (fun H22 locs hq hF => ?_))
  obtain ⟨hq, fd22, hm, ho, hn⟩ := hq
  have hab := hq.ajo (by omega) hab
  have hfr := hfr.tr (kjR hq)
  have m_a := m_a.off ho (by omega)
  have m_ap1 := m_ap1.off ho (by omega)
  have m_ap2 := m_ap2.off ho (by omega)
  have m_b := m_b.off ho (by omega)
  have m_bp1 := m_bp1.off ho (by omega)
  have m_bp2 := m_bp2.off ho (by omega)
  have m_124 := m_124.off ho (by omega)
  have m_125 := m_125.off ho (by omega)
  have m_126 := m_126.off ho (by omega)
  have m_127 := m_127.off ho (by omega)
  have m_128 := m_128.off ho (by omega)
  have m_129 := m_129.off ho (by omega)
  have m_130 := m_130.off ho (by omega)
  have m_131 : MQ9 fd22 131 ((P.2.1 * R.2.1) + (12 * (P.2.2 * R.2.2))) := hn
  have hsm : SAME fd fd22 (fun t => (124 ≤ t ∧ t ≤ 134) ∨ t = r ∨ t = r + 1 ∨ t = r + 2) := hsm.put ho (by show (124 ≤ 131 ∧ 131 ≤ 134) ∨ 131 = r ∨ 131 = r + 1 ∨ 131 = r + 2; omega)
  refine lv_aload_n hx hb d_Model_sum_247 rfl (lv_at hl 0 rfl) ?_
  refine lv_bipush (v := nI 125) hx hb d_Model_sum_248 (by decide) ?_
  refine lv_bipush (v := nI 125) hx hb d_Model_sum_250 (by decide) ?_
  refine lv_bipush (v := nI 126) hx hb d_Model_sum_252 (by decide) ?_
  refine q_cV (rest := []) E (M_Model_less l g n0 mo 125 125 126 th pw td wr fd22 (by decide) (by decide) (by decide) (P.2.1 * R.2.1) (12 * (P.2.2 * R.2.2)) m_125 m_126) w_1109 w_15 w_1106 w_1108 (bw_s 31 rfl) hd_Model_less rfl ⟨by decide, by decide⟩ (OB.recv E.2.2.2.2.2 (by rfl) hm.1) hm hF hl.1 rfl (Nat.le_of_ble_eq_true rfl) d_Model_sum_254 ⟨by decide, by decide⟩ (qv (fun H23 locs hq hF => ?_))
  obtain ⟨hq, fd23, hm, ho, hn⟩ := hq
  have hab := hq.ajo (by omega) hab
  have hfr := hfr.tr (kjR hq)
  have m_a := m_a.off ho (by omega)
  have m_ap1 := m_ap1.off ho (by omega)
  have m_ap2 := m_ap2.off ho (by omega)
  have m_b := m_b.off ho (by omega)
  have m_bp1 := m_bp1.off ho (by omega)
  have m_bp2 := m_bp2.off ho (by omega)
  have m_124 := m_124.off ho (by omega)
  have m_126 := m_126.off ho (by omega)
  have m_127 := m_127.off ho (by omega)
  have m_128 := m_128.off ho (by omega)
  have m_129 := m_129.off ho (by omega)
  have m_130 := m_130.off ho (by omega)
  have m_131 := m_131.off ho (by omega)
  have m_125 : MQ9 fd23 125 ((P.2.1 * R.2.1) - (12 * (P.2.2 * R.2.2))) := hn
  have hsm : SAME fd fd23 (fun t => (124 ≤ t ∧ t ≤ 134) ∨ t = r ∨ t = r + 1 ∨ t = r + 2) := hsm.put ho (by show (124 ≤ 125 ∧ 125 ≤ 134) ∨ 125 = r ∨ 125 = r + 1 ∨ 125 = r + 2; omega)
  refine lv_aload_n hx hb d_Model_sum_257 rfl (lv_at hl 0 rfl) ?_
  refine lv_sipush (v := nI 130) hx hb d_Model_sum_258 (by decide) ?_
  refine q_cV (rest := []) E (M_Model_twelve l g n0 mo 130 th pw td wr fd23 (by decide) (by decide) (ecI 1 P.1 R.2.2 R.1 P.2.2) m_130) w_1179 w_15 w_1176 w_1178 (bw_s 43 rfl) hd_Model_twelve rfl ⟨by decide, by decide⟩ (OB.recv E.2.2.2.2.2 (by rfl) hm.1) hm hF hl.1 rfl (Nat.le_of_ble_eq_true rfl) d_Model_sum_261 ⟨by decide, by decide⟩ (qv (fun H24 locs hq hF => ?_))
  obtain ⟨hq, fd24, hm, ho, hn⟩ := hq
  have hab := AJ.off hq (by unfold MR; omega) hab
  have hfr := hfr.tr hq
  have m_a := m_a.sm ho (by show ¬ (a = 134 ∨ a = 130); omega)
  have m_ap1 := m_ap1.sm ho (by show ¬ (a + 1 = 134 ∨ a + 1 = 130); omega)
  have m_ap2 := m_ap2.sm ho (by show ¬ (a + 2 = 134 ∨ a + 2 = 130); omega)
  have m_b := m_b.sm ho (by show ¬ (b = 134 ∨ b = 130); omega)
  have m_bp1 := m_bp1.sm ho (by show ¬ (b + 1 = 134 ∨ b + 1 = 130); omega)
  have m_bp2 := m_bp2.sm ho (by show ¬ (b + 2 = 134 ∨ b + 2 = 130); omega)
  have m_124 := m_124.sm ho (by show ¬ (124 = 134 ∨ 124 = 130); omega)
  have m_125 := m_125.sm ho (by show ¬ (125 = 134 ∨ 125 = 130); omega)
  have m_126 := m_126.sm ho (by show ¬ (126 = 134 ∨ 126 = 130); omega)
  have m_127 := m_127.sm ho (by show ¬ (127 = 134 ∨ 127 = 130); omega)
  have m_128 := m_128.sm ho (by show ¬ (128 = 134 ∨ 128 = 130); omega)
  have m_129 := m_129.sm ho (by show ¬ (129 = 134 ∨ 129 = 130); omega)
  have m_131 := m_131.sm ho (by show ¬ (131 = 134 ∨ 131 = 130); omega)
  have m_130 : MQ9 fd24 130 (12 * (ecI 1 P.1 R.2.2 R.1 P.2.2)) := hn
  have hsm : SAME fd fd24 (fun t => (124 ≤ t ∧ t ≤ 134) ∨ t = r ∨ t = r + 1 ∨ t = r + 2) := hsm.tr (ho.mono (fun t h => by omega))
  refine lv_aload_n hx hb d_Model_sum_264 rfl (lv_at hl 0 rfl) ?_
  refine lv_sipush (v := nI 129) hx hb d_Model_sum_265 (by decide) ?_
  refine lv_sipush (v := nI 128) hx hb d_Model_sum_268 (by decide) ?_
  refine lv_sipush (v := nI 130) hx hb d_Model_sum_271 (by decide) ?_
  refine q_cV (rest := []) E (M_Model_product l g n0 mo 129 128 130 th pw td wr fd24 (by decide) (by decide) (by decide) fa hAT (ecI 1 P.2.1 R.2.2 R.2.1 P.2.2) (12 * (ecI 1 P.1 R.2.2 R.1 P.2.2)) m_128 m_130) w_1113 w_15 w_1110 w_1112 (bw_s 32 rfl) hd_Model_product rfl ⟨by decide, by decide⟩ (OB.recv E.2.2.2.2.2 (by rfl) hm.1) (⟨hm, hab⟩) hF hl.1 rfl (Nat.le_of_ble_eq_true rfl) d_Model_sum_274 ⟨by decide, by decide⟩ (qv (fun H25 locs hq hF => ?_))
  obtain ⟨hq, fd25, hm, ho, hn⟩ := hq
  have hab := hq.ajo (by omega) hab
  have hfr := hfr.tr (kjR hq)
  have m_a := m_a.off ho (by omega)
  have m_ap1 := m_ap1.off ho (by omega)
  have m_ap2 := m_ap2.off ho (by omega)
  have m_b := m_b.off ho (by omega)
  have m_bp1 := m_bp1.off ho (by omega)
  have m_bp2 := m_bp2.off ho (by omega)
  have m_124 := m_124.off ho (by omega)
  have m_125 := m_125.off ho (by omega)
  have m_126 := m_126.off ho (by omega)
  have m_127 := m_127.off ho (by omega)
  have m_128 := m_128.off ho (by omega)
  have m_130 := m_130.off ho (by omega)
  have m_131 := m_131.off ho (by omega)
  have m_129 : MQ9 fd25 129 ((ecI 1 P.2.1 R.2.2 R.2.1 P.2.2) * (12 * (ecI 1 P.1 R.2.2 R.1 P.2.2))) := hn
  have hsm : SAME fd fd25 (fun t => (124 ≤ t ∧ t ≤ 134) ∨ t = r ∨ t = r + 1 ∨ t = r + 2) := hsm.put ho (by show (124 ≤ 129 ∧ 129 ≤ 134) ∨ 129 = r ∨ 129 = r + 1 ∨ 129 = r + 2; omega)
  refine lv_aload_n hx hb d_Model_sum_277 rfl (lv_at hl 0 rfl) ?_
  refine lv_bipush (v := nI 126) hx hb d_Model_sum_278 (by decide) ?_
  refine lv_bipush (v := nI 127) hx hb d_Model_sum_280 (by decide) ?_
  refine lv_bipush (v := nI 125) hx hb d_Model_sum_282 (by decide) ?_
  refine q_cV (rest := []) E (M_Model_product l g n0 mo 126 127 125 th pw td wr fd25 (by decide) (by decide) (by decide) fa hAT (ecI 1 P.1 R.2.1 R.1 P.2.1) ((P.2.1 * R.2.1) - (12 * (P.2.2 * R.2.2))) m_127 m_125) w_1113 w_15 w_1110 w_1112 (bw_s 32 rfl) hd_Model_product rfl ⟨by decide, by decide⟩ (OB.recv E.2.2.2.2.2 (by rfl) hm.1) (⟨hm, hab⟩) hF hl.1 rfl (Nat.le_of_ble_eq_true rfl) d_Model_sum_284 ⟨by decide, by decide⟩ (qv (fun H26 locs hq hF => ?_))
  obtain ⟨hq, fd26, hm, ho, hn⟩ := hq
  have hab := hq.ajo (by omega) hab
  have hfr := hfr.tr (kjR hq)
  have m_a := m_a.off ho (by omega)
  have m_ap1 := m_ap1.off ho (by omega)
  have m_ap2 := m_ap2.off ho (by omega)
  have m_b := m_b.off ho (by omega)
  have m_bp1 := m_bp1.off ho (by omega)
  have m_bp2 := m_bp2.off ho (by omega)
  have m_124 := m_124.off ho (by omega)
  have m_125 := m_125.off ho (by omega)
  have m_127 := m_127.off ho (by omega)
  have m_128 := m_128.off ho (by omega)
  have m_129 := m_129.off ho (by omega)
  have m_130 := m_130.off ho (by omega)
  have m_131 := m_131.off ho (by omega)
  have m_126 : MQ9 fd26 126 ((ecI 1 P.1 R.2.1 R.1 P.2.1) * ((P.2.1 * R.2.1) - (12 * (P.2.2 * R.2.2)))) := hn
  have hsm : SAME fd fd26 (fun t => (124 ≤ t ∧ t ≤ 134) ∨ t = r ∨ t = r + 1 ∨ t = r + 2) := hsm.put ho (by show (124 ≤ 126 ∧ 126 ≤ 134) ∨ 126 = r ∨ 126 = r + 1 ∨ 126 = r + 2; omega)
  refine lv_aload_n hx hb d_Model_sum_287 rfl (lv_at hl 0 rfl) ?_
  refine lv_iload_n hx hb d_Model_sum_288 rfl (lv_at hl 1 rfl) ?_
  refine lv_bipush (v := nI 126) hx hb d_Model_sum_289 (by decide) ?_
  refine lv_sipush (v := nI 129) hx hb d_Model_sum_291 (by decide) ?_
  refine q_cV (rest := []) E (M_Model_less l g n0 mo r 126 129 th pw td wr fd26 (by omega) (by decide) (by decide) ((ecI 1 P.1 R.2.1 R.1 P.2.1) * ((P.2.1 * R.2.1) - (12 * (P.2.2 * R.2.2)))) ((ecI 1 P.2.1 R.2.2 R.2.1 P.2.2) * (12 * (ecI 1 P.1 R.2.2 R.1 P.2.2))) m_126 m_129) w_1109 w_15 w_1106 w_1108 (bw_s 31 rfl) hd_Model_less rfl ⟨by decide, by decide⟩ (OB.recv E.2.2.2.2.2 (by rfl) hm.1) hm hF hl.1 rfl (Nat.le_of_ble_eq_true rfl) d_Model_sum_294 ⟨by decide, by decide⟩ (qv (fun H27 locs hq hF => ?_))
  obtain ⟨hq, fd27, hm, ho, hn⟩ := hq
  have hab := hq.ajo (by omega) hab
  have hfr := hfr.tr (kjR hq)
  have m_124 := m_124.off ho (by omega)
  have m_125 := m_125.off ho (by omega)
  have m_126 := m_126.off ho (by omega)
  have m_127 := m_127.off ho (by omega)
  have m_128 := m_128.off ho (by omega)
  have m_129 := m_129.off ho (by omega)
  have m_130 := m_130.off ho (by omega)
  have m_131 := m_131.off ho (by omega)
  have m_r : MQ9 fd27 r (((ecI 1 P.1 R.2.1 R.1 P.2.1) * ((P.2.1 * R.2.1) - (12 * (P.2.2 * R.2.2)))) - ((ecI 1 P.2.1 R.2.2 R.2.1 P.2.2) * (12 * (ecI 1 P.1 R.2.2 R.1 P.2.2)))) := hn
  have hsm : SAME fd fd27 (fun t => (124 ≤ t ∧ t ≤ 134) ∨ t = r ∨ t = r + 1 ∨ t = r + 2) := hsm.put ho (by show (124 ≤ r ∧ r ≤ 134) ∨ r = r ∨ r = r + 1 ∨ r = r + 2; omega)
  refine lv_aload_n hx hb d_Model_sum_297 rfl (lv_at hl 0 rfl) ?_
  refine lv_sipush (v := nI 130) hx hb d_Model_sum_298 (by decide) ?_
  refine lv_sipush (v := nI 130) hx hb d_Model_sum_301 (by decide) ?_
  refine lv_bipush (v := nI 124) hx hb d_Model_sum_304 (by decide) ?_
  refine q_cV (rest := []) E (M_Model_product l g n0 mo 130 130 124 th pw td wr fd27 (by decide) (by decide) (by decide) fa hAT (12 * (ecI 1 P.1 R.2.2 R.1 P.2.2)) (((P.1 * R.1) + (P.1 * R.1)) + (P.1 * R.1)) m_130 m_124) w_1113 w_15 w_1110 w_1112 (bw_s 32 rfl) hd_Model_product rfl ⟨by decide, by decide⟩ (OB.recv E.2.2.2.2.2 (by rfl) hm.1) (⟨hm, hab⟩) hF hl.1 rfl (Nat.le_of_ble_eq_true rfl) d_Model_sum_306 ⟨by decide, by decide⟩ (qv (fun H28 locs hq hF => ?_))
  obtain ⟨hq, fd28, hm, ho, hn⟩ := hq
  have hab := hq.ajo (by omega) hab
  have hfr := hfr.tr (kjR hq)
  have m_124 := m_124.off ho (by omega)
  have m_125 := m_125.off ho (by omega)
  have m_126 := m_126.off ho (by omega)
  have m_127 := m_127.off ho (by omega)
  have m_128 := m_128.off ho (by omega)
  have m_129 := m_129.off ho (by omega)
  have m_131 := m_131.off ho (by omega)
  have m_r := m_r.off ho (by omega)
  have m_130 : MQ9 fd28 130 ((12 * (ecI 1 P.1 R.2.2 R.1 P.2.2)) * (((P.1 * R.1) + (P.1 * R.1)) + (P.1 * R.1))) := hn
  have hsm : SAME fd fd28 (fun t => (124 ≤ t ∧ t ≤ 134) ∨ t = r ∨ t = r + 1 ∨ t = r + 2) := hsm.put ho (by show (124 ≤ 130 ∧ 130 ≤ 134) ∨ 130 = r ∨ 130 = r + 1 ∨ 130 = r + 2; omega)
  refine lv_aload_n hx hb d_Model_sum_309 rfl (lv_at hl 0 rfl) ?_
  refine lv_bipush (v := nI 125) hx hb d_Model_sum_310 (by decide) ?_
  refine lv_bipush (v := nI 125) hx hb d_Model_sum_312 (by decide) ?_
  refine lv_sipush (v := nI 131) hx hb d_Model_sum_314 (by decide) ?_
  refine q_cV (rest := []) E (M_Model_product l g n0 mo 125 125 131 th pw td wr fd28 (by decide) (by decide) (by decide) fa hAT ((P.2.1 * R.2.1) - (12 * (P.2.2 * R.2.2))) ((P.2.1 * R.2.1) + (12 * (P.2.2 * R.2.2))) m_125 m_131) w_1113 w_15 w_1110 w_1112 (bw_s 32 rfl) hd_Model_product rfl ⟨by decide, by decide⟩ (OB.recv E.2.2.2.2.2 (by rfl) hm.1) (⟨hm, hab⟩) hF hl.1 rfl (Nat.le_of_ble_eq_true rfl) d_Model_sum_317 ⟨by decide, by decide⟩ (qv (fun H29 locs hq hF => ?_))
  obtain ⟨hq, fd29, hm, ho, hn⟩ := hq
  have hab := hq.ajo (by omega) hab
  have hfr := hfr.tr (kjR hq)
  have m_124 := m_124.off ho (by omega)
  have m_126 := m_126.off ho (by omega)
  have m_127 := m_127.off ho (by omega)
  have m_128 := m_128.off ho (by omega)
  have m_129 := m_129.off ho (by omega)
  have m_130 := m_130.off ho (by omega)
  have m_131 := m_131.off ho (by omega)
  have m_r := m_r.off ho (by omega)
  have m_125 : MQ9 fd29 125 (((P.2.1 * R.2.1) - (12 * (P.2.2 * R.2.2))) * ((P.2.1 * R.2.1) + (12 * (P.2.2 * R.2.2)))) := hn
  have hsm : SAME fd fd29 (fun t => (124 ≤ t ∧ t ≤ 134) ∨ t = r ∨ t = r + 1 ∨ t = r + 2) := hsm.put ho (by show (124 ≤ 125 ∧ 125 ≤ 134) ∨ 125 = r ∨ 125 = r + 1 ∨ 125 = r + 2; omega)
  refine lv_aload_n hx hb d_Model_sum_320 rfl (lv_at hl 0 rfl) ?_
  refine lv_iload_n hx hb d_Model_sum_321 rfl (lv_at hl 1 rfl) ?_
  refine lv_iconst (v := nI 1) hx hb d_Model_sum_322 (by decide) ?_
  refine lv_iadd hx hb d_Model_sum_323 ?_
  refine lv_topi (fun t9 e9 => ?_)
  obtain rfl : t9 = nI (r + 1) := e9.trans (nI_add _ _)
  refine lv_bipush (v := nI 125) hx hb d_Model_sum_324 (by decide) ?_
  refine lv_sipush (v := nI 130) hx hb d_Model_sum_326 (by decide) ?_
  refine q_cV (rest := []) E (M_Model_add l g n0 mo (r + 1) 125 130 th pw td wr fd29 (by omega) (by decide) (by decide) (((P.2.1 * R.2.1) - (12 * (P.2.2 * R.2.2))) * ((P.2.1 * R.2.1) + (12 * (P.2.2 * R.2.2)))) ((12 * (ecI 1 P.1 R.2.2 R.1 P.2.2)) * (((P.1 * R.1) + (P.1 * R.1)) + (P.1 * R.1))) m_125 m_130) w_975 w_15 w_972 w_974 (bw_s 17 rfl) hd_Model_add rfl ⟨by decide, by decide⟩ (OB.recv E.2.2.2.2.2 (by rfl) hm.1) hm hF hl.1 rfl (Nat.le_of_ble_eq_true rfl) d_Model_sum_329 ⟨by decide, by decide⟩ (qv (fun H30 locs hq hF => ?_))
  obtain ⟨hq, fd30, hm, ho, hn⟩ := hq
  have hab := hq.ajo (by omega) hab
  have hfr := hfr.tr (kjR hq)
  have m_124 := m_124.off ho (by omega)
  have m_125 := m_125.off ho (by omega)
  have m_126 := m_126.off ho (by omega)
  have m_127 := m_127.off ho (by omega)
  have m_128 := m_128.off ho (by omega)
  have m_129 := m_129.off ho (by omega)
  have m_130 := m_130.off ho (by omega)
  have m_131 := m_131.off ho (by omega)
  have m_r := m_r.off ho (by omega)
  have m_rp1 : MQ9 fd30 (r + 1) ((((P.2.1 * R.2.1) - (12 * (P.2.2 * R.2.2))) * ((P.2.1 * R.2.1) + (12 * (P.2.2 * R.2.2)))) + ((12 * (ecI 1 P.1 R.2.2 R.1 P.2.2)) * (((P.1 * R.1) + (P.1 * R.1)) + (P.1 * R.1)))) := hn
  have hsm : SAME fd fd30 (fun t => (124 ≤ t ∧ t ≤ 134) ∨ t = r ∨ t = r + 1 ∨ t = r + 2) := hsm.put ho (by show (124 ≤ r + 1 ∧ r + 1 ≤ 134) ∨ r + 1 = r ∨ r + 1 = r + 1 ∨ r + 1 = r + 2; omega)
  refine lv_aload_n hx hb d_Model_sum_332 rfl (lv_at hl 0 rfl) ?_
  refine lv_bipush (v := nI 124) hx hb d_Model_sum_333 (by decide) ?_
  refine lv_bipush (v := nI 124) hx hb d_Model_sum_335 (by decide) ?_
  refine lv_bipush (v := nI 127) hx hb d_Model_sum_337 (by decide) ?_
  refine q_cV (rest := []) E (M_Model_product l g n0 mo 124 124 127 th pw td wr fd30 (by decide) (by decide) (by decide) fa hAT (((P.1 * R.1) + (P.1 * R.1)) + (P.1 * R.1)) (ecI 1 P.1 R.2.1 R.1 P.2.1) m_124 m_127) w_1113 w_15 w_1110 w_1112 (bw_s 32 rfl) hd_Model_product rfl ⟨by decide, by decide⟩ (OB.recv E.2.2.2.2.2 (by rfl) hm.1) (⟨hm, hab⟩) hF hl.1 rfl (Nat.le_of_ble_eq_true rfl) d_Model_sum_339 ⟨by decide, by decide⟩ (qv (fun H31 locs hq hF => ?_))
  obtain ⟨hq, fd31, hm, ho, hn⟩ := hq
  have hab := hq.ajo (by omega) hab
  have hfr := hfr.tr (kjR hq)
  have m_125 := m_125.off ho (by omega)
  have m_126 := m_126.off ho (by omega)
  have m_127 := m_127.off ho (by omega)
  have m_128 := m_128.off ho (by omega)
  have m_129 := m_129.off ho (by omega)
  have m_130 := m_130.off ho (by omega)
  have m_131 := m_131.off ho (by omega)
  have m_r := m_r.off ho (by omega)
  have m_rp1 := m_rp1.off ho (by omega)
  have m_124 : MQ9 fd31 124 ((((P.1 * R.1) + (P.1 * R.1)) + (P.1 * R.1)) * (ecI 1 P.1 R.2.1 R.1 P.2.1)) := hn
  have hsm : SAME fd fd31 (fun t => (124 ≤ t ∧ t ≤ 134) ∨ t = r ∨ t = r + 1 ∨ t = r + 2) := hsm.put ho (by show (124 ≤ 124 ∧ 124 ≤ 134) ∨ 124 = r ∨ 124 = r + 1 ∨ 124 = r + 2; omega)
  refine lv_aload_n hx hb d_Model_sum_342 rfl (lv_at hl 0 rfl) ?_
  refine lv_sipush (v := nI 131) hx hb d_Model_sum_343 (by decide) ?_
  refine lv_sipush (v := nI 131) hx hb d_Model_sum_346 (by decide) ?_
  refine lv_sipush (v := nI 128) hx hb d_Model_sum_349 (by decide) ?_
  refine q_cV (rest := []) E (M_Model_product l g n0 mo 131 131 128 th pw td wr fd31 (by decide) (by decide) (by decide) fa hAT ((P.2.1 * R.2.1) + (12 * (P.2.2 * R.2.2))) (ecI 1 P.2.1 R.2.2 R.2.1 P.2.2) m_131 m_128) w_1113 w_15 w_1110 w_1112 (bw_s 32 rfl) hd_Model_product rfl ⟨by decide, by decide⟩ (OB.recv E.2.2.2.2.2 (by rfl) hm.1) (⟨hm, hab⟩) hF hl.1 rfl (Nat.le_of_ble_eq_true rfl) d_Model_sum_352 ⟨by decide, by decide⟩ (qv (fun H32 locs hq hF => ?_))
  obtain ⟨hq, fd32, hm, ho, hn⟩ := hq
  have hab := hq.ajo (by omega) hab
  have hfr := hfr.tr (kjR hq)
  have m_124 := m_124.off ho (by omega)
  have m_125 := m_125.off ho (by omega)
  have m_126 := m_126.off ho (by omega)
  have m_127 := m_127.off ho (by omega)
  have m_128 := m_128.off ho (by omega)
  have m_129 := m_129.off ho (by omega)
  have m_130 := m_130.off ho (by omega)
  have m_r := m_r.off ho (by omega)
  have m_rp1 := m_rp1.off ho (by omega)
  have m_131 : MQ9 fd32 131 (((P.2.1 * R.2.1) + (12 * (P.2.2 * R.2.2))) * (ecI 1 P.2.1 R.2.2 R.2.1 P.2.2)) := hn
  have hsm : SAME fd fd32 (fun t => (124 ≤ t ∧ t ≤ 134) ∨ t = r ∨ t = r + 1 ∨ t = r + 2) := hsm.put ho (by show (124 ≤ 131 ∧ 131 ≤ 134) ∨ 131 = r ∨ 131 = r + 1 ∨ 131 = r + 2; omega)
  refine lv_aload_n hx hb d_Model_sum_355 rfl (lv_at hl 0 rfl) ?_
  refine lv_iload_n hx hb d_Model_sum_356 rfl (lv_at hl 1 rfl) ?_
  refine lv_iconst (v := nI 2) hx hb d_Model_sum_357 (by decide) ?_
  refine lv_iadd hx hb d_Model_sum_358 ?_
  refine lv_topi (fun t9 e9 => ?_)
  obtain rfl : t9 = nI (r + 2) := e9.trans (nI_add _ _)
  refine lv_sipush (v := nI 131) hx hb d_Model_sum_359 (by decide) ?_
  refine lv_bipush (v := nI 124) hx hb d_Model_sum_362 (by decide) ?_
  refine q_cV (rest := []) E (M_Model_add l g n0 mo (r + 2) 131 124 th pw td wr fd32 (by omega) (by decide) (by decide) (((P.2.1 * R.2.1) + (12 * (P.2.2 * R.2.2))) * (ecI 1 P.2.1 R.2.2 R.2.1 P.2.2)) ((((P.1 * R.1) + (P.1 * R.1)) + (P.1 * R.1)) * (ecI 1 P.1 R.2.1 R.1 P.2.1)) m_131 m_124) w_975 w_15 w_972 w_974 (bw_s 17 rfl) hd_Model_add rfl ⟨by decide, by decide⟩ (OB.recv E.2.2.2.2.2 (by rfl) hm.1) hm hF hl.1 rfl (Nat.le_of_ble_eq_true rfl) d_Model_sum_364 ⟨by decide, by decide⟩ (qv (fun H33 locs hq hF => ?_))
  obtain ⟨hq, fd33, hm, ho, hn⟩ := hq
  have hab := hq.ajo (by omega) hab
  have hfr := hfr.tr (kjR hq)
  have m_124 := m_124.off ho (by omega)
  have m_125 := m_125.off ho (by omega)
  have m_126 := m_126.off ho (by omega)
  have m_127 := m_127.off ho (by omega)
  have m_128 := m_128.off ho (by omega)
  have m_129 := m_129.off ho (by omega)
  have m_130 := m_130.off ho (by omega)
  have m_131 := m_131.off ho (by omega)
  have m_r := m_r.off ho (by omega)
  have m_rp1 := m_rp1.off ho (by omega)
  have m_rp2 : MQ9 fd33 (r + 2) ((((P.2.1 * R.2.1) + (12 * (P.2.2 * R.2.2))) * (ecI 1 P.2.1 R.2.2 R.2.1 P.2.2)) + ((((P.1 * R.1) + (P.1 * R.1)) + (P.1 * R.1)) * (ecI 1 P.1 R.2.1 R.1 P.2.1))) := hn
  have hsm : SAME fd fd33 (fun t => (124 ≤ t ∧ t ≤ 134) ∨ t = r ∨ t = r + 1 ∨ t = r + 2) := hsm.put ho (by show (124 ≤ r + 2 ∧ r + 2 ≤ 134) ∨ r + 2 = r ∨ r + 2 = r + 1 ∨ r + 2 = r + 2; omega)
  exact q_vret E hr hlk (⟨rfl, hfr, hab, fd33, hm, hsm, m_r.cg (by show _ = SX P.1 P.2.1 P.2.2 R.1 R.2.1 R.2.2; unfold SX ecI; grind), m_rp1.cg (by show _ = SY P.1 P.2.1 P.2.2 R.1 R.2.1 R.2.2; unfold SY ecI; grind), m_rp2.cg (by show _ = SZ P.1 P.2.1 P.2.2 R.1 R.2.1 R.2.2; unfold SZ ecI; grind)⟩) hF d_Model_sum_367
