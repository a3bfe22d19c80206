/-! the model's points -/
def PM9 (fd : Nat → Int64) (s : Nat) (P : P3) : Prop := MQ9 fd s P.1 ∧ MQ9 fd (s + 1) P.2.1 ∧ MQ9 fd (s + 2) P.2.2
theorem PM9.sm {fd fd' : Nat → Int64} {s : Nat} {P : P3} {Q : Nat → Prop} (h : PM9 fd s P) (hS : SAME fd fd' Q) (h0 : ¬ Q s) (h1 : ¬ Q (s + 1)) (h2 : ¬ Q (s + 2)) : PM9 fd' s P := ⟨h.1.sm hS h0, h.2.1.sm hS h1, h.2.2.sm hS h2⟩
theorem PM9.off {fd fd' : Nat → Int64} {s r : Nat} {P : P3} (h : PM9 fd s P) (ho : ∀ j, (j < 14 * r ∨ 14 * r + 14 ≤ j) → fd' j = fd j) (h0 : s ≠ r) (h1 : s + 1 ≠ r) (h2 : s + 2 ≠ r) : PM9 fd' s P := ⟨h.1.off ho h0, h.2.1.off ho h1, h.2.2.off ho h2⟩
theorem PM9.mv {fd fd' : Nat → Int64} {r a : Nat} {P : P3} (h : PM9 fd a P) (e : ∀ i k, i < 3 → k < 14 → fd' (14 * (r + i) + k) = fd (14 * (a + i) + k)) : PM9 fd' r P := ⟨(VL_ext (fun k hk => e 0 k (by decide) hk)).trans h.1, (VL_ext (fun k hk => e 1 k (by decide) hk)).trans h.2.1, (VL_ext (fun k hk => e 2 k (by decide) hk)).trans h.2.2⟩
set_option maxHeartbeats 4000000 in
set_option maxRecDepth 100000 in
theorem M_Model_nothing (l : Launch) (g : WG) (n0 : Nat → Prop) (mo r : Nat) (th pw td wr : Int32) (w n : Nat) (hw : WH w n) (fd : Nat → Int64) (hr1 : r + 2 < 170) : Ctr l y_Model_nothing (.code y_Model_nothing prog_11_method_27_code 2 none) 1 22 0 0 n0 g [.ref mo, .int (nI r)] (fun H => MS g n0 H mo th pw td wr w n fd) (QV (fun H H' => FRM (MR mo) H H' ∧ ∃ fd', MS g n0 H' mo th pw td wr w n fd' ∧ SAME fd fd' (fun t => t = r ∨ t = r + 1 ∨ t = r + 2) ∧ PM9 fd' r PZ0)) := by
  refine ctr_mk l (lv0 := [(0, .ref mo), (1, .int (nI r))]) (by decide) (Nat.le_of_ble_eq_true rfl) rfl ?_
  intro p e s m below meth c ls E hr hlk hnm hl hP
  have hx := E.1
  have hb := E.2.1
  have hK := E.2.2.2.2.2
  have hF : ∀ q ∈ ([] : List Loc), n0 q.base := fun q hq => absurd hq List.not_mem_nil
  have hm := hP
  have hfr : FRM (MR mo) s.heap s.heap := FRM.rf
  have hS : SAME fd fd (fun t => t = r ∨ t = r + 1 ∨ t = r + 2) := SAME.rf
  refine lv_aload_n hx hb d_Model_nothing_0 rfl (lv_at hl 0 rfl) ?_
  refine lv_iload_n hx hb d_Model_nothing_1 rfl (lv_at hl 1 rfl) ?_
  refine q_cV (rest := []) E (c_Model_zero l g n0 mo r th pw td wr w n hw fd (by omega)) w_1000 w_15 w_997 w_999 (bw_s 23 rfl) hd_Model_zero rfl ⟨by decide, by decide⟩ (OB.recv E.2.2.2.2.2 (by rfl) hm.1) hm hF hl.1 rfl (Nat.le_of_ble_eq_true rfl) d_Model_nothing_2 ⟨by decide, by decide⟩ (qv (fun H1 locs hq hF => ?_))
  obtain ⟨hq, fd_1, hm, hp0⟩ := hq
  have hfr := hfr.tr hq
  have hS : SAME fd fd_1 (fun t => t = r ∨ t = r + 1 ∨ t = r + 2) := hS.put hp0.1 (by show r = r ∨ r = r + 1 ∨ r = r + 2; omega)
  have v0 : MQ9 fd_1 r 0 := mq_0 hp0.2
  refine lv_aload_n hx hb d_Model_nothing_5 rfl (lv_at hl 0 rfl) ?_
  refine lv_iload_n hx hb d_Model_nothing_6 rfl (lv_at hl 1 rfl) ?_
  refine lv_iconst (v := nI 1) hx hb d_Model_nothing_7 (by decide) ?_
  refine lv_iadd hx hb d_Model_nothing_8 ?_
  refine lv_topi (fun t9 e9 => ?_)
  obtain rfl : t9 = nI (r + 1) := e9.trans (nI_add _ _)
  refine q_cV (rest := []) E (c_Model_one l g n0 mo (r + 1) th pw td wr w n hw fd_1 (by omega)) w_971 w_15 w_968 w_970 (bw_s 16 rfl) hd_Model_one rfl ⟨by decide, by decide⟩ (OB.recv E.2.2.2.2.2 (by rfl) hm.1) hm hF hl.1 rfl (Nat.le_of_ble_eq_true rfl) d_Model_nothing_9 ⟨by decide, by decide⟩ (qv (fun H2 locs hq hF => ?_))
  obtain ⟨hq, fd_2, hm, hp1⟩ := hq
  have hfr := hfr.tr hq
  have hS : SAME fd fd_2 (fun t => t = r ∨ t = r + 1 ∨ t = r + 2) := hS.put hp1.1 (by show (r + 1) = r ∨ (r + 1) = r + 1 ∨ (r + 1) = r + 2; omega)
  have v0 := v0.off hp1.1 (by omega)
  have v1 : MQ9 fd_2 (r + 1) 1 := mq_1 hp1.2
  refine lv_aload_n hx hb d_Model_nothing_12 rfl (lv_at hl 0 rfl) ?_
  refine lv_iload_n hx hb d_Model_nothing_13 rfl (lv_at hl 1 rfl) ?_
  refine lv_iconst (v := nI 2) hx hb d_Model_nothing_14 (by decide) ?_
  refine lv_iadd hx hb d_Model_nothing_15 ?_
  refine lv_topi (fun t9 e9 => ?_)
  obtain rfl : t9 = nI (r + 2) := e9.trans (nI_add _ _)
  refine q_cV (rest := []) E (c_Model_zero l g n0 mo (r + 2) th pw td wr w n hw fd_2 (by omega)) w_1000 w_15 w_997 w_999 (bw_s 23 rfl) hd_Model_zero rfl ⟨by decide, by decide⟩ (OB.recv E.2.2.2.2.2 (by rfl) hm.1) hm hF hl.1 rfl (Nat.le_of_ble_eq_true rfl) d_Model_nothing_16 ⟨by decide, by decide⟩ (qv (fun H3 locs hq hF => ?_))
  obtain ⟨hq, fd_3, hm, hp2⟩ := hq
  have hfr := hfr.tr hq
  have hS : SAME fd fd_3 (fun t => t = r ∨ t = r + 1 ∨ t = r + 2) := hS.put hp2.1 (by show (r + 2) = r ∨ (r + 2) = r + 1 ∨ (r + 2) = r + 2; omega)
  have v0 := v0.off hp2.1 (by omega)
  have v1 := v1.off hp2.1 (by omega)
  have v2 : MQ9 fd_3 (r + 2) 0 := mq_0 hp2.2
  exact q_vret E hr hlk (⟨rfl, hfr, _, hm, hS, v0, v1, v2⟩) hF d_Model_nothing_19
set_option maxHeartbeats 4000000 in
set_option maxRecDepth 100000 in
theorem M_Model_alike (l : Launch) (g : WG) (n0 : Nat → Prop) (mo a b : Nat) (th pw td wr : Int32) (fd fa : Nat → Int64) (ha : a + 2 < 124 ∨ (127 < a ∧ a + 2 < 170)) (hb1 : b + 2 < 124 ∨ (127 < b ∧ b + 2 < 170)) (hAT : (∀ j, j ≤ 14 → PP 0 14 ∣ VL (fun k => fa (210 * 0 + 14 * j + k)) 14 - 268435456 ^ (14 + j))) (P R : P3) (hP9 : onC P) (hR9 : onC R) : Ctr l y_Model_alike (.code y_Model_alike prog_11_method_32_code 3 (some FieldType.boolean)) 3 79 0 0 n0 g [.ref mo, .int (nI a), .int (nI b)] (fun H => MS g n0 H mo th pw td wr 0 14 fd ∧ AJ g H (mo + 4) 420 fa ∧ PM9 fd a P ∧ PM9 fd b R) (QI (fun r H H' => ((r = 1 ∧ PE P R) ∨ (r = 0 ∧ ¬ PE P R)) ∧ FRM (MR mo) H H' ∧ ∃ fd', MS g n0 H' mo th pw td wr 0 14 fd' ∧ SAME fd fd' (fun t => 124 ≤ t ∧ t ≤ 127))) := by
  refine ctr_mk l (lv0 := [(0, .ref mo), (1, .int (nI a)), (2, .int (nI b))]) (by decide) (Nat.le_of_ble_eq_true rfl) rfl ?_
  intro p e s m below meth c ls E hr hlk hnm hl hP
  have hx := E.1
  have hb := E.2.1
  have hK := E.2.2.2.2.2
  have hF : ∀ q ∈ ([] : List Loc), n0 q.base := fun q hq => absurd hq List.not_mem_nil
  obtain ⟨hm, hab, hA, hB⟩ := hP
  have hfr : FRM (MR mo) s.heap s.heap := FRM.rf
  have hS : SAME fd fd (fun t => 124 ≤ t ∧ t ≤ 127) := SAME.rf
  rw [← PE_al hP9 hR9]
  refine lv_aload_n hx hb d_Model_alike_0 rfl (lv_at hl 0 rfl) ?_
  refine lv_bipush (v := nI 124) hx hb d_Model_alike_1 (by decide) ?_
  refine lv_iload_n hx hb d_Model_alike_3 rfl (lv_at hl 1 rfl) ?_
  refine lv_iload_n hx hb d_Model_alike_4 rfl (lv_at hl 2 rfl) ?_
  refine lv_iconst (v := nI 2) hx hb d_Model_alike_5 (by decide) ?_
  refine lv_iadd hx hb d_Model_alike_6 ?_
  refine lv_topi (fun t9 e9 => ?_)
  obtain rfl : t9 = nI (b + 2) := e9.trans (nI_add _ _)
  refine q_cV (rest := []) E (M_Model_product l g n0 mo 124 a (b + 2) th pw td wr fd (by decide) (by omega) (by omega) fa hAT P.1 R.2.2 hA.1 hB.2.2) w_1113 w_15 w_1110 w_1112 (bw_s 32 rfl) hd_Model_product rfl ⟨by decide, by decide⟩ (OB.recv E.2.2.2.2.2 (by rfl) hm.1) (⟨hm, (AJ.off hfr (show ¬ MR mo (mo + 4) by unfold MR; omega) hab)⟩) hF hl.1 rfl (Nat.le_of_ble_eq_true rfl) d_Model_alike_7 ⟨by decide, by decide⟩ (qv (fun H1 locs hq hF => ?_))
  obtain ⟨hq, fd_1, hm, ho, hn⟩ := hq
  have hfr := hfr.tr (kjR hq)
  have hA := hA.off ho (by omega) (by omega) (by omega)
  have hB := hB.off ho (by omega) (by omega) (by omega)
  have p124 := hn
  have hS : SAME fd fd_1 (fun t => 124 ≤ t ∧ t ≤ 127) := hS.put ho (by show 124 ≤ 124 ∧ 124 ≤ 127; omega)
  refine lv_aload_n hx hb d_Model_alike_10 rfl (lv_at hl 0 rfl) ?_
  refine lv_bipush (v := nI 125) hx hb d_Model_alike_11 (by decide) ?_
  refine lv_iload_n hx hb d_Model_alike_13 rfl (lv_at hl 2 rfl) ?_
  refine lv_iload_n hx hb d_Model_alike_14 rfl (lv_at hl 1 rfl) ?_
  refine lv_iconst (v := nI 2) hx hb d_Model_alike_15 (by decide) ?_
  refine lv_iadd hx hb d_Model_alike_16 ?_
  refine lv_topi (fun t9 e9 => ?_)
  obtain rfl : t9 = nI (a + 2) := e9.trans (nI_add _ _)
  refine q_cV (rest := []) E (M_Model_product l g n0 mo 125 b (a + 2) th pw td wr fd_1 (by decide) (by omega) (by omega) fa hAT R.1 P.2.2 hB.1 hA.2.2) w_1113 w_15 w_1110 w_1112 (bw_s 32 rfl) hd_Model_product rfl ⟨by decide, by decide⟩ (OB.recv E.2.2.2.2.2 (by rfl) hm.1) (⟨hm, (AJ.off hfr (show ¬ MR mo (mo + 4) by unfold MR; omega) hab)⟩) hF hl.1 rfl (Nat.le_of_ble_eq_true rfl) d_Model_alike_17 ⟨by decide, by decide⟩ (qv (fun H2 locs hq hF => ?_))
  obtain ⟨hq, fd_2, hm, ho, hn⟩ := hq
  have hfr := hfr.tr (kjR hq)
  have hA := hA.off ho (by omega) (by omega) (by omega)
  have hB := hB.off ho (by omega) (by omega) (by omega)
  have p124 := p124.off ho (by decide)
  have p125 := hn
  have hS : SAME fd fd_2 (fun t => 124 ≤ t ∧ t ≤ 127) := hS.put ho (by show 124 ≤ 125 ∧ 125 ≤ 127; omega)
  refine lv_aload_n hx hb d_Model_alike_20 rfl (lv_at hl 0 rfl) ?_
  refine lv_bipush (v := nI 126) hx hb d_Model_alike_21 (by decide) ?_
  refine lv_iload_n hx hb d_Model_alike_23 rfl (lv_at hl 1 rfl) ?_
  refine lv_iconst (v := nI 1) hx hb d_Model_alike_24 (by decide) ?_
  refine lv_iadd hx hb d_Model_alike_25 ?_
  refine lv_topi (fun t9 e9 => ?_)
  obtain rfl : t9 = nI (a + 1) := e9.trans (nI_add _ _)
  refine lv_iload_n hx hb d_Model_alike_26 rfl (lv_at hl 2 rfl) ?_
  refine lv_iconst (v := nI 2) hx hb d_Model_alike_27 (by decide) ?_
  refine lv_iadd hx hb d_Model_alike_28 ?_
  refine lv_topi (fun t9 e9 => ?_)
  obtain rfl : t9 = nI (b + 2) := e9.trans (nI_add _ _)
  refine q_cV (rest := []) E (M_Model_product l g n0 mo 126 (a + 1) (b + 2) th pw td wr fd_2 (by decide) (by omega) (by omega) fa hAT P.2.1 R.2.2 hA.2.1 hB.2.2) w_1113 w_15 w_1110 w_1112 (bw_s 32 rfl) hd_Model_product rfl ⟨by decide, by decide⟩ (OB.recv E.2.2.2.2.2 (by rfl) hm.1) (⟨hm, (AJ.off hfr (show ¬ MR mo (mo + 4) by unfold MR; omega) hab)⟩) hF hl.1 rfl (Nat.le_of_ble_eq_true rfl) d_Model_alike_29 ⟨by decide, by decide⟩ (qv (fun H3 locs hq hF => ?_))
  obtain ⟨hq, fd_3, hm, ho, hn⟩ := hq
  have hfr := hfr.tr (kjR hq)
  have hA := hA.off ho (by omega) (by omega) (by omega)
  have hB := hB.off ho (by omega) (by omega) (by omega)
  have p124 := p124.off ho (by decide)
  have p125 := p125.off ho (by decide)
  have p126 := hn
  have hS : SAME fd fd_3 (fun t => 124 ≤ t ∧ t ≤ 127) := hS.put ho (by show 124 ≤ 126 ∧ 126 ≤ 127; omega)
  refine lv_aload_n hx hb d_Model_alike_32 rfl (lv_at hl 0 rfl) ?_
  refine lv_bipush (v := nI 127) hx hb d_Model_alike_33 (by decide) ?_
  refine lv_iload_n hx hb d_Model_alike_35 rfl (lv_at hl 2 rfl) ?_
  refine lv_iconst (v := nI 1) hx hb d_Model_alike_36 (by decide) ?_
  refine lv_iadd hx hb d_Model_alike_37 ?_
  refine lv_topi (fun t9 e9 => ?_)
  obtain rfl : t9 = nI (b + 1) := e9.trans (nI_add _ _)
  refine lv_iload_n hx hb d_Model_alike_38 rfl (lv_at hl 1 rfl) ?_
  refine lv_iconst (v := nI 2) hx hb d_Model_alike_39 (by decide) ?_
  refine lv_iadd hx hb d_Model_alike_40 ?_
  refine lv_topi (fun t9 e9 => ?_)
  obtain rfl : t9 = nI (a + 2) := e9.trans (nI_add _ _)
  refine q_cV (rest := []) E (M_Model_product l g n0 mo 127 (b + 1) (a + 2) th pw td wr fd_3 (by decide) (by omega) (by omega) fa hAT R.2.1 P.2.2 hB.2.1 hA.2.2) w_1113 w_15 w_1110 w_1112 (bw_s 32 rfl) hd_Model_product rfl ⟨by decide, by decide⟩ (OB.recv E.2.2.2.2.2 (by rfl) hm.1) (⟨hm, (AJ.off hfr (show ¬ MR mo (mo + 4) by unfold MR; omega) hab)⟩) hF hl.1 rfl (Nat.le_of_ble_eq_true rfl) d_Model_alike_41 ⟨by decide, by decide⟩ (qv (fun H4 locs hq hF => ?_))
  obtain ⟨hq, fd_4, hm, ho, hn⟩ := hq
  have hfr := hfr.tr (kjR hq)
  have hA := hA.off ho (by omega) (by omega) (by omega)
  have hB := hB.off ho (by omega) (by omega) (by omega)
  have p124 := p124.off ho (by decide)
  have p125 := p125.off ho (by decide)
  have p126 := p126.off ho (by decide)
  have p127 := hn
  have hS : SAME fd fd_4 (fun t => 124 ≤ t ∧ t ≤ 127) := hS.put ho (by show 124 ≤ 127 ∧ 127 ≤ 127; omega)
  refine lv_aload_n hx hb d_Model_alike_44 rfl (lv_at hl 0 rfl) ?_
  refine lv_bipush (v := nI 124) hx hb d_Model_alike_45 (by decide) ?_
  refine lv_bipush (v := nI 125) hx hb d_Model_alike_47 (by decide) ?_
  refine q_cV (rest := []) E (N_Model_isSame l g n0 mo 124 125 th pw td wr 0 14 w0_ fd_4 (by decide) (by decide) ((P.1 * R.2.2) % QJ) ((R.1 * P.2.2) % QJ) p124 p125) w_1163 w_15 w_1160 w_1162 (bw_s 39 rfl) hd_Model_isSame rfl ⟨by decide, by decide⟩ (OB.recv E.2.2.2.2.2 (by rfl) hm.1) hm hF hl.1 rfl (Nat.le_of_ble_eq_true rfl) d_Model_alike_49 ⟨by decide, by decide⟩ (qi (fun ra H5 locs hq hF => ?_))
  obtain ⟨hra, hq⟩ := hq
  have hq := hq.symm
  subst hq
  refine lv_if_eq (tgt := 70) hx hb d_Model_alike_52 (by decide) (fun za => ?_) (fun za => ?_)
  rotate_left
  · skip
    have ha1 : cq (P.1 * R.2.2) (R.1 * P.2.2) := (hra.resolve_right (fun h => za h.1)).2
    refine lv_aload_n hx hb d_Model_alike_55 rfl (lv_at hl 0 rfl) ?_
    refine lv_bipush (v := nI 126) hx hb d_Model_alike_56 (by decide) ?_
    refine lv_bipush (v := nI 127) hx hb d_Model_alike_58 (by decide) ?_
    refine q_cV (rest := []) E (N_Model_isSame l g n0 mo 126 127 th pw td wr 0 14 w0_ fd_4 (by decide) (by decide) ((P.2.1 * R.2.2) % QJ) ((R.2.1 * P.2.2) % QJ) p126 p127) w_1163 w_15 w_1160 w_1162 (bw_s 39 rfl) hd_Model_isSame rfl ⟨by decide, by decide⟩ (OB.recv E.2.2.2.2.2 (by rfl) hm.1) hm hF hl.1 rfl (Nat.le_of_ble_eq_true rfl) d_Model_alike_60 ⟨by decide, by decide⟩ (qi (fun rb H6 locs hq hF => ?_))
    obtain ⟨hrb, hq⟩ := hq
    have hq := hq.symm
    subst hq
    refine lv_if_eq (tgt := 70) hx hb d_Model_alike_63 (by decide) (fun zb => ?_) (fun zb => ?_)
    rotate_left
    · skip
      refine lv_iconst (v := nI 1) hx hb d_Model_alike_66 (by decide) ?_
      refine lv_goto (tgt := 71) hx hb d_Model_alike_67 (by decide) ?_
      exact q_zret E hr rfl hlk (⟨_, rfl, Or.inl ⟨rfl, ha1, (hrb.resolve_right (fun h => zb h.1)).2⟩, hfr, _, hm, hS⟩) hF d_Model_alike_71
    refine lv_iconst (v := nI 0) hx hb d_Model_alike_70 (by decide) ?_
    exact q_zret E hr rfl hlk (⟨_, rfl, Or.inr ⟨rfl, fun z => (hrb.resolve_left (fun h => absurd (h.1.symm.trans zb) (by decide))).2 z.2⟩, hfr, _, hm, hS⟩) hF d_Model_alike_71
  refine lv_iconst (v := nI 0) hx hb d_Model_alike_70 (by decide) ?_
  exact q_zret E hr rfl hlk (⟨_, rfl, Or.inr ⟨rfl, fun z => (hra.resolve_left (fun h => absurd (h.1.symm.trans za) (by decide))).2 z.1⟩, hfr, _, hm, hS⟩) hF d_Model_alike_71
set_option maxHeartbeats 4000000 in
set_option maxRecDepth 100000 in
theorem M_Model_sums (l : Launch) (g : WG) (n0 : Nat → Prop) (mo a qp c9 : Nat) (th pw td wr : Int32) (w n : Nat) (hw : WH w n) (fd fa : Nat → Int64) (hmn : n0 mo) (ha : a + c9 ≤ 32) (hq1 : 32 ≤ qp ∧ qp + 3 * c9 ≤ 119) (hc9 : c9 ≤ 16) (hAT : (∀ j, j ≤ 14 → PP 0 14 ∣ VL (fun k => fa (210 * 0 + 14 * j + k)) 14 - 268435456 ^ (14 + j))) (P : Nat → P3) (Ev : Nat → Nat) (hPC : AC P c9) : Ctr l y_Model_sums (.code y_Model_sums prog_11_method_51_code 5 none) 6 143 0 0 n0 g [.ref mo, .int (nI a), .int (nI qp), .int (nI c9)] (fun H => MS g n0 H mo th pw td wr w n fd ∧ AJ g H (mo + 4) 420 fa ∧ (∀ k, k < c9 → PM9 fd (qp + 3 * k) (P k)) ∧ ∀ k, k < c9 → NV fd (a + k) ((Ev k : Nat) : Int)) (QV (fun H H' => FRM (MR mo) H H' ∧ ∃ fd', MS g n0 H' mo th pw td wr 0 14 fd' ∧ SAME fd fd' (fun t => (120 ≤ t ∧ t ≤ 141) ∨ (161 ≤ t ∧ t ≤ 166)) ∧ ∃ T, RSm P c9 (fun k => ((Ev k : Nat) : Int)) T ∧ PM9 fd' 164 T)) := by
  refine ctr_mk l (lv0 := [(0, .ref mo), (1, .int (nI a)), (2, .int (nI qp)), (3, .int (nI c9))]) (by decide) (Nat.le_of_ble_eq_true rfl) rfl ?_
  intro p e s m below meth c ls E hr hlk hnm hl hP
  have hx := E.1
  have hb := E.2.1
  have hK := E.2.2.2.2.2
  have hF : ∀ q ∈ ([] : List Loc), n0 q.base := fun q hq => absurd hq List.not_mem_nil
  obtain ⟨hm, hab, hPs, hEs⟩ := hP
  have hfr : FRM (MR mo) s.heap s.heap := FRM.rf
  refine lv_aload_n hx hb d_Model_sums_0 rfl (lv_at hl 0 rfl) ?_
  refine lv_iconst (v := nI 0) hx hb d_Model_sums_1 (by decide) ?_
  refine q_cV (rest := []) E (c_Model_use l g n0 mo th pw td wr w n hw 0 14 hw0 fd hmn) w_967 w_15 w_964 w_966 (bw_s 15 rfl) hd_Model_use rfl ⟨by decide, by decide⟩ (OB.recv E.2.2.2.2.2 (by rfl) hm.1) hm hF hl.1 rfl (Nat.le_of_ble_eq_true rfl) d_Model_sums_2 ⟨by decide, by decide⟩ (qv (fun H1 locs hq hF => ?_))
  obtain ⟨hq, hm⟩ := hq
  have hfr := hfr.tr hq
  refine lv_aload_n hx hb d_Model_sums_5 rfl (lv_at hl 0 rfl) ?_
  refine lv_sipush (v := nI 164) hx hb d_Model_sums_6 (by decide) ?_
  refine q_cV (rest := []) E (M_Model_nothing l g n0 mo 164 th pw td wr 0 14 hw0 fd (by decide)) w_996 w_15 w_993 w_995 (bw_s 22 rfl) hd_Model_nothing rfl ⟨by decide, by decide⟩ (OB.recv E.2.2.2.2.2 (by rfl) hm.1) hm hF hl.1 rfl (Nat.le_of_ble_eq_true rfl) d_Model_sums_9 ⟨by decide, by decide⟩ (qv (fun H2 locs hq hF => ?_))
  obtain ⟨hq, fd_1, hm, hS9, hT⟩ := hq
  have hfr := hfr.tr hq
  have hS : SAME fd fd_1 (fun t => (120 ≤ t ∧ t ≤ 141) ∨ (161 ≤ t ∧ t ≤ 166)) := hS9.mono (fun t h => by show (120 ≤ t ∧ t ≤ 141) ∨ (161 ≤ t ∧ t ≤ 166); omega)
  have hRS : RSm P c9 (fun k => if k < 0 then ((Ev k : Nat) : Int) else 0) PZ0 := (RSm_O hPC).ext (fun k hk => by rw [if_neg (Nat.not_lt_zero k)])
  refine lv_iconst (v := nI 0) hx hb d_Model_sums_12 (by decide) ?_
  refine lv_istore (lv' := [(4, .int (nI 0)), (0, .ref mo), (1, .int (nI a)), (2, .int (nI qp)), (3, .int (nI c9))]) hx hb d_Model_sums_13 hl (by decide) rfl (fun ls hl => ?_)
  have hl : lv_has ls 5 [(4, .int (nI 0)), (0, .ref mo), (1, .int (nI a)), (2, .int (nI qp)), (3, .int (nI c9))] := lv_sub hl [0, 1, 2, 3, 4] rfl
  have lp : ∀ (k : Nat) (i : Nat) (H : Heap) (locs : List Loc) (ls : Array Slot) (fd1 : Nat → Int64) (T : P3), i + k = c9 → FRM (MR mo) s.heap H → MS g n0 H mo th pw td wr 0 14 fd1 → SAME fd fd1 (fun t => (120 ≤ t ∧ t ≤ 141) ∨ (161 ≤ t ∧ t ≤ 166)) → PM9 fd1 164 T → RSm P c9 (fun k => if k < i then ((Ev k : Nat) : Int) else 0) T → (∀ q ∈ locs, n0 q.base) → lv_has ls 5 [(4, .int (nI i)), (0, .ref mo), (1, .int (nI a)), (2, .int (nI qp)), (3, .int (nI c9))] → W p l e { frames := 6, cells := 0, slots := 0, locals := 143 } s m [.ref mo, .int (nI a), .int (nI qp), .int (nI c9)].toArray below meth c H locs 0 0 (MQ below (QcP (QV (fun H H' => FRM (MR mo) H H' ∧ ∃ fd', MS g n0 H' mo th pw td wr 0 14 fd' ∧ SAME fd fd' (fun t => (120 ≤ t ∧ t ≤ 141) ∨ (161 ≤ t ∧ t ≤ 166)) ∧ ∃ T, RSm P c9 (fun k => ((Ev k : Nat) : Int)) T ∧ PM9 fd' 164 T))) [.ref mo, .int (nI a), .int (nI qp), .int (nI c9)].toArray s 0 0 (fun q => n0 q)) (F0 m 15 ls []) := by
    intro k
    induction k with
    | zero =>
      intro  i   H   locs   ls   fd1   T hi hfr hm hS hT hRS hF hl
      obtain rfl : i = c9 := by omega
      refine lv_iload hx hb d_Model_sums_15 (lv_at hl 0 rfl) ?_
      refine lv_iload_n hx hb d_Model_sums_17 rfl (lv_at hl 4 rfl) ?_
      refine lv_icmp_ge (tgt := 57) hx hb d_Model_sums_18 (by decide) (fun _ => ?_) (fun h9 => absurd (nI_le (Nat.le_refl _) (by omega)) h9)
      exact q_vret E hr hlk (⟨rfl, hfr, _, hm, hS, T, hRS.ext (fun k hk => if_pos hk), hT⟩) hF d_Model_sums_57
    | succ k ih =>
      intro  i   H   locs   ls   fd1   T hi hfr hm hS hT hRS hF hl
      have hic : i < c9 := by omega
      refine lv_iload hx hb d_Model_sums_15 (lv_at hl 0 rfl) ?_
      refine lv_iload_n hx hb d_Model_sums_17 rfl (lv_at hl 4 rfl) ?_
      refine lv_icmp_ge (tgt := 57) hx hb d_Model_sums_18 (by decide) (fun h9 => absurd h9 (nI_ge hic (by omega))) (fun _ => ?_)
      refine lv_aload_n hx hb d_Model_sums_21 rfl (lv_at hl 1 rfl) ?_
      refine lv_sipush (v := nI 161) hx hb d_Model_sums_22 (by decide) ?_
      refine lv_iload_n hx hb d_Model_sums_25 rfl (lv_at hl 2 rfl) ?_
      refine lv_iload hx hb d_Model_sums_26 (lv_at hl 0 rfl) ?_
      refine lv_iadd hx hb d_Model_sums_28 ?_
      refine lv_topi (fun t9 e9 => ?_)
      obtain rfl : t9 = nI (a + i) := e9.trans (nI_add _ _)
      refine lv_iload_n hx hb d_Model_sums_29 rfl (lv_at hl 3 rfl) ?_
      refine lv_iconst (v := nI 3) hx hb d_Model_sums_30 (by decide) ?_
      refine lv_iload hx hb d_Model_sums_31 (lv_at hl 0 rfl) ?_
      refine lv_imul hx hb d_Model_sums_33 ?_
      refine lv_topi (fun t9 e9 => ?_)
      obtain rfl : t9 = nI (3 * i) := e9.trans (pk_mul _ _)
      refine lv_iadd hx hb d_Model_sums_34 ?_
      refine lv_topi (fun t9 e9 => ?_)
      obtain rfl : t9 = nI (qp + 3 * i) := e9.trans (nI_add _ _)
      have hPi := (hPs i hic).sm hS (by show ¬ ((120 ≤ (qp + 3 * i) ∧ (qp + 3 * i) ≤ 141) ∨ (161 ≤ (qp + 3 * i) ∧ (qp + 3 * i) ≤ 166)); omega) (by show ¬ ((120 ≤ (qp + 3 * i + 1) ∧ (qp + 3 * i + 1) ≤ 141) ∨ (161 ≤ (qp + 3 * i + 1) ∧ (qp + 3 * i + 1) ≤ 166)); omega) (by show ¬ ((120 ≤ (qp + 3 * i + 2) ∧ (qp + 3 * i + 2) ≤ 141) ∨ (161 ≤ (qp + 3 * i + 2) ∧ (qp + 3 * i + 2) ≤ 166)); omega)
      have hEi : NV fd1 (a + i) ((Ev i : Nat) : Int) := (hS.sv (by show ¬ ((120 ≤ (a + i) ∧ (a + i) ≤ 141) ∨ (161 ≤ (a + i) ∧ (a + i) ≤ 166)); omega) (Nat.le_refl 14)).trans (hEs i hic)
      refine q_cV (rest := []) E (M_Model_multiple l g n0 mo 161 (a + i) (qp + 3 * i) th pw td wr fd1 fa (Or.inr ⟨by decide, by decide⟩) (Or.inl (by omega)) (Or.inl (by omega)) hAT (P i) (hPC i hic) (Ev i)) w_1167 w_15 w_1164 w_1166 (bw_s 40 rfl) hd_Model_multiple rfl ⟨by decide, by decide⟩ (OB.recv E.2.2.2.2.2 (by rfl) hm.1) (⟨hm, (AJ.off hfr (show ¬ MR mo (mo + 4) by unfold MR; omega) hab), hEi, hPi⟩) hF hl.1 rfl (Nat.le_of_ble_eq_true rfl) d_Model_sums_35 ⟨by decide, by decide⟩ (qv (fun H1 locs hq hF => ?_))
      obtain ⟨hq, -, fd_2, hm, hS8, T1, hRP, hU⟩ := hq
      have hfr := hfr.tr hq
      have hT := hT.sm hS8 (by show ¬ ((124 ≤ 164 ∧ 164 ≤ 141) ∨ 164 = 161 ∨ 164 = 161 + 1 ∨ 164 = 161 + 2); omega) (by show ¬ ((124 ≤ 165 ∧ 165 ≤ 141) ∨ 165 = 161 ∨ 165 = 161 + 1 ∨ 165 = 161 + 2); omega) (by show ¬ ((124 ≤ 166 ∧ 166 ≤ 141) ∨ 166 = 161 ∨ 166 = 161 + 1 ∨ 166 = 161 + 2); omega)
      have hS : SAME fd fd_2 (fun t => (120 ≤ t ∧ t ≤ 141) ∨ (161 ≤ t ∧ t ≤ 166)) := hS.tr (hS8.mono (fun t h => by show (120 ≤ t ∧ t ≤ 141) ∨ (161 ≤ t ∧ t ≤ 166); omega))
      refine lv_aload_n hx hb d_Model_sums_38 rfl (lv_at hl 1 rfl) ?_
      refine lv_sipush (v := nI 164) hx hb d_Model_sums_39 (by decide) ?_
      refine lv_sipush (v := nI 164) hx hb d_Model_sums_42 (by decide) ?_
      refine lv_sipush (v := nI 161) hx hb d_Model_sums_45 (by decide) ?_
      refine q_cV (rest := []) E (M_Model_sum l g n0 mo 164 164 161 th pw td wr fd_2 fa (Or.inr ⟨by decide, by decide⟩) (Or.inr ⟨by decide, by decide⟩) (Or.inr ⟨by decide, by decide⟩) hAT T T1) w_1175 w_15 w_1172 w_1174 (bw_s 42 rfl) hd_Model_sum rfl ⟨by decide, by decide⟩ (OB.recv E.2.2.2.2.2 (by rfl) hm.1) (⟨hm, (AJ.off hfr (show ¬ MR mo (mo + 4) by unfold MR; omega) hab), hT, hU⟩) hF hl.1 rfl (Nat.le_of_ble_eq_true rfl) d_Model_sums_48 ⟨by decide, by decide⟩ (qv (fun H2 locs hq hF => ?_))
      obtain ⟨hq, -, fd_3, hm, hS8, hT⟩ := hq
      have hfr := hfr.tr hq
      have hS : SAME fd fd_3 (fun t => (120 ≤ t ∧ t ≤ 141) ∨ (161 ≤ t ∧ t ≤ 166)) := hS.tr (hS8.mono (fun t h => by show (120 ≤ t ∧ t ≤ 141) ∨ (161 ≤ t ∧ t ≤ 166); omega))
      have hRS : RSm P c9 (fun k => if k < i + 1 then ((Ev k : Nat) : Int) else 0) (AD T T1) := (RSm_ad hPC hic hRS hRP).ext (fun k hk => by
        by_cases c8 : k = i
        · subst c8; rw [if_neg (Nat.lt_irrefl k), if_pos rfl, if_pos (Nat.lt_succ_self k), Int.zero_add]
        · rw [if_neg c8, Int.add_zero]; by_cases c7 : k < i; (rw [if_pos c7, if_pos (by omega)]); (rw [if_neg c7, if_neg (by omega)]))
      refine lv_iinc (k := 0) (v := nI (i + 1)) (lv' := [(4, .int (nI (i + 1))), (0, .ref mo), (1, .int (nI a)), (2, .int (nI qp)), (3, .int (nI c9))]) hx hb d_Model_sums_51 hl rfl (i_inc i) (by decide) rfl (fun ls hl => ?_)
      refine lv_goto (tgt := 15) hx hb d_Model_sums_54 (by decide) ?_
      have hl : lv_has ls 5 [(4, .int (nI (i + 1))), (0, .ref mo), (1, .int (nI a)), (2, .int (nI qp)), (3, .int (nI c9))] := lv_sub hl [0, 1, 2, 3, 4] rfl
      exact ih (i + 1) _ _ ls _ _ (by omega) hfr hm hS hT hRS hF hl
  exact lp c9 0 _ _ ls _ PZ0 (by omega) hfr hm hS hT hRS hF hl
