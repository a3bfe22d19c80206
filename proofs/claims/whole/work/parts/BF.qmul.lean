set_option maxHeartbeats 4000000 in
set_option maxRecDepth 100000 in
theorem M_Model_multiple (l : Launch) (g : WG) (n0 : Nat → Prop) (mo r xx qp : Nat) (th pw td wr : Int32) (fd fa : Nat → Int64) (hr1 : r + 2 < 124 ∨ (142 ≤ r ∧ r + 2 < 170)) (hx1 : xx < 124 ∨ (142 ≤ xx ∧ xx < 170)) (hq1 : qp + 2 < 124 ∨ (142 ≤ qp ∧ qp + 2 < 170)) (hAT : (∀ j, j ≤ 14 → PP 0 14 ∣ VL (fun k => fa (210 * 0 + 14 * j + k)) 14 - 268435456 ^ (14 + j))) (P : P3) (hPC : onC P) (E9 : Nat) : Ctr l y_Model_multiple (.code y_Model_multiple prog_11_method_31_code 5 none) 5 119 0 0 n0 g [.ref mo, .int (nI r), .int (nI xx), .int (nI qp)] (fun H => MS g n0 H mo th pw td wr 0 14 fd ∧ AJ g H (mo + 4) 420 fa ∧ NV fd xx (E9 : Int) ∧ MQ9 fd qp P.1 ∧ MQ9 fd (qp + 1) P.2.1 ∧ MQ9 fd (qp + 2) P.2.2) (QV (fun H H' => FRM (MR mo) H H' ∧ AJ g H' (mo + 4) 420 fa ∧ ∃ fd', MS g n0 H' mo th pw td wr 0 14 fd' ∧ SAME fd fd' (fun t => (124 ≤ t ∧ t ≤ 141) ∨ t = r ∨ t = r + 1 ∨ t = r + 2) ∧ ∃ T, RP P (E9 : Int) T ∧ MQ9 fd' r T.1 ∧ MQ9 fd' (r + 1) T.2.1 ∧ MQ9 fd' (r + 2) T.2.2)) := by
  refine ctr_mk l (lv0 := [(0, .ref mo), (1, .int (nI r)), (2, .int (nI xx)), (3, .int (nI qp))]) (by decide) (Nat.le_of_ble_eq_true rfl) rfl ?_
  intro p e s m below meth c ls E hr hlk hnm hl hP
  have hx := E.1
  have hb := E.2.1
  have hK := E.2.2.2.2.2
  have hF : ∀ q ∈ ([] : List Loc), n0 q.base := fun q hq => absurd hq List.not_mem_nil
  obtain ⟨hm, hab, hE, m_q, m_q1, m_q2⟩ := hP
  have hfr : FRM (MR mo) s.heap s.heap := FRM.rf
  have hDDf := hm.2.2.2.2.2.1
  have loop : ∀ (k : Nat) (H : Heap) (locs : List Loc) (ls : Array Slot) (v : Int32) (fd1 : Nat → Int64) (T : P3), k ≤ 392 → v = nI k - 1 → FRM (MR mo) s.heap H → MS g n0 H mo th pw td wr 0 14 fd1 → AJ g H (mo + 4) 420 fa → RP P ((E9 / 2 ^ k : Nat) : Int) T → (MQ9 fd1 139 T.1 ∧ MQ9 fd1 (139 + 1) T.2.1 ∧ MQ9 fd1 (139 + 2) T.2.2) → (MQ9 fd1 136 P.1 ∧ MQ9 fd1 (136 + 1) P.2.1 ∧ MQ9 fd1 (136 + 2) P.2.2) → NV fd1 xx (E9 : Int) → SAME fd fd1 (fun t => 124 ≤ t ∧ t ≤ 141) → (∀ q ∈ locs, n0 q.base) → lv_has ls 5 [(4, .int v), (0, .ref mo), (1, .int (nI r)), (2, .int (nI xx))] → W p l e { frames := 5, cells := 0, slots := 0, locals := 119 } s m [.ref mo, .int (nI r), .int (nI xx), .int (nI qp)].toArray below meth c H locs 0 0 (MQ below (QcP (QV (fun H H' => FRM (MR mo) H H' ∧ AJ g H' (mo + 4) 420 fa ∧ ∃ fd', MS g n0 H' mo th pw td wr 0 14 fd' ∧ SAME fd fd' (fun t => (124 ≤ t ∧ t ≤ 141) ∨ t = r ∨ t = r + 1 ∨ t = r + 2) ∧ ∃ T, RP P (E9 : Int) T ∧ MQ9 fd' r T.1 ∧ MQ9 fd' (r + 1) T.2.1 ∧ MQ9 fd' (r + 2) T.2.2))) [.ref mo, .int (nI r), .int (nI xx), .int (nI qp)].toArray s 0 0 (fun q => n0 q)) (F0 m 20 ls []) := by
    intro k
    induction k with
    | zero =>
      intro  H   locs   ls   v   fd1   T hk392 hv0 hfr hm hab hRP hT9 hp9 hby hS hF hl
      subst hv0
      refine lv_iload hx hb d_Model_multiple_20 (lv_at hl 0 rfl) ?_
      refine lv_if_lt (tgt := 68) hx hb d_Model_multiple_22 (by decide) (fun _ => ?_) (fun h9 => absurd (by decide) h9)
      refine lv_aload_n hx hb d_Model_multiple_68 rfl (lv_at hl 1 rfl) ?_
      refine lv_iload_n hx hb d_Model_multiple_69 rfl (lv_at hl 2 rfl) ?_
      refine lv_sipush (v := nI 139) hx hb d_Model_multiple_70 (by decide) ?_
      refine q_cV (rest := []) E (c_Model_movePoint l g n0 mo r 139 th pw td wr 0 14 w0_ fd1 (by omega) (by decide) (by omega)) w_1171 w_15 w_1168 w_1170 (bw_s 41 rfl) hd_Model_movePoint rfl ⟨by decide, by decide⟩ (OB.recv E.2.2.2.2.2 (by rfl) hm.1) hm hF hl.1 rfl (Nat.le_of_ble_eq_true rfl) d_Model_multiple_73 ⟨by decide, by decide⟩ (qv (fun H1 locs hq hF => ?_))
      obtain ⟨hq, fd2, hm, ho, hcp⟩ := hq
      have hab := AJ.off hq (by unfold MR; omega) hab
      have hfr := hfr.tr hq
      rw [show E9 / 2 ^ 0 = E9 from Nat.div_one E9] at hRP
      exact q_vret E hr hlk (⟨rfl, hfr, hab, fd2, hm, (hS.mono (fun t h => Or.inl h)).tr (ho.mono (fun t h => Or.inr h)), T, hRP, ((VL_ext (fun k hk1 => hcp 0 k (by decide) hk1)).trans hT9.1), ((VL_ext (fun k hk1 => hcp 1 k (by decide) hk1)).trans hT9.2.1), ((VL_ext (fun k hk1 => hcp 2 k (by decide) hk1)).trans hT9.2.2)⟩) hF d_Model_multiple_76
    | succ k ih =>
      intro  H   locs   ls   v   fd1   T hk392 hv0 hfr hm hab hRP hT9 hp9 hby hS hF hl
      rw [nI_pred] at hv0
      subst hv0
      refine lv_iload hx hb d_Model_multiple_20 (lv_at hl 0 rfl) ?_
      refine lv_if_lt (tgt := 68) hx hb d_Model_multiple_22 (by decide) (fun h9 => absurd h9 (nI_pos (by omega))) (fun _ => ?_)
      refine lv_aload_n hx hb d_Model_multiple_25 rfl (lv_at hl 1 rfl) ?_
      refine lv_sipush (v := nI 139) hx hb d_Model_multiple_26 (by decide) ?_
      refine lv_sipush (v := nI 139) hx hb d_Model_multiple_29 (by decide) ?_
      refine lv_sipush (v := nI 139) hx hb d_Model_multiple_32 (by decide) ?_
      refine q_cV (rest := []) E (M_Model_sum l g n0 mo 139 139 139 th pw td wr fd1 fa (by omega) (by omega) (by omega) hAT T T) w_1175 w_15 w_1172 w_1174 (bw_s 42 rfl) hd_Model_sum rfl ⟨by decide, by decide⟩ (OB.recv E.2.2.2.2.2 (by rfl) hm.1) (⟨hm, hab, hT9, hT9⟩) hF hl.1 rfl (Nat.le_of_ble_eq_true rfl) d_Model_multiple_35 ⟨by decide, by decide⟩ (qv (fun H1 locs hq hF => ?_))
      obtain ⟨hq, hab, fd2, hm, ho, hT9⟩ := hq
      have hfr := hfr.tr hq
      have hp9 : MQ9 fd2 136 P.1 ∧ MQ9 fd2 (136 + 1) P.2.1 ∧ MQ9 fd2 (136 + 2) P.2.2 := ⟨hp9.1.sm ho (by omega), hp9.2.1.sm ho (by omega), hp9.2.2.sm ho (by omega)⟩
      have hby : NV fd2 xx (E9 : Int) := (ho.sv (by omega) (Nat.le_refl 14)).trans hby
      have hS : SAME fd fd2 (fun t => 124 ≤ t ∧ t ≤ 141) := hS.tr (ho.mono (fun t h => by omega))
      have hRP2 := RP.add hPC hRP hRP
      refine lv_aload_n hx hb d_Model_multiple_38 rfl (lv_at hl 1 rfl) ?_
      refine lv_iload_n hx hb d_Model_multiple_39 rfl (lv_at hl 3 rfl) ?_
      refine lv_iload hx hb d_Model_multiple_40 (lv_at hl 0 rfl) ?_
      refine q_cV (rest := []) E (N_Model_bit l g n0 mo xx k th pw td wr 0 14 w0_ fd2 (by omega) (by omega) E9 hby) w_1093 w_15 w_1090 w_1092 (bw_s 29 rfl) hd_Model_bit rfl ⟨by decide, by decide⟩ (OB.recv E.2.2.2.2.2 (by rfl) hm.1) hm hF hl.1 rfl (Nat.le_of_ble_eq_true rfl) d_Model_multiple_42 ⟨by decide, by decide⟩ (qi (fun rb H2 locs hq hF => ?_))
      obtain ⟨hrb, hq⟩ := hq
      have hq := hq.symm
      subst hq
      subst hrb
      refine lv_iconst (v := nI 1) hx hb d_Model_multiple_45 (by decide) ?_
      refine lv_icmp_ne (tgt := 62) hx hb d_Model_multiple_46 (by decide) (fun hc => ?_) (fun hc => ?_)
      rotate_left
      · skip
        have hc1 : E9 / 2 ^ k % 2 = 1 := (nI_eq (by omega) (by decide)).mp hc
        refine lv_aload_n hx hb d_Model_multiple_49 rfl (lv_at hl 1 rfl) ?_
        refine lv_sipush (v := nI 139) hx hb d_Model_multiple_50 (by decide) ?_
        refine lv_sipush (v := nI 139) hx hb d_Model_multiple_53 (by decide) ?_
        refine lv_sipush (v := nI 136) hx hb d_Model_multiple_56 (by decide) ?_
        refine q_cV (rest := []) E (M_Model_sum l g n0 mo 139 139 136 th pw td wr fd2 fa (by omega) (by omega) (by omega) hAT (AD T T) P) w_1175 w_15 w_1172 w_1174 (bw_s 42 rfl) hd_Model_sum rfl ⟨by decide, by decide⟩ (OB.recv E.2.2.2.2.2 (by rfl) hm.1) (⟨hm, hab, hT9, hp9⟩) hF hl.1 rfl (Nat.le_of_ble_eq_true rfl) d_Model_multiple_59 ⟨by decide, by decide⟩ (qv (fun H3 locs hq hF => ?_))
        obtain ⟨hq, hab, fd3, hm, ho, hT9⟩ := hq
        have hfr := hfr.tr hq
        have hp9 : MQ9 fd3 136 P.1 ∧ MQ9 fd3 (136 + 1) P.2.1 ∧ MQ9 fd3 (136 + 2) P.2.2 := ⟨hp9.1.sm ho (by omega), hp9.2.1.sm ho (by omega), hp9.2.2.sm ho (by omega)⟩
        have hby : NV fd3 xx (E9 : Int) := (ho.sv (by omega) (Nat.le_refl 14)).trans hby
        have hS : SAME fd fd3 (fun t => 124 ≤ t ∧ t ≤ 141) := hS.tr (ho.mono (fun t h => by omega))
        have hRP3 : RP P ((E9 / 2 ^ k : Nat) : Int) (AD (AD T T) P) := by
          have e := RP.add hPC hRP2 (RP_1 hPC)
          rw [pw_odd hc1]
          rw [show (((2 * (E9 / 2 ^ (k + 1)) + 1 : Nat)) : Int) = ((E9 / 2 ^ (k + 1) : Nat) : Int) + ((E9 / 2 ^ (k + 1) : Nat) : Int) + 1 by omega]
          exact e
        refine lv_iinc (k := 0) (v := nI k - 1) (lv' := [(4, .int (nI k - 1)), (0, .ref mo), (1, .int (nI r)), (2, .int (nI xx))]) hx hb d_Model_multiple_62 hl rfl (i_dec _) (by decide) rfl (fun ls hl => ?_)
        refine lv_goto (tgt := 20) hx hb d_Model_multiple_65 (by decide) ?_
        have hl : lv_has ls 5 [(4, .int (nI k - 1)), (0, .ref mo), (1, .int (nI r)), (2, .int (nI xx))] := lv_sub hl [0, 1, 2, 3] rfl
        exact ih _ _ ls _ fd3 (AD (AD T T) P) (by omega) rfl hfr hm hab hRP3 hT9 hp9 hby hS hF hl
      have hc0 : E9 / 2 ^ k % 2 ≠ 1 := fun e => hc (by rw [e])
      have hRP3 : RP P ((E9 / 2 ^ k : Nat) : Int) (AD T T) := by
        rw [pw_even hc0]
        rw [show (((2 * (E9 / 2 ^ (k + 1)) : Nat)) : Int) = ((E9 / 2 ^ (k + 1) : Nat) : Int) + ((E9 / 2 ^ (k + 1) : Nat) : Int) by omega]
        exact hRP2
      refine lv_iinc (k := 0) (v := nI k - 1) (lv' := [(4, .int (nI k - 1)), (0, .ref mo), (1, .int (nI r)), (2, .int (nI xx))]) hx hb d_Model_multiple_62 hl rfl (i_dec _) (by decide) rfl (fun ls hl => ?_)
      refine lv_goto (tgt := 20) hx hb d_Model_multiple_65 (by decide) ?_
      have hl : lv_has ls 5 [(4, .int (nI k - 1)), (0, .ref mo), (1, .int (nI r)), (2, .int (nI xx))] := lv_sub hl [0, 1, 2, 3] rfl
      exact ih _ _ ls _ fd2 (AD T T) (by omega) rfl hfr hm hab hRP3 hT9 hp9 hby hS hF hl
  refine lv_aload_n hx hb d_Model_multiple_0 rfl (lv_at hl 0 rfl) ?_
  refine lv_sipush (v := nI 136) hx hb d_Model_multiple_1 (by decide) ?_
  refine lv_iload_n hx hb d_Model_multiple_4 rfl (lv_at hl 3 rfl) ?_
  refine q_cV (rest := []) E (c_Model_movePoint l g n0 mo 136 qp th pw td wr 0 14 w0_ fd (by decide) (by omega) (by omega)) w_1171 w_15 w_1168 w_1170 (bw_s 41 rfl) hd_Model_movePoint rfl ⟨by decide, by decide⟩ (OB.recv E.2.2.2.2.2 (by rfl) hm.1) hm hF hl.1 rfl (Nat.le_of_ble_eq_true rfl) d_Model_multiple_5 ⟨by decide, by decide⟩ (qv (fun H1 locs hq hF => ?_))
  obtain ⟨hq, fd1, hm, ho, hcp⟩ := hq
  have hab := AJ.off hq (by unfold MR; omega) hab
  have hfr := hfr.tr hq
  have hp9 : MQ9 fd1 136 P.1 ∧ MQ9 fd1 (136 + 1) P.2.1 ∧ MQ9 fd1 (136 + 2) P.2.2 := ⟨(VL_ext (fun k hk1 => hcp 0 k (by decide) hk1)).trans m_q, (VL_ext (fun k hk1 => hcp 1 k (by decide) hk1)).trans m_q1, (VL_ext (fun k hk1 => hcp 2 k (by decide) hk1)).trans m_q2⟩
  have hby : NV fd1 xx (E9 : Int) := (ho.sv (by omega) (Nat.le_refl 14)).trans hE
  have hS : SAME fd fd1 (fun t => 124 ≤ t ∧ t ≤ 141) := ho.mono (fun t h => by omega)
  refine lv_aload_n hx hb d_Model_multiple_8 rfl (lv_at hl 0 rfl) ?_
  refine lv_sipush (v := nI 139) hx hb d_Model_multiple_9 (by decide) ?_
  refine q_cV (rest := []) E (c_Model_nothing l g n0 mo 139 th pw td wr 0 14 w0_ fd1 (by decide)) w_996 w_15 w_993 w_995 (bw_s 22 rfl) hd_Model_nothing rfl ⟨by decide, by decide⟩ (OB.recv E.2.2.2.2.2 (by rfl) hm.1) hm hF hl.1 rfl (Nat.le_of_ble_eq_true rfl) d_Model_multiple_12 ⟨by decide, by decide⟩ (qv (fun H2 locs hq hF => ?_))
  obtain ⟨hq, fd2, hm, ho, hz1, hone, hz2⟩ := hq
  have hab := AJ.off hq (by unfold MR; omega) hab
  have hfr := hfr.tr hq
  have hp9 : MQ9 fd2 136 P.1 ∧ MQ9 fd2 (136 + 1) P.2.1 ∧ MQ9 fd2 (136 + 2) P.2.2 := ⟨hp9.1.sm ho (by omega), hp9.2.1.sm ho (by omega), hp9.2.2.sm ho (by omega)⟩
  have hby : NV fd2 xx (E9 : Int) := (ho.sv (by omega) (Nat.le_refl 14)).trans hby
  have hS : SAME fd fd2 (fun t => 124 ≤ t ∧ t ≤ 141) := hS.tr (ho.mono (fun t h => by omega))
  have hT9 : MQ9 fd2 139 PZ0.1 ∧ MQ9 fd2 (139 + 1) PZ0.2.1 ∧ MQ9 fd2 (139 + 2) PZ0.2.2 := ⟨hz1.sv (Nat.le_refl 14), (hone 14 (by decide) (by decide)).trans (by decide +kernel), hz2.sv (Nat.le_refl 14)⟩
  have hE0 : E9 / 2 ^ 392 = 0 := by
    have r := VL_range (f := fun k => fd (14 * xx + k)) (n := 14) (fun k hk => hDDf _ (by omega))
    rw [show VL (fun k => fd (14 * xx + k)) 14 = (E9 : Int) from hE, show (268435456 : Int) ^ 14 = ((2 ^ 392 : Nat) : Int) by decide +kernel] at r
    exact Nat.div_eq_of_lt (Int.ofNat_lt.mp r.2)
  refine lv_sipush (v := nI 391) hx hb d_Model_multiple_15 (by decide) ?_
  refine lv_istore (lv' := [(4, .int (nI 391)), (0, .ref mo), (1, .int (nI r)), (2, .int (nI xx)), (3, .int (nI qp))]) hx hb d_Model_multiple_18 hl (by decide) rfl (fun ls hl => ?_)
  have hl : lv_has ls 5 [(4, .int (nI 391)), (0, .ref mo), (1, .int (nI r)), (2, .int (nI xx))] := lv_sub hl [0, 1, 2, 3] rfl
  exact loop 392 _ _ ls _ fd2 PZ0 (by decide) (by decide) hfr hm hab (by rw [hE0]; exact RP_O P) hT9 hp9 hby hS hF hl
