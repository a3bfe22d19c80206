/-- the model, whatever it holds: what it has thrown, its powers, the size of its tape, what it has written -/
def MP (g : WG) (n0 : Nat → Prop) (H : Heap) (mo : Nat) (th : Int32) (pn tn wn : Nat) : Prop := (∃ w n fd, WH w n ∧ MS g n0 H mo th (nI pn) (nI tn) (nI wn) w n fd) ∧ HO g H mo ∧ (∃ f, AI g H (mo + 6) 96 f) ∧ (∃ f, AI g H (mo + 7) 96 f) ∧ (pn ≤ 16 ∧ tn ≤ 96 ∧ wn ≤ 96) ∧ n0 mo ∧ n0 (mo + 6) ∧ n0 (mo + 7) ∧ n0 (mo + 8)
section MPR
variable {g : WG} {n0 : Nat → Prop} {H H' : Heap} {mo : Nat} {th th2 : Int32} {pn tn wn pn2 tn2 wn2 w n : Nat} {fd : Nat → Int64}
theorem MP.mn (h : MP g n0 H mo th pn tn wn) : n0 mo := h.2.2.2.2.2.1
theorem MP.ob (h : MP g n0 H mo th pn tn wn) : ∃ w n, MO g H mo th (nI w) (nI n) (nI pn) (nI tn) (nI wn) := by
  obtain ⟨w, n, fd, -, hm⟩ := h.1
  exact ⟨w, n, hm.1⟩
theorem MP.fin (h : MP g n0 H mo th pn tn wn) (hfr : FRM (MR mo) H H') (hw : WH w n) (hm : MS g n0 H' mo th2 (nI pn2) (nI tn2) (nI wn2) w n fd) (hb : pn2 ≤ 16 ∧ tn2 ≤ 96 ∧ wn2 ≤ 96) : MP g n0 H' mo th2 pn2 tn2 wn2 :=
  ⟨⟨w, n, fd, hw, hm⟩, h.2.1.off hfr, h.2.2.1.imp (fun f hf => AI.off hfr (by unfold MR; omega) hf), h.2.2.2.1.imp (fun f hf => AI.off hfr (by unfold MR; omega) hf), hb, h.2.2.2.2.2⟩
theorem MP.keep (h : MP g n0 H mo th pn tn wn) (hfr : FRM (MR mo) H H') (hw : WH w n) (hm : MS g n0 H' mo th2 (nI pn) (nI tn) (nI wn) w n fd) : MP g n0 H' mo th2 pn tn wn := h.fin hfr hw hm h.2.2.2.2.1
theorem MP.fin6 (h : MP g n0 H mo th pn tn wn) (hfr : FRM (fun q => MR mo q ∨ q = mo + 6) H H') (hA : ∃ f, AI g H' (mo + 6) 96 f) (hw : WH w n) (hm : MS g n0 H' mo th2 (nI pn2) (nI tn2) (nI wn2) w n fd) (hb : pn2 ≤ 16 ∧ tn2 ≤ 96 ∧ wn2 ≤ 96) : MP g n0 H' mo th2 pn2 tn2 wn2 :=
  ⟨⟨w, n, fd, hw, hm⟩, h.2.1.imp (fun f hf => ⟨AJ.off hfr (by unfold MR; omega) hf.1, hf.2⟩), hA, h.2.2.2.1.imp (fun f hf => AI.off hfr (by unfold MR; omega) hf), hb, h.2.2.2.2.2⟩
theorem MP.fin7 (h : MP g n0 H mo th pn tn wn) (hfr : FRM (fun q => MR mo q ∨ q = mo + 7) H H') (hA : ∃ f, AI g H' (mo + 7) 96 f) (hw : WH w n) (hm : MS g n0 H' mo th2 (nI pn2) (nI tn2) (nI wn2) w n fd) (hb : pn2 ≤ 16 ∧ tn2 ≤ 96 ∧ wn2 ≤ 96) : MP g n0 H' mo th2 pn2 tn2 wn2 :=
  ⟨⟨w, n, fd, hw, hm⟩, h.2.1.imp (fun f hf => ⟨AJ.off hfr (by unfold MR; omega) hf.1, hf.2⟩), h.2.2.1.imp (fun f hf => AI.off hfr (by unfold MR; omega) hf), hA, hb, h.2.2.2.2.2⟩
theorem MP.fin8 (h : MP g n0 H mo th pn tn wn) (hfr : FRM (fun q => MR mo q ∨ q = mo + 8) H H') (hA : HO g H' mo) (hw : WH w n) (hm : MS g n0 H' mo th2 (nI pn) (nI tn) (nI wn) w n fd) : MP g n0 H' mo th2 pn tn wn :=
  ⟨⟨w, n, fd, hw, hm⟩, hA, h.2.2.1.imp (fun f hf => AI.off hfr (by unfold MR; omega) hf), h.2.2.2.1.imp (fun f hf => AI.off hfr (by unfold MR; omega) hf), h.2.2.2.2⟩
end MPR
set_option maxHeartbeats 4000000 in
set_option maxRecDepth 100000 in
theorem G_Model_set (l : Launch) (g : WG) (n0 : Nat → Prop) (mo : Nat) (th : Int32) (pn tn wn : Nat) (a : Int32) (v : Int64) : Ctr l y_Model_set (.code y_Model_set prog_11_method_39_code 4 none) 2 46 0 0 n0 g [.ref mo, .int a, .long v] (fun H => MP g n0 H mo th pn tn wn) (QV (fun H H' => ((okS a (nI 1) ∧ ¬ v < 0) ∧ MP g n0 H' mo 0 pn tn wn) ∨ (¬ (okS a (nI 1) ∧ ¬ v < 0) ∧ MP g n0 H' mo 1 pn tn wn))) := by
  refine ctr_mk l (lv0 := [(0, .ref mo), (1, .int a), (2, .long v)]) (by decide) (Nat.le_of_ble_eq_true rfl) rfl ?_
  intro p e s m below meth c ls E hr hlk hnm hl hP
  have hx := E.1
  have hb := E.2.1
  have hK := E.2.2.2.2.2
  have hF : ∀ q ∈ ([] : List Loc), n0 q.base := fun q hq => absurd hq List.not_mem_nil
  obtain ⟨⟨w9, n9, fd, hw9, hm⟩, -⟩ := id hP
  have hmn := hP.mn
  have hbd := hP.2.2.2.2.1
  have hfr : FRM (MR mo) s.heap s.heap := FRM.rf
  have bad : ∀ (locs : List Loc) (ls : Array Slot), ¬ (okS a (nI 1) ∧ ¬ v < 0) → (∀ q ∈ locs, n0 q.base) → lv_has ls 4 [(0, .ref mo), (1, .int a), (2, .long v)] → W p l e { frames := 2, cells := 0, slots := 0, locals := 46 } s m [.ref mo, .int a, .long v].toArray below meth c s.heap locs 0 0 (MQ below (QcP (QV (fun H H' => ((okS a (nI 1) ∧ ¬ v < 0) ∧ MP g n0 H' mo 0 pn tn wn) ∨ (¬ (okS a (nI 1) ∧ ¬ v < 0) ∧ MP g n0 H' mo 1 pn tn wn)))) [.ref mo, .int a, .long v].toArray s 0 0 (fun q => n0 q)) (F0 m 19 ls [.int (nI 1), .ref mo]) := by
    intro  locs   ls hno hF hl
    refine lv_iconst (v := nI 1) hx hb d_Model_set_19 (by decide) ?_
    refine q_cV (rest := []) E (c_Model_fails l g n0 mo th (nI pn) (nI tn) (nI wn) w9 n9 hw9 (nI 1) (nI 1) fd hmn (Or.inl rfl)) w_1056 w_15 w_1053 w_1055 (bw_s 24 rfl) hd_Model_fails rfl ⟨by decide, by decide⟩ (OB.recv E.2.2.2.2.2 (by rfl) hm.1) hm hF hl.1 rfl (Nat.le_of_ble_eq_true rfl) d_Model_set_20 ⟨by decide, by decide⟩ (qi (fun rf H1 locs hq hF => ?_))
    obtain ⟨hrf, hq, hm⟩ := hq
    subst hrf
    have hfr := hfr.tr hq
    rw [if_neg (by decide)] at hm
    refine lv_if_eq (tgt := 27) hx hb d_Model_set_23 (by decide) (fun h9 => absurd h9 (by decide)) (fun _ => ?_)
    exact q_vret E hr hlk (⟨rfl, Or.inr ⟨hno, hP.keep hfr hw9 hm⟩⟩) hF d_Model_set_26
  have good : ∀ (locs : List Loc) (ls : Array Slot), okS a (nI 1) ∧ ¬ v < 0 → (∀ q ∈ locs, n0 q.base) → lv_has ls 4 [(0, .ref mo), (1, .int a), (2, .long v)] → W p l e { frames := 2, cells := 0, slots := 0, locals := 46 } s m [.ref mo, .int a, .long v].toArray below meth c s.heap locs 0 0 (MQ below (QcP (QV (fun H H' => ((okS a (nI 1) ∧ ¬ v < 0) ∧ MP g n0 H' mo 0 pn tn wn) ∨ (¬ (okS a (nI 1) ∧ ¬ v < 0) ∧ MP g n0 H' mo 1 pn tn wn)))) [.ref mo, .int a, .long v].toArray s 0 0 (fun q => n0 q)) (F0 m 19 ls [.int (nI 0), .ref mo]) := by
    intro  locs   ls hok hF hl
    refine lv_iconst (v := nI 1) hx hb d_Model_set_19 (by decide) ?_
    refine q_cV (rest := []) E (c_Model_fails l g n0 mo th (nI pn) (nI tn) (nI wn) w9 n9 hw9 (nI 0) (nI 1) fd hmn (Or.inr rfl)) w_1056 w_15 w_1053 w_1055 (bw_s 24 rfl) hd_Model_fails rfl ⟨by decide, by decide⟩ (OB.recv E.2.2.2.2.2 (by rfl) hm.1) hm hF hl.1 rfl (Nat.le_of_ble_eq_true rfl) d_Model_set_20 ⟨by decide, by decide⟩ (qi (fun rf H1 locs hq hF => ?_))
    obtain ⟨hrf, hq, hm⟩ := hq
    subst hrf
    have hfr := hfr.tr hq
    rw [if_pos nI_0] at hm
    refine lv_if_eq (tgt := 27) hx hb d_Model_set_23 (by decide) (fun _ => ?_) (fun h9 => absurd (by decide) h9)
    obtain ⟨k1, e_k1, h_k1⟩ := okS_nat (by decide) (by decide) hok.1
    rw [e_k1] at hl
    refine lv_aload_n hx hb d_Model_set_27 rfl (lv_at hl 0 rfl) ?_
    refine lv_iload_n hx hb d_Model_set_28 rfl (lv_at hl 1 rfl) ?_
    refine lv_lload_n hx hb d_Model_set_29 rfl (lv_at hl 2 rfl) ?_
    refine q_cV (rest := []) E (c_Model_small l g n0 mo k1 v 0 (nI pn) (nI tn) (nI wn) w9 n9 hw9 fd (by omega)) w_1084 w_15 w_1081 w_1083 (bw_s 28 rfl) hd_Model_small rfl ⟨by decide, by decide⟩ (OB.recv E.2.2.2.2.2 (by rfl) hm.1) hm hF hl.1 rfl (Nat.le_of_ble_eq_true rfl) d_Model_set_30 ⟨by decide, by decide⟩ (qv (fun H2 locs hq hF => ?_))
    obtain ⟨hq, fd_1, hm, -⟩ := hq
    have hfr := hfr.tr hq
    exact q_vret E hr hlk (⟨rfl, Or.inl ⟨hok, hP.keep hfr hw9 hm⟩⟩) hF d_Model_set_33
  refine lv_aload_n hx hb d_Model_set_0 rfl (lv_at hl 0 rfl) ?_
  refine lv_iload_n hx hb d_Model_set_1 rfl (lv_at hl 1 rfl) ?_
  refine q_cS (rest := [.ref mo]) E (c_Model_noScalar l g n0 a ) w_1064 w_15 w_1062 w_1063 hd_Model_noScalar rfl ⟨by decide, by decide⟩ trivial hF hl.1 rfl (Nat.le_of_ble_eq_true rfl) d_Model_set_2 ⟨by decide, by decide⟩ (qi (fun r_0 H1 locs hq hF => ?_))
  obtain ⟨h_0, hq⟩ := hq
  subst hq
  rcases h_0 with ⟨rfl, f_0⟩ | ⟨rfl, f_0⟩
  · skip
    refine lv_if_ne (tgt := 14) hx hb d_Model_set_5 (by decide) (fun _ => ?_) (fun h9 => absurd h9 (by decide))
    refine lv_iconst (v := nI 1) hx hb d_Model_set_14 (by decide) ?_
    refine lv_goto (tgt := 19) hx hb d_Model_set_15 (by decide) ?_
    have hl : lv_has ls 4 [(0, .ref mo), (1, .int a), (2, .long v)] := lv_sub hl [0, 1, 2] rfl
    exact bad _ ls (fun h => (f_0) h.1) hF hl
  · skip
    refine lv_if_ne (tgt := 14) hx hb d_Model_set_5 (by decide) (fun h9 => absurd (by decide) h9) (fun _ => ?_)
    refine lv_lload_n hx hb d_Model_set_8 rfl (lv_at hl 2 rfl) ?_
    refine lv_lconst (v := 0) hx hb d_Model_set_9 (by decide) ?_
    refine W.lcmp hx hb d_Model_set_10 ?_
    refine lv_if_ge (tgt := 18) hx hb d_Model_set_11 (by decide) (fun g_11 => ?_) (fun g_11 => ?_)
    rotate_left
    · skip
      refine lv_iconst (v := nI 1) hx hb d_Model_set_14 (by decide) ?_
      refine lv_goto (tgt := 19) hx hb d_Model_set_15 (by decide) ?_
      have hl : lv_has ls 4 [(0, .ref mo), (1, .int a), (2, .long v)] := lv_sub hl [0, 1, 2] rfl
      exact bad _ ls (fun h => (absurd (l_lt0 g_11)) h.2) hF hl
    refine lv_iconst (v := nI 0) hx hb d_Model_set_18 (by decide) ?_
    have hl : lv_has ls 4 [(0, .ref mo), (1, .int a), (2, .long v)] := lv_sub hl [0, 1, 2] rfl
    exact good _ ls ⟨f_0, l_ge0 g_11⟩ hF hl
set_option maxHeartbeats 4000000 in
set_option maxRecDepth 100000 in
theorem G_Model_power (l : Launch) (g : WG) (n0 : Nat → Prop) (mo : Nat) (th : Int32) (pn tn wn : Nat) (a : Int32) (a2 : Int32) (v : Int64) : Ctr l y_Model_power (.code y_Model_power prog_11_method_42_code 5 none) 4 103 0 0 n0 g [.ref mo, .int a, .int a2, .long v] (fun H => MP g n0 H mo th pn tn wn) (QV (fun H H' => ((okS a (nI 1) ∧ okS a2 (nI 1) ∧ ¬ v < 0) ∧ MP g n0 H' mo 0 pn tn wn) ∨ (¬ (okS a (nI 1) ∧ okS a2 (nI 1) ∧ ¬ v < 0) ∧ MP g n0 H' mo 1 pn tn wn))) := by
  refine ctr_mk l (lv0 := [(0, .ref mo), (1, .int a), (2, .int a2), (3, .long v)]) (by decide) (Nat.le_of_ble_eq_true rfl) rfl ?_
  intro p e s m below meth c ls E hr hlk hnm hl hP
  have hx := E.1
  have hb := E.2.1
  have hK := E.2.2.2.2.2
  have hF : ∀ q ∈ ([] : List Loc), n0 q.base := fun q hq => absurd hq List.not_mem_nil
  obtain ⟨⟨w9, n9, fd, hw9, hm⟩, -⟩ := id hP
  have hmn := hP.mn
  have hbd := hP.2.2.2.2.1
  have hfr : FRM (MR mo) s.heap s.heap := FRM.rf
  have bad : ∀ (locs : List Loc) (ls : Array Slot), ¬ (okS a (nI 1) ∧ okS a2 (nI 1) ∧ ¬ v < 0) → (∀ q ∈ locs, n0 q.base) → lv_has ls 5 [(0, .ref mo), (1, .int a), (2, .int a2), (3, .long v)] → W p l e { frames := 4, cells := 0, slots := 0, locals := 103 } s m [.ref mo, .int a, .int a2, .long v].toArray below meth c s.heap locs 0 0 (MQ below (QcP (QV (fun H H' => ((okS a (nI 1) ∧ okS a2 (nI 1) ∧ ¬ v < 0) ∧ MP g n0 H' mo 0 pn tn wn) ∨ (¬ (okS a (nI 1) ∧ okS a2 (nI 1) ∧ ¬ v < 0) ∧ MP g n0 H' mo 1 pn tn wn)))) [.ref mo, .int a, .int a2, .long v].toArray s 0 0 (fun q => n0 q)) (F0 m 26 ls [.int (nI 1), .ref mo]) := by
    intro  locs   ls hno hF hl
    refine lv_iconst (v := nI 1) hx hb d_Model_power_26 (by decide) ?_
    refine q_cV (rest := []) E (c_Model_fails l g n0 mo th (nI pn) (nI tn) (nI wn) w9 n9 hw9 (nI 1) (nI 1) fd hmn (Or.inl rfl)) w_1056 w_15 w_1053 w_1055 (bw_s 24 rfl) hd_Model_fails rfl ⟨by decide, by decide⟩ (OB.recv E.2.2.2.2.2 (by rfl) hm.1) hm hF hl.1 rfl (Nat.le_of_ble_eq_true rfl) d_Model_power_27 ⟨by decide, by decide⟩ (qi (fun rf H1 locs hq hF => ?_))
    obtain ⟨hrf, hq, hm⟩ := hq
    subst hrf
    have hfr := hfr.tr hq
    rw [if_neg (by decide)] at hm
    refine lv_if_eq (tgt := 34) hx hb d_Model_power_30 (by decide) (fun h9 => absurd h9 (by decide)) (fun _ => ?_)
    exact q_vret E hr hlk (⟨rfl, Or.inr ⟨hno, hP.keep hfr hw9 hm⟩⟩) hF d_Model_power_33
  have good : ∀ (locs : List Loc) (ls : Array Slot), okS a (nI 1) ∧ okS a2 (nI 1) ∧ ¬ v < 0 → (∀ q ∈ locs, n0 q.base) → lv_has ls 5 [(0, .ref mo), (1, .int a), (2, .int a2), (3, .long v)] → W p l e { frames := 4, cells := 0, slots := 0, locals := 103 } s m [.ref mo, .int a, .int a2, .long v].toArray below meth c s.heap locs 0 0 (MQ below (QcP (QV (fun H H' => ((okS a (nI 1) ∧ okS a2 (nI 1) ∧ ¬ v < 0) ∧ MP g n0 H' mo 0 pn tn wn) ∨ (¬ (okS a (nI 1) ∧ okS a2 (nI 1) ∧ ¬ v < 0) ∧ MP g n0 H' mo 1 pn tn wn)))) [.ref mo, .int a, .int a2, .long v].toArray s 0 0 (fun q => n0 q)) (F0 m 26 ls [.int (nI 0), .ref mo]) := by
    intro  locs   ls hok hF hl
    refine lv_iconst (v := nI 1) hx hb d_Model_power_26 (by decide) ?_
    refine q_cV (rest := []) E (c_Model_fails l g n0 mo th (nI pn) (nI tn) (nI wn) w9 n9 hw9 (nI 0) (nI 1) fd hmn (Or.inr rfl)) w_1056 w_15 w_1053 w_1055 (bw_s 24 rfl) hd_Model_fails rfl ⟨by decide, by decide⟩ (OB.recv E.2.2.2.2.2 (by rfl) hm.1) hm hF hl.1 rfl (Nat.le_of_ble_eq_true rfl) d_Model_power_27 ⟨by decide, by decide⟩ (qi (fun rf H1 locs hq hF => ?_))
    obtain ⟨hrf, hq, hm⟩ := hq
    subst hrf
    have hfr := hfr.tr hq
    rw [if_pos nI_0] at hm
    refine lv_if_eq (tgt := 34) hx hb d_Model_power_30 (by decide) (fun _ => ?_) (fun h9 => absurd (by decide) h9)
    obtain ⟨k1, e_k1, h_k1⟩ := okS_nat (by decide) (by decide) hok.1
    rw [e_k1] at hl
    obtain ⟨k2, e_k2, h_k2⟩ := okS_nat (by decide) (by decide) hok.2.1
    rw [e_k2] at hl
    refine lv_aload_n hx hb d_Model_power_34 rfl (lv_at hl 0 rfl) ?_
    refine lv_iconst (v := nI 1) hx hb d_Model_power_35 (by decide) ?_
    refine q_cV (rest := []) E (c_Model_use l g n0 mo 0 (nI pn) (nI tn) (nI wn) w9 n9 hw9 1 10 hw1 fd hmn) w_967 w_15 w_964 w_966 (bw_s 15 rfl) hd_Model_use rfl ⟨by decide, by decide⟩ (OB.recv E.2.2.2.2.2 (by rfl) hm.1) hm hF hl.1 rfl (Nat.le_of_ble_eq_true rfl) d_Model_power_36 ⟨by decide, by decide⟩ (qv (fun H2 locs hq hF => ?_))
    obtain ⟨hq, hm⟩ := hq
    have hfr := hfr.tr hq
    refine lv_aload_n hx hb d_Model_power_39 rfl (lv_at hl 0 rfl) ?_
    refine lv_sipush (v := nI 145) hx hb d_Model_power_40 (by decide) ?_
    refine lv_lload_n hx hb d_Model_power_43 rfl (lv_at hl 3 rfl) ?_
    refine q_cV (rest := []) E (c_Model_small l g n0 mo 145 v 0 (nI pn) (nI tn) (nI wn) 1 10 hw1 fd (by omega)) w_1084 w_15 w_1081 w_1083 (bw_s 28 rfl) hd_Model_small rfl ⟨by decide, by decide⟩ (OB.recv E.2.2.2.2.2 (by rfl) hm.1) hm hF hl.1 rfl (Nat.le_of_ble_eq_true rfl) d_Model_power_44 ⟨by decide, by decide⟩ (qv (fun H3 locs hq hF => ?_))
    obtain ⟨hq, fd_1, hm, -⟩ := hq
    have hfr := hfr.tr hq
    refine lv_aload_n hx hb d_Model_power_47 rfl (lv_at hl 0 rfl) ?_
    refine lv_iload_n hx hb d_Model_power_48 rfl (lv_at hl 1 rfl) ?_
    refine lv_iload_n hx hb d_Model_power_49 rfl (lv_at hl 2 rfl) ?_
    refine lv_sipush (v := nI 145) hx hb d_Model_power_50 (by decide) ?_
    refine q_cV (rest := []) E (c_Model_raise l g n0 mo k1 k2 145 0 (nI pn) (nI tn) (nI wn) 1 10 hw1  fd_1 (by omega) (by omega) (by omega) ) w_1126 w_15 w_1123 w_1125 (bw_s 35 rfl) hd_Model_raise rfl ⟨by decide, by decide⟩ (OB.recv E.2.2.2.2.2 (by rfl) hm.1) hm hF hl.1 rfl (Nat.le_of_ble_eq_true rfl) d_Model_power_53 ⟨by decide, by decide⟩ (qv (fun H4 locs hq hF => ?_))
    obtain ⟨hq, fd_2, hm, -⟩ := hq
    have hfr := hfr.tr hq
    exact q_vret E hr hlk (⟨rfl, Or.inl ⟨hok, hP.keep hfr hw1 hm⟩⟩) hF d_Model_power_56
  refine lv_aload_n hx hb d_Model_power_0 rfl (lv_at hl 0 rfl) ?_
  refine lv_iload_n hx hb d_Model_power_1 rfl (lv_at hl 1 rfl) ?_
  refine q_cS (rest := [.ref mo]) E (c_Model_noScalar l g n0 a ) w_1064 w_15 w_1062 w_1063 hd_Model_noScalar rfl ⟨by decide, by decide⟩ trivial hF hl.1 rfl (Nat.le_of_ble_eq_true rfl) d_Model_power_2 ⟨by decide, by decide⟩ (qi (fun r_0 H1 locs hq hF => ?_))
  obtain ⟨h_0, hq⟩ := hq
  subst hq
  rcases h_0 with ⟨rfl, f_0⟩ | ⟨rfl, f_0⟩
  · skip
    refine lv_if_ne (tgt := 21) hx hb d_Model_power_5 (by decide) (fun _ => ?_) (fun h9 => absurd h9 (by decide))
    refine lv_iconst (v := nI 1) hx hb d_Model_power_21 (by decide) ?_
    refine lv_goto (tgt := 26) hx hb d_Model_power_22 (by decide) ?_
    have hl : lv_has ls 5 [(0, .ref mo), (1, .int a), (2, .int a2), (3, .long v)] := lv_sub hl [0, 1, 2, 3] rfl
    exact bad _ ls (fun h => (f_0) h.1) hF hl
  · skip
    refine lv_if_ne (tgt := 21) hx hb d_Model_power_5 (by decide) (fun h9 => absurd (by decide) h9) (fun _ => ?_)
    refine lv_iload_n hx hb d_Model_power_8 rfl (lv_at hl 2 rfl) ?_
    refine q_cS (rest := [.ref mo]) E (c_Model_noScalar l g n0 a2 ) w_1064 w_15 w_1062 w_1063 hd_Model_noScalar rfl ⟨by decide, by decide⟩ trivial hF hl.1 rfl (Nat.le_of_ble_eq_true rfl) d_Model_power_9 ⟨by decide, by decide⟩ (qi (fun r_1 H2 locs hq hF => ?_))
    obtain ⟨h_1, hq⟩ := hq
    subst hq
    rcases h_1 with ⟨rfl, f_1⟩ | ⟨rfl, f_1⟩
    · skip
      refine lv_if_ne (tgt := 21) hx hb d_Model_power_12 (by decide) (fun _ => ?_) (fun h9 => absurd h9 (by decide))
      refine lv_iconst (v := nI 1) hx hb d_Model_power_21 (by decide) ?_
      refine lv_goto (tgt := 26) hx hb d_Model_power_22 (by decide) ?_
      have hl : lv_has ls 5 [(0, .ref mo), (1, .int a), (2, .int a2), (3, .long v)] := lv_sub hl [0, 1, 2, 3] rfl
      exact bad _ ls (fun h => (f_1) h.2.1) hF hl
    · skip
      refine lv_if_ne (tgt := 21) hx hb d_Model_power_12 (by decide) (fun h9 => absurd (by decide) h9) (fun _ => ?_)
      refine lv_lload_n hx hb d_Model_power_15 rfl (lv_at hl 3 rfl) ?_
      refine lv_lconst (v := 0) hx hb d_Model_power_16 (by decide) ?_
      refine W.lcmp hx hb d_Model_power_17 ?_
      refine lv_if_ge (tgt := 25) hx hb d_Model_power_18 (by decide) (fun g_18 => ?_) (fun g_18 => ?_)
      rotate_left
      · skip
        refine lv_iconst (v := nI 1) hx hb d_Model_power_21 (by decide) ?_
        refine lv_goto (tgt := 26) hx hb d_Model_power_22 (by decide) ?_
        have hl : lv_has ls 5 [(0, .ref mo), (1, .int a), (2, .int a2), (3, .long v)] := lv_sub hl [0, 1, 2, 3] rfl
        exact bad _ ls (fun h => (absurd (l_lt0 g_18)) h.2.2) hF hl
      refine lv_iconst (v := nI 0) hx hb d_Model_power_25 (by decide) ?_
      have hl : lv_has ls 5 [(0, .ref mo), (1, .int a), (2, .int a2), (3, .long v)] := lv_sub hl [0, 1, 2, 3] rfl
      exact good _ ls ⟨f_0, f_1, l_ge0 g_18⟩ hF hl
set_option maxHeartbeats 4000000 in
set_option maxRecDepth 100000 in
theorem G_Model_unity (l : Launch) (g : WG) (n0 : Nat → Prop) (mo : Nat) (th : Int32) (pn tn wn : Nat) (a : Int32) (k : Int32) : Ctr l y_Model_unity (.code y_Model_unity prog_11_method_44_code 3 none) 5 125 0 0 n0 g [.ref mo, .int a, .int k] (fun H => MP g n0 H mo th pn tn wn) (QV (fun H H' => ((okS a (nI 1) ∧ okC k (nI 0) (nI 32)) ∧ MP g n0 H' mo 0 pn tn wn) ∨ (¬ (okS a (nI 1) ∧ okC k (nI 0) (nI 32)) ∧ MP g n0 H' mo 1 pn tn wn))) := by
  refine ctr_mk l (lv0 := [(0, .ref mo), (1, .int a), (2, .int k)]) (by decide) (Nat.le_of_ble_eq_true rfl) rfl ?_
  intro p e s m below meth c ls E hr hlk hnm hl hP
  have hx := E.1
  have hb := E.2.1
  have hK := E.2.2.2.2.2
  have hF : ∀ q ∈ ([] : List Loc), n0 q.base := fun q hq => absurd hq List.not_mem_nil
  obtain ⟨⟨w9, n9, fd, hw9, hm⟩, -⟩ := id hP
  have hmn := hP.mn
  have hbd := hP.2.2.2.2.1
  have hfr : FRM (MR mo) s.heap s.heap := FRM.rf
  have bad : ∀ (locs : List Loc) (ls : Array Slot), ¬ (okS a (nI 1) ∧ okC k (nI 0) (nI 32)) → (∀ q ∈ locs, n0 q.base) → lv_has ls 3 [(0, .ref mo), (1, .int a), (2, .int k)] → W p l e { frames := 5, cells := 0, slots := 0, locals := 125 } s m [.ref mo, .int a, .int k].toArray below meth c s.heap locs 0 0 (MQ below (QcP (QV (fun H H' => ((okS a (nI 1) ∧ okC k (nI 0) (nI 32)) ∧ MP g n0 H' mo 0 pn tn wn) ∨ (¬ (okS a (nI 1) ∧ okC k (nI 0) (nI 32)) ∧ MP g n0 H' mo 1 pn tn wn)))) [.ref mo, .int a, .int k].toArray s 0 0 (fun q => n0 q)) (F0 m 25 ls [.int (nI 1), .ref mo]) := by
    intro  locs   ls hno hF hl
    refine lv_iconst (v := nI 1) hx hb d_Model_unity_25 (by decide) ?_
    refine q_cV (rest := []) E (c_Model_fails l g n0 mo th (nI pn) (nI tn) (nI wn) w9 n9 hw9 (nI 1) (nI 1) fd hmn (Or.inl rfl)) w_1056 w_15 w_1053 w_1055 (bw_s 24 rfl) hd_Model_fails rfl ⟨by decide, by decide⟩ (OB.recv E.2.2.2.2.2 (by rfl) hm.1) hm hF hl.1 rfl (Nat.le_of_ble_eq_true rfl) d_Model_unity_26 ⟨by decide, by decide⟩ (qi (fun rf H1 locs hq hF => ?_))
    obtain ⟨hrf, hq, hm⟩ := hq
    subst hrf
    have hfr := hfr.tr hq
    rw [if_neg (by decide)] at hm
    refine lv_if_eq (tgt := 33) hx hb d_Model_unity_29 (by decide) (fun h9 => absurd h9 (by decide)) (fun _ => ?_)
    exact q_vret E hr hlk (⟨rfl, Or.inr ⟨hno, hP.keep hfr hw9 hm⟩⟩) hF d_Model_unity_32
  have good : ∀ (locs : List Loc) (ls : Array Slot), okS a (nI 1) ∧ okC k (nI 0) (nI 32) → (∀ q ∈ locs, n0 q.base) → lv_has ls 3 [(0, .ref mo), (1, .int a), (2, .int k)] → W p l e { frames := 5, cells := 0, slots := 0, locals := 125 } s m [.ref mo, .int a, .int k].toArray below meth c s.heap locs 0 0 (MQ below (QcP (QV (fun H H' => ((okS a (nI 1) ∧ okC k (nI 0) (nI 32)) ∧ MP g n0 H' mo 0 pn tn wn) ∨ (¬ (okS a (nI 1) ∧ okC k (nI 0) (nI 32)) ∧ MP g n0 H' mo 1 pn tn wn)))) [.ref mo, .int a, .int k].toArray s 0 0 (fun q => n0 q)) (F0 m 25 ls [.int (nI 0), .ref mo]) := by
    intro  locs   ls hok hF hl
    refine lv_iconst (v := nI 1) hx hb d_Model_unity_25 (by decide) ?_
    refine q_cV (rest := []) E (c_Model_fails l g n0 mo th (nI pn) (nI tn) (nI wn) w9 n9 hw9 (nI 0) (nI 1) fd hmn (Or.inr rfl)) w_1056 w_15 w_1053 w_1055 (bw_s 24 rfl) hd_Model_fails rfl ⟨by decide, by decide⟩ (OB.recv E.2.2.2.2.2 (by rfl) hm.1) hm hF hl.1 rfl (Nat.le_of_ble_eq_true rfl) d_Model_unity_26 ⟨by decide, by decide⟩ (qi (fun rf H1 locs hq hF => ?_))
    obtain ⟨hrf, hq, hm⟩ := hq
    subst hrf
    have hfr := hfr.tr hq
    rw [if_pos nI_0] at hm
    refine lv_if_eq (tgt := 33) hx hb d_Model_unity_29 (by decide) (fun _ => ?_) (fun h9 => absurd (by decide) h9)
    obtain ⟨k1, e_k1, h_k1⟩ := okS_nat (by decide) (by decide) hok.1
    rw [e_k1] at hl
    obtain ⟨k2, e_k2, h_k2, h2_k2⟩ := okC_nat (by decide) (by decide) hok.2
    rw [e_k2] at hl
    refine lv_aload_n hx hb d_Model_unity_33 rfl (lv_at hl 0 rfl) ?_
    refine lv_iload_n hx hb d_Model_unity_34 rfl (lv_at hl 1 rfl) ?_
    refine lv_iload_n hx hb d_Model_unity_35 rfl (lv_at hl 2 rfl) ?_
    refine q_cV (rest := []) E (c_Model_unit l g n0 mo k1 k2 0 (nI pn) (nI tn) (nI wn) w9 n9 hw9 fd hmn (by omega) (by omega)) w_1139 w_15 w_1136 w_1138 (bw_s 36 rfl) hd_Model_unit rfl ⟨by decide, by decide⟩ (OB.recv E.2.2.2.2.2 (by rfl) hm.1) hm hF hl.1 rfl (Nat.le_of_ble_eq_true rfl) d_Model_unity_36 ⟨by decide, by decide⟩ (qv (fun H2 locs hq hF => ?_))
    obtain ⟨hq, fd_1, hm⟩ := hq
    have hfr := hfr.tr hq
    exact q_vret E hr hlk (⟨rfl, Or.inl ⟨hok, hP.keep hfr hw1 hm⟩⟩) hF d_Model_unity_39
  refine lv_aload_n hx hb d_Model_unity_0 rfl (lv_at hl 0 rfl) ?_
  refine lv_iload_n hx hb d_Model_unity_1 rfl (lv_at hl 1 rfl) ?_
  refine q_cS (rest := [.ref mo]) E (c_Model_noScalar l g n0 a ) w_1064 w_15 w_1062 w_1063 hd_Model_noScalar rfl ⟨by decide, by decide⟩ trivial hF hl.1 rfl (Nat.le_of_ble_eq_true rfl) d_Model_unity_2 ⟨by decide, by decide⟩ (qi (fun r_0 H1 locs hq hF => ?_))
  obtain ⟨h_0, hq⟩ := hq
  subst hq
  rcases h_0 with ⟨rfl, f_0⟩ | ⟨rfl, f_0⟩
  · skip
    refine lv_if_ne (tgt := 20) hx hb d_Model_unity_5 (by decide) (fun _ => ?_) (fun h9 => absurd h9 (by decide))
    refine lv_iconst (v := nI 1) hx hb d_Model_unity_20 (by decide) ?_
    refine lv_goto (tgt := 25) hx hb d_Model_unity_21 (by decide) ?_
    have hl : lv_has ls 3 [(0, .ref mo), (1, .int a), (2, .int k)] := lv_sub hl [0, 1, 2] rfl
    exact bad _ ls (fun h => (f_0) h.1) hF hl
  · skip
    refine lv_if_ne (tgt := 20) hx hb d_Model_unity_5 (by decide) (fun h9 => absurd (by decide) h9) (fun _ => ?_)
    refine lv_iload_n hx hb d_Model_unity_8 rfl (lv_at hl 2 rfl) ?_
    refine lv_i2l (v := k.toInt64) hx hb d_Model_unity_9 rfl ?_
    refine lv_lconst (v := 0) hx hb d_Model_unity_10 (by decide) ?_
    refine lv_ldc2 (v := 32) hx hb E.2.2.2.1 (E.2.2.2.2.1 _ w_1135) d_Model_unity_11 ?_
    refine q_cS (rest := [.ref mo]) E (c_Model_in l g n0 k.toInt64 0 32 ) w_1101 w_15 w_1099 w_1100 hd_Model_in rfl ⟨by decide, by decide⟩ trivial hF hl.1 rfl (Nat.le_of_ble_eq_true rfl) d_Model_unity_14 ⟨by decide, by decide⟩ (qi (fun r_1 H2 locs hq hF => ?_))
    obtain ⟨h_1, hq⟩ := hq
    subst hq
    rcases h_1 with ⟨rfl, f_1⟩ | ⟨rfl, f_1⟩
    · skip
      refine lv_if_ne (tgt := 24) hx hb d_Model_unity_17 (by decide) (fun h9 => absurd (by decide) h9) (fun _ => ?_)
      refine lv_iconst (v := nI 1) hx hb d_Model_unity_20 (by decide) ?_
      refine lv_goto (tgt := 25) hx hb d_Model_unity_21 (by decide) ?_
      have hl : lv_has ls 3 [(0, .ref mo), (1, .int a), (2, .int k)] := lv_sub hl [0, 1, 2] rfl
      exact bad _ ls (fun h => (fun q => f_1 ((in_okC (a := 0) (b := 32) (by decide) (by decide) (by decide) (by decide)).mpr q)) h.2) hF hl
    · skip
      refine lv_if_ne (tgt := 24) hx hb d_Model_unity_17 (by decide) (fun _ => ?_) (fun h9 => absurd h9 (by decide))
      refine lv_iconst (v := nI 0) hx hb d_Model_unity_24 (by decide) ?_
      have hl : lv_has ls 3 [(0, .ref mo), (1, .int a), (2, .int k)] := lv_sub hl [0, 1, 2] rfl
      exact good _ ls ⟨f_0, (in_okC (a := 0) (b := 32) (by decide) (by decide) (by decide) (by decide)).mp f_1⟩ hF hl
set_option maxHeartbeats 4000000 in
set_option maxRecDepth 100000 in
theorem G_Model_times (l : Launch) (g : WG) (n0 : Nat → Prop) (mo : Nat) (th : Int32) (pn tn wn : Nat) (a : Int32) (a2 : Int32) (a3 : Int32) : Ctr l y_Model_times (.code y_Model_times prog_11_method_50_code 4 none) 6 143 0 0 n0 g [.ref mo, .int a, .int a2, .int a3] (fun H => MP g n0 H mo th pn tn wn) (QV (fun H H' => ((okP a (nI 1) ∧ okS a2 (nI 1) ∧ okP a3 (nI 1)) ∧ MP g n0 H' mo 0 pn tn wn) ∨ (¬ (okP a (nI 1) ∧ okS a2 (nI 1) ∧ okP a3 (nI 1)) ∧ MP g n0 H' mo 1 pn tn wn))) := by
  refine ctr_mk l (lv0 := [(0, .ref mo), (1, .int a), (2, .int a2), (3, .int a3)]) (by decide) (Nat.le_of_ble_eq_true rfl) rfl ?_
  intro p e s m below meth c ls E hr hlk hnm hl hP
  have hx := E.1
  have hb := E.2.1
  have hK := E.2.2.2.2.2
  have hF : ∀ q ∈ ([] : List Loc), n0 q.base := fun q hq => absurd hq List.not_mem_nil
  obtain ⟨⟨w9, n9, fd, hw9, hm⟩, -⟩ := id hP
  have hmn := hP.mn
  have hbd := hP.2.2.2.2.1
  have hfr : FRM (MR mo) s.heap s.heap := FRM.rf
  have bad : ∀ (locs : List Loc) (ls : Array Slot), ¬ (okP a (nI 1) ∧ okS a2 (nI 1) ∧ okP a3 (nI 1)) → (∀ q ∈ locs, n0 q.base) → lv_has ls 4 [(0, .ref mo), (1, .int a), (2, .int a2), (3, .int a3)] → W p l e { frames := 6, cells := 0, slots := 0, locals := 143 } s m [.ref mo, .int a, .int a2, .int a3].toArray below meth c s.heap locs 0 0 (MQ below (QcP (QV (fun H H' => ((okP a (nI 1) ∧ okS a2 (nI 1) ∧ okP a3 (nI 1)) ∧ MP g n0 H' mo 0 pn tn wn) ∨ (¬ (okP a (nI 1) ∧ okS a2 (nI 1) ∧ okP a3 (nI 1)) ∧ MP g n0 H' mo 1 pn tn wn)))) [.ref mo, .int a, .int a2, .int a3].toArray s 0 0 (fun q => n0 q)) (F0 m 27 ls [.int (nI 1), .ref mo]) := by
    intro  locs   ls hno hF hl
    refine lv_iconst (v := nI 1) hx hb d_Model_times_27 (by decide) ?_
    refine q_cV (rest := []) E (c_Model_fails l g n0 mo th (nI pn) (nI tn) (nI wn) w9 n9 hw9 (nI 1) (nI 1) fd hmn (Or.inl rfl)) w_1056 w_15 w_1053 w_1055 (bw_s 24 rfl) hd_Model_fails rfl ⟨by decide, by decide⟩ (OB.recv E.2.2.2.2.2 (by rfl) hm.1) hm hF hl.1 rfl (Nat.le_of_ble_eq_true rfl) d_Model_times_28 ⟨by decide, by decide⟩ (qi (fun rf H1 locs hq hF => ?_))
    obtain ⟨hrf, hq, hm⟩ := hq
    subst hrf
    have hfr := hfr.tr hq
    rw [if_neg (by decide)] at hm
    refine lv_if_eq (tgt := 35) hx hb d_Model_times_31 (by decide) (fun h9 => absurd h9 (by decide)) (fun _ => ?_)
    exact q_vret E hr hlk (⟨rfl, Or.inr ⟨hno, hP.keep hfr hw9 hm⟩⟩) hF d_Model_times_34
  have good : ∀ (locs : List Loc) (ls : Array Slot), okP a (nI 1) ∧ okS a2 (nI 1) ∧ okP a3 (nI 1) → (∀ q ∈ locs, n0 q.base) → lv_has ls 4 [(0, .ref mo), (1, .int a), (2, .int a2), (3, .int a3)] → W p l e { frames := 6, cells := 0, slots := 0, locals := 143 } s m [.ref mo, .int a, .int a2, .int a3].toArray below meth c s.heap locs 0 0 (MQ below (QcP (QV (fun H H' => ((okP a (nI 1) ∧ okS a2 (nI 1) ∧ okP a3 (nI 1)) ∧ MP g n0 H' mo 0 pn tn wn) ∨ (¬ (okP a (nI 1) ∧ okS a2 (nI 1) ∧ okP a3 (nI 1)) ∧ MP g n0 H' mo 1 pn tn wn)))) [.ref mo, .int a, .int a2, .int a3].toArray s 0 0 (fun q => n0 q)) (F0 m 27 ls [.int (nI 0), .ref mo]) := by
    intro  locs   ls hok hF hl
    refine lv_iconst (v := nI 1) hx hb d_Model_times_27 (by decide) ?_
    refine q_cV (rest := []) E (c_Model_fails l g n0 mo th (nI pn) (nI tn) (nI wn) w9 n9 hw9 (nI 0) (nI 1) fd hmn (Or.inr rfl)) w_1056 w_15 w_1053 w_1055 (bw_s 24 rfl) hd_Model_fails rfl ⟨by decide, by decide⟩ (OB.recv E.2.2.2.2.2 (by rfl) hm.1) hm hF hl.1 rfl (Nat.le_of_ble_eq_true rfl) d_Model_times_28 ⟨by decide, by decide⟩ (qi (fun rf H1 locs hq hF => ?_))
    obtain ⟨hrf, hq, hm⟩ := hq
    subst hrf
    have hfr := hfr.tr hq
    rw [if_pos nI_0] at hm
    refine lv_if_eq (tgt := 35) hx hb d_Model_times_31 (by decide) (fun _ => ?_) (fun h9 => absurd (by decide) h9)
    obtain ⟨k1, e_k1, h_k1⟩ := okP_nat (by decide) (by decide) hok.1
    rw [e_k1] at hl
    obtain ⟨k2, e_k2, h_k2⟩ := okS_nat (by decide) (by decide) hok.2.1
    rw [e_k2] at hl
    obtain ⟨k3, e_k3, h_k3⟩ := okP_nat (by decide) (by decide) hok.2.2
    rw [e_k3] at hl
    refine lv_aload_n hx hb d_Model_times_35 rfl (lv_at hl 0 rfl) ?_
    refine lv_iconst (v := nI 0) hx hb d_Model_times_36 (by decide) ?_
    refine q_cV (rest := []) E (c_Model_use l g n0 mo 0 (nI pn) (nI tn) (nI wn) w9 n9 hw9 0 14 hw0 fd hmn) w_967 w_15 w_964 w_966 (bw_s 15 rfl) hd_Model_use rfl ⟨by decide, by decide⟩ (OB.recv E.2.2.2.2.2 (by rfl) hm.1) hm hF hl.1 rfl (Nat.le_of_ble_eq_true rfl) d_Model_times_37 ⟨by decide, by decide⟩ (qv (fun H2 locs hq hF => ?_))
    obtain ⟨hq, hm⟩ := hq
    have hfr := hfr.tr hq
    refine lv_aload_n hx hb d_Model_times_40 rfl (lv_at hl 0 rfl) ?_
    refine lv_iload_n hx hb d_Model_times_41 rfl (lv_at hl 1 rfl) ?_
    refine q_cS (rest := [.ref mo]) E (c_Model_slot l g n0 (nI k1)) w_1154 w_15 w_1152 w_1153 hd_Model_slot rfl ⟨by decide, by decide⟩ trivial hF hl.1 rfl (Nat.le_of_ble_eq_true rfl) d_Model_times_42 ⟨by decide, by decide⟩ (qi (fun rs H3 locs hq hF => ?_))
    obtain ⟨hrs, hq9⟩ := hq
    subst hrs
    subst hq9
    refine lv_topi (fun t9 e9 => ?_)
    obtain rfl : t9 = nI (32 + 3 * k1) := e9.trans (by rw [pk_mul, nI_add])
    refine lv_iload_n hx hb d_Model_times_45 rfl (lv_at hl 2 rfl) ?_
    refine lv_iload_n hx hb d_Model_times_46 rfl (lv_at hl 3 rfl) ?_
    refine q_cS (rest := [.int (nI k2), .int (nI (32 + 3 * k1)), .ref mo]) E (c_Model_slot l g n0 (nI k3)) w_1154 w_15 w_1152 w_1153 hd_Model_slot rfl ⟨by decide, by decide⟩ trivial hF hl.1 rfl (Nat.le_of_ble_eq_true rfl) d_Model_times_47 ⟨by decide, by decide⟩ (qi (fun rs H4 locs hq hF => ?_))
    obtain ⟨hrs, hq9⟩ := hq
    subst hrs
    subst hq9
    refine lv_topi (fun t9 e9 => ?_)
    obtain rfl : t9 = nI (32 + 3 * k3) := e9.trans (by rw [pk_mul, nI_add])
    refine q_cV (rest := []) E (c_Model_multiple l g n0 mo (32 + 3 * k1) k2 (32 + 3 * k3) 0 (nI pn) (nI tn) (nI wn) 0 14 hw0 fd (by omega) (by omega) (by omega)) w_1167 w_15 w_1164 w_1166 (bw_s 40 rfl) hd_Model_multiple rfl ⟨by decide, by decide⟩ (OB.recv E.2.2.2.2.2 (by rfl) hm.1) hm hF hl.1 rfl (Nat.le_of_ble_eq_true rfl) d_Model_times_50 ⟨by decide, by decide⟩ (qv (fun H5 locs hq hF => ?_))
    obtain ⟨hq, fd_1, hm, hS9, hV9⟩ := hq
    have hfr := hfr.tr hq
    exact q_vret E hr hlk (⟨rfl, Or.inl ⟨hok, hP.keep hfr hw0 hm⟩⟩) hF d_Model_times_53
  refine lv_aload_n hx hb d_Model_times_0 rfl (lv_at hl 0 rfl) ?_
  refine lv_iload_n hx hb d_Model_times_1 rfl (lv_at hl 1 rfl) ?_
  refine q_cS (rest := [.ref mo]) E (c_Model_noPoint l g n0 a ) w_1151 w_15 w_1149 w_1150 hd_Model_noPoint rfl ⟨by decide, by decide⟩ trivial hF hl.1 rfl (Nat.le_of_ble_eq_true rfl) d_Model_times_2 ⟨by decide, by decide⟩ (qi (fun r_0 H1 locs hq hF => ?_))
  obtain ⟨h_0, hq⟩ := hq
  subst hq
  rcases h_0 with ⟨rfl, f_0⟩ | ⟨rfl, f_0⟩
  · skip
    refine lv_if_ne (tgt := 22) hx hb d_Model_times_5 (by decide) (fun _ => ?_) (fun h9 => absurd h9 (by decide))
    refine lv_iconst (v := nI 1) hx hb d_Model_times_22 (by decide) ?_
    refine lv_goto (tgt := 27) hx hb d_Model_times_23 (by decide) ?_
    have hl : lv_has ls 4 [(0, .ref mo), (1, .int a), (2, .int a2), (3, .int a3)] := lv_sub hl [0, 1, 2, 3] rfl
    exact bad _ ls (fun h => (f_0) h.1) hF hl
  · skip
    refine lv_if_ne (tgt := 22) hx hb d_Model_times_5 (by decide) (fun h9 => absurd (by decide) h9) (fun _ => ?_)
    refine lv_iload_n hx hb d_Model_times_8 rfl (lv_at hl 2 rfl) ?_
    refine q_cS (rest := [.ref mo]) E (c_Model_noScalar l g n0 a2 ) w_1064 w_15 w_1062 w_1063 hd_Model_noScalar rfl ⟨by decide, by decide⟩ trivial hF hl.1 rfl (Nat.le_of_ble_eq_true rfl) d_Model_times_9 ⟨by decide, by decide⟩ (qi (fun r_1 H2 locs hq hF => ?_))
    obtain ⟨h_1, hq⟩ := hq
    subst hq
    rcases h_1 with ⟨rfl, f_1⟩ | ⟨rfl, f_1⟩
    · skip
      refine lv_if_ne (tgt := 22) hx hb d_Model_times_12 (by decide) (fun _ => ?_) (fun h9 => absurd h9 (by decide))
      refine lv_iconst (v := nI 1) hx hb d_Model_times_22 (by decide) ?_
      refine lv_goto (tgt := 27) hx hb d_Model_times_23 (by decide) ?_
      have hl : lv_has ls 4 [(0, .ref mo), (1, .int a), (2, .int a2), (3, .int a3)] := lv_sub hl [0, 1, 2, 3] rfl
      exact bad _ ls (fun h => (f_1) h.2.1) hF hl
    · skip
      refine lv_if_ne (tgt := 22) hx hb d_Model_times_12 (by decide) (fun h9 => absurd (by decide) h9) (fun _ => ?_)
      refine lv_iload_n hx hb d_Model_times_15 rfl (lv_at hl 3 rfl) ?_
      refine q_cS (rest := [.ref mo]) E (c_Model_noPoint l g n0 a3 ) w_1151 w_15 w_1149 w_1150 hd_Model_noPoint rfl ⟨by decide, by decide⟩ trivial hF hl.1 rfl (Nat.le_of_ble_eq_true rfl) d_Model_times_16 ⟨by decide, by decide⟩ (qi (fun r_2 H3 locs hq hF => ?_))
      obtain ⟨h_2, hq⟩ := hq
      subst hq
      rcases h_2 with ⟨rfl, f_2⟩ | ⟨rfl, f_2⟩
      · skip
        refine lv_if_eq (tgt := 26) hx hb d_Model_times_19 (by decide) (fun h9 => absurd h9 (by decide)) (fun _ => ?_)
        refine lv_iconst (v := nI 1) hx hb d_Model_times_22 (by decide) ?_
        refine lv_goto (tgt := 27) hx hb d_Model_times_23 (by decide) ?_
        have hl : lv_has ls 4 [(0, .ref mo), (1, .int a), (2, .int a2), (3, .int a3)] := lv_sub hl [0, 1, 2, 3] rfl
        exact bad _ ls (fun h => (f_2) h.2.2) hF hl
      · skip
        refine lv_if_eq (tgt := 26) hx hb d_Model_times_19 (by decide) (fun _ => ?_) (fun h9 => absurd (by decide) h9)
        refine lv_iconst (v := nI 0) hx hb d_Model_times_26 (by decide) ?_
        have hl : lv_has ls 4 [(0, .ref mo), (1, .int a), (2, .int a2), (3, .int a3)] := lv_sub hl [0, 1, 2, 3] rfl
        exact good _ ls ⟨f_0, f_1, f_2⟩ hF hl
set_option maxHeartbeats 4000000 in
set_option maxRecDepth 100000 in
theorem G_Model_same (l : Launch) (g : WG) (n0 : Nat → Prop) (mo : Nat) (th : Int32) (pn tn wn : Nat) (a : Int32) (a2 : Int32) : Ctr l y_Model_same (.code y_Model_same prog_11_method_53_code 3 (some FieldType.boolean)) 4 101 0 0 n0 g [.ref mo, .int a, .int a2] (fun H => MP g n0 H mo th pn tn wn) (QI (fun r H H' => ((okP a (nI 1) ∧ okP a2 (nI 1)) ∧ MP g n0 H' mo 0 pn tn wn) ∨ (¬ (okP a (nI 1) ∧ okP a2 (nI 1)) ∧ MP g n0 H' mo 1 pn tn wn))) := by
  refine ctr_mk l (lv0 := [(0, .ref mo), (1, .int a), (2, .int a2)]) (by decide) (Nat.le_of_ble_eq_true rfl) rfl ?_
  intro p e s m below meth c ls E hr hlk hnm hl hP
  have hx := E.1
  have hb := E.2.1
  have hK := E.2.2.2.2.2
  have hF : ∀ q ∈ ([] : List Loc), n0 q.base := fun q hq => absurd hq List.not_mem_nil
  obtain ⟨⟨w9, n9, fd, hw9, hm⟩, -⟩ := id hP
  have hmn := hP.mn
  have hbd := hP.2.2.2.2.1
  have hfr : FRM (MR mo) s.heap s.heap := FRM.rf
  have bad : ∀ (locs : List Loc) (ls : Array Slot), ¬ (okP a (nI 1) ∧ okP a2 (nI 1)) → (∀ q ∈ locs, n0 q.base) → lv_has ls 3 [(0, .ref mo), (1, .int a), (2, .int a2)] → W p l e { frames := 4, cells := 0, slots := 0, locals := 101 } s m [.ref mo, .int a, .int a2].toArray below meth c s.heap locs 0 0 (MQ below (QcP (QI (fun r H H' => ((okP a (nI 1) ∧ okP a2 (nI 1)) ∧ MP g n0 H' mo 0 pn tn wn) ∨ (¬ (okP a (nI 1) ∧ okP a2 (nI 1)) ∧ MP g n0 H' mo 1 pn tn wn)))) [.ref mo, .int a, .int a2].toArray s 0 0 (fun q => n0 q)) (F0 m 20 ls [.int (nI 1), .ref mo]) := by
    intro  locs   ls hno hF hl
    refine lv_iconst (v := nI 1) hx hb d_Model_same_20 (by decide) ?_
    refine q_cV (rest := []) E (c_Model_fails l g n0 mo th (nI pn) (nI tn) (nI wn) w9 n9 hw9 (nI 1) (nI 1) fd hmn (Or.inl rfl)) w_1056 w_15 w_1053 w_1055 (bw_s 24 rfl) hd_Model_fails rfl ⟨by decide, by decide⟩ (OB.recv E.2.2.2.2.2 (by rfl) hm.1) hm hF hl.1 rfl (Nat.le_of_ble_eq_true rfl) d_Model_same_21 ⟨by decide, by decide⟩ (qi (fun rf H1 locs hq hF => ?_))
    obtain ⟨hrf, hq, hm⟩ := hq
    subst hrf
    have hfr := hfr.tr hq
    rw [if_neg (by decide)] at hm
    refine lv_if_eq (tgt := 29) hx hb d_Model_same_24 (by decide) (fun h9 => absurd h9 (by decide)) (fun _ => ?_)
    refine lv_iconst (v := nI 0) hx hb d_Model_same_27 (by decide) ?_
    exact q_zret E hr rfl hlk (⟨_, rfl, Or.inr ⟨hno, hP.keep hfr hw9 hm⟩⟩) hF d_Model_same_28
  have good : ∀ (locs : List Loc) (ls : Array Slot), okP a (nI 1) ∧ okP a2 (nI 1) → (∀ q ∈ locs, n0 q.base) → lv_has ls 3 [(0, .ref mo), (1, .int a), (2, .int a2)] → W p l e { frames := 4, cells := 0, slots := 0, locals := 101 } s m [.ref mo, .int a, .int a2].toArray below meth c s.heap locs 0 0 (MQ below (QcP (QI (fun r H H' => ((okP a (nI 1) ∧ okP a2 (nI 1)) ∧ MP g n0 H' mo 0 pn tn wn) ∨ (¬ (okP a (nI 1) ∧ okP a2 (nI 1)) ∧ MP g n0 H' mo 1 pn tn wn)))) [.ref mo, .int a, .int a2].toArray s 0 0 (fun q => n0 q)) (F0 m 20 ls [.int (nI 0), .ref mo]) := by
    intro  locs   ls hok hF hl
    refine lv_iconst (v := nI 1) hx hb d_Model_same_20 (by decide) ?_
    refine q_cV (rest := []) E (c_Model_fails l g n0 mo th (nI pn) (nI tn) (nI wn) w9 n9 hw9 (nI 0) (nI 1) fd hmn (Or.inr rfl)) w_1056 w_15 w_1053 w_1055 (bw_s 24 rfl) hd_Model_fails rfl ⟨by decide, by decide⟩ (OB.recv E.2.2.2.2.2 (by rfl) hm.1) hm hF hl.1 rfl (Nat.le_of_ble_eq_true rfl) d_Model_same_21 ⟨by decide, by decide⟩ (qi (fun rf H1 locs hq hF => ?_))
    obtain ⟨hrf, hq, hm⟩ := hq
    subst hrf
    have hfr := hfr.tr hq
    rw [if_pos nI_0] at hm
    refine lv_if_eq (tgt := 29) hx hb d_Model_same_24 (by decide) (fun _ => ?_) (fun h9 => absurd (by decide) h9)
    obtain ⟨k1, e_k1, h_k1⟩ := okP_nat (by decide) (by decide) hok.1
    rw [e_k1] at hl
    obtain ⟨k2, e_k2, h_k2⟩ := okP_nat (by decide) (by decide) hok.2
    rw [e_k2] at hl
    refine lv_aload_n hx hb d_Model_same_29 rfl (lv_at hl 0 rfl) ?_
    refine lv_iconst (v := nI 0) hx hb d_Model_same_30 (by decide) ?_
    refine q_cV (rest := []) E (c_Model_use l g n0 mo 0 (nI pn) (nI tn) (nI wn) w9 n9 hw9 0 14 hw0 fd hmn) w_967 w_15 w_964 w_966 (bw_s 15 rfl) hd_Model_use rfl ⟨by decide, by decide⟩ (OB.recv E.2.2.2.2.2 (by rfl) hm.1) hm hF hl.1 rfl (Nat.le_of_ble_eq_true rfl) d_Model_same_31 ⟨by decide, by decide⟩ (qv (fun H2 locs hq hF => ?_))
    obtain ⟨hq, hm⟩ := hq
    have hfr := hfr.tr hq
    refine lv_aload_n hx hb d_Model_same_34 rfl (lv_at hl 0 rfl) ?_
    refine lv_iload_n hx hb d_Model_same_35 rfl (lv_at hl 1 rfl) ?_
    refine q_cS (rest := [.ref mo]) E (c_Model_slot l g n0 (nI k1)) w_1154 w_15 w_1152 w_1153 hd_Model_slot rfl ⟨by decide, by decide⟩ trivial hF hl.1 rfl (Nat.le_of_ble_eq_true rfl) d_Model_same_36 ⟨by decide, by decide⟩ (qi (fun rs H3 locs hq hF => ?_))
    obtain ⟨hrs, hq9⟩ := hq
    subst hrs
    subst hq9
    refine lv_topi (fun t9 e9 => ?_)
    obtain rfl : t9 = nI (32 + 3 * k1) := e9.trans (by rw [pk_mul, nI_add])
    refine lv_iload_n hx hb d_Model_same_39 rfl (lv_at hl 2 rfl) ?_
    refine q_cS (rest := [.int (nI (32 + 3 * k1)), .ref mo]) E (c_Model_slot l g n0 (nI k2)) w_1154 w_15 w_1152 w_1153 hd_Model_slot rfl ⟨by decide, by decide⟩ trivial hF hl.1 rfl (Nat.le_of_ble_eq_true rfl) d_Model_same_40 ⟨by decide, by decide⟩ (qi (fun rs H4 locs hq hF => ?_))
    obtain ⟨hrs, hq9⟩ := hq
    subst hrs
    subst hq9
    refine lv_topi (fun t9 e9 => ?_)
    obtain rfl : t9 = nI (32 + 3 * k2) := e9.trans (by rw [pk_mul, nI_add])
    refine q_cV (rest := []) E (c_Model_alike l g n0 mo (32 + 3 * k1) (32 + 3 * k2) 0 (nI pn) (nI tn) (nI wn) 0 14 hw0 fd (by omega) (by omega)) w_1218 w_15 w_1215 w_1217 (bw_s 46 rfl) hd_Model_alike rfl ⟨by decide, by decide⟩ (OB.recv E.2.2.2.2.2 (by rfl) hm.1) hm hF hl.1 rfl (Nat.le_of_ble_eq_true rfl) d_Model_same_43 ⟨by decide, by decide⟩ (qi (fun rz1 H5 locs hq hF => ?_))
    obtain ⟨hbrz1, hq, fd_1, hm⟩ := hq
    have hfr := hfr.tr hq
    exact q_zret E hr (by rcases hbrz1.1 with h | h <;> rw [h] <;> rfl) hlk (⟨_, rfl, Or.inl ⟨hok, hP.keep hfr hw0 hm⟩⟩) hF d_Model_same_46
  refine lv_aload_n hx hb d_Model_same_0 rfl (lv_at hl 0 rfl) ?_
  refine lv_iload_n hx hb d_Model_same_1 rfl (lv_at hl 1 rfl) ?_
  refine q_cS (rest := [.ref mo]) E (c_Model_noPoint l g n0 a ) w_1151 w_15 w_1149 w_1150 hd_Model_noPoint rfl ⟨by decide, by decide⟩ trivial hF hl.1 rfl (Nat.le_of_ble_eq_true rfl) d_Model_same_2 ⟨by decide, by decide⟩ (qi (fun r_0 H1 locs hq hF => ?_))
  obtain ⟨h_0, hq⟩ := hq
  subst hq
  rcases h_0 with ⟨rfl, f_0⟩ | ⟨rfl, f_0⟩
  · skip
    refine lv_if_ne (tgt := 15) hx hb d_Model_same_5 (by decide) (fun _ => ?_) (fun h9 => absurd h9 (by decide))
    refine lv_iconst (v := nI 1) hx hb d_Model_same_15 (by decide) ?_
    refine lv_goto (tgt := 20) hx hb d_Model_same_16 (by decide) ?_
    have hl : lv_has ls 3 [(0, .ref mo), (1, .int a), (2, .int a2)] := lv_sub hl [0, 1, 2] rfl
    exact bad _ ls (fun h => (f_0) h.1) hF hl
  · skip
    refine lv_if_ne (tgt := 15) hx hb d_Model_same_5 (by decide) (fun h9 => absurd (by decide) h9) (fun _ => ?_)
    refine lv_iload_n hx hb d_Model_same_8 rfl (lv_at hl 2 rfl) ?_
    refine q_cS (rest := [.ref mo]) E (c_Model_noPoint l g n0 a2 ) w_1151 w_15 w_1149 w_1150 hd_Model_noPoint rfl ⟨by decide, by decide⟩ trivial hF hl.1 rfl (Nat.le_of_ble_eq_true rfl) d_Model_same_9 ⟨by decide, by decide⟩ (qi (fun r_1 H2 locs hq hF => ?_))
    obtain ⟨h_1, hq⟩ := hq
    subst hq
    rcases h_1 with ⟨rfl, f_1⟩ | ⟨rfl, f_1⟩
    · skip
      refine lv_if_eq (tgt := 19) hx hb d_Model_same_12 (by decide) (fun h9 => absurd h9 (by decide)) (fun _ => ?_)
      refine lv_iconst (v := nI 1) hx hb d_Model_same_15 (by decide) ?_
      refine lv_goto (tgt := 20) hx hb d_Model_same_16 (by decide) ?_
      have hl : lv_has ls 3 [(0, .ref mo), (1, .int a), (2, .int a2)] := lv_sub hl [0, 1, 2] rfl
      exact bad _ ls (fun h => (f_1) h.2) hF hl
    · skip
      refine lv_if_eq (tgt := 19) hx hb d_Model_same_12 (by decide) (fun _ => ?_) (fun h9 => absurd (by decide) h9)
      refine lv_iconst (v := nI 0) hx hb d_Model_same_19 (by decide) ?_
      have hl : lv_has ls 3 [(0, .ref mo), (1, .int a), (2, .int a2)] := lv_sub hl [0, 1, 2] rfl
      exact good _ ls ⟨f_0, f_1⟩ hF hl
set_option maxHeartbeats 4000000 in
set_option maxRecDepth 100000 in
theorem G_Model_checks (l : Launch) (g : WG) (n0 : Nat → Prop) (mo : Nat) (th : Int32) (pn tn wn : Nat) (p0 : Int32) (q0 : Int32) (z0 : Int32) (y0 : Int32) (t0 : Int32) : Ctr l y_Model_checks (.code y_Model_checks prog_11_method_58_code 6 (some FieldType.boolean)) 6 143 0 0 n0 g [.ref mo, .int p0, .int q0, .int z0, .int y0, .int t0] (fun H => MP g n0 H mo th pn tn wn) (QI (fun r H H' => ((okP p0 (nI 1) ∧ okP q0 (nI 1) ∧ okS z0 (nI 1) ∧ okS y0 (nI 1) ∧ okS t0 (nI 1)) ∧ MP g n0 H' mo 0 pn tn wn) ∨ (¬ (okP p0 (nI 1) ∧ okP q0 (nI 1) ∧ okS z0 (nI 1) ∧ okS y0 (nI 1) ∧ okS t0 (nI 1)) ∧ MP g n0 H' mo 1 pn tn wn))) := by
  refine ctr_mk l (lv0 := [(0, .ref mo), (1, .int p0), (2, .int q0), (3, .int z0), (4, .int y0), (5, .int t0)]) (by decide) (Nat.le_of_ble_eq_true rfl) rfl ?_
  intro p e s m below meth c ls E hr hlk hnm hl hP
  have hx := E.1
  have hb := E.2.1
  have hK := E.2.2.2.2.2
  have hF : ∀ q ∈ ([] : List Loc), n0 q.base := fun q hq => absurd hq List.not_mem_nil
  obtain ⟨⟨w9, n9, fd, hw9, hm⟩, -⟩ := id hP
  have hmn := hP.mn
  have hbd := hP.2.2.2.2.1
  have hfr : FRM (MR mo) s.heap s.heap := FRM.rf
  have bad : ∀ (locs : List Loc) (ls : Array Slot), ¬ (okP p0 (nI 1) ∧ okP q0 (nI 1) ∧ okS z0 (nI 1) ∧ okS y0 (nI 1) ∧ okS t0 (nI 1)) → (∀ q ∈ locs, n0 q.base) → lv_has ls 6 [(0, .ref mo), (1, .int p0), (2, .int q0), (3, .int z0), (4, .int y0), (5, .int t0)] → W p l e { frames := 6, cells := 0, slots := 0, locals := 143 } s m [.ref mo, .int p0, .int q0, .int z0, .int y0, .int t0].toArray below meth c s.heap locs 0 0 (MQ below (QcP (QI (fun r H H' => ((okP p0 (nI 1) ∧ okP q0 (nI 1) ∧ okS z0 (nI 1) ∧ okS y0 (nI 1) ∧ okS t0 (nI 1)) ∧ MP g n0 H' mo 0 pn tn wn) ∨ (¬ (okP p0 (nI 1) ∧ okP q0 (nI 1) ∧ okS z0 (nI 1) ∧ okS y0 (nI 1) ∧ okS t0 (nI 1)) ∧ MP g n0 H' mo 1 pn tn wn)))) [.ref mo, .int p0, .int q0, .int z0, .int y0, .int t0].toArray s 0 0 (fun q => n0 q)) (F0 m 43 ls [.int (nI 1), .ref mo]) := by
    intro  locs   ls hno hF hl
    refine lv_iconst (v := nI 1) hx hb d_Model_checks_43 (by decide) ?_
    refine q_cV (rest := []) E (c_Model_fails l g n0 mo th (nI pn) (nI tn) (nI wn) w9 n9 hw9 (nI 1) (nI 1) fd hmn (Or.inl rfl)) w_1056 w_15 w_1053 w_1055 (bw_s 24 rfl) hd_Model_fails rfl ⟨by decide, by decide⟩ (OB.recv E.2.2.2.2.2 (by rfl) hm.1) hm hF hl.1 rfl (Nat.le_of_ble_eq_true rfl) d_Model_checks_44 ⟨by decide, by decide⟩ (qi (fun rf H1 locs hq hF => ?_))
    obtain ⟨hrf, hq, hm⟩ := hq
    subst hrf
    have hfr := hfr.tr hq
    rw [if_neg (by decide)] at hm
    refine lv_if_eq (tgt := 52) hx hb d_Model_checks_47 (by decide) (fun h9 => absurd h9 (by decide)) (fun _ => ?_)
    refine lv_iconst (v := nI 0) hx hb d_Model_checks_50 (by decide) ?_
    exact q_zret E hr rfl hlk (⟨_, rfl, Or.inr ⟨hno, hP.keep hfr hw9 hm⟩⟩) hF d_Model_checks_51
  have good : ∀ (locs : List Loc) (ls : Array Slot), okP p0 (nI 1) ∧ okP q0 (nI 1) ∧ okS z0 (nI 1) ∧ okS y0 (nI 1) ∧ okS t0 (nI 1) → (∀ q ∈ locs, n0 q.base) → lv_has ls 6 [(0, .ref mo), (1, .int p0), (2, .int q0), (3, .int z0), (4, .int y0), (5, .int t0)] → W p l e { frames := 6, cells := 0, slots := 0, locals := 143 } s m [.ref mo, .int p0, .int q0, .int z0, .int y0, .int t0].toArray below meth c s.heap locs 0 0 (MQ below (QcP (QI (fun r H H' => ((okP p0 (nI 1) ∧ okP q0 (nI 1) ∧ okS z0 (nI 1) ∧ okS y0 (nI 1) ∧ okS t0 (nI 1)) ∧ MP g n0 H' mo 0 pn tn wn) ∨ (¬ (okP p0 (nI 1) ∧ okP q0 (nI 1) ∧ okS z0 (nI 1) ∧ okS y0 (nI 1) ∧ okS t0 (nI 1)) ∧ MP g n0 H' mo 1 pn tn wn)))) [.ref mo, .int p0, .int q0, .int z0, .int y0, .int t0].toArray s 0 0 (fun q => n0 q)) (F0 m 43 ls [.int (nI 0), .ref mo]) := by
    intro  locs   ls hok hF hl
    refine lv_iconst (v := nI 1) hx hb d_Model_checks_43 (by decide) ?_
    refine q_cV (rest := []) E (c_Model_fails l g n0 mo th (nI pn) (nI tn) (nI wn) w9 n9 hw9 (nI 0) (nI 1) fd hmn (Or.inr rfl)) w_1056 w_15 w_1053 w_1055 (bw_s 24 rfl) hd_Model_fails rfl ⟨by decide, by decide⟩ (OB.recv E.2.2.2.2.2 (by rfl) hm.1) hm hF hl.1 rfl (Nat.le_of_ble_eq_true rfl) d_Model_checks_44 ⟨by decide, by decide⟩ (qi (fun rf H1 locs hq hF => ?_))
    obtain ⟨hrf, hq, hm⟩ := hq
    subst hrf
    have hfr := hfr.tr hq
    rw [if_pos nI_0] at hm
    refine lv_if_eq (tgt := 52) hx hb d_Model_checks_47 (by decide) (fun _ => ?_) (fun h9 => absurd (by decide) h9)
    obtain ⟨k1, e_k1, h_k1⟩ := okP_nat (by decide) (by decide) hok.1
    rw [e_k1] at hl
    obtain ⟨k2, e_k2, h_k2⟩ := okP_nat (by decide) (by decide) hok.2.1
    rw [e_k2] at hl
    obtain ⟨k3, e_k3, h_k3⟩ := okS_nat (by decide) (by decide) hok.2.2.1
    rw [e_k3] at hl
    obtain ⟨k4, e_k4, h_k4⟩ := okS_nat (by decide) (by decide) hok.2.2.2.1
    rw [e_k4] at hl
    obtain ⟨k5, e_k5, h_k5⟩ := okS_nat (by decide) (by decide) hok.2.2.2.2
    rw [e_k5] at hl
    refine lv_aload_n hx hb d_Model_checks_52 rfl (lv_at hl 0 rfl) ?_
    refine lv_iconst (v := nI 1) hx hb d_Model_checks_53 (by decide) ?_
    refine q_cV (rest := []) E (c_Model_use l g n0 mo 0 (nI pn) (nI tn) (nI wn) w9 n9 hw9 1 10 hw1 fd hmn) w_967 w_15 w_964 w_966 (bw_s 15 rfl) hd_Model_use rfl ⟨by decide, by decide⟩ (OB.recv E.2.2.2.2.2 (by rfl) hm.1) hm hF hl.1 rfl (Nat.le_of_ble_eq_true rfl) d_Model_checks_54 ⟨by decide, by decide⟩ (qv (fun H2 locs hq hF => ?_))
    obtain ⟨hq, hm⟩ := hq
    have hfr := hfr.tr hq
    refine lv_aload_n hx hb d_Model_checks_57 rfl (lv_at hl 0 rfl) ?_
    refine lv_sipush (v := nI 166) hx hb d_Model_checks_58 (by decide) ?_
    refine lv_iload hx hb d_Model_checks_61 (lv_at hl 5 rfl) ?_
    refine lv_iload_n hx hb d_Model_checks_63 rfl (lv_at hl 3 rfl) ?_
    refine q_cV (rest := []) E (c_Model_less l g n0 mo 166 k5 k3 0 (nI pn) (nI tn) (nI wn) 1 10 hw1  fd (by omega) (by omega) (by omega) ) w_1109 w_15 w_1106 w_1108 (bw_s 31 rfl) hd_Model_less rfl ⟨by decide, by decide⟩ (OB.recv E.2.2.2.2.2 (by rfl) hm.1) hm hF hl.1 rfl (Nat.le_of_ble_eq_true rfl) d_Model_checks_64 ⟨by decide, by decide⟩ (qv (fun H3 locs hq hF => ?_))
    obtain ⟨hq, fd_1, hm, hpv, hv⟩ := hq
    have hfr := hfr.tr (kjR hq)
    refine lv_aload_n hx hb d_Model_checks_67 rfl (lv_at hl 0 rfl) ?_
    refine lv_iconst (v := nI 0) hx hb d_Model_checks_68 (by decide) ?_
    refine q_cV (rest := []) E (c_Model_use l g n0 mo 0 (nI pn) (nI tn) (nI wn) 1 10 hw1 0 14 hw0 fd_1 hmn) w_967 w_15 w_964 w_966 (bw_s 15 rfl) hd_Model_use rfl ⟨by decide, by decide⟩ (OB.recv E.2.2.2.2.2 (by rfl) hm.1) hm hF hl.1 rfl (Nat.le_of_ble_eq_true rfl) d_Model_checks_69 ⟨by decide, by decide⟩ (qv (fun H4 locs hq hF => ?_))
    obtain ⟨hq, hm⟩ := hq
    have hfr := hfr.tr hq
    refine lv_aload_n hx hb d_Model_checks_72 rfl (lv_at hl 0 rfl) ?_
    refine lv_sipush (v := nI 161) hx hb d_Model_checks_73 (by decide) ?_
    refine lv_sipush (v := nI 166) hx hb d_Model_checks_76 (by decide) ?_
    refine lv_iload_n hx hb d_Model_checks_79 rfl (lv_at hl 2 rfl) ?_
    refine q_cS (rest := [.int (nI 166), .int (nI 161), .ref mo]) E (c_Model_slot l g n0 (nI k2)) w_1154 w_15 w_1152 w_1153 hd_Model_slot rfl ⟨by decide, by decide⟩ trivial hF hl.1 rfl (Nat.le_of_ble_eq_true rfl) d_Model_checks_80 ⟨by decide, by decide⟩ (qi (fun rs H5 locs hq hF => ?_))
    obtain ⟨hrs, hq9⟩ := hq
    subst hrs
    subst hq9
    refine lv_topi (fun t9 e9 => ?_)
    obtain rfl : t9 = nI (32 + 3 * k2) := e9.trans (by rw [pk_mul, nI_add])
    refine q_cV (rest := []) E (c_Model_multiple l g n0 mo 161 166 (32 + 3 * k2) 0 (nI pn) (nI tn) (nI wn) 0 14 hw0 fd_1 (by omega) (by omega) (by omega)) w_1167 w_15 w_1164 w_1166 (bw_s 40 rfl) hd_Model_multiple rfl ⟨by decide, by decide⟩ (OB.recv E.2.2.2.2.2 (by rfl) hm.1) hm hF hl.1 rfl (Nat.le_of_ble_eq_true rfl) d_Model_checks_83 ⟨by decide, by decide⟩ (qv (fun H6 locs hq hF => ?_))
    obtain ⟨hq, fd_2, hm, hS9, hV9⟩ := hq
    have hfr := hfr.tr hq
    refine lv_aload_n hx hb d_Model_checks_86 rfl (lv_at hl 0 rfl) ?_
    refine lv_sipush (v := nI 157) hx hb d_Model_checks_87 (by decide) ?_
    refine lv_iload hx hb d_Model_checks_90 (lv_at hl 4 rfl) ?_
    refine lv_bipush (v := nI 116) hx hb d_Model_checks_92 (by decide) ?_
    refine q_cV (rest := []) E (c_Model_multiple l g n0 mo 157 k4 116 0 (nI pn) (nI tn) (nI wn) 0 14 hw0 fd_2 (by omega) (by omega) (by omega)) w_1167 w_15 w_1164 w_1166 (bw_s 40 rfl) hd_Model_multiple rfl ⟨by decide, by decide⟩ (OB.recv E.2.2.2.2.2 (by rfl) hm.1) hm hF hl.1 rfl (Nat.le_of_ble_eq_true rfl) d_Model_checks_94 ⟨by decide, by decide⟩ (qv (fun H7 locs hq hF => ?_))
    obtain ⟨hq, fd_3, hm, hS9, hV9⟩ := hq
    have hfr := hfr.tr hq
    refine lv_aload_n hx hb d_Model_checks_97 rfl (lv_at hl 0 rfl) ?_
    refine lv_sipush (v := nI 160) hx hb d_Model_checks_98 (by decide) ?_
    refine q_cV (rest := []) E (c_Model_zero l g n0 mo 160 0 (nI pn) (nI tn) (nI wn) 0 14 hw0  fd_3 (by omega) ) w_1000 w_15 w_997 w_999 (bw_s 23 rfl) hd_Model_zero rfl ⟨by decide, by decide⟩ (OB.recv E.2.2.2.2.2 (by rfl) hm.1) hm hF hl.1 rfl (Nat.le_of_ble_eq_true rfl) d_Model_checks_101 ⟨by decide, by decide⟩ (qv (fun H8 locs hq hF => ?_))
    obtain ⟨hq, fd_4, hm, hpv⟩ := hq
    have hfr := hfr.tr hq
    refine lv_aload_n hx hb d_Model_checks_104 rfl (lv_at hl 0 rfl) ?_
    refine lv_sipush (v := nI 158) hx hb d_Model_checks_105 (by decide) ?_
    refine lv_sipush (v := nI 160) hx hb d_Model_checks_108 (by decide) ?_
    refine lv_sipush (v := nI 158) hx hb d_Model_checks_111 (by decide) ?_
    refine q_cV (rest := []) E (c_Model_less l g n0 mo 158 160 158 0 (nI pn) (nI tn) (nI wn) 0 14 hw0  fd_4 (by omega) (by omega) (by omega) ) w_1109 w_15 w_1106 w_1108 (bw_s 31 rfl) hd_Model_less rfl ⟨by decide, by decide⟩ (OB.recv E.2.2.2.2.2 (by rfl) hm.1) hm hF hl.1 rfl (Nat.le_of_ble_eq_true rfl) d_Model_checks_114 ⟨by decide, by decide⟩ (qv (fun H9 locs hq hF => ?_))
    obtain ⟨hq, fd_5, hm, hpv, hv⟩ := hq
    have hfr := hfr.tr (kjR hq)
    refine lv_aload_n hx hb d_Model_checks_117 rfl (lv_at hl 0 rfl) ?_
    refine lv_sipush (v := nI 164) hx hb d_Model_checks_118 (by decide) ?_
    refine lv_iload_n hx hb d_Model_checks_121 rfl (lv_at hl 1 rfl) ?_
    refine q_cS (rest := [.int (nI 164), .ref mo]) E (c_Model_slot l g n0 (nI k1)) w_1154 w_15 w_1152 w_1153 hd_Model_slot rfl ⟨by decide, by decide⟩ trivial hF hl.1 rfl (Nat.le_of_ble_eq_true rfl) d_Model_checks_122 ⟨by decide, by decide⟩ (qi (fun rs H10 locs hq hF => ?_))
    obtain ⟨hrs, hq9⟩ := hq
    subst hrs
    subst hq9
    refine lv_topi (fun t9 e9 => ?_)
    obtain rfl : t9 = nI (32 + 3 * k1) := e9.trans (by rw [pk_mul, nI_add])
    refine lv_sipush (v := nI 157) hx hb d_Model_checks_125 (by decide) ?_
    refine q_cV (rest := []) E (c_Model_sum l g n0 mo 164 (32 + 3 * k1) 157 0 (nI pn) (nI tn) (nI wn) 0 14 hw0 fd_5 (by omega) (by omega) (by omega) False False 0 0 (fun h => h.elim) (fun h => h.elim)) w_1175 w_15 w_1172 w_1174 (bw_s 42 rfl) hd_Model_sum rfl ⟨by decide, by decide⟩ (OB.recv E.2.2.2.2.2 (by rfl) hm.1) hm hF hl.1 rfl (Nat.le_of_ble_eq_true rfl) d_Model_checks_128 ⟨by decide, by decide⟩ (qv (fun H11 locs hq hF => ?_))
    obtain ⟨hq, fd_6, hm, hS9, hC9, hD9⟩ := hq
    have hfr := hfr.tr hq
    refine lv_aload_n hx hb d_Model_checks_131 rfl (lv_at hl 0 rfl) ?_
    refine lv_sipush (v := nI 164) hx hb d_Model_checks_132 (by decide) ?_
    refine lv_sipush (v := nI 161) hx hb d_Model_checks_135 (by decide) ?_
    refine q_cV (rest := []) E (c_Model_alike l g n0 mo 164 161 0 (nI pn) (nI tn) (nI wn) 0 14 hw0 fd_6 (by omega) (by omega)) w_1218 w_15 w_1215 w_1217 (bw_s 46 rfl) hd_Model_alike rfl ⟨by decide, by decide⟩ (OB.recv E.2.2.2.2.2 (by rfl) hm.1) hm hF hl.1 rfl (Nat.le_of_ble_eq_true rfl) d_Model_checks_138 ⟨by decide, by decide⟩ (qi (fun rz1 H12 locs hq hF => ?_))
    obtain ⟨hbrz1, hq, fd_7, hm⟩ := hq
    have hfr := hfr.tr hq
    exact q_zret E hr (by rcases hbrz1.1 with h | h <;> rw [h] <;> rfl) hlk (⟨_, rfl, Or.inl ⟨hok, hP.keep hfr hw0 hm⟩⟩) hF d_Model_checks_141
  refine lv_aload_n hx hb d_Model_checks_0 rfl (lv_at hl 0 rfl) ?_
  refine lv_iload_n hx hb d_Model_checks_1 rfl (lv_at hl 1 rfl) ?_
  refine q_cS (rest := [.ref mo]) E (c_Model_noPoint l g n0 p0 ) w_1151 w_15 w_1149 w_1150 hd_Model_noPoint rfl ⟨by decide, by decide⟩ trivial hF hl.1 rfl (Nat.le_of_ble_eq_true rfl) d_Model_checks_2 ⟨by decide, by decide⟩ (qi (fun r_0 H1 locs hq hF => ?_))
  obtain ⟨h_0, hq⟩ := hq
  subst hq
  rcases h_0 with ⟨rfl, f_0⟩ | ⟨rfl, f_0⟩
  · skip
    refine lv_if_ne (tgt := 38) hx hb d_Model_checks_5 (by decide) (fun _ => ?_) (fun h9 => absurd h9 (by decide))
    refine lv_iconst (v := nI 1) hx hb d_Model_checks_38 (by decide) ?_
    refine lv_goto (tgt := 43) hx hb d_Model_checks_39 (by decide) ?_
    have hl : lv_has ls 6 [(0, .ref mo), (1, .int p0), (2, .int q0), (3, .int z0), (4, .int y0), (5, .int t0)] := lv_sub hl [0, 1, 2, 3, 4, 5] rfl
    exact bad _ ls (fun h => (f_0) h.1) hF hl
  · skip
    refine lv_if_ne (tgt := 38) hx hb d_Model_checks_5 (by decide) (fun h9 => absurd (by decide) h9) (fun _ => ?_)
    refine lv_iload_n hx hb d_Model_checks_8 rfl (lv_at hl 2 rfl) ?_
    refine q_cS (rest := [.ref mo]) E (c_Model_noPoint l g n0 q0 ) w_1151 w_15 w_1149 w_1150 hd_Model_noPoint rfl ⟨by decide, by decide⟩ trivial hF hl.1 rfl (Nat.le_of_ble_eq_true rfl) d_Model_checks_9 ⟨by decide, by decide⟩ (qi (fun r_1 H2 locs hq hF => ?_))
    obtain ⟨h_1, hq⟩ := hq
    subst hq
    rcases h_1 with ⟨rfl, f_1⟩ | ⟨rfl, f_1⟩
    · skip
      refine lv_if_ne (tgt := 38) hx hb d_Model_checks_12 (by decide) (fun _ => ?_) (fun h9 => absurd h9 (by decide))
      refine lv_iconst (v := nI 1) hx hb d_Model_checks_38 (by decide) ?_
      refine lv_goto (tgt := 43) hx hb d_Model_checks_39 (by decide) ?_
      have hl : lv_has ls 6 [(0, .ref mo), (1, .int p0), (2, .int q0), (3, .int z0), (4, .int y0), (5, .int t0)] := lv_sub hl [0, 1, 2, 3, 4, 5] rfl
      exact bad _ ls (fun h => (f_1) h.2.1) hF hl
    · skip
      refine lv_if_ne (tgt := 38) hx hb d_Model_checks_12 (by decide) (fun h9 => absurd (by decide) h9) (fun _ => ?_)
      refine lv_iload_n hx hb d_Model_checks_15 rfl (lv_at hl 3 rfl) ?_
      refine q_cS (rest := [.ref mo]) E (c_Model_noScalar l g n0 z0 ) w_1064 w_15 w_1062 w_1063 hd_Model_noScalar rfl ⟨by decide, by decide⟩ trivial hF hl.1 rfl (Nat.le_of_ble_eq_true rfl) d_Model_checks_16 ⟨by decide, by decide⟩ (qi (fun r_2 H3 locs hq hF => ?_))
      obtain ⟨h_2, hq⟩ := hq
      subst hq
      rcases h_2 with ⟨rfl, f_2⟩ | ⟨rfl, f_2⟩
      · skip
        refine lv_if_ne (tgt := 38) hx hb d_Model_checks_19 (by decide) (fun _ => ?_) (fun h9 => absurd h9 (by decide))
        refine lv_iconst (v := nI 1) hx hb d_Model_checks_38 (by decide) ?_
        refine lv_goto (tgt := 43) hx hb d_Model_checks_39 (by decide) ?_
        have hl : lv_has ls 6 [(0, .ref mo), (1, .int p0), (2, .int q0), (3, .int z0), (4, .int y0), (5, .int t0)] := lv_sub hl [0, 1, 2, 3, 4, 5] rfl
        exact bad _ ls (fun h => (f_2) h.2.2.1) hF hl
      · skip
        refine lv_if_ne (tgt := 38) hx hb d_Model_checks_19 (by decide) (fun h9 => absurd (by decide) h9) (fun _ => ?_)
        refine lv_iload hx hb d_Model_checks_22 (lv_at hl 4 rfl) ?_
        refine q_cS (rest := [.ref mo]) E (c_Model_noScalar l g n0 y0 ) w_1064 w_15 w_1062 w_1063 hd_Model_noScalar rfl ⟨by decide, by decide⟩ trivial hF hl.1 rfl (Nat.le_of_ble_eq_true rfl) d_Model_checks_24 ⟨by decide, by decide⟩ (qi (fun r_3 H4 locs hq hF => ?_))
        obtain ⟨h_3, hq⟩ := hq
        subst hq
        rcases h_3 with ⟨rfl, f_3⟩ | ⟨rfl, f_3⟩
        · skip
          refine lv_if_ne (tgt := 38) hx hb d_Model_checks_27 (by decide) (fun _ => ?_) (fun h9 => absurd h9 (by decide))
          refine lv_iconst (v := nI 1) hx hb d_Model_checks_38 (by decide) ?_
          refine lv_goto (tgt := 43) hx hb d_Model_checks_39 (by decide) ?_
          have hl : lv_has ls 6 [(0, .ref mo), (1, .int p0), (2, .int q0), (3, .int z0), (4, .int y0), (5, .int t0)] := lv_sub hl [0, 1, 2, 3, 4, 5] rfl
          exact bad _ ls (fun h => (f_3) h.2.2.2.1) hF hl
        · skip
          refine lv_if_ne (tgt := 38) hx hb d_Model_checks_27 (by decide) (fun h9 => absurd (by decide) h9) (fun _ => ?_)
          refine lv_iload hx hb d_Model_checks_30 (lv_at hl 5 rfl) ?_
          refine q_cS (rest := [.ref mo]) E (c_Model_noScalar l g n0 t0 ) w_1064 w_15 w_1062 w_1063 hd_Model_noScalar rfl ⟨by decide, by decide⟩ trivial hF hl.1 rfl (Nat.le_of_ble_eq_true rfl) d_Model_checks_32 ⟨by decide, by decide⟩ (qi (fun r_4 H5 locs hq hF => ?_))
          obtain ⟨h_4, hq⟩ := hq
          subst hq
          rcases h_4 with ⟨rfl, f_4⟩ | ⟨rfl, f_4⟩
          · skip
            refine lv_if_eq (tgt := 42) hx hb d_Model_checks_35 (by decide) (fun h9 => absurd h9 (by decide)) (fun _ => ?_)
            refine lv_iconst (v := nI 1) hx hb d_Model_checks_38 (by decide) ?_
            refine lv_goto (tgt := 43) hx hb d_Model_checks_39 (by decide) ?_
            have hl : lv_has ls 6 [(0, .ref mo), (1, .int p0), (2, .int q0), (3, .int z0), (4, .int y0), (5, .int t0)] := lv_sub hl [0, 1, 2, 3, 4, 5] rfl
            exact bad _ ls (fun h => (f_4) h.2.2.2.2) hF hl
          · skip
            refine lv_if_eq (tgt := 42) hx hb d_Model_checks_35 (by decide) (fun _ => ?_) (fun h9 => absurd (by decide) h9)
            refine lv_iconst (v := nI 0) hx hb d_Model_checks_42 (by decide) ?_
            have hl : lv_has ls 6 [(0, .ref mo), (1, .int p0), (2, .int q0), (3, .int z0), (4, .int y0), (5, .int t0)] := lv_sub hl [0, 1, 2, 3, 4, 5] rfl
            exact good _ ls ⟨f_0, f_1, f_2, f_3, f_4⟩ hF hl
set_option maxHeartbeats 4000000 in
set_option maxRecDepth 100000 in
theorem G_Model_join (l : Launch) (g : WG) (n0 : Nat → Prop) (mo : Nat) (th : Int32) (pn tn wn : Nat) (w0 : Int32) (a : Int32) (a2 : Int32) (a3 : Int32) : Ctr l y_Model_join (.code y_Model_join prog_11_method_49_code 5 none) 5 119 0 0 n0 g [.ref mo, .int w0, .int a, .int a2, .int a3] (fun H => MP g n0 H mo th pn tn wn) (QV (fun H H' => ((okC w0 (nI 0) (nI 3) ∧ okP a (nI 1) ∧ okP a2 (nI 1) ∧ okP a3 (nI 1)) ∧ MP g n0 H' mo 0 pn tn wn) ∨ (¬ (okC w0 (nI 0) (nI 3) ∧ okP a (nI 1) ∧ okP a2 (nI 1) ∧ okP a3 (nI 1)) ∧ MP g n0 H' mo 1 pn tn wn))) := by
  refine ctr_mk l (lv0 := [(0, .ref mo), (1, .int w0), (2, .int a), (3, .int a2), (4, .int a3)]) (by decide) (Nat.le_of_ble_eq_true rfl) rfl ?_
  intro p e s m below meth c ls E hr hlk hnm hl hP
  have hx := E.1
  have hb := E.2.1
  have hK := E.2.2.2.2.2
  have hF : ∀ q ∈ ([] : List Loc), n0 q.base := fun q hq => absurd hq List.not_mem_nil
  obtain ⟨⟨w9, n9, fd, hw9, hm⟩, -⟩ := id hP
  have hmn := hP.mn
  have hbd := hP.2.2.2.2.1
  have hfr : FRM (MR mo) s.heap s.heap := FRM.rf
  have bad : ∀ (locs : List Loc) (ls : Array Slot), ¬ (okC w0 (nI 0) (nI 3) ∧ okP a (nI 1) ∧ okP a2 (nI 1) ∧ okP a3 (nI 1)) → (∀ q ∈ locs, n0 q.base) → lv_has ls 5 [(0, .ref mo), (1, .int w0), (2, .int a), (3, .int a2), (4, .int a3)] → W p l e { frames := 5, cells := 0, slots := 0, locals := 119 } s m [.ref mo, .int w0, .int a, .int a2, .int a3].toArray below meth c s.heap locs 0 0 (MQ below (QcP (QV (fun H H' => ((okC w0 (nI 0) (nI 3) ∧ okP a (nI 1) ∧ okP a2 (nI 1) ∧ okP a3 (nI 1)) ∧ MP g n0 H' mo 0 pn tn wn) ∨ (¬ (okC w0 (nI 0) (nI 3) ∧ okP a (nI 1) ∧ okP a2 (nI 1) ∧ okP a3 (nI 1)) ∧ MP g n0 H' mo 1 pn tn wn)))) [.ref mo, .int w0, .int a, .int a2, .int a3].toArray s 0 0 (fun q => n0 q)) (F0 m 40 ls [.int (nI 1), .ref mo]) := by
    intro  locs   ls hno hF hl
    refine lv_iconst (v := nI 1) hx hb d_Model_join_40 (by decide) ?_
    refine q_cV (rest := []) E (c_Model_fails l g n0 mo th (nI pn) (nI tn) (nI wn) w9 n9 hw9 (nI 1) (nI 1) fd hmn (Or.inl rfl)) w_1056 w_15 w_1053 w_1055 (bw_s 24 rfl) hd_Model_fails rfl ⟨by decide, by decide⟩ (OB.recv E.2.2.2.2.2 (by rfl) hm.1) hm hF hl.1 rfl (Nat.le_of_ble_eq_true rfl) d_Model_join_41 ⟨by decide, by decide⟩ (qi (fun rf H1 locs hq hF => ?_))
    obtain ⟨hrf, hq, hm⟩ := hq
    subst hrf
    have hfr := hfr.tr hq
    rw [if_neg (by decide)] at hm
    refine lv_if_eq (tgt := 48) hx hb d_Model_join_44 (by decide) (fun h9 => absurd h9 (by decide)) (fun _ => ?_)
    exact q_vret E hr hlk (⟨rfl, Or.inr ⟨hno, hP.keep hfr hw9 hm⟩⟩) hF d_Model_join_47
  have good : ∀ (locs : List Loc) (ls : Array Slot), okC w0 (nI 0) (nI 3) ∧ okP a (nI 1) ∧ okP a2 (nI 1) ∧ okP a3 (nI 1) → (∀ q ∈ locs, n0 q.base) → lv_has ls 5 [(0, .ref mo), (1, .int w0), (2, .int a), (3, .int a2), (4, .int a3)] → W p l e { frames := 5, cells := 0, slots := 0, locals := 119 } s m [.ref mo, .int w0, .int a, .int a2, .int a3].toArray below meth c s.heap locs 0 0 (MQ below (QcP (QV (fun H H' => ((okC w0 (nI 0) (nI 3) ∧ okP a (nI 1) ∧ okP a2 (nI 1) ∧ okP a3 (nI 1)) ∧ MP g n0 H' mo 0 pn tn wn) ∨ (¬ (okC w0 (nI 0) (nI 3) ∧ okP a (nI 1) ∧ okP a2 (nI 1) ∧ okP a3 (nI 1)) ∧ MP g n0 H' mo 1 pn tn wn)))) [.ref mo, .int w0, .int a, .int a2, .int a3].toArray s 0 0 (fun q => n0 q)) (F0 m 40 ls [.int (nI 0), .ref mo]) := by
    intro  locs   ls hok hF hl
    refine lv_iconst (v := nI 1) hx hb d_Model_join_40 (by decide) ?_
    refine q_cV (rest := []) E (c_Model_fails l g n0 mo th (nI pn) (nI tn) (nI wn) w9 n9 hw9 (nI 0) (nI 1) fd hmn (Or.inr rfl)) w_1056 w_15 w_1053 w_1055 (bw_s 24 rfl) hd_Model_fails rfl ⟨by decide, by decide⟩ (OB.recv E.2.2.2.2.2 (by rfl) hm.1) hm hF hl.1 rfl (Nat.le_of_ble_eq_true rfl) d_Model_join_41 ⟨by decide, by decide⟩ (qi (fun rf H1 locs hq hF => ?_))
    obtain ⟨hrf, hq, hm⟩ := hq
    subst hrf
    have hfr := hfr.tr hq
    rw [if_pos nI_0] at hm
    refine lv_if_eq (tgt := 48) hx hb d_Model_join_44 (by decide) (fun _ => ?_) (fun h9 => absurd (by decide) h9)
    obtain ⟨k0, e_k0, h_k0, h2_k0⟩ := okC_nat (by decide) (by decide) hok.1
    rw [e_k0] at hl
    obtain ⟨k1, e_k1, h_k1⟩ := okP_nat (by decide) (by decide) hok.2.1
    rw [e_k1] at hl
    obtain ⟨k2, e_k2, h_k2⟩ := okP_nat (by decide) (by decide) hok.2.2.1
    rw [e_k2] at hl
    obtain ⟨k3, e_k3, h_k3⟩ := okP_nat (by decide) (by decide) hok.2.2.2
    rw [e_k3] at hl
    obtain ⟨hq9, -⟩ : k0 ≤ 3 ∧ True := ⟨h2_k0, trivial⟩
    match k0, hq9 with
    | 0, _ =>
      refine lv_aload_n hx hb d_Model_join_48 rfl (lv_at hl 0 rfl) ?_
      refine lv_iconst (v := nI 0) hx hb d_Model_join_49 (by decide) ?_
      refine q_cV (rest := []) E (c_Model_use l g n0 mo 0 (nI pn) (nI tn) (nI wn) w9 n9 hw9 0 14 hw0 fd hmn) w_967 w_15 w_964 w_966 (bw_s 15 rfl) hd_Model_use rfl ⟨by decide, by decide⟩ (OB.recv E.2.2.2.2.2 (by rfl) hm.1) hm hF hl.1 rfl (Nat.le_of_ble_eq_true rfl) d_Model_join_50 ⟨by decide, by decide⟩ (qv (fun H2 locs hq hF => ?_))
      obtain ⟨hq, hm⟩ := hq
      have hfr := hfr.tr hq
      refine lv_iload_n hx hb d_Model_join_53 rfl (lv_at hl 1 rfl) ?_
      refine lv_if_ne (tgt := 65) hx hb d_Model_join_54 (by decide) (fun h9 => absurd (by decide) h9) (fun _ => ?_)
      refine lv_aload_n hx hb d_Model_join_57 rfl (lv_at hl 0 rfl) ?_
      refine lv_iload_n hx hb d_Model_join_58 rfl (lv_at hl 2 rfl) ?_
      refine q_cS (rest := [.ref mo]) E (c_Model_slot l g n0 (nI k1)) w_1154 w_15 w_1152 w_1153 hd_Model_slot rfl ⟨by decide, by decide⟩ trivial hF hl.1 rfl (Nat.le_of_ble_eq_true rfl) d_Model_join_59 ⟨by decide, by decide⟩ (qi (fun rs H3 locs hq hF => ?_))
      obtain ⟨hrs, hq9⟩ := hq
      subst hrs
      subst hq9
      refine lv_topi (fun t9 e9 => ?_)
      obtain rfl : t9 = nI (32 + 3 * k1) := e9.trans (by rw [pk_mul, nI_add])
      refine q_cV (rest := []) E (c_Model_nothing l g n0 mo (32 + 3 * k1) 0 (nI pn) (nI tn) (nI wn) 0 14 hw0 fd (by omega)) w_996 w_15 w_993 w_995 (bw_s 22 rfl) hd_Model_nothing rfl ⟨by decide, by decide⟩ (OB.recv E.2.2.2.2.2 (by rfl) hm.1) hm hF hl.1 rfl (Nat.le_of_ble_eq_true rfl) d_Model_join_62 ⟨by decide, by decide⟩ (qv (fun H4 locs hq hF => ?_))
      obtain ⟨hq, fd_1, hm, hS9, hz1, hone, hz2⟩ := hq
      have hfr := hfr.tr hq
      refine lv_iload_n hx hb d_Model_join_65 rfl (lv_at hl 1 rfl) ?_
      refine lv_iconst (v := nI 1) hx hb d_Model_join_66 (by decide) ?_
      refine lv_icmp_ne (tgt := 80) hx hb d_Model_join_67 (by decide) (fun _ => ?_) (fun h9 => absurd h9 (by decide))
      refine lv_iload_n hx hb d_Model_join_80 rfl (lv_at hl 1 rfl) ?_
      refine lv_iconst (v := nI 2) hx hb d_Model_join_81 (by decide) ?_
      refine lv_icmp_ge (tgt := 86) hx hb d_Model_join_82 (by decide) (fun h9 => absurd h9 (by decide)) (fun _ => ?_)
      exact q_vret E hr hlk (⟨rfl, Or.inl ⟨hok, hP.keep hfr hw0 hm⟩⟩) hF d_Model_join_85
    | 1, _ =>
      refine lv_aload_n hx hb d_Model_join_48 rfl (lv_at hl 0 rfl) ?_
      refine lv_iconst (v := nI 0) hx hb d_Model_join_49 (by decide) ?_
      refine q_cV (rest := []) E (c_Model_use l g n0 mo 0 (nI pn) (nI tn) (nI wn) w9 n9 hw9 0 14 hw0 fd hmn) w_967 w_15 w_964 w_966 (bw_s 15 rfl) hd_Model_use rfl ⟨by decide, by decide⟩ (OB.recv E.2.2.2.2.2 (by rfl) hm.1) hm hF hl.1 rfl (Nat.le_of_ble_eq_true rfl) d_Model_join_50 ⟨by decide, by decide⟩ (qv (fun H2 locs hq hF => ?_))
      obtain ⟨hq, hm⟩ := hq
      have hfr := hfr.tr hq
      refine lv_iload_n hx hb d_Model_join_53 rfl (lv_at hl 1 rfl) ?_
      refine lv_if_ne (tgt := 65) hx hb d_Model_join_54 (by decide) (fun _ => ?_) (fun h9 => absurd h9 (by decide))
      refine lv_iload_n hx hb d_Model_join_65 rfl (lv_at hl 1 rfl) ?_
      refine lv_iconst (v := nI 1) hx hb d_Model_join_66 (by decide) ?_
      refine lv_icmp_ne (tgt := 80) hx hb d_Model_join_67 (by decide) (fun h9 => absurd (by decide) h9) (fun _ => ?_)
      refine lv_aload_n hx hb d_Model_join_70 rfl (lv_at hl 0 rfl) ?_
      refine lv_iload_n hx hb d_Model_join_71 rfl (lv_at hl 2 rfl) ?_
      refine q_cS (rest := [.ref mo]) E (c_Model_slot l g n0 (nI k1)) w_1154 w_15 w_1152 w_1153 hd_Model_slot rfl ⟨by decide, by decide⟩ trivial hF hl.1 rfl (Nat.le_of_ble_eq_true rfl) d_Model_join_72 ⟨by decide, by decide⟩ (qi (fun rs H3 locs hq hF => ?_))
      obtain ⟨hrs, hq9⟩ := hq
      subst hrs
      subst hq9
      refine lv_topi (fun t9 e9 => ?_)
      obtain rfl : t9 = nI (32 + 3 * k1) := e9.trans (by rw [pk_mul, nI_add])
      refine lv_bipush (v := nI 116) hx hb d_Model_join_75 (by decide) ?_
      refine q_cV (rest := []) E (c_Model_movePoint l g n0 mo (32 + 3 * k1) 116 0 (nI pn) (nI tn) (nI wn) 0 14 hw0 fd (by omega) (by omega) (by omega)) w_1171 w_15 w_1168 w_1170 (bw_s 41 rfl) hd_Model_movePoint rfl ⟨by decide, by decide⟩ (OB.recv E.2.2.2.2.2 (by rfl) hm.1) hm hF hl.1 rfl (Nat.le_of_ble_eq_true rfl) d_Model_join_77 ⟨by decide, by decide⟩ (qv (fun H4 locs hq hF => ?_))
      obtain ⟨hq, fd_2, hm, hS9, hcp⟩ := hq
      have hfr := hfr.tr hq
      refine lv_iload_n hx hb d_Model_join_80 rfl (lv_at hl 1 rfl) ?_
      refine lv_iconst (v := nI 2) hx hb d_Model_join_81 (by decide) ?_
      refine lv_icmp_ge (tgt := 86) hx hb d_Model_join_82 (by decide) (fun h9 => absurd h9 (by decide)) (fun _ => ?_)
      exact q_vret E hr hlk (⟨rfl, Or.inl ⟨hok, hP.keep hfr hw0 hm⟩⟩) hF d_Model_join_85
    | 2, _ =>
      refine lv_aload_n hx hb d_Model_join_48 rfl (lv_at hl 0 rfl) ?_
      refine lv_iconst (v := nI 0) hx hb d_Model_join_49 (by decide) ?_
      refine q_cV (rest := []) E (c_Model_use l g n0 mo 0 (nI pn) (nI tn) (nI wn) w9 n9 hw9 0 14 hw0 fd hmn) w_967 w_15 w_964 w_966 (bw_s 15 rfl) hd_Model_use rfl ⟨by decide, by decide⟩ (OB.recv E.2.2.2.2.2 (by rfl) hm.1) hm hF hl.1 rfl (Nat.le_of_ble_eq_true rfl) d_Model_join_50 ⟨by decide, by decide⟩ (qv (fun H2 locs hq hF => ?_))
      obtain ⟨hq, hm⟩ := hq
      have hfr := hfr.tr hq
      refine lv_iload_n hx hb d_Model_join_53 rfl (lv_at hl 1 rfl) ?_
      refine lv_if_ne (tgt := 65) hx hb d_Model_join_54 (by decide) (fun _ => ?_) (fun h9 => absurd h9 (by decide))
      refine lv_iload_n hx hb d_Model_join_65 rfl (lv_at hl 1 rfl) ?_
      refine lv_iconst (v := nI 1) hx hb d_Model_join_66 (by decide) ?_
      refine lv_icmp_ne (tgt := 80) hx hb d_Model_join_67 (by decide) (fun _ => ?_) (fun h9 => absurd h9 (by decide))
      refine lv_iload_n hx hb d_Model_join_80 rfl (lv_at hl 1 rfl) ?_
      refine lv_iconst (v := nI 2) hx hb d_Model_join_81 (by decide) ?_
      refine lv_icmp_ge (tgt := 86) hx hb d_Model_join_82 (by decide) (fun _ => ?_) (fun h9 => absurd (by decide) h9)
      refine lv_aload_n hx hb d_Model_join_86 rfl (lv_at hl 0 rfl) ?_
      refine lv_sipush (v := nI 157) hx hb d_Model_join_87 (by decide) ?_
      refine lv_iload hx hb d_Model_join_90 (lv_at hl 4 rfl) ?_
      refine q_cS (rest := [.int (nI 157), .ref mo]) E (c_Model_slot l g n0 (nI k3)) w_1154 w_15 w_1152 w_1153 hd_Model_slot rfl ⟨by decide, by decide⟩ trivial hF hl.1 rfl (Nat.le_of_ble_eq_true rfl) d_Model_join_92 ⟨by decide, by decide⟩ (qi (fun rs H3 locs hq hF => ?_))
      obtain ⟨hrs, hq9⟩ := hq
      subst hrs
      subst hq9
      refine lv_topi (fun t9 e9 => ?_)
      obtain rfl : t9 = nI (32 + 3 * k3) := e9.trans (by rw [pk_mul, nI_add])
      refine q_cV (rest := []) E (c_Model_movePoint l g n0 mo 157 (32 + 3 * k3) 0 (nI pn) (nI tn) (nI wn) 0 14 hw0 fd (by omega) (by omega) (by omega)) w_1171 w_15 w_1168 w_1170 (bw_s 41 rfl) hd_Model_movePoint rfl ⟨by decide, by decide⟩ (OB.recv E.2.2.2.2.2 (by rfl) hm.1) hm hF hl.1 rfl (Nat.le_of_ble_eq_true rfl) d_Model_join_95 ⟨by decide, by decide⟩ (qv (fun H4 locs hq hF => ?_))
      obtain ⟨hq, fd_3, hm, hS9, hcp⟩ := hq
      have hfr := hfr.tr hq
      refine lv_aload_n hx hb d_Model_join_98 rfl (lv_at hl 0 rfl) ?_
      refine lv_sipush (v := nI 160) hx hb d_Model_join_99 (by decide) ?_
      refine q_cV (rest := []) E (c_Model_zero l g n0 mo 160 0 (nI pn) (nI tn) (nI wn) 0 14 hw0  fd_3 (by omega) ) w_1000 w_15 w_997 w_999 (bw_s 23 rfl) hd_Model_zero rfl ⟨by decide, by decide⟩ (OB.recv E.2.2.2.2.2 (by rfl) hm.1) hm hF hl.1 rfl (Nat.le_of_ble_eq_true rfl) d_Model_join_102 ⟨by decide, by decide⟩ (qv (fun H5 locs hq hF => ?_))
      obtain ⟨hq, fd_4, hm, hpv⟩ := hq
      have hfr := hfr.tr hq
      refine lv_iload_n hx hb d_Model_join_105 rfl (lv_at hl 1 rfl) ?_
      refine lv_iconst (v := nI 3) hx hb d_Model_join_106 (by decide) ?_
      refine lv_icmp_ne (tgt := 123) hx hb d_Model_join_107 (by decide) (fun _ => ?_) (fun h9 => absurd h9 (by decide))
      refine lv_aload_n hx hb d_Model_join_123 rfl (lv_at hl 0 rfl) ?_
      refine lv_sipush (v := nI 161) hx hb d_Model_join_124 (by decide) ?_
      refine lv_iload_n hx hb d_Model_join_127 rfl (lv_at hl 3 rfl) ?_
      refine q_cS (rest := [.int (nI 161), .ref mo]) E (c_Model_slot l g n0 (nI k2)) w_1154 w_15 w_1152 w_1153 hd_Model_slot rfl ⟨by decide, by decide⟩ trivial hF hl.1 rfl (Nat.le_of_ble_eq_true rfl) d_Model_join_128 ⟨by decide, by decide⟩ (qi (fun rs H6 locs hq hF => ?_))
      obtain ⟨hrs, hq9⟩ := hq
      subst hrs
      subst hq9
      refine lv_topi (fun t9 e9 => ?_)
      obtain rfl : t9 = nI (32 + 3 * k2) := e9.trans (by rw [pk_mul, nI_add])
      refine lv_sipush (v := nI 157) hx hb d_Model_join_131 (by decide) ?_
      refine q_cV (rest := []) E (c_Model_sum l g n0 mo 161 (32 + 3 * k2) 157 0 (nI pn) (nI tn) (nI wn) 0 14 hw0 fd_4 (by omega) (by omega) (by omega) False False 0 0 (fun h => h.elim) (fun h => h.elim)) w_1175 w_15 w_1172 w_1174 (bw_s 42 rfl) hd_Model_sum rfl ⟨by decide, by decide⟩ (OB.recv E.2.2.2.2.2 (by rfl) hm.1) hm hF hl.1 rfl (Nat.le_of_ble_eq_true rfl) d_Model_join_134 ⟨by decide, by decide⟩ (qv (fun H7 locs hq hF => ?_))
      obtain ⟨hq, fd_5, hm, hS9, hC9, hD9⟩ := hq
      have hfr := hfr.tr hq
      refine lv_aload_n hx hb d_Model_join_137 rfl (lv_at hl 0 rfl) ?_
      refine lv_iload_n hx hb d_Model_join_138 rfl (lv_at hl 2 rfl) ?_
      refine q_cS (rest := [.ref mo]) E (c_Model_slot l g n0 (nI k1)) w_1154 w_15 w_1152 w_1153 hd_Model_slot rfl ⟨by decide, by decide⟩ trivial hF hl.1 rfl (Nat.le_of_ble_eq_true rfl) d_Model_join_139 ⟨by decide, by decide⟩ (qi (fun rs H8 locs hq hF => ?_))
      obtain ⟨hrs, hq9⟩ := hq
      subst hrs
      subst hq9
      refine lv_topi (fun t9 e9 => ?_)
      obtain rfl : t9 = nI (32 + 3 * k1) := e9.trans (by rw [pk_mul, nI_add])
      refine lv_sipush (v := nI 161) hx hb d_Model_join_142 (by decide) ?_
      refine q_cV (rest := []) E (c_Model_movePoint l g n0 mo (32 + 3 * k1) 161 0 (nI pn) (nI tn) (nI wn) 0 14 hw0 fd_5 (by omega) (by omega) (by omega)) w_1171 w_15 w_1168 w_1170 (bw_s 41 rfl) hd_Model_movePoint rfl ⟨by decide, by decide⟩ (OB.recv E.2.2.2.2.2 (by rfl) hm.1) hm hF hl.1 rfl (Nat.le_of_ble_eq_true rfl) d_Model_join_145 ⟨by decide, by decide⟩ (qv (fun H9 locs hq hF => ?_))
      obtain ⟨hq, fd_6, hm, hS9, hcp⟩ := hq
      have hfr := hfr.tr hq
      exact q_vret E hr hlk (⟨rfl, Or.inl ⟨hok, hP.keep hfr hw0 hm⟩⟩) hF d_Model_join_148
    | 3, _ =>
      refine lv_aload_n hx hb d_Model_join_48 rfl (lv_at hl 0 rfl) ?_
      refine lv_iconst (v := nI 0) hx hb d_Model_join_49 (by decide) ?_
      refine q_cV (rest := []) E (c_Model_use l g n0 mo 0 (nI pn) (nI tn) (nI wn) w9 n9 hw9 0 14 hw0 fd hmn) w_967 w_15 w_964 w_966 (bw_s 15 rfl) hd_Model_use rfl ⟨by decide, by decide⟩ (OB.recv E.2.2.2.2.2 (by rfl) hm.1) hm hF hl.1 rfl (Nat.le_of_ble_eq_true rfl) d_Model_join_50 ⟨by decide, by decide⟩ (qv (fun H2 locs hq hF => ?_))
      obtain ⟨hq, hm⟩ := hq
      have hfr := hfr.tr hq
      refine lv_iload_n hx hb d_Model_join_53 rfl (lv_at hl 1 rfl) ?_
      refine lv_if_ne (tgt := 65) hx hb d_Model_join_54 (by decide) (fun _ => ?_) (fun h9 => absurd h9 (by decide))
      refine lv_iload_n hx hb d_Model_join_65 rfl (lv_at hl 1 rfl) ?_
      refine lv_iconst (v := nI 1) hx hb d_Model_join_66 (by decide) ?_
      refine lv_icmp_ne (tgt := 80) hx hb d_Model_join_67 (by decide) (fun _ => ?_) (fun h9 => absurd h9 (by decide))
      refine lv_iload_n hx hb d_Model_join_80 rfl (lv_at hl 1 rfl) ?_
      refine lv_iconst (v := nI 2) hx hb d_Model_join_81 (by decide) ?_
      refine lv_icmp_ge (tgt := 86) hx hb d_Model_join_82 (by decide) (fun _ => ?_) (fun h9 => absurd (by decide) h9)
      refine lv_aload_n hx hb d_Model_join_86 rfl (lv_at hl 0 rfl) ?_
      refine lv_sipush (v := nI 157) hx hb d_Model_join_87 (by decide) ?_
      refine lv_iload hx hb d_Model_join_90 (lv_at hl 4 rfl) ?_
      refine q_cS (rest := [.int (nI 157), .ref mo]) E (c_Model_slot l g n0 (nI k3)) w_1154 w_15 w_1152 w_1153 hd_Model_slot rfl ⟨by decide, by decide⟩ trivial hF hl.1 rfl (Nat.le_of_ble_eq_true rfl) d_Model_join_92 ⟨by decide, by decide⟩ (qi (fun rs H3 locs hq hF => ?_))
      obtain ⟨hrs, hq9⟩ := hq
      subst hrs
      subst hq9
      refine lv_topi (fun t9 e9 => ?_)
      obtain rfl : t9 = nI (32 + 3 * k3) := e9.trans (by rw [pk_mul, nI_add])
      refine q_cV (rest := []) E (c_Model_movePoint l g n0 mo 157 (32 + 3 * k3) 0 (nI pn) (nI tn) (nI wn) 0 14 hw0 fd (by omega) (by omega) (by omega)) w_1171 w_15 w_1168 w_1170 (bw_s 41 rfl) hd_Model_movePoint rfl ⟨by decide, by decide⟩ (OB.recv E.2.2.2.2.2 (by rfl) hm.1) hm hF hl.1 rfl (Nat.le_of_ble_eq_true rfl) d_Model_join_95 ⟨by decide, by decide⟩ (qv (fun H4 locs hq hF => ?_))
      obtain ⟨hq, fd_7, hm, hS9, hcp⟩ := hq
      have hfr := hfr.tr hq
      refine lv_aload_n hx hb d_Model_join_98 rfl (lv_at hl 0 rfl) ?_
      refine lv_sipush (v := nI 160) hx hb d_Model_join_99 (by decide) ?_
      refine q_cV (rest := []) E (c_Model_zero l g n0 mo 160 0 (nI pn) (nI tn) (nI wn) 0 14 hw0  fd_7 (by omega) ) w_1000 w_15 w_997 w_999 (bw_s 23 rfl) hd_Model_zero rfl ⟨by decide, by decide⟩ (OB.recv E.2.2.2.2.2 (by rfl) hm.1) hm hF hl.1 rfl (Nat.le_of_ble_eq_true rfl) d_Model_join_102 ⟨by decide, by decide⟩ (qv (fun H5 locs hq hF => ?_))
      obtain ⟨hq, fd_8, hm, hpv⟩ := hq
      have hfr := hfr.tr hq
      refine lv_iload_n hx hb d_Model_join_105 rfl (lv_at hl 1 rfl) ?_
      refine lv_iconst (v := nI 3) hx hb d_Model_join_106 (by decide) ?_
      refine lv_icmp_ne (tgt := 123) hx hb d_Model_join_107 (by decide) (fun h9 => absurd (by decide) h9) (fun _ => ?_)
      refine lv_aload_n hx hb d_Model_join_110 rfl (lv_at hl 0 rfl) ?_
      refine lv_sipush (v := nI 158) hx hb d_Model_join_111 (by decide) ?_
      refine lv_sipush (v := nI 160) hx hb d_Model_join_114 (by decide) ?_
      refine lv_sipush (v := nI 158) hx hb d_Model_join_117 (by decide) ?_
      refine q_cV (rest := []) E (c_Model_less l g n0 mo 158 160 158 0 (nI pn) (nI tn) (nI wn) 0 14 hw0  fd_8 (by omega) (by omega) (by omega) ) w_1109 w_15 w_1106 w_1108 (bw_s 31 rfl) hd_Model_less rfl ⟨by decide, by decide⟩ (OB.recv E.2.2.2.2.2 (by rfl) hm.1) hm hF hl.1 rfl (Nat.le_of_ble_eq_true rfl) d_Model_join_120 ⟨by decide, by decide⟩ (qv (fun H6 locs hq hF => ?_))
      obtain ⟨hq, fd_9, hm, hpv, hv⟩ := hq
      have hfr := hfr.tr (kjR hq)
      refine lv_aload_n hx hb d_Model_join_123 rfl (lv_at hl 0 rfl) ?_
      refine lv_sipush (v := nI 161) hx hb d_Model_join_124 (by decide) ?_
      refine lv_iload_n hx hb d_Model_join_127 rfl (lv_at hl 3 rfl) ?_
      refine q_cS (rest := [.int (nI 161), .ref mo]) E (c_Model_slot l g n0 (nI k2)) w_1154 w_15 w_1152 w_1153 hd_Model_slot rfl ⟨by decide, by decide⟩ trivial hF hl.1 rfl (Nat.le_of_ble_eq_true rfl) d_Model_join_128 ⟨by decide, by decide⟩ (qi (fun rs H7 locs hq hF => ?_))
      obtain ⟨hrs, hq9⟩ := hq
      subst hrs
      subst hq9
      refine lv_topi (fun t9 e9 => ?_)
      obtain rfl : t9 = nI (32 + 3 * k2) := e9.trans (by rw [pk_mul, nI_add])
      refine lv_sipush (v := nI 157) hx hb d_Model_join_131 (by decide) ?_
      refine q_cV (rest := []) E (c_Model_sum l g n0 mo 161 (32 + 3 * k2) 157 0 (nI pn) (nI tn) (nI wn) 0 14 hw0 fd_9 (by omega) (by omega) (by omega) False False 0 0 (fun h => h.elim) (fun h => h.elim)) w_1175 w_15 w_1172 w_1174 (bw_s 42 rfl) hd_Model_sum rfl ⟨by decide, by decide⟩ (OB.recv E.2.2.2.2.2 (by rfl) hm.1) hm hF hl.1 rfl (Nat.le_of_ble_eq_true rfl) d_Model_join_134 ⟨by decide, by decide⟩ (qv (fun H8 locs hq hF => ?_))
      obtain ⟨hq, fd_10, hm, hS9, hC9, hD9⟩ := hq
      have hfr := hfr.tr hq
      refine lv_aload_n hx hb d_Model_join_137 rfl (lv_at hl 0 rfl) ?_
      refine lv_iload_n hx hb d_Model_join_138 rfl (lv_at hl 2 rfl) ?_
      refine q_cS (rest := [.ref mo]) E (c_Model_slot l g n0 (nI k1)) w_1154 w_15 w_1152 w_1153 hd_Model_slot rfl ⟨by decide, by decide⟩ trivial hF hl.1 rfl (Nat.le_of_ble_eq_true rfl) d_Model_join_139 ⟨by decide, by decide⟩ (qi (fun rs H9 locs hq hF => ?_))
      obtain ⟨hrs, hq9⟩ := hq
      subst hrs
      subst hq9
      refine lv_topi (fun t9 e9 => ?_)
      obtain rfl : t9 = nI (32 + 3 * k1) := e9.trans (by rw [pk_mul, nI_add])
      refine lv_sipush (v := nI 161) hx hb d_Model_join_142 (by decide) ?_
      refine q_cV (rest := []) E (c_Model_movePoint l g n0 mo (32 + 3 * k1) 161 0 (nI pn) (nI tn) (nI wn) 0 14 hw0 fd_10 (by omega) (by omega) (by omega)) w_1171 w_15 w_1168 w_1170 (bw_s 41 rfl) hd_Model_movePoint rfl ⟨by decide, by decide⟩ (OB.recv E.2.2.2.2.2 (by rfl) hm.1) hm hF hl.1 rfl (Nat.le_of_ble_eq_true rfl) d_Model_join_145 ⟨by decide, by decide⟩ (qv (fun H10 locs hq hF => ?_))
      obtain ⟨hq, fd_11, hm, hS9, hcp⟩ := hq
      have hfr := hfr.tr hq
      exact q_vret E hr hlk (⟨rfl, Or.inl ⟨hok, hP.keep hfr hw0 hm⟩⟩) hF d_Model_join_148
  refine lv_aload_n hx hb d_Model_join_0 rfl (lv_at hl 0 rfl) ?_
  refine lv_iload_n hx hb d_Model_join_1 rfl (lv_at hl 1 rfl) ?_
  refine lv_i2l (v := w0.toInt64) hx hb d_Model_join_2 rfl ?_
  refine lv_lconst (v := 0) hx hb d_Model_join_3 (by decide) ?_
  refine lv_ldc2 (v := 3) hx hb E.2.2.2.1 (E.2.2.2.2.1 _ w_1098) d_Model_join_4 ?_
  refine q_cS (rest := [.ref mo]) E (c_Model_in l g n0 w0.toInt64 0 3 ) w_1101 w_15 w_1099 w_1100 hd_Model_in rfl ⟨by decide, by decide⟩ trivial hF hl.1 rfl (Nat.le_of_ble_eq_true rfl) d_Model_join_7 ⟨by decide, by decide⟩ (qi (fun r_0 H1 locs hq hF => ?_))
  obtain ⟨h_0, hq⟩ := hq
  subst hq
  rcases h_0 with ⟨rfl, f_0⟩ | ⟨rfl, f_0⟩
  · skip
    refine lv_if_eq (tgt := 35) hx hb d_Model_join_10 (by decide) (fun _ => ?_) (fun h9 => absurd (by decide) h9)
    refine lv_iconst (v := nI 1) hx hb d_Model_join_35 (by decide) ?_
    refine lv_goto (tgt := 40) hx hb d_Model_join_36 (by decide) ?_
    have hl : lv_has ls 5 [(0, .ref mo), (1, .int w0), (2, .int a), (3, .int a2), (4, .int a3)] := lv_sub hl [0, 1, 2, 3, 4] rfl
    exact bad _ ls (fun h => (fun q => f_0 ((in_okC (a := 0) (b := 3) (by decide) (by decide) (by decide) (by decide)).mpr q)) h.1) hF hl
  · skip
    refine lv_if_eq (tgt := 35) hx hb d_Model_join_10 (by decide) (fun h9 => absurd h9 (by decide)) (fun _ => ?_)
    refine lv_iload_n hx hb d_Model_join_13 rfl (lv_at hl 2 rfl) ?_
    refine q_cS (rest := [.ref mo]) E (c_Model_noPoint l g n0 a ) w_1151 w_15 w_1149 w_1150 hd_Model_noPoint rfl ⟨by decide, by decide⟩ trivial hF hl.1 rfl (Nat.le_of_ble_eq_true rfl) d_Model_join_14 ⟨by decide, by decide⟩ (qi (fun r_1 H2 locs hq hF => ?_))
    obtain ⟨h_1, hq⟩ := hq
    subst hq
    rcases h_1 with ⟨rfl, f_1⟩ | ⟨rfl, f_1⟩
    · skip
      refine lv_if_ne (tgt := 35) hx hb d_Model_join_17 (by decide) (fun _ => ?_) (fun h9 => absurd h9 (by decide))
      refine lv_iconst (v := nI 1) hx hb d_Model_join_35 (by decide) ?_
      refine lv_goto (tgt := 40) hx hb d_Model_join_36 (by decide) ?_
      have hl : lv_has ls 5 [(0, .ref mo), (1, .int w0), (2, .int a), (3, .int a2), (4, .int a3)] := lv_sub hl [0, 1, 2, 3, 4] rfl
      exact bad _ ls (fun h => (f_1) h.2.1) hF hl
    · skip
      refine lv_if_ne (tgt := 35) hx hb d_Model_join_17 (by decide) (fun h9 => absurd (by decide) h9) (fun _ => ?_)
      refine lv_iload_n hx hb d_Model_join_20 rfl (lv_at hl 3 rfl) ?_
      refine q_cS (rest := [.ref mo]) E (c_Model_noPoint l g n0 a2 ) w_1151 w_15 w_1149 w_1150 hd_Model_noPoint rfl ⟨by decide, by decide⟩ trivial hF hl.1 rfl (Nat.le_of_ble_eq_true rfl) d_Model_join_21 ⟨by decide, by decide⟩ (qi (fun r_2 H3 locs hq hF => ?_))
      obtain ⟨h_2, hq⟩ := hq
      subst hq
      rcases h_2 with ⟨rfl, f_2⟩ | ⟨rfl, f_2⟩
      · skip
        refine lv_if_ne (tgt := 35) hx hb d_Model_join_24 (by decide) (fun _ => ?_) (fun h9 => absurd h9 (by decide))
        refine lv_iconst (v := nI 1) hx hb d_Model_join_35 (by decide) ?_
        refine lv_goto (tgt := 40) hx hb d_Model_join_36 (by decide) ?_
        have hl : lv_has ls 5 [(0, .ref mo), (1, .int w0), (2, .int a), (3, .int a2), (4, .int a3)] := lv_sub hl [0, 1, 2, 3, 4] rfl
        exact bad _ ls (fun h => (f_2) h.2.2.1) hF hl
      · skip
        refine lv_if_ne (tgt := 35) hx hb d_Model_join_24 (by decide) (fun h9 => absurd (by decide) h9) (fun _ => ?_)
        refine lv_iload hx hb d_Model_join_27 (lv_at hl 4 rfl) ?_
        refine q_cS (rest := [.ref mo]) E (c_Model_noPoint l g n0 a3 ) w_1151 w_15 w_1149 w_1150 hd_Model_noPoint rfl ⟨by decide, by decide⟩ trivial hF hl.1 rfl (Nat.le_of_ble_eq_true rfl) d_Model_join_29 ⟨by decide, by decide⟩ (qi (fun r_3 H4 locs hq hF => ?_))
        obtain ⟨h_3, hq⟩ := hq
        subst hq
        rcases h_3 with ⟨rfl, f_3⟩ | ⟨rfl, f_3⟩
        · skip
          refine lv_if_eq (tgt := 39) hx hb d_Model_join_32 (by decide) (fun h9 => absurd h9 (by decide)) (fun _ => ?_)
          refine lv_iconst (v := nI 1) hx hb d_Model_join_35 (by decide) ?_
          refine lv_goto (tgt := 40) hx hb d_Model_join_36 (by decide) ?_
          have hl : lv_has ls 5 [(0, .ref mo), (1, .int w0), (2, .int a), (3, .int a2), (4, .int a3)] := lv_sub hl [0, 1, 2, 3, 4] rfl
          exact bad _ ls (fun h => (f_3) h.2.2.2) hF hl
        · skip
          refine lv_if_eq (tgt := 39) hx hb d_Model_join_32 (by decide) (fun _ => ?_) (fun h9 => absurd (by decide) h9)
          refine lv_iconst (v := nI 0) hx hb d_Model_join_39 (by decide) ?_
          have hl : lv_has ls 5 [(0, .ref mo), (1, .int w0), (2, .int a), (3, .int a2), (4, .int a3)] := lv_sub hl [0, 1, 2, 3, 4] rfl
          exact good _ ls ⟨(in_okC (a := 0) (b := 3) (by decide) (by decide) (by decide) (by decide)).mp f_0, f_1, f_2, f_3⟩ hF hl
set_option maxHeartbeats 4000000 in
set_option maxRecDepth 100000 in
theorem G_Model_lagrange (l : Launch) (g : WG) (n0 : Nat → Prop) (mo : Nat) (th : Int32) (pn tn wn : Nat) (a : Int32) (kv : Int32) (iv : Int32) (z0 : Int32) : Ctr l y_Model_lagrange (.code y_Model_lagrange prog_11_method_60_code 5 none) 5 125 0 0 n0 g [.ref mo, .int a, .int kv, .int iv, .int z0] (fun H => MP g n0 H mo th pn tn wn) (QV (fun H H' => ((okS a (nI 1) ∧ okC kv (nI 0) (nI 4) ∧ ((0 : Int64).toInt ≤ iv.toInt64.toInt ∧ iv.toInt64.toInt ≤ ((nI 1 <<< ((kv &&& nI 7) &&& 31)) - nI 1).toInt64.toInt) ∧ okS z0 (nI 1)) ∧ MP g n0 H' mo 0 pn tn wn) ∨ (¬ (okS a (nI 1) ∧ okC kv (nI 0) (nI 4) ∧ ((0 : Int64).toInt ≤ iv.toInt64.toInt ∧ iv.toInt64.toInt ≤ ((nI 1 <<< ((kv &&& nI 7) &&& 31)) - nI 1).toInt64.toInt) ∧ okS z0 (nI 1)) ∧ MP g n0 H' mo 1 pn tn wn))) := by
  refine ctr_mk l (lv0 := [(0, .ref mo), (1, .int a), (2, .int kv), (3, .int iv), (4, .int z0)]) (by decide) (Nat.le_of_ble_eq_true rfl) rfl ?_
  intro p e s m below meth c ls E hr hlk hnm hl hP
  have hx := E.1
  have hb := E.2.1
  have hK := E.2.2.2.2.2
  have hF : ∀ q ∈ ([] : List Loc), n0 q.base := fun q hq => absurd hq List.not_mem_nil
  obtain ⟨⟨w9, n9, fd, hw9, hm⟩, -⟩ := id hP
  have hmn := hP.mn
  have hbd := hP.2.2.2.2.1
  have hfr : FRM (MR mo) s.heap s.heap := FRM.rf
  have bad : ∀ (locs : List Loc) (ls : Array Slot), ¬ (okS a (nI 1) ∧ okC kv (nI 0) (nI 4) ∧ ((0 : Int64).toInt ≤ iv.toInt64.toInt ∧ iv.toInt64.toInt ≤ ((nI 1 <<< ((kv &&& nI 7) &&& 31)) - nI 1).toInt64.toInt) ∧ okS z0 (nI 1)) → (∀ q ∈ locs, n0 q.base) → lv_has ls 5 [(0, .ref mo), (1, .int a), (2, .int kv), (3, .int iv), (4, .int z0)] → W p l e { frames := 5, cells := 0, slots := 0, locals := 125 } s m [.ref mo, .int a, .int kv, .int iv, .int z0].toArray below meth c s.heap locs 0 0 (MQ below (QcP (QV (fun H H' => ((okS a (nI 1) ∧ okC kv (nI 0) (nI 4) ∧ ((0 : Int64).toInt ≤ iv.toInt64.toInt ∧ iv.toInt64.toInt ≤ ((nI 1 <<< ((kv &&& nI 7) &&& 31)) - nI 1).toInt64.toInt) ∧ okS z0 (nI 1)) ∧ MP g n0 H' mo 0 pn tn wn) ∨ (¬ (okS a (nI 1) ∧ okC kv (nI 0) (nI 4) ∧ ((0 : Int64).toInt ≤ iv.toInt64.toInt ∧ iv.toInt64.toInt ≤ ((nI 1 <<< ((kv &&& nI 7) &&& 31)) - nI 1).toInt64.toInt) ∧ okS z0 (nI 1)) ∧ MP g n0 H' mo 1 pn tn wn)))) [.ref mo, .int a, .int kv, .int iv, .int z0].toArray s 0 0 (fun q => n0 q)) (F0 m 51 ls [.int (nI 1), .ref mo]) := by
    intro  locs   ls hno hF hl
    refine lv_iconst (v := nI 1) hx hb d_Model_lagrange_51 (by decide) ?_
    refine q_cV (rest := []) E (c_Model_fails l g n0 mo th (nI pn) (nI tn) (nI wn) w9 n9 hw9 (nI 1) (nI 1) fd hmn (Or.inl rfl)) w_1056 w_15 w_1053 w_1055 (bw_s 24 rfl) hd_Model_fails rfl ⟨by decide, by decide⟩ (OB.recv E.2.2.2.2.2 (by rfl) hm.1) hm hF hl.1 rfl (Nat.le_of_ble_eq_true rfl) d_Model_lagrange_52 ⟨by decide, by decide⟩ (qi (fun rf H1 locs hq hF => ?_))
    obtain ⟨hrf, hq, hm⟩ := hq
    subst hrf
    have hfr := hfr.tr hq
    rw [if_neg (by decide)] at hm
    refine lv_if_eq (tgt := 59) hx hb d_Model_lagrange_55 (by decide) (fun h9 => absurd h9 (by decide)) (fun _ => ?_)
    exact q_vret E hr hlk (⟨rfl, Or.inr ⟨hno, hP.keep hfr hw9 hm⟩⟩) hF d_Model_lagrange_58
  have good : ∀ (locs : List Loc) (ls : Array Slot), okS a (nI 1) ∧ okC kv (nI 0) (nI 4) ∧ ((0 : Int64).toInt ≤ iv.toInt64.toInt ∧ iv.toInt64.toInt ≤ ((nI 1 <<< ((kv &&& nI 7) &&& 31)) - nI 1).toInt64.toInt) ∧ okS z0 (nI 1) → (∀ q ∈ locs, n0 q.base) → lv_has ls 5 [(0, .ref mo), (1, .int a), (2, .int kv), (3, .int iv), (4, .int z0)] → W p l e { frames := 5, cells := 0, slots := 0, locals := 125 } s m [.ref mo, .int a, .int kv, .int iv, .int z0].toArray below meth c s.heap locs 0 0 (MQ below (QcP (QV (fun H H' => ((okS a (nI 1) ∧ okC kv (nI 0) (nI 4) ∧ ((0 : Int64).toInt ≤ iv.toInt64.toInt ∧ iv.toInt64.toInt ≤ ((nI 1 <<< ((kv &&& nI 7) &&& 31)) - nI 1).toInt64.toInt) ∧ okS z0 (nI 1)) ∧ MP g n0 H' mo 0 pn tn wn) ∨ (¬ (okS a (nI 1) ∧ okC kv (nI 0) (nI 4) ∧ ((0 : Int64).toInt ≤ iv.toInt64.toInt ∧ iv.toInt64.toInt ≤ ((nI 1 <<< ((kv &&& nI 7) &&& 31)) - nI 1).toInt64.toInt) ∧ okS z0 (nI 1)) ∧ MP g n0 H' mo 1 pn tn wn)))) [.ref mo, .int a, .int kv, .int iv, .int z0].toArray s 0 0 (fun q => n0 q)) (F0 m 51 ls [.int (nI 0), .ref mo]) := by
    intro  locs   ls hok hF hl
    refine lv_iconst (v := nI 1) hx hb d_Model_lagrange_51 (by decide) ?_
    refine q_cV (rest := []) E (c_Model_fails l g n0 mo th (nI pn) (nI tn) (nI wn) w9 n9 hw9 (nI 0) (nI 1) fd hmn (Or.inr rfl)) w_1056 w_15 w_1053 w_1055 (bw_s 24 rfl) hd_Model_fails rfl ⟨by decide, by decide⟩ (OB.recv E.2.2.2.2.2 (by rfl) hm.1) hm hF hl.1 rfl (Nat.le_of_ble_eq_true rfl) d_Model_lagrange_52 ⟨by decide, by decide⟩ (qi (fun rf H1 locs hq hF => ?_))
    obtain ⟨hrf, hq, hm⟩ := hq
    subst hrf
    have hfr := hfr.tr hq
    rw [if_pos nI_0] at hm
    refine lv_if_eq (tgt := 59) hx hb d_Model_lagrange_55 (by decide) (fun _ => ?_) (fun h9 => absurd (by decide) h9)
    obtain ⟨k1, e_k1, h_k1⟩ := okS_nat (by decide) (by decide) hok.1
    rw [e_k1] at hl
    obtain ⟨k2, e_k2, h_k2, h2_k2⟩ := okC_nat (by decide) (by decide) hok.2.1
    rw [e_k2] at hl
    obtain ⟨k4, e_k4, h_k4⟩ := okS_nat (by decide) (by decide) hok.2.2.2
    rw [e_k4] at hl
    refine lv_aload_n hx hb d_Model_lagrange_59 rfl (lv_at hl 0 rfl) ?_
    refine lv_sipush (v := nI 166) hx hb d_Model_lagrange_60 (by decide) ?_
    refine lv_iload_n hx hb d_Model_lagrange_63 rfl (lv_at hl 2 rfl) ?_
    refine q_cV (rest := []) E (c_Model_unit l g n0 mo 166 k2 0 (nI pn) (nI tn) (nI wn) w9 n9 hw9 fd hmn (by omega) (by omega)) w_1139 w_15 w_1136 w_1138 (bw_s 36 rfl) hd_Model_unit rfl ⟨by decide, by decide⟩ (OB.recv E.2.2.2.2.2 (by rfl) hm.1) hm hF hl.1 rfl (Nat.le_of_ble_eq_true rfl) d_Model_lagrange_64 ⟨by decide, by decide⟩ (qv (fun H2 locs hq hF => ?_))
    obtain ⟨hq, fd_1, hm⟩ := hq
    have hfr := hfr.tr hq
    refine lv_aload_n hx hb d_Model_lagrange_67 rfl (lv_at hl 0 rfl) ?_
    refine lv_sipush (v := nI 145) hx hb d_Model_lagrange_68 (by decide) ?_
    refine lv_iload_n hx hb d_Model_lagrange_71 rfl (lv_at hl 3 rfl) ?_
    refine lv_i2l (v := iv.toInt64) hx hb d_Model_lagrange_72 rfl ?_
    refine q_cV (rest := []) E (c_Model_small l g n0 mo 145 iv.toInt64 0 (nI pn) (nI tn) (nI wn) 1 10 hw1 fd_1 (by omega)) w_1084 w_15 w_1081 w_1083 (bw_s 28 rfl) hd_Model_small rfl ⟨by decide, by decide⟩ (OB.recv E.2.2.2.2.2 (by rfl) hm.1) hm hF hl.1 rfl (Nat.le_of_ble_eq_true rfl) d_Model_lagrange_73 ⟨by decide, by decide⟩ (qv (fun H3 locs hq hF => ?_))
    obtain ⟨hq, fd_2, hm, -⟩ := hq
    have hfr := hfr.tr hq
    refine lv_aload_n hx hb d_Model_lagrange_76 rfl (lv_at hl 0 rfl) ?_
    refine lv_sipush (v := nI 168) hx hb d_Model_lagrange_77 (by decide) ?_
    refine lv_sipush (v := nI 166) hx hb d_Model_lagrange_80 (by decide) ?_
    refine lv_sipush (v := nI 145) hx hb d_Model_lagrange_83 (by decide) ?_
    refine q_cV (rest := []) E (c_Model_raise l g n0 mo 168 166 145 0 (nI pn) (nI tn) (nI wn) 1 10 hw1  fd_2 (by omega) (by omega) (by omega) ) w_1126 w_15 w_1123 w_1125 (bw_s 35 rfl) hd_Model_raise rfl ⟨by decide, by decide⟩ (OB.recv E.2.2.2.2.2 (by rfl) hm.1) hm hF hl.1 rfl (Nat.le_of_ble_eq_true rfl) d_Model_lagrange_86 ⟨by decide, by decide⟩ (qv (fun H4 locs hq hF => ?_))
    obtain ⟨hq, fd_3, hm, -⟩ := hq
    have hfr := hfr.tr hq
    refine lv_aload_n hx hb d_Model_lagrange_89 rfl (lv_at hl 0 rfl) ?_
    refine lv_sipush (v := nI 168) hx hb d_Model_lagrange_90 (by decide) ?_
    refine lv_iload hx hb d_Model_lagrange_93 (lv_at hl 4 rfl) ?_
    refine q_cV (rest := []) E (c_Model_isSame l g n0 mo 168 k4 0 (nI pn) (nI tn) (nI wn) 1 10 hw1 fd_3 (by omega) (by omega)) w_1163 w_15 w_1160 w_1162 (bw_s 39 rfl) hd_Model_isSame rfl ⟨by decide, by decide⟩ (OB.recv E.2.2.2.2.2 (by rfl) hm.1) hm hF hl.1 rfl (Nat.le_of_ble_eq_true rfl) d_Model_lagrange_95 ⟨by decide, by decide⟩ (qi (fun rz1 H5 locs hq hF => ?_))
    obtain ⟨hbrz1, hq⟩ := hq
    subst hq
    refine lv_if_eq (tgt := 107) hx hb d_Model_lagrange_98 (by decide) (fun hc => ?_) (fun hc => ?_)
    rotate_left
    · skip
      refine lv_aload_n hx hb d_Model_lagrange_101 rfl (lv_at hl 0 rfl) ?_
      refine lv_iload_n hx hb d_Model_lagrange_102 rfl (lv_at hl 1 rfl) ?_
      refine q_cV (rest := []) E (c_Model_one l g n0 mo k1 0 (nI pn) (nI tn) (nI wn) 1 10 hw1  fd_3 (by omega) ) w_971 w_15 w_968 w_970 (bw_s 16 rfl) hd_Model_one rfl ⟨by decide, by decide⟩ (OB.recv E.2.2.2.2.2 (by rfl) hm.1) hm hF hl.1 rfl (Nat.le_of_ble_eq_true rfl) d_Model_lagrange_103 ⟨by decide, by decide⟩ (qv (fun H6 locs hq hF => ?_))
      obtain ⟨hq, fd_4, hm, hpv⟩ := hq
      have hfr := hfr.tr hq
      exact q_vret E hr hlk (⟨rfl, Or.inl ⟨hok, hP.keep hfr hw1 hm⟩⟩) hF d_Model_lagrange_106
    refine lv_aload_n hx hb d_Model_lagrange_107 rfl (lv_at hl 0 rfl) ?_
    refine lv_sipush (v := nI 145) hx hb d_Model_lagrange_108 (by decide) ?_
    refine lv_lconst (v := 1) hx hb d_Model_lagrange_111 (by decide) ?_
    refine lv_iload_n hx hb d_Model_lagrange_112 rfl (lv_at hl 2 rfl) ?_
    refine lv_lshl (v := (1 : Int64) <<< ((nI k2).toInt64 &&& 63)) hx hb d_Model_lagrange_113 rfl ?_
    refine q_cV (rest := []) E (c_Model_small l g n0 mo 145 ((1 : Int64) <<< ((nI k2).toInt64 &&& 63)) 0 (nI pn) (nI tn) (nI wn) 1 10 hw1 fd_3 (by omega)) w_1084 w_15 w_1081 w_1083 (bw_s 28 rfl) hd_Model_small rfl ⟨by decide, by decide⟩ (OB.recv E.2.2.2.2.2 (by rfl) hm.1) hm hF hl.1 rfl (Nat.le_of_ble_eq_true rfl) d_Model_lagrange_114 ⟨by decide, by decide⟩ (qv (fun H6 locs hq hF => ?_))
    obtain ⟨hq, fd_5, hm, -⟩ := hq
    have hfr := hfr.tr hq
    refine lv_aload_n hx hb d_Model_lagrange_117 rfl (lv_at hl 0 rfl) ?_
    refine lv_sipush (v := nI 169) hx hb d_Model_lagrange_118 (by decide) ?_
    refine lv_iload hx hb d_Model_lagrange_121 (lv_at hl 4 rfl) ?_
    refine lv_sipush (v := nI 145) hx hb d_Model_lagrange_123 (by decide) ?_
    refine q_cV (rest := []) E (c_Model_raise l g n0 mo 169 k4 145 0 (nI pn) (nI tn) (nI wn) 1 10 hw1  fd_5 (by omega) (by omega) (by omega) ) w_1126 w_15 w_1123 w_1125 (bw_s 35 rfl) hd_Model_raise rfl ⟨by decide, by decide⟩ (OB.recv E.2.2.2.2.2 (by rfl) hm.1) hm hF hl.1 rfl (Nat.le_of_ble_eq_true rfl) d_Model_lagrange_126 ⟨by decide, by decide⟩ (qv (fun H7 locs hq hF => ?_))
    obtain ⟨hq, fd_6, hm, -⟩ := hq
    have hfr := hfr.tr hq
    refine lv_aload_n hx hb d_Model_lagrange_129 rfl (lv_at hl 0 rfl) ?_
    refine lv_sipush (v := nI 166) hx hb d_Model_lagrange_130 (by decide) ?_
    refine q_cV (rest := []) E (c_Model_one l g n0 mo 166 0 (nI pn) (nI tn) (nI wn) 1 10 hw1  fd_6 (by omega) ) w_971 w_15 w_968 w_970 (bw_s 16 rfl) hd_Model_one rfl ⟨by decide, by decide⟩ (OB.recv E.2.2.2.2.2 (by rfl) hm.1) hm hF hl.1 rfl (Nat.le_of_ble_eq_true rfl) d_Model_lagrange_133 ⟨by decide, by decide⟩ (qv (fun H8 locs hq hF => ?_))
    obtain ⟨hq, fd_7, hm, hpv⟩ := hq
    have hfr := hfr.tr hq
    refine lv_aload_n hx hb d_Model_lagrange_136 rfl (lv_at hl 0 rfl) ?_
    refine lv_sipush (v := nI 169) hx hb d_Model_lagrange_137 (by decide) ?_
    refine lv_sipush (v := nI 169) hx hb d_Model_lagrange_140 (by decide) ?_
    refine lv_sipush (v := nI 166) hx hb d_Model_lagrange_143 (by decide) ?_
    refine q_cV (rest := []) E (c_Model_less l g n0 mo 169 169 166 0 (nI pn) (nI tn) (nI wn) 1 10 hw1  fd_7 (by omega) (by omega) (by omega) ) w_1109 w_15 w_1106 w_1108 (bw_s 31 rfl) hd_Model_less rfl ⟨by decide, by decide⟩ (OB.recv E.2.2.2.2.2 (by rfl) hm.1) hm hF hl.1 rfl (Nat.le_of_ble_eq_true rfl) d_Model_lagrange_146 ⟨by decide, by decide⟩ (qv (fun H9 locs hq hF => ?_))
    obtain ⟨hq, fd_8, hm, hpv, hv⟩ := hq
    have hfr := hfr.tr (kjR hq)
    refine lv_aload_n hx hb d_Model_lagrange_149 rfl (lv_at hl 0 rfl) ?_
    refine lv_sipush (v := nI 169) hx hb d_Model_lagrange_150 (by decide) ?_
    refine lv_sipush (v := nI 169) hx hb d_Model_lagrange_153 (by decide) ?_
    refine lv_sipush (v := nI 168) hx hb d_Model_lagrange_156 (by decide) ?_
    refine q_cV (rest := []) E (c_Model_product l g n0 mo 169 169 168 0 (nI pn) (nI tn) (nI wn) 1 10 hw1  fd_8 (by omega) (by omega) (by omega) ) w_1113 w_15 w_1110 w_1112 (bw_s 32 rfl) hd_Model_product rfl ⟨by decide, by decide⟩ (OB.recv E.2.2.2.2.2 (by rfl) hm.1) hm hF hl.1 rfl (Nat.le_of_ble_eq_true rfl) d_Model_lagrange_159 ⟨by decide, by decide⟩ (qv (fun H10 locs hq hF => ?_))
    obtain ⟨hq, fd_9, hm, hpv, hv⟩ := hq
    have hfr := hfr.tr (kjR hq)
    refine lv_aload_n hx hb d_Model_lagrange_162 rfl (lv_at hl 0 rfl) ?_
    refine lv_sipush (v := nI 168) hx hb d_Model_lagrange_163 (by decide) ?_
    refine lv_iload hx hb d_Model_lagrange_166 (lv_at hl 4 rfl) ?_
    refine lv_sipush (v := nI 168) hx hb d_Model_lagrange_168 (by decide) ?_
    refine q_cV (rest := []) E (c_Model_less l g n0 mo 168 k4 168 0 (nI pn) (nI tn) (nI wn) 1 10 hw1  fd_9 (by omega) (by omega) (by omega) ) w_1109 w_15 w_1106 w_1108 (bw_s 31 rfl) hd_Model_less rfl ⟨by decide, by decide⟩ (OB.recv E.2.2.2.2.2 (by rfl) hm.1) hm hF hl.1 rfl (Nat.le_of_ble_eq_true rfl) d_Model_lagrange_171 ⟨by decide, by decide⟩ (qv (fun H11 locs hq hF => ?_))
    obtain ⟨hq, fd_10, hm, hpv, hv⟩ := hq
    have hfr := hfr.tr (kjR hq)
    refine lv_aload_n hx hb d_Model_lagrange_174 rfl (lv_at hl 0 rfl) ?_
    refine lv_sipush (v := nI 166) hx hb d_Model_lagrange_175 (by decide) ?_
    refine lv_lconst (v := 1) hx hb d_Model_lagrange_178 (by decide) ?_
    refine lv_iload_n hx hb d_Model_lagrange_179 rfl (lv_at hl 2 rfl) ?_
    refine lv_lshl (v := (1 : Int64) <<< ((nI k2).toInt64 &&& 63)) hx hb d_Model_lagrange_180 rfl ?_
    refine q_cV (rest := []) E (c_Model_small l g n0 mo 166 ((1 : Int64) <<< ((nI k2).toInt64 &&& 63)) 0 (nI pn) (nI tn) (nI wn) 1 10 hw1 fd_10 (by omega)) w_1084 w_15 w_1081 w_1083 (bw_s 28 rfl) hd_Model_small rfl ⟨by decide, by decide⟩ (OB.recv E.2.2.2.2.2 (by rfl) hm.1) hm hF hl.1 rfl (Nat.le_of_ble_eq_true rfl) d_Model_lagrange_181 ⟨by decide, by decide⟩ (qv (fun H12 locs hq hF => ?_))
    obtain ⟨hq, fd_11, hm, -⟩ := hq
    have hfr := hfr.tr hq
    refine lv_aload_n hx hb d_Model_lagrange_184 rfl (lv_at hl 0 rfl) ?_
    refine lv_sipush (v := nI 168) hx hb d_Model_lagrange_185 (by decide) ?_
    refine lv_sipush (v := nI 168) hx hb d_Model_lagrange_188 (by decide) ?_
    refine lv_sipush (v := nI 166) hx hb d_Model_lagrange_191 (by decide) ?_
    refine q_cV (rest := []) E (c_Model_product l g n0 mo 168 168 166 0 (nI pn) (nI tn) (nI wn) 1 10 hw1  fd_11 (by omega) (by omega) (by omega) ) w_1113 w_15 w_1110 w_1112 (bw_s 32 rfl) hd_Model_product rfl ⟨by decide, by decide⟩ (OB.recv E.2.2.2.2.2 (by rfl) hm.1) hm hF hl.1 rfl (Nat.le_of_ble_eq_true rfl) d_Model_lagrange_194 ⟨by decide, by decide⟩ (qv (fun H13 locs hq hF => ?_))
    obtain ⟨hq, fd_12, hm, hpv, hv⟩ := hq
    have hfr := hfr.tr (kjR hq)
    refine lv_aload_n hx hb d_Model_lagrange_197 rfl (lv_at hl 0 rfl) ?_
    refine lv_sipush (v := nI 166) hx hb d_Model_lagrange_198 (by decide) ?_
    refine lv_sipush (v := nI 168) hx hb d_Model_lagrange_201 (by decide) ?_
    refine q_cV (rest := []) E (c_Model_inverse l g n0 mo 166 168 0 (nI pn) (nI tn) (nI wn) 1 10 hw1  fd_12 (by omega) (by omega) ) w_1117 w_15 w_1114 w_1116 (bw_s 33 rfl) hd_Model_inverse rfl ⟨by decide, by decide⟩ (OB.recv E.2.2.2.2.2 (by rfl) hm.1) hm hF hl.1 rfl (Nat.le_of_ble_eq_true rfl) d_Model_lagrange_204 ⟨by decide, by decide⟩ (qv (fun H14 locs hq hF => ?_))
    obtain ⟨hq, fd_13, hm, -⟩ := hq
    have hfr := hfr.tr hq
    refine lv_aload_n hx hb d_Model_lagrange_207 rfl (lv_at hl 0 rfl) ?_
    refine lv_iload_n hx hb d_Model_lagrange_208 rfl (lv_at hl 1 rfl) ?_
    refine lv_sipush (v := nI 169) hx hb d_Model_lagrange_209 (by decide) ?_
    refine lv_sipush (v := nI 166) hx hb d_Model_lagrange_212 (by decide) ?_
    refine q_cV (rest := []) E (c_Model_product l g n0 mo k1 169 166 0 (nI pn) (nI tn) (nI wn) 1 10 hw1  fd_13 (by omega) (by omega) (by omega) ) w_1113 w_15 w_1110 w_1112 (bw_s 32 rfl) hd_Model_product rfl ⟨by decide, by decide⟩ (OB.recv E.2.2.2.2.2 (by rfl) hm.1) hm hF hl.1 rfl (Nat.le_of_ble_eq_true rfl) d_Model_lagrange_215 ⟨by decide, by decide⟩ (qv (fun H15 locs hq hF => ?_))
    obtain ⟨hq, fd_14, hm, hpv, hv⟩ := hq
    have hfr := hfr.tr (kjR hq)
    exact q_vret E hr hlk (⟨rfl, Or.inl ⟨hok, hP.keep hfr hw1 hm⟩⟩) hF d_Model_lagrange_218
  refine lv_aload_n hx hb d_Model_lagrange_0 rfl (lv_at hl 0 rfl) ?_
  refine lv_iload_n hx hb d_Model_lagrange_1 rfl (lv_at hl 1 rfl) ?_
  refine q_cS (rest := [.ref mo]) E (c_Model_noScalar l g n0 a ) w_1064 w_15 w_1062 w_1063 hd_Model_noScalar rfl ⟨by decide, by decide⟩ trivial hF hl.1 rfl (Nat.le_of_ble_eq_true rfl) d_Model_lagrange_2 ⟨by decide, by decide⟩ (qi (fun r_0 H1 locs hq hF => ?_))
  obtain ⟨h_0, hq⟩ := hq
  subst hq
  rcases h_0 with ⟨rfl, f_0⟩ | ⟨rfl, f_0⟩
  · skip
    refine lv_if_ne (tgt := 46) hx hb d_Model_lagrange_5 (by decide) (fun _ => ?_) (fun h9 => absurd h9 (by decide))
    refine lv_iconst (v := nI 1) hx hb d_Model_lagrange_46 (by decide) ?_
    refine lv_goto (tgt := 51) hx hb d_Model_lagrange_47 (by decide) ?_
    have hl : lv_has ls 5 [(0, .ref mo), (1, .int a), (2, .int kv), (3, .int iv), (4, .int z0)] := lv_sub hl [0, 1, 2, 3, 4] rfl
    exact bad _ ls (fun h => (f_0) h.1) hF hl
  · skip
    refine lv_if_ne (tgt := 46) hx hb d_Model_lagrange_5 (by decide) (fun h9 => absurd (by decide) h9) (fun _ => ?_)
    refine lv_iload_n hx hb d_Model_lagrange_8 rfl (lv_at hl 2 rfl) ?_
    refine lv_i2l (v := kv.toInt64) hx hb d_Model_lagrange_9 rfl ?_
    refine lv_lconst (v := 0) hx hb d_Model_lagrange_10 (by decide) ?_
    refine lv_ldc2 (v := 4) hx hb E.2.2.2.1 (E.2.2.2.2.1 _ w_1155) d_Model_lagrange_11 ?_
    refine q_cS (rest := [.ref mo]) E (c_Model_in l g n0 kv.toInt64 0 4 ) w_1101 w_15 w_1099 w_1100 hd_Model_in rfl ⟨by decide, by decide⟩ trivial hF hl.1 rfl (Nat.le_of_ble_eq_true rfl) d_Model_lagrange_14 ⟨by decide, by decide⟩ (qi (fun r_1 H2 locs hq hF => ?_))
    obtain ⟨h_1, hq⟩ := hq
    subst hq
    rcases h_1 with ⟨rfl, f_1⟩ | ⟨rfl, f_1⟩
    · skip
      refine lv_if_eq (tgt := 46) hx hb d_Model_lagrange_17 (by decide) (fun _ => ?_) (fun h9 => absurd (by decide) h9)
      refine lv_iconst (v := nI 1) hx hb d_Model_lagrange_46 (by decide) ?_
      refine lv_goto (tgt := 51) hx hb d_Model_lagrange_47 (by decide) ?_
      have hl : lv_has ls 5 [(0, .ref mo), (1, .int a), (2, .int kv), (3, .int iv), (4, .int z0)] := lv_sub hl [0, 1, 2, 3, 4] rfl
      exact bad _ ls (fun h => (fun q => f_1 ((in_okC (a := 0) (b := 4) (by decide) (by decide) (by decide) (by decide)).mpr q)) h.2.1) hF hl
    · skip
      refine lv_if_eq (tgt := 46) hx hb d_Model_lagrange_17 (by decide) (fun h9 => absurd h9 (by decide)) (fun _ => ?_)
      refine lv_iload_n hx hb d_Model_lagrange_20 rfl (lv_at hl 3 rfl) ?_
      refine lv_i2l (v := iv.toInt64) hx hb d_Model_lagrange_21 rfl ?_
      refine lv_lconst (v := 0) hx hb d_Model_lagrange_22 (by decide) ?_
      refine lv_iconst (v := nI 1) hx hb d_Model_lagrange_23 (by decide) ?_
      refine lv_iload_n hx hb d_Model_lagrange_24 rfl (lv_at hl 2 rfl) ?_
      refine lv_bipush (v := nI 7) hx hb d_Model_lagrange_25 (by decide) ?_
      refine lv_iand hx hb d_Model_lagrange_27 ?_
      refine lv_ishl hx hb d_Model_lagrange_28 ?_
      refine lv_iconst (v := nI 1) hx hb d_Model_lagrange_29 (by decide) ?_
      refine lv_isub hx hb d_Model_lagrange_30 ?_
      refine lv_i2l (v := (((nI 1) <<< ((kv &&& (nI 7)) &&& 31)) - (nI 1)).toInt64) hx hb d_Model_lagrange_31 rfl ?_
      refine q_cS (rest := [.ref mo]) E (c_Model_in l g n0 iv.toInt64 0 ((((nI 1) <<< ((kv &&& (nI 7)) &&& 31)) - (nI 1)).toInt64) ) w_1101 w_15 w_1099 w_1100 hd_Model_in rfl ⟨by decide, by decide⟩ trivial hF hl.1 rfl (Nat.le_of_ble_eq_true rfl) d_Model_lagrange_32 ⟨by decide, by decide⟩ (qi (fun r_2 H3 locs hq hF => ?_))
      obtain ⟨h_2, hq⟩ := hq
      subst hq
      rcases h_2 with ⟨rfl, f_2⟩ | ⟨rfl, f_2⟩
      · skip
        refine lv_if_eq (tgt := 46) hx hb d_Model_lagrange_35 (by decide) (fun _ => ?_) (fun h9 => absurd (by decide) h9)
        refine lv_iconst (v := nI 1) hx hb d_Model_lagrange_46 (by decide) ?_
        refine lv_goto (tgt := 51) hx hb d_Model_lagrange_47 (by decide) ?_
        have hl : lv_has ls 5 [(0, .ref mo), (1, .int a), (2, .int kv), (3, .int iv), (4, .int z0)] := lv_sub hl [0, 1, 2, 3, 4] rfl
        exact bad _ ls (fun h => (f_2) h.2.2.1) hF hl
      · skip
        refine lv_if_eq (tgt := 46) hx hb d_Model_lagrange_35 (by decide) (fun h9 => absurd h9 (by decide)) (fun _ => ?_)
        refine lv_iload hx hb d_Model_lagrange_38 (lv_at hl 4 rfl) ?_
        refine q_cS (rest := [.ref mo]) E (c_Model_noScalar l g n0 z0 ) w_1064 w_15 w_1062 w_1063 hd_Model_noScalar rfl ⟨by decide, by decide⟩ trivial hF hl.1 rfl (Nat.le_of_ble_eq_true rfl) d_Model_lagrange_40 ⟨by decide, by decide⟩ (qi (fun r_3 H4 locs hq hF => ?_))
        obtain ⟨h_3, hq⟩ := hq
        subst hq
        rcases h_3 with ⟨rfl, f_3⟩ | ⟨rfl, f_3⟩
        · skip
          refine lv_if_eq (tgt := 50) hx hb d_Model_lagrange_43 (by decide) (fun h9 => absurd h9 (by decide)) (fun _ => ?_)
          refine lv_iconst (v := nI 1) hx hb d_Model_lagrange_46 (by decide) ?_
          refine lv_goto (tgt := 51) hx hb d_Model_lagrange_47 (by decide) ?_
          have hl : lv_has ls 5 [(0, .ref mo), (1, .int a), (2, .int kv), (3, .int iv), (4, .int z0)] := lv_sub hl [0, 1, 2, 3, 4] rfl
          exact bad _ ls (fun h => (f_3) h.2.2.2) hF hl
        · skip
          refine lv_if_eq (tgt := 50) hx hb d_Model_lagrange_43 (by decide) (fun _ => ?_) (fun h9 => absurd (by decide) h9)
          refine lv_iconst (v := nI 0) hx hb d_Model_lagrange_50 (by decide) ?_
          have hl : lv_has ls 5 [(0, .ref mo), (1, .int a), (2, .int kv), (3, .int iv), (4, .int z0)] := lv_sub hl [0, 1, 2, 3, 4] rfl
          exact good _ ls ⟨f_0, (in_okC (a := 0) (b := 4) (by decide) (by decide) (by decide) (by decide)).mp f_1, f_2, f_3⟩ hF hl
set_option maxHeartbeats 4000000 in
set_option maxRecDepth 100000 in
theorem G_Model_look (l : Launch) (g : WG) (n0 : Nat → Prop) (mo : Nat) (th : Int32) (pn tn wn : Nat) (w0 : Int32) : Ctr l y_Model_look (.code y_Model_look prog_11_method_61_code 2 (some FieldType.int)) 1 25 0 0 n0 g [.ref mo, .int w0] (fun H => MP g n0 H mo th pn tn wn) (QI (fun r H H' => ((okC w0 (nI 0) (nI 2)) ∧ MP g n0 H' mo 0 pn tn wn) ∨ (¬ (okC w0 (nI 0) (nI 2)) ∧ MP g n0 H' mo 1 pn tn wn))) := by
  refine ctr_mk l (lv0 := [(0, .ref mo), (1, .int w0)]) (by decide) (Nat.le_of_ble_eq_true rfl) rfl ?_
  intro p e s m below meth c ls E hr hlk hnm hl hP
  have hx := E.1
  have hb := E.2.1
  have hK := E.2.2.2.2.2
  have hF : ∀ q ∈ ([] : List Loc), n0 q.base := fun q hq => absurd hq List.not_mem_nil
  obtain ⟨⟨w9, n9, fd, hw9, hm⟩, -⟩ := id hP
  have hmn := hP.mn
  have hbd := hP.2.2.2.2.1
  have hfr : FRM (MR mo) s.heap s.heap := FRM.rf
  have bad : ∀ (locs : List Loc) (ls : Array Slot), ¬ (okC w0 (nI 0) (nI 2)) → (∀ q ∈ locs, n0 q.base) → lv_has ls 2 [(0, .ref mo), (1, .int w0)] → W p l e { frames := 1, cells := 0, slots := 0, locals := 25 } s m [.ref mo, .int w0].toArray below meth c s.heap locs 0 0 (MQ below (QcP (QI (fun r H H' => ((okC w0 (nI 0) (nI 2)) ∧ MP g n0 H' mo 0 pn tn wn) ∨ (¬ (okC w0 (nI 0) (nI 2)) ∧ MP g n0 H' mo 1 pn tn wn)))) [.ref mo, .int w0].toArray s 0 0 (fun q => n0 q)) (F0 m 18 ls [.int (nI 1), .ref mo]) := by
    intro  locs   ls hno hF hl
    refine lv_iconst (v := nI 1) hx hb d_Model_look_18 (by decide) ?_
    refine q_cV (rest := []) E (c_Model_fails l g n0 mo th (nI pn) (nI tn) (nI wn) w9 n9 hw9 (nI 1) (nI 1) fd hmn (Or.inl rfl)) w_1056 w_15 w_1053 w_1055 (bw_s 24 rfl) hd_Model_fails rfl ⟨by decide, by decide⟩ (OB.recv E.2.2.2.2.2 (by rfl) hm.1) hm hF hl.1 rfl (Nat.le_of_ble_eq_true rfl) d_Model_look_19 ⟨by decide, by decide⟩ (qi (fun rf H1 locs hq hF => ?_))
    obtain ⟨hrf, hq, hm⟩ := hq
    subst hrf
    have hfr := hfr.tr hq
    rw [if_neg (by decide)] at hm
    refine lv_if_eq (tgt := 27) hx hb d_Model_look_22 (by decide) (fun h9 => absurd h9 (by decide)) (fun _ => ?_)
    refine lv_iconst (v := nI 0) hx hb d_Model_look_25 (by decide) ?_
    exact q_iret E hr hlk (⟨_, rfl, Or.inr ⟨hno, hP.keep hfr hw9 hm⟩⟩) hF d_Model_look_26
  have good : ∀ (locs : List Loc) (ls : Array Slot), okC w0 (nI 0) (nI 2) → (∀ q ∈ locs, n0 q.base) → lv_has ls 2 [(0, .ref mo), (1, .int w0)] → W p l e { frames := 1, cells := 0, slots := 0, locals := 25 } s m [.ref mo, .int w0].toArray below meth c s.heap locs 0 0 (MQ below (QcP (QI (fun r H H' => ((okC w0 (nI 0) (nI 2)) ∧ MP g n0 H' mo 0 pn tn wn) ∨ (¬ (okC w0 (nI 0) (nI 2)) ∧ MP g n0 H' mo 1 pn tn wn)))) [.ref mo, .int w0].toArray s 0 0 (fun q => n0 q)) (F0 m 18 ls [.int (nI 0), .ref mo]) := by
    intro  locs   ls hok hF hl
    refine lv_iconst (v := nI 1) hx hb d_Model_look_18 (by decide) ?_
    refine q_cV (rest := []) E (c_Model_fails l g n0 mo th (nI pn) (nI tn) (nI wn) w9 n9 hw9 (nI 0) (nI 1) fd hmn (Or.inr rfl)) w_1056 w_15 w_1053 w_1055 (bw_s 24 rfl) hd_Model_fails rfl ⟨by decide, by decide⟩ (OB.recv E.2.2.2.2.2 (by rfl) hm.1) hm hF hl.1 rfl (Nat.le_of_ble_eq_true rfl) d_Model_look_19 ⟨by decide, by decide⟩ (qi (fun rf H1 locs hq hF => ?_))
    obtain ⟨hrf, hq, hm⟩ := hq
    subst hrf
    have hfr := hfr.tr hq
    rw [if_pos nI_0] at hm
    refine lv_if_eq (tgt := 27) hx hb d_Model_look_22 (by decide) (fun _ => ?_) (fun h9 => absurd (by decide) h9)
    obtain ⟨k0, e_k0, h_k0, h2_k0⟩ := okC_nat (by decide) (by decide) hok
    rw [e_k0] at hl
    obtain ⟨hq9, -⟩ : k0 ≤ 2 ∧ True := ⟨h2_k0, trivial⟩
    match k0, hq9 with
    | 0, _ =>
      refine lv_iload_n hx hb d_Model_look_27 rfl (lv_at hl 1 rfl) ?_
      refine lv_if_ne (tgt := 38) hx hb d_Model_look_28 (by decide) (fun h9 => absurd (by decide) h9) (fun _ => ?_)
      refine lv_aload_n hx hb d_Model_look_31 rfl (lv_at hl 0 rfl) ?_
      refine q_get (C := "KateDeskModel") (T := T_Model) (N := 14) (ci := 8) E hm.1 in_Model rfl 8 (by decide) w_1009 rfl rfl d_Model_look_32 ?_
      refine lv_goto (tgt := 54) hx hb d_Model_look_35 (by decide) ?_
      exact q_iret E hr hlk (⟨_, rfl, Or.inl ⟨hok, hP.keep hfr hw9 hm⟩⟩) hF d_Model_look_54
    | 1, _ =>
      refine lv_iload_n hx hb d_Model_look_27 rfl (lv_at hl 1 rfl) ?_
      refine lv_if_ne (tgt := 38) hx hb d_Model_look_28 (by decide) (fun _ => ?_) (fun h9 => absurd h9 (by decide))
      refine lv_iload_n hx hb d_Model_look_38 rfl (lv_at hl 1 rfl) ?_
      refine lv_iconst (v := nI 1) hx hb d_Model_look_39 (by decide) ?_
      refine lv_icmp_ne (tgt := 50) hx hb d_Model_look_40 (by decide) (fun h9 => absurd (by decide) h9) (fun _ => ?_)
      refine lv_aload_n hx hb d_Model_look_43 rfl (lv_at hl 0 rfl) ?_
      refine q_get (C := "KateDeskModel") (T := T_Model) (N := 14) (ci := 8) E hm.1 in_Model rfl 10 (by decide) w_1011 rfl rfl d_Model_look_44 ?_
      refine lv_goto (tgt := 54) hx hb d_Model_look_47 (by decide) ?_
      exact q_iret E hr hlk (⟨_, rfl, Or.inl ⟨hok, hP.keep hfr hw9 hm⟩⟩) hF d_Model_look_54
    | 2, _ =>
      refine lv_iload_n hx hb d_Model_look_27 rfl (lv_at hl 1 rfl) ?_
      refine lv_if_ne (tgt := 38) hx hb d_Model_look_28 (by decide) (fun _ => ?_) (fun h9 => absurd h9 (by decide))
      refine lv_iload_n hx hb d_Model_look_38 rfl (lv_at hl 1 rfl) ?_
      refine lv_iconst (v := nI 1) hx hb d_Model_look_39 (by decide) ?_
      refine lv_icmp_ne (tgt := 50) hx hb d_Model_look_40 (by decide) (fun _ => ?_) (fun h9 => absurd h9 (by decide))
      refine lv_aload_n hx hb d_Model_look_50 rfl (lv_at hl 0 rfl) ?_
      refine q_get (C := "KateDeskModel") (T := T_Model) (N := 14) (ci := 8) E hm.1 in_Model rfl 12 (by decide) w_1013 rfl rfl d_Model_look_51 ?_
      exact q_iret E hr hlk (⟨_, rfl, Or.inl ⟨hok, hP.keep hfr hw9 hm⟩⟩) hF d_Model_look_54
  refine lv_aload_n hx hb d_Model_look_0 rfl (lv_at hl 0 rfl) ?_
  refine lv_iload_n hx hb d_Model_look_1 rfl (lv_at hl 1 rfl) ?_
  refine lv_i2l (v := w0.toInt64) hx hb d_Model_look_2 rfl ?_
  refine lv_lconst (v := 0) hx hb d_Model_look_3 (by decide) ?_
  refine lv_ldc2 (v := 2) hx hb E.2.2.2.1 (E.2.2.2.2.1 _ w_1089) d_Model_look_4 ?_
  refine q_cS (rest := [.ref mo]) E (c_Model_in l g n0 w0.toInt64 0 2 ) w_1101 w_15 w_1099 w_1100 hd_Model_in rfl ⟨by decide, by decide⟩ trivial hF hl.1 rfl (Nat.le_of_ble_eq_true rfl) d_Model_look_7 ⟨by decide, by decide⟩ (qi (fun r_0 H1 locs hq hF => ?_))
  obtain ⟨h_0, hq⟩ := hq
  subst hq
  rcases h_0 with ⟨rfl, f_0⟩ | ⟨rfl, f_0⟩
  · skip
    refine lv_if_ne (tgt := 17) hx hb d_Model_look_10 (by decide) (fun h9 => absurd (by decide) h9) (fun _ => ?_)
    refine lv_iconst (v := nI 1) hx hb d_Model_look_13 (by decide) ?_
    refine lv_goto (tgt := 18) hx hb d_Model_look_14 (by decide) ?_
    have hl : lv_has ls 2 [(0, .ref mo), (1, .int w0)] := lv_sub hl [0, 1] rfl
    exact bad _ ls (fun h => (fun q => f_0 ((in_okC (a := 0) (b := 2) (by decide) (by decide) (by decide) (by decide)).mpr q)) h) hF hl
  · skip
    refine lv_if_ne (tgt := 17) hx hb d_Model_look_10 (by decide) (fun _ => ?_) (fun h9 => absurd h9 (by decide))
    refine lv_iconst (v := nI 0) hx hb d_Model_look_17 (by decide) ?_
    have hl : lv_has ls 2 [(0, .ref mo), (1, .int w0)] := lv_sub hl [0, 1] rfl
    exact good _ ls ((in_okC (a := 0) (b := 2) (by decide) (by decide) (by decide) (by decide)).mp f_0) hF hl
