theorem BV9.lo {fd : Nat → Int64} {B : Nat → Int} (h : BV9 fd B) : ∀ k, k < 32 → NV fd k (B k) ∧ B k < RI := fun k hk => ⟨(h k (by omega)).1, (h k (by omega)).2.1 hk⟩
theorem BV9.mk {fd fd' : Nat → Int64} {B B' : Nat → Int} (h : BV9 fd B) (hB : ∀ k, k < 32 → NV fd' k (B' k) ∧ B' k < RI) (hsp : ∀ j, 448 ≤ j → j < 1666 → fd' j = fd j) (e : ∀ k, 32 ≤ k → B' k = B k) : BV9 fd' B' := by
  intro k hk
  by_cases c : k < 32
  · exact ⟨(hB k c).1, fun _ => (hB k c).2, fun h => absurd c (by omega)⟩
  · rw [e k (by omega)]
    have h2 := h k hk
    exact ⟨(VL_ext (fun q hq => hsp _ (by omega) (by omega))).trans h2.1, fun h => absurd h c, h2.2.2⟩
theorem MVP.fin8 {g : WG} {n0 : Nat → Prop} {H H' : Heap} {mo : Nat} {th th2 : Int32} {pn tn wn w n : Nat} {B B' : Nat → Int} {fd : Nat → Int64} (h : MVP g n0 H mo th pn tn wn B) (hfr : FRM (fun q => MR mo q ∨ q = mo + 8) H H') (hA : HO g H' mo) (hw : WH w n) (hm : MS g n0 H' mo th2 (nI pn) (nI tn) (nI wn) w n fd) (hB : BV9 fd B') : MVP g n0 H' mo th2 pn tn wn B' :=
  ⟨⟨w, n, fd, hw, hm, hB⟩, h.2.1.imp (fun f hf => ⟨AJ.off hfr (by unfold MR; omega) hf.1, hf.2⟩), (h.mp.fin8 hfr hA hw hm).2⟩
theorem MVP.ext {g : WG} {n0 : Nat → Prop} {H : Heap} {mo : Nat} {th : Int32} {pn tn wn : Nat} {B B' : Nat → Int} (h : MVP g n0 H mo th pn tn wn B) (e : ∀ k, k < 119 → B k = B' k) : MVP g n0 H mo th pn tn wn B' := by
  obtain ⟨⟨w, n, fd, hw, hm, hB⟩, h2⟩ := h
  exact ⟨⟨w, n, fd, hw, hm, fun k hk => by rw [← e k hk]; exact hB k hk⟩, h2⟩
theorem MVP.mn {g : WG} {n0 : Nat → Prop} {H : Heap} {mo : Nat} {th : Int32} {pn tn wn : Nat} {B : Nat → Int} (h : MVP g n0 H mo th pn tn wn B) : n0 mo := h.2.2.2.2.2.2.1
theorem MVP.zfin {g : WG} {n0 : Nat → Prop} {H H' : Heap} {mo : Nat} {th th2 : Int32} {pn tn wn pn2 tn2 wn2 w n : Nat} {fd fd0 : Nat → Int64} {B : Nat → Int} (h : MVP g n0 H mo th pn tn wn B) (hfr : FRM (MR mo) H H') (hw : WH w n) (hm : MS g n0 H' mo th2 (nI pn2) (nI tn2) (nI wn2) w n fd) (hS : SAME fd0 fd (fun t => 119 ≤ t)) (hB : BV9 fd0 B) (hb : pn2 ≤ 16 ∧ tn2 ≤ 96 ∧ wn2 ≤ 96) : MVP g n0 H' mo th2 pn2 tn2 wn2 B := h.fin hfr hw hm (hB.sm hS (fun t h => h)) hb
theorem MVP.zkeep {g : WG} {n0 : Nat → Prop} {H H' : Heap} {mo : Nat} {th th2 : Int32} {pn tn wn w n : Nat} {fd fd0 : Nat → Int64} {B : Nat → Int} (h : MVP g n0 H mo th pn tn wn B) (hfr : FRM (MR mo) H H') (hw : WH w n) (hm : MS g n0 H' mo th2 (nI pn) (nI tn) (nI wn) w n fd) (hS : SAME fd0 fd (fun t => 119 ≤ t)) (hB : BV9 fd0 B) : MVP g n0 H' mo th2 pn tn wn B := h.fin hfr hw hm (hB.sm hS (fun t h => h)) h.2.2.2.2.2.1
theorem MVP.zfin6 {g : WG} {n0 : Nat → Prop} {H H' : Heap} {mo : Nat} {th th2 : Int32} {pn tn wn pn2 tn2 wn2 w n : Nat} {fd fd0 : Nat → Int64} {B : Nat → Int} (h : MVP g n0 H mo th pn tn wn B) (hfr : FRM (fun q => MR mo q ∨ q = mo + 6) H H') (hA : ∃ f, AI g H' (mo + 6) 96 f) (hw : WH w n) (hm : MS g n0 H' mo th2 (nI pn2) (nI tn2) (nI wn2) w n fd) (hS : SAME fd0 fd (fun t => 119 ≤ t)) (hB : BV9 fd0 B) (hb : pn2 ≤ 16 ∧ tn2 ≤ 96 ∧ wn2 ≤ 96) : MVP g n0 H' mo th2 pn2 tn2 wn2 B := ⟨⟨w, n, fd, hw, hm, hB.sm hS (fun t h => h)⟩, h.2.1.imp (fun f hf => ⟨AJ.off hfr (by unfold MR; omega) hf.1, hf.2⟩), (h.mp.fin6 hfr hA hw hm hb).2⟩
set_option maxHeartbeats 4000000 in
set_option maxRecDepth 100000 in
theorem Y_Model_set (l : Launch) (g : WG) (n0 : Nat → Prop) (mo : Nat) (th : Int32) (pn tn wn : Nat) (B : Nat → Int) (a : Int32) (v : Int64) : Ctr l y_Model_set (.code y_Model_set prog_11_method_39_code 4 none) 2 46 0 0 n0 g [.ref mo, .int a, .long v] (fun H => MVP g n0 H mo th pn tn wn B) (QV (fun H H' => ((okS a (nI 1) ∧ ¬ v < 0) ∧ (∃ k1, a = nI k1 ∧ k1 < 32 ∧ MVP g n0 H' mo 0 pn tn wn (updI B k1 v.toInt))) ∨ (¬ (okS a (nI 1) ∧ ¬ v < 0) ∧ MVP g n0 H' mo 1 pn tn wn B))) := by
  refine ctr_mk l (lv0 := [(0, .ref mo), (1, .int a), (2, .long v)]) (by decide) (Nat.le_of_ble_eq_true rfl) rfl ?_
  intro p e s m below meth c ls E hr hlk hnm hl hP
  have hx := E.1
  have hb := E.2.1
  have hK := E.2.2.2.2.2
  have hF : ∀ q ∈ ([] : List Loc), n0 q.base := fun q hq => absurd hq List.not_mem_nil
  obtain ⟨⟨w9, n9, fd, hw9, hm, hB9⟩, ⟨fa, hab, hAT, -⟩, hho, -, -, hbd, hmn, -, -, hn8⟩ := id hP
  have hB := hB9.lo
  have hfr : FRM (MR mo) s.heap s.heap := FRM.rf
  have bad : ∀ (locs : List Loc) (ls : Array Slot), ¬ (okS a (nI 1) ∧ ¬ v < 0) → (∀ q ∈ locs, n0 q.base) → lv_has ls 4 [(0, .ref mo), (1, .int a), (2, .long v)] → W p l e { frames := 2, cells := 0, slots := 0, locals := 46 } s m [.ref mo, .int a, .long v].toArray below meth c s.heap locs 0 0 (MQ below (QcP (QV (fun H H' => ((okS a (nI 1) ∧ ¬ v < 0) ∧ (∃ k1, a = nI k1 ∧ k1 < 32 ∧ MVP g n0 H' mo 0 pn tn wn (updI B k1 v.toInt))) ∨ (¬ (okS a (nI 1) ∧ ¬ v < 0) ∧ MVP g n0 H' mo 1 pn tn wn B)))) [.ref mo, .int a, .long v].toArray s 0 0 (fun q => n0 q)) (F0 m 19 ls [.int (nI 1), .ref mo]) := by
    intro  locs   ls hno hF hl
    refine lv_iconst (v := nI 1) hx hb d_Model_set_19 (by decide) ?_
    refine q_cV (rest := []) E (c_Model_fails l g n0 mo th (nI pn) (nI tn) (nI wn) w9 n9 hw9 (nI 1) (nI 1) fd hmn (Or.inl rfl)) w_1056 w_15 w_1053 w_1055 (bw_s 24 rfl) hd_Model_fails rfl ⟨by decide, by decide⟩ (OB.recv E.2.2.2.2.2 (by rfl) hm.1) hm hF hl.1 rfl (Nat.le_of_ble_eq_true rfl) d_Model_set_20 ⟨by decide, by decide⟩ (qi (fun rf H1 locs hq hF => ?_))
    obtain ⟨hrf, hq, hm⟩ := hq
    subst hrf
    have hfr := hfr.tr hq
    rw [if_neg (by decide)] at hm
    refine lv_if_eq (tgt := 27) hx hb d_Model_set_23 (by decide) (fun h9 => absurd h9 (by decide)) (fun _ => ?_)
    exact q_vret E hr hlk (⟨rfl, Or.inr ⟨hno, hP.keep hfr hw9 hm hB9⟩⟩) hF d_Model_set_26
  have good : ∀ (locs : List Loc) (ls : Array Slot), okS a (nI 1) ∧ ¬ v < 0 → (∀ q ∈ locs, n0 q.base) → lv_has ls 4 [(0, .ref mo), (1, .int a), (2, .long v)] → W p l e { frames := 2, cells := 0, slots := 0, locals := 46 } s m [.ref mo, .int a, .long v].toArray below meth c s.heap locs 0 0 (MQ below (QcP (QV (fun H H' => ((okS a (nI 1) ∧ ¬ v < 0) ∧ (∃ k1, a = nI k1 ∧ k1 < 32 ∧ MVP g n0 H' mo 0 pn tn wn (updI B k1 v.toInt))) ∨ (¬ (okS a (nI 1) ∧ ¬ v < 0) ∧ MVP g n0 H' mo 1 pn tn wn B)))) [.ref mo, .int a, .long v].toArray s 0 0 (fun q => n0 q)) (F0 m 19 ls [.int (nI 0), .ref mo]) := by
    intro  locs   ls hok hF hl
    refine lv_iconst (v := nI 1) hx hb d_Model_set_19 (by decide) ?_
    refine q_cV (rest := []) E (c_Model_fails l g n0 mo th (nI pn) (nI tn) (nI wn) w9 n9 hw9 (nI 0) (nI 1) fd hmn (Or.inr rfl)) w_1056 w_15 w_1053 w_1055 (bw_s 24 rfl) hd_Model_fails rfl ⟨by decide, by decide⟩ (OB.recv E.2.2.2.2.2 (by rfl) hm.1) hm hF hl.1 rfl (Nat.le_of_ble_eq_true rfl) d_Model_set_20 ⟨by decide, by decide⟩ (qi (fun rf H1 locs hq hF => ?_))
    obtain ⟨hrf, hq, hm⟩ := hq
    subst hrf
    have hfr := hfr.tr hq
    rw [if_pos nI_0] at hm
    have hab := AJ.off hq (by unfold MR; omega) hab
    refine lv_if_eq (tgt := 27) hx hb d_Model_set_23 (by decide) (fun _ => ?_) (fun h9 => absurd (by decide) h9)
    have hsc : ∀ j, j < 448 → fd j = fd j := fun _ _ => rfl
    have hsp : ∀ j, 448 ≤ j → j < 1666 → fd j = fd j := fun _ _ _ => rfl
    obtain ⟨k1, e_k1, h_k1⟩ := okS_nat (by decide) (by decide) hok.1
    rw [e_k1] at hl
    refine lv_aload_n hx hb d_Model_set_27 rfl (lv_at hl 0 rfl) ?_
    refine lv_iload_n hx hb d_Model_set_28 rfl (lv_at hl 1 rfl) ?_
    refine lv_lload_n hx hb d_Model_set_29 rfl (lv_at hl 2 rfl) ?_
    refine q_cV (rest := []) E (N_Model_small l g n0 mo k1 v 0 (nI pn) (nI tn) (nI wn) w9 n9 hw9 fd (by omega) (v_nn hok.2)) w_1084 w_15 w_1081 w_1083 (bw_s 28 rfl) hd_Model_small rfl ⟨by decide, by decide⟩ (OB.recv E.2.2.2.2.2 (by rfl) hm.1) hm hF hl.1 rfl (Nat.le_of_ble_eq_true rfl) d_Model_set_30 ⟨by decide, by decide⟩ (qv (fun H2 locs hq hF => ?_))
    obtain ⟨hq, fd_1, hm, ho, hn⟩ := hq
    have hab := AJ.off hq (by unfold MR; omega) hab
    have hfr := hfr.tr hq
    have hsp : ∀ j, 448 ≤ j → j < 1666 → fd_1 j = fd j := fun j h8 h9 => (ho j (by omega)).trans (hsp j h8 h9)
    have hB := nb_set hB (fun j hj h9 => (ho j  h9).trans (hsc j hj)) hn (v_RI _)
    have hsc : ∀ j, j < 448 → fd_1 j = fd_1 j := fun _ _ => rfl
    exact q_vret E hr hlk (⟨rfl, Or.inl ⟨hok, k1, e_k1, by omega, hP.keep hfr hw9 hm (hB9.mk hB hsp (by intro k9 h9; first | rfl | (unfold updI; rw [if_neg (by omega)]; done) | (unfold updI opB; rw [if_neg (by omega), if_neg (by omega)]; done) | (unfold trB; rw [if_neg (by omega)]; done)))⟩⟩) hF d_Model_set_33
  refine lv_aload_n hx hb d_Model_set_0 rfl (lv_at hl 0 rfl) ?_
  refine lv_iload_n hx hb d_Model_set_1 rfl (lv_at hl 1 rfl) ?_
  refine q_cS (rest := [.ref mo]) E (c_Model_noScalar l g n0 a ) w_1064 w_15 w_1062 w_1063 hd_Model_noScalar rfl ⟨by decide, by decide⟩ trivial hF hl.1 rfl (Nat.le_of_ble_eq_true rfl) d_Model_set_2 ⟨by decide, by decide⟩ (qi (fun r_0 H1 locs hq hF => ?_))
  obtain ⟨h_0, hq⟩ := hq
  subst hq
  rcases h_0 with ⟨rfl, f_0⟩ | ⟨rfl, f_0⟩
  · skip
    refine lv_if_ne (tgt := 14) hx hb d_Model_set_5 (by decide) (fun _ => ?_) (fun h9 => absurd h9 (by decide))
    refine lv_iconst (v := nI 1) hx hb d_Model_set_14 (by decide) ?_
    refine lv_goto (tgt := 19) hx hb d_Model_set_15 (by decide) ?_
    have hl : lv_has ls 4 [(0, .ref mo), (1, .int a), (2, .long v)] := lv_sub hl [0, 1, 2] rfl
    exact bad _ ls (fun h => (f_0) h.1) hF hl
  · skip
    refine lv_if_ne (tgt := 14) hx hb d_Model_set_5 (by decide) (fun h9 => absurd (by decide) h9) (fun _ => ?_)
    refine lv_lload_n hx hb d_Model_set_8 rfl (lv_at hl 2 rfl) ?_
    refine lv_lconst (v := 0) hx hb d_Model_set_9 (by decide) ?_
    refine W.lcmp hx hb d_Model_set_10 ?_
    refine lv_if_ge (tgt := 18) hx hb d_Model_set_11 (by decide) (fun g_11 => ?_) (fun g_11 => ?_)
    rotate_left
    · skip
      refine lv_iconst (v := nI 1) hx hb d_Model_set_14 (by decide) ?_
      refine lv_goto (tgt := 19) hx hb d_Model_set_15 (by decide) ?_
      have hl : lv_has ls 4 [(0, .ref mo), (1, .int a), (2, .long v)] := lv_sub hl [0, 1, 2] rfl
      exact bad _ ls (fun h => (absurd (l_lt0 g_11)) h.2) hF hl
    refine lv_iconst (v := nI 0) hx hb d_Model_set_18 (by decide) ?_
    have hl : lv_has ls 4 [(0, .ref mo), (1, .int a), (2, .long v)] := lv_sub hl [0, 1, 2] rfl
    exact good _ ls ⟨f_0, l_ge0 g_11⟩ hF hl
set_option maxHeartbeats 4000000 in
set_option maxRecDepth 100000 in
theorem Y_Model_power (l : Launch) (g : WG) (n0 : Nat → Prop) (mo : Nat) (th : Int32) (pn tn wn : Nat) (B : Nat → Int) (a : Int32) (a2 : Int32) (v : Int64) : Ctr l y_Model_power (.code y_Model_power prog_11_method_42_code 5 none) 4 103 0 0 n0 g [.ref mo, .int a, .int a2, .long v] (fun H => MVP g n0 H mo th pn tn wn B) (QV (fun H H' => ((okS a (nI 1) ∧ okS a2 (nI 1) ∧ ¬ v < 0) ∧ (∃ k1 k2, a = nI k1 ∧ a2 = nI k2 ∧ k1 < 32 ∧ k2 < 32 ∧ MVP g n0 H' mo 0 pn tn wn (updI B k1 (B k2 ^ v.toInt.toNat % RI)))) ∨ (¬ (okS a (nI 1) ∧ okS a2 (nI 1) ∧ ¬ v < 0) ∧ MVP g n0 H' mo 1 pn tn wn B))) := by
  refine ctr_mk l (lv0 := [(0, .ref mo), (1, .int a), (2, .int a2), (3, .long v)]) (by decide) (Nat.le_of_ble_eq_true rfl) rfl ?_
  intro p e s m below meth c ls E hr hlk hnm hl hP
  have hx := E.1
  have hb := E.2.1
  have hK := E.2.2.2.2.2
  have hF : ∀ q ∈ ([] : List Loc), n0 q.base := fun q hq => absurd hq List.not_mem_nil
  obtain ⟨⟨w9, n9, fd, hw9, hm, hB9⟩, ⟨fa, hab, hAT, -⟩, hho, -, -, hbd, hmn, -, -, hn8⟩ := id hP
  have hB := hB9.lo
  have hfr : FRM (MR mo) s.heap s.heap := FRM.rf
  have bad : ∀ (locs : List Loc) (ls : Array Slot), ¬ (okS a (nI 1) ∧ okS a2 (nI 1) ∧ ¬ v < 0) → (∀ q ∈ locs, n0 q.base) → lv_has ls 5 [(0, .ref mo), (1, .int a), (2, .int a2), (3, .long v)] → W p l e { frames := 4, cells := 0, slots := 0, locals := 103 } s m [.ref mo, .int a, .int a2, .long v].toArray below meth c s.heap locs 0 0 (MQ below (QcP (QV (fun H H' => ((okS a (nI 1) ∧ okS a2 (nI 1) ∧ ¬ v < 0) ∧ (∃ k1 k2, a = nI k1 ∧ a2 = nI k2 ∧ k1 < 32 ∧ k2 < 32 ∧ MVP g n0 H' mo 0 pn tn wn (updI B k1 (B k2 ^ v.toInt.toNat % RI)))) ∨ (¬ (okS a (nI 1) ∧ okS a2 (nI 1) ∧ ¬ v < 0) ∧ MVP g n0 H' mo 1 pn tn wn B)))) [.ref mo, .int a, .int a2, .long v].toArray s 0 0 (fun q => n0 q)) (F0 m 26 ls [.int (nI 1), .ref mo]) := by
    intro  locs   ls hno hF hl
    refine lv_iconst (v := nI 1) hx hb d_Model_power_26 (by decide) ?_
    refine q_cV (rest := []) E (c_Model_fails l g n0 mo th (nI pn) (nI tn) (nI wn) w9 n9 hw9 (nI 1) (nI 1) fd hmn (Or.inl rfl)) w_1056 w_15 w_1053 w_1055 (bw_s 24 rfl) hd_Model_fails rfl ⟨by decide, by decide⟩ (OB.recv E.2.2.2.2.2 (by rfl) hm.1) hm hF hl.1 rfl (Nat.le_of_ble_eq_true rfl) d_Model_power_27 ⟨by decide, by decide⟩ (qi (fun rf H1 locs hq hF => ?_))
    obtain ⟨hrf, hq, hm⟩ := hq
    subst hrf
    have hfr := hfr.tr hq
    rw [if_neg (by decide)] at hm
    refine lv_if_eq (tgt := 34) hx hb d_Model_power_30 (by decide) (fun h9 => absurd h9 (by decide)) (fun _ => ?_)
    exact q_vret E hr hlk (⟨rfl, Or.inr ⟨hno, hP.keep hfr hw9 hm hB9⟩⟩) hF d_Model_power_33
  have good : ∀ (locs : List Loc) (ls : Array Slot), okS a (nI 1) ∧ okS a2 (nI 1) ∧ ¬ v < 0 → (∀ q ∈ locs, n0 q.base) → lv_has ls 5 [(0, .ref mo), (1, .int a), (2, .int a2), (3, .long v)] → W p l e { frames := 4, cells := 0, slots := 0, locals := 103 } s m [.ref mo, .int a, .int a2, .long v].toArray below meth c s.heap locs 0 0 (MQ below (QcP (QV (fun H H' => ((okS a (nI 1) ∧ okS a2 (nI 1) ∧ ¬ v < 0) ∧ (∃ k1 k2, a = nI k1 ∧ a2 = nI k2 ∧ k1 < 32 ∧ k2 < 32 ∧ MVP g n0 H' mo 0 pn tn wn (updI B k1 (B k2 ^ v.toInt.toNat % RI)))) ∨ (¬ (okS a (nI 1) ∧ okS a2 (nI 1) ∧ ¬ v < 0) ∧ MVP g n0 H' mo 1 pn tn wn B)))) [.ref mo, .int a, .int a2, .long v].toArray s 0 0 (fun q => n0 q)) (F0 m 26 ls [.int (nI 0), .ref mo]) := by
    intro  locs   ls hok hF hl
    refine lv_iconst (v := nI 1) hx hb d_Model_power_26 (by decide) ?_
    refine q_cV (rest := []) E (c_Model_fails l g n0 mo th (nI pn) (nI tn) (nI wn) w9 n9 hw9 (nI 0) (nI 1) fd hmn (Or.inr rfl)) w_1056 w_15 w_1053 w_1055 (bw_s 24 rfl) hd_Model_fails rfl ⟨by decide, by decide⟩ (OB.recv E.2.2.2.2.2 (by rfl) hm.1) hm hF hl.1 rfl (Nat.le_of_ble_eq_true rfl) d_Model_power_27 ⟨by decide, by decide⟩ (qi (fun rf H1 locs hq hF => ?_))
    obtain ⟨hrf, hq, hm⟩ := hq
    subst hrf
    have hfr := hfr.tr hq
    rw [if_pos nI_0] at hm
    have hab := AJ.off hq (by unfold MR; omega) hab
    refine lv_if_eq (tgt := 34) hx hb d_Model_power_30 (by decide) (fun _ => ?_) (fun h9 => absurd (by decide) h9)
    have hsc : ∀ j, j < 448 → fd j = fd j := fun _ _ => rfl
    have hsp : ∀ j, 448 ≤ j → j < 1666 → fd j = fd j := fun _ _ _ => rfl
    obtain ⟨k1, e_k1, h_k1⟩ := okS_nat (by decide) (by decide) hok.1
    rw [e_k1] at hl
    obtain ⟨k2, e_k2, h_k2⟩ := okS_nat (by decide) (by decide) hok.2.1
    rw [e_k2] at hl
    have hvn := v_nn hok.2.2
    refine lv_aload_n hx hb d_Model_power_34 rfl (lv_at hl 0 rfl) ?_
    refine lv_iconst (v := nI 1) hx hb d_Model_power_35 (by decide) ?_
    refine q_cV (rest := []) E (c_Model_use l g n0 mo 0 (nI pn) (nI tn) (nI wn) w9 n9 hw9 1 10 hw1 fd hmn) w_967 w_15 w_964 w_966 (bw_s 15 rfl) hd_Model_use rfl ⟨by decide, by decide⟩ (OB.recv E.2.2.2.2.2 (by rfl) hm.1) hm hF hl.1 rfl (Nat.le_of_ble_eq_true rfl) d_Model_power_36 ⟨by decide, by decide⟩ (qv (fun H2 locs hq hF => ?_))
    obtain ⟨hq, hm⟩ := hq
    have hfr := hfr.tr hq
    have hab := AJ.off hq (by unfold MR; omega) hab
    refine lv_aload_n hx hb d_Model_power_39 rfl (lv_at hl 0 rfl) ?_
    refine lv_sipush (v := nI 145) hx hb d_Model_power_40 (by decide) ?_
    refine lv_lload_n hx hb d_Model_power_43 rfl (lv_at hl 3 rfl) ?_
    refine q_cV (rest := []) E (N_Model_small l g n0 mo 145 v 0 (nI pn) (nI tn) (nI wn) 1 10 hw1 fd (by omega) hvn) w_1084 w_15 w_1081 w_1083 (bw_s 28 rfl) hd_Model_small rfl ⟨by decide, by decide⟩ (OB.recv E.2.2.2.2.2 (by rfl) hm.1) hm hF hl.1 rfl (Nat.le_of_ble_eq_true rfl) d_Model_power_44 ⟨by decide, by decide⟩ (qv (fun H3 locs hq hF => ?_))
    obtain ⟨hq, fd_1, hm, ho, hn⟩ := hq
    have hab := AJ.off hq (by unfold MR; omega) hab
    have hfr := hfr.tr hq
    rw [show v.toInt = ((v.toInt.toNat : Nat) : Int) from (Int.toNat_of_nonneg hvn).symm] at hn
    have hsp : ∀ j, 448 ≤ j → j < 1666 → fd_1 j = fd j := fun j h8 h9 => (ho j (by omega)).trans (hsp j h8 h9)
    have hsc : ∀ j, j < 448 → fd_1 j = fd j := fun j hj => (ho j (by omega)).trans (hsc j hj)
    have n_145 : NV fd_1 145 ((v.toInt.toNat : Nat) : Int) := hn
    refine lv_aload_n hx hb d_Model_power_47 rfl (lv_at hl 0 rfl) ?_
    refine lv_iload_n hx hb d_Model_power_48 rfl (lv_at hl 1 rfl) ?_
    refine lv_iload_n hx hb d_Model_power_49 rfl (lv_at hl 2 rfl) ?_
    refine lv_sipush (v := nI 145) hx hb d_Model_power_50 (by decide) ?_
    refine q_cV (rest := []) E (N_Model_raise l g n0 mo k1 k2 145 0 (nI pn) (nI tn) (nI wn) fd_1 fa (by omega) (by omega) (by omega) hAT (B k2) v.toInt.toNat ((hB k2 (by omega)).1.fr (fun k hk => hsc _ (by omega))) ((hB k2 (by omega)).2) n_145 (by omega)) w_1126 w_15 w_1123 w_1125 (bw_s 35 rfl) hd_Model_raise rfl ⟨by decide, by decide⟩ (OB.recv E.2.2.2.2.2 (by rfl) hm.1) (⟨hm, hab⟩) hF hl.1 rfl (Nat.le_of_ble_eq_true rfl) d_Model_power_53 ⟨by decide, by decide⟩ (qv (fun H4 locs hq hF => ?_))
    obtain ⟨hq, hab, fd_2, hm, ho, hn⟩ := hq
    have hfr := hfr.tr hq
    have n_145 : NV fd_2 145 ((v.toInt.toNat : Nat) : Int) := n_145.fr (fun k hk => ho _ (by omega) (by omega))
    have hsp : ∀ j, 448 ≤ j → j < 1666 → fd_2 j = fd j := fun j h8 h9 => (ho j (by omega) (by omega)).trans (hsp j h8 h9)
    have hB := nb_set hB (fun j hj h9 => (ho j (by omega) h9).trans (hsc j hj)) hn (rm_r _).2
    have hsc : ∀ j, j < 448 → fd_2 j = fd_2 j := fun _ _ => rfl
    exact q_vret E hr hlk (⟨rfl, Or.inl ⟨hok, k1, k2, e_k1, e_k2, by omega, by omega, hP.keep hfr hw1 hm (hB9.mk hB hsp (by intro k9 h9; first | rfl | (unfold updI; rw [if_neg (by omega)]; done) | (unfold updI opB; rw [if_neg (by omega), if_neg (by omega)]; done) | (unfold trB; rw [if_neg (by omega)]; done)))⟩⟩) hF d_Model_power_56
  refine lv_aload_n hx hb d_Model_power_0 rfl (lv_at hl 0 rfl) ?_
  refine lv_iload_n hx hb d_Model_power_1 rfl (lv_at hl 1 rfl) ?_
  refine q_cS (rest := [.ref mo]) E (c_Model_noScalar l g n0 a ) w_1064 w_15 w_1062 w_1063 hd_Model_noScalar rfl ⟨by decide, by decide⟩ trivial hF hl.1 rfl (Nat.le_of_ble_eq_true rfl) d_Model_power_2 ⟨by decide, by decide⟩ (qi (fun r_0 H1 locs hq hF => ?_))
  obtain ⟨h_0, hq⟩ := hq
  subst hq
  rcases h_0 with ⟨rfl, f_0⟩ | ⟨rfl, f_0⟩
  · skip
    refine lv_if_ne (tgt := 21) hx hb d_Model_power_5 (by decide) (fun _ => ?_) (fun h9 => absurd h9 (by decide))
    refine lv_iconst (v := nI 1) hx hb d_Model_power_21 (by decide) ?_
    refine lv_goto (tgt := 26) hx hb d_Model_power_22 (by decide) ?_
    have hl : lv_has ls 5 [(0, .ref mo), (1, .int a), (2, .int a2), (3, .long v)] := lv_sub hl [0, 1, 2, 3] rfl
    exact bad _ ls (fun h => (f_0) h.1) hF hl
  · skip
    refine lv_if_ne (tgt := 21) hx hb d_Model_power_5 (by decide) (fun h9 => absurd (by decide) h9) (fun _ => ?_)
    refine lv_iload_n hx hb d_Model_power_8 rfl (lv_at hl 2 rfl) ?_
    refine q_cS (rest := [.ref mo]) E (c_Model_noScalar l g n0 a2 ) w_1064 w_15 w_1062 w_1063 hd_Model_noScalar rfl ⟨by decide, by decide⟩ trivial hF hl.1 rfl (Nat.le_of_ble_eq_true rfl) d_Model_power_9 ⟨by decide, by decide⟩ (qi (fun r_1 H2 locs hq hF => ?_))
    obtain ⟨h_1, hq⟩ := hq
    subst hq
    rcases h_1 with ⟨rfl, f_1⟩ | ⟨rfl, f_1⟩
    · skip
      refine lv_if_ne (tgt := 21) hx hb d_Model_power_12 (by decide) (fun _ => ?_) (fun h9 => absurd h9 (by decide))
      refine lv_iconst (v := nI 1) hx hb d_Model_power_21 (by decide) ?_
      refine lv_goto (tgt := 26) hx hb d_Model_power_22 (by decide) ?_
      have hl : lv_has ls 5 [(0, .ref mo), (1, .int a), (2, .int a2), (3, .long v)] := lv_sub hl [0, 1, 2, 3] rfl
      exact bad _ ls (fun h => (f_1) h.2.1) hF hl
    · skip
      refine lv_if_ne (tgt := 21) hx hb d_Model_power_12 (by decide) (fun h9 => absurd (by decide) h9) (fun _ => ?_)
      refine lv_lload_n hx hb d_Model_power_15 rfl (lv_at hl 3 rfl) ?_
      refine lv_lconst (v := 0) hx hb d_Model_power_16 (by decide) ?_
      refine W.lcmp hx hb d_Model_power_17 ?_
      refine lv_if_ge (tgt := 25) hx hb d_Model_power_18 (by decide) (fun g_18 => ?_) (fun g_18 => ?_)
      rotate_left
      · skip
        refine lv_iconst (v := nI 1) hx hb d_Model_power_21 (by decide) ?_
        refine lv_goto (tgt := 26) hx hb d_Model_power_22 (by decide) ?_
        have hl : lv_has ls 5 [(0, .ref mo), (1, .int a), (2, .int a2), (3, .long v)] := lv_sub hl [0, 1, 2, 3] rfl
        exact bad _ ls (fun h => (absurd (l_lt0 g_18)) h.2.2) hF hl
      refine lv_iconst (v := nI 0) hx hb d_Model_power_25 (by decide) ?_
      have hl : lv_has ls 5 [(0, .ref mo), (1, .int a), (2, .int a2), (3, .long v)] := lv_sub hl [0, 1, 2, 3] rfl
      exact good _ ls ⟨f_0, f_1, l_ge0 g_18⟩ hF hl
set_option maxHeartbeats 4000000 in
set_option maxRecDepth 100000 in
theorem Y_Model_unity (l : Launch) (g : WG) (n0 : Nat → Prop) (mo : Nat) (th : Int32) (pn tn wn : Nat) (B : Nat → Int) (a : Int32) (k : Int32) : Ctr l y_Model_unity (.code y_Model_unity prog_11_method_44_code 3 none) 5 125 0 0 n0 g [.ref mo, .int a, .int k] (fun H => MVP g n0 H mo th pn tn wn B) (QV (fun H H' => ((okS a (nI 1) ∧ okC k (nI 0) (nI 32)) ∧ (∃ k1 k2, a = nI k1 ∧ k = nI k2 ∧ k1 < 32 ∧ k2 ≤ 32 ∧ MVP g n0 H' mo 0 pn tn wn (updI B k1 (7 ^ eU k2 % RI)))) ∨ (¬ (okS a (nI 1) ∧ okC k (nI 0) (nI 32)) ∧ MVP g n0 H' mo 1 pn tn wn B))) := by
  refine ctr_mk l (lv0 := [(0, .ref mo), (1, .int a), (2, .int k)]) (by decide) (Nat.le_of_ble_eq_true rfl) rfl ?_
  intro p e s m below meth c ls E hr hlk hnm hl hP
  have hx := E.1
  have hb := E.2.1
  have hK := E.2.2.2.2.2
  have hF : ∀ q ∈ ([] : List Loc), n0 q.base := fun q hq => absurd hq List.not_mem_nil
  obtain ⟨⟨w9, n9, fd, hw9, hm, hB9⟩, ⟨fa, hab, hAT, -⟩, hho, -, -, hbd, hmn, -, -, hn8⟩ := id hP
  have hB := hB9.lo
  have hfr : FRM (MR mo) s.heap s.heap := FRM.rf
  have bad : ∀ (locs : List Loc) (ls : Array Slot), ¬ (okS a (nI 1) ∧ okC k (nI 0) (nI 32)) → (∀ q ∈ locs, n0 q.base) → lv_has ls 3 [(0, .ref mo), (1, .int a), (2, .int k)] → W p l e { frames := 5, cells := 0, slots := 0, locals := 125 } s m [.ref mo, .int a, .int k].toArray below meth c s.heap locs 0 0 (MQ below (QcP (QV (fun H H' => ((okS a (nI 1) ∧ okC k (nI 0) (nI 32)) ∧ (∃ k1 k2, a = nI k1 ∧ k = nI k2 ∧ k1 < 32 ∧ k2 ≤ 32 ∧ MVP g n0 H' mo 0 pn tn wn (updI B k1 (7 ^ eU k2 % RI)))) ∨ (¬ (okS a (nI 1) ∧ okC k (nI 0) (nI 32)) ∧ MVP g n0 H' mo 1 pn tn wn B)))) [.ref mo, .int a, .int k].toArray s 0 0 (fun q => n0 q)) (F0 m 25 ls [.int (nI 1), .ref mo]) := by
    intro  locs   ls hno hF hl
    refine lv_iconst (v := nI 1) hx hb d_Model_unity_25 (by decide) ?_
    refine q_cV (rest := []) E (c_Model_fails l g n0 mo th (nI pn) (nI tn) (nI wn) w9 n9 hw9 (nI 1) (nI 1) fd hmn (Or.inl rfl)) w_1056 w_15 w_1053 w_1055 (bw_s 24 rfl) hd_Model_fails rfl ⟨by decide, by decide⟩ (OB.recv E.2.2.2.2.2 (by rfl) hm.1) hm hF hl.1 rfl (Nat.le_of_ble_eq_true rfl) d_Model_unity_26 ⟨by decide, by decide⟩ (qi (fun rf H1 locs hq hF => ?_))
    obtain ⟨hrf, hq, hm⟩ := hq
    subst hrf
    have hfr := hfr.tr hq
    rw [if_neg (by decide)] at hm
    refine lv_if_eq (tgt := 33) hx hb d_Model_unity_29 (by decide) (fun h9 => absurd h9 (by decide)) (fun _ => ?_)
    exact q_vret E hr hlk (⟨rfl, Or.inr ⟨hno, hP.keep hfr hw9 hm hB9⟩⟩) hF d_Model_unity_32
  have good : ∀ (locs : List Loc) (ls : Array Slot), okS a (nI 1) ∧ okC k (nI 0) (nI 32) → (∀ q ∈ locs, n0 q.base) → lv_has ls 3 [(0, .ref mo), (1, .int a), (2, .int k)] → W p l e { frames := 5, cells := 0, slots := 0, locals := 125 } s m [.ref mo, .int a, .int k].toArray below meth c s.heap locs 0 0 (MQ below (QcP (QV (fun H H' => ((okS a (nI 1) ∧ okC k (nI 0) (nI 32)) ∧ (∃ k1 k2, a = nI k1 ∧ k = nI k2 ∧ k1 < 32 ∧ k2 ≤ 32 ∧ MVP g n0 H' mo 0 pn tn wn (updI B k1 (7 ^ eU k2 % RI)))) ∨ (¬ (okS a (nI 1) ∧ okC k (nI 0) (nI 32)) ∧ MVP g n0 H' mo 1 pn tn wn B)))) [.ref mo, .int a, .int k].toArray s 0 0 (fun q => n0 q)) (F0 m 25 ls [.int (nI 0), .ref mo]) := by
    intro  locs   ls hok hF hl
    refine lv_iconst (v := nI 1) hx hb d_Model_unity_25 (by decide) ?_
    refine q_cV (rest := []) E (c_Model_fails l g n0 mo th (nI pn) (nI tn) (nI wn) w9 n9 hw9 (nI 0) (nI 1) fd hmn (Or.inr rfl)) w_1056 w_15 w_1053 w_1055 (bw_s 24 rfl) hd_Model_fails rfl ⟨by decide, by decide⟩ (OB.recv E.2.2.2.2.2 (by rfl) hm.1) hm hF hl.1 rfl (Nat.le_of_ble_eq_true rfl) d_Model_unity_26 ⟨by decide, by decide⟩ (qi (fun rf H1 locs hq hF => ?_))
    obtain ⟨hrf, hq, hm⟩ := hq
    subst hrf
    have hfr := hfr.tr hq
    rw [if_pos nI_0] at hm
    have hab := AJ.off hq (by unfold MR; omega) hab
    refine lv_if_eq (tgt := 33) hx hb d_Model_unity_29 (by decide) (fun _ => ?_) (fun h9 => absurd (by decide) h9)
    have hsc : ∀ j, j < 448 → fd j = fd j := fun _ _ => rfl
    have hsp : ∀ j, 448 ≤ j → j < 1666 → fd j = fd j := fun _ _ _ => rfl
    obtain ⟨k1, e_k1, h_k1⟩ := okS_nat (by decide) (by decide) hok.1
    rw [e_k1] at hl
    obtain ⟨k2, e_k2, h_k2, h2_k2⟩ := okC_nat (by decide) (by decide) hok.2
    rw [e_k2] at hl
    refine lv_aload_n hx hb d_Model_unity_33 rfl (lv_at hl 0 rfl) ?_
    refine lv_iload_n hx hb d_Model_unity_34 rfl (lv_at hl 1 rfl) ?_
    refine lv_iload_n hx hb d_Model_unity_35 rfl (lv_at hl 2 rfl) ?_
    refine q_cV (rest := []) E (N_Model_unit l g n0 mo k1 k2 0 (nI pn) (nI tn) (nI wn) w9 n9 hw9 fd fa hmn (by omega) (by omega) hAT) w_1139 w_15 w_1136 w_1138 (bw_s 36 rfl) hd_Model_unit rfl ⟨by decide, by decide⟩ (OB.recv E.2.2.2.2.2 (by rfl) hm.1) (⟨hm, hab⟩) hF hl.1 rfl (Nat.le_of_ble_eq_true rfl) d_Model_unity_36 ⟨by decide, by decide⟩ (qv (fun H2 locs hq hF => ?_))
    obtain ⟨hq, hab, fd_1, hm, ho, hn⟩ := hq
    have hfr := hfr.tr hq
    have hsp : ∀ j, 448 ≤ j → j < 1666 → fd_1 j = fd j := fun j h8 h9 => (ho j (by omega) (by omega) (by omega)).trans (hsp j h8 h9)
    have hB := nb_set hB (fun j hj h9 => (ho j (by omega) (by omega) h9).trans (hsc j hj)) hn (rm_r _).2
    have hsc : ∀ j, j < 448 → fd_1 j = fd_1 j := fun _ _ => rfl
    exact q_vret E hr hlk (⟨rfl, Or.inl ⟨hok, k1, k2, e_k1, e_k2, by omega, by omega, hP.keep hfr hw1 hm (hB9.mk hB hsp (by intro k9 h9; first | rfl | (unfold updI; rw [if_neg (by omega)]; done) | (unfold updI opB; rw [if_neg (by omega), if_neg (by omega)]; done) | (unfold trB; rw [if_neg (by omega)]; done)))⟩⟩) hF d_Model_unity_39
  refine lv_aload_n hx hb d_Model_unity_0 rfl (lv_at hl 0 rfl) ?_
  refine lv_iload_n hx hb d_Model_unity_1 rfl (lv_at hl 1 rfl) ?_
  refine q_cS (rest := [.ref mo]) E (c_Model_noScalar l g n0 a ) w_1064 w_15 w_1062 w_1063 hd_Model_noScalar rfl ⟨by decide, by decide⟩ trivial hF hl.1 rfl (Nat.le_of_ble_eq_true rfl) d_Model_unity_2 ⟨by decide, by decide⟩ (qi (fun r_0 H1 locs hq hF => ?_))
  obtain ⟨h_0, hq⟩ := hq
  subst hq
  rcases h_0 with ⟨rfl, f_0⟩ | ⟨rfl, f_0⟩
  · skip
    refine lv_if_ne (tgt := 20) hx hb d_Model_unity_5 (by decide) (fun _ => ?_) (fun h9 => absurd h9 (by decide))
    refine lv_iconst (v := nI 1) hx hb d_Model_unity_20 (by decide) ?_
    refine lv_goto (tgt := 25) hx hb d_Model_unity_21 (by decide) ?_
    have hl : lv_has ls 3 [(0, .ref mo), (1, .int a), (2, .int k)] := lv_sub hl [0, 1, 2] rfl
    exact bad _ ls (fun h => (f_0) h.1) hF hl
  · skip
    refine lv_if_ne (tgt := 20) hx hb d_Model_unity_5 (by decide) (fun h9 => absurd (by decide) h9) (fun _ => ?_)
    refine lv_iload_n hx hb d_Model_unity_8 rfl (lv_at hl 2 rfl) ?_
    refine lv_i2l (v := k.toInt64) hx hb d_Model_unity_9 rfl ?_
    refine lv_lconst (v := 0) hx hb d_Model_unity_10 (by decide) ?_
    refine lv_ldc2 (v := 32) hx hb E.2.2.2.1 (E.2.2.2.2.1 _ w_1135) d_Model_unity_11 ?_
    refine q_cS (rest := [.ref mo]) E (c_Model_in l g n0 k.toInt64 0 32 ) w_1101 w_15 w_1099 w_1100 hd_Model_in rfl ⟨by decide, by decide⟩ trivial hF hl.1 rfl (Nat.le_of_ble_eq_true rfl) d_Model_unity_14 ⟨by decide, by decide⟩ (qi (fun r_1 H2 locs hq hF => ?_))
    obtain ⟨h_1, hq⟩ := hq
    subst hq
    rcases h_1 with ⟨rfl, f_1⟩ | ⟨rfl, f_1⟩
    · skip
      refine lv_if_ne (tgt := 24) hx hb d_Model_unity_17 (by decide) (fun h9 => absurd (by decide) h9) (fun _ => ?_)
      refine lv_iconst (v := nI 1) hx hb d_Model_unity_20 (by decide) ?_
      refine lv_goto (tgt := 25) hx hb d_Model_unity_21 (by decide) ?_
      have hl : lv_has ls 3 [(0, .ref mo), (1, .int a), (2, .int k)] := lv_sub hl [0, 1, 2] rfl
      exact bad _ ls (fun h => (fun q => f_1 ((in_okC (a := 0) (b := 32) (by decide) (by decide) (by decide) (by decide)).mpr q)) h.2) hF hl
    · skip
      refine lv_if_ne (tgt := 24) hx hb d_Model_unity_17 (by decide) (fun _ => ?_) (fun h9 => absurd h9 (by decide))
      refine lv_iconst (v := nI 0) hx hb d_Model_unity_24 (by decide) ?_
      have hl : lv_has ls 3 [(0, .ref mo), (1, .int a), (2, .int k)] := lv_sub hl [0, 1, 2] rfl
      exact good _ ls ⟨f_0, (in_okC (a := 0) (b := 32) (by decide) (by decide) (by decide) (by decide)).mp f_1⟩ hF hl
set_option maxHeartbeats 4000000 in
set_option maxRecDepth 100000 in
theorem Y_Model_reckon (l : Launch) (g : WG) (n0 : Nat → Prop) (mo : Nat) (th : Int32) (pn tn wn : Nat) (B : Nat → Int) (w0 : Int32) (a : Int32) (a2 : Int32) (a3 : Int32) : Ctr l y_Model_reckon (.code y_Model_reckon prog_11_method_41_code 5 none) 5 125 0 0 n0 g [.ref mo, .int w0, .int a, .int a2, .int a3] (fun H => MVP g n0 H mo th pn tn wn B) (QV (fun H H' => ((okC w0 (nI 0) (nI 3) ∧ okS a (nI 1) ∧ okS a2 (nI 1) ∧ okS a3 (nI 1)) ∧ (∃ k0 k1 k2 k3, w0 = nI k0 ∧ a = nI k1 ∧ a2 = nI k2 ∧ a3 = nI k3 ∧ k0 ≤ 3 ∧ k1 < 32 ∧ k2 < 32 ∧ k3 < 32 ∧ (((k0 = 3 → B k3 ≠ 0) ∧ MVP g n0 H' mo 0 pn tn wn (updI B k1 (rkV k0 (B k2) (B k3)))) ∨ (k0 = 3 ∧ B k3 = 0 ∧ MVP g n0 H' mo (nI 2) pn tn wn B)))) ∨ (¬ (okC w0 (nI 0) (nI 3) ∧ okS a (nI 1) ∧ okS a2 (nI 1) ∧ okS a3 (nI 1)) ∧ MVP g n0 H' mo 1 pn tn wn B))) := by
  refine ctr_mk l (lv0 := [(0, .ref mo), (1, .int w0), (2, .int a), (3, .int a2), (4, .int a3)]) (by decide) (Nat.le_of_ble_eq_true rfl) rfl ?_
  intro p e s m below meth c ls E hr hlk hnm hl hP
  have hx := E.1
  have hb := E.2.1
  have hK := E.2.2.2.2.2
  have hF : ∀ q ∈ ([] : List Loc), n0 q.base := fun q hq => absurd hq List.not_mem_nil
  obtain ⟨⟨w9, n9, fd, hw9, hm, hB9⟩, ⟨fa, hab, hAT, -⟩, hho, -, -, hbd, hmn, -, -, hn8⟩ := id hP
  have hB := hB9.lo
  have hfr : FRM (MR mo) s.heap s.heap := FRM.rf
  have bad : ∀ (locs : List Loc) (ls : Array Slot), ¬ (okC w0 (nI 0) (nI 3) ∧ okS a (nI 1) ∧ okS a2 (nI 1) ∧ okS a3 (nI 1)) → (∀ q ∈ locs, n0 q.base) → lv_has ls 5 [(0, .ref mo), (1, .int w0), (2, .int a), (3, .int a2), (4, .int a3)] → W p l e { frames := 5, cells := 0, slots := 0, locals := 125 } s m [.ref mo, .int w0, .int a, .int a2, .int a3].toArray below meth c s.heap locs 0 0 (MQ below (QcP (QV (fun H H' => ((okC w0 (nI 0) (nI 3) ∧ okS a (nI 1) ∧ okS a2 (nI 1) ∧ okS a3 (nI 1)) ∧ (∃ k0 k1 k2 k3, w0 = nI k0 ∧ a = nI k1 ∧ a2 = nI k2 ∧ a3 = nI k3 ∧ k0 ≤ 3 ∧ k1 < 32 ∧ k2 < 32 ∧ k3 < 32 ∧ (((k0 = 3 → B k3 ≠ 0) ∧ MVP g n0 H' mo 0 pn tn wn (updI B k1 (rkV k0 (B k2) (B k3)))) ∨ (k0 = 3 ∧ B k3 = 0 ∧ MVP g n0 H' mo (nI 2) pn tn wn B)))) ∨ (¬ (okC w0 (nI 0) (nI 3) ∧ okS a (nI 1) ∧ okS a2 (nI 1) ∧ okS a3 (nI 1)) ∧ MVP g n0 H' mo 1 pn tn wn B)))) [.ref mo, .int w0, .int a, .int a2, .int a3].toArray s 0 0 (fun q => n0 q)) (F0 m 40 ls [.int (nI 1), .ref mo]) := by
    intro  locs   ls hno hF hl
    refine lv_iconst (v := nI 1) hx hb d_Model_reckon_40 (by decide) ?_
    refine q_cV (rest := []) E (c_Model_fails l g n0 mo th (nI pn) (nI tn) (nI wn) w9 n9 hw9 (nI 1) (nI 1) fd hmn (Or.inl rfl)) w_1056 w_15 w_1053 w_1055 (bw_s 24 rfl) hd_Model_fails rfl ⟨by decide, by decide⟩ (OB.recv E.2.2.2.2.2 (by rfl) hm.1) hm hF hl.1 rfl (Nat.le_of_ble_eq_true rfl) d_Model_reckon_41 ⟨by decide, by decide⟩ (qi (fun rf H1 locs hq hF => ?_))
    obtain ⟨hrf, hq, hm⟩ := hq
    subst hrf
    have hfr := hfr.tr hq
    rw [if_neg (by decide)] at hm
    refine lv_if_ne (tgt := 77) hx hb d_Model_reckon_44 (by decide) (fun _ => ?_) (fun h9 => absurd h9 (by decide))
    exact q_vret E hr hlk (⟨rfl, Or.inr ⟨hno, hP.keep hfr hw9 hm hB9⟩⟩) hF d_Model_reckon_77
  have good : ∀ (locs : List Loc) (ls : Array Slot), okC w0 (nI 0) (nI 3) ∧ okS a (nI 1) ∧ okS a2 (nI 1) ∧ okS a3 (nI 1) → (∀ q ∈ locs, n0 q.base) → lv_has ls 5 [(0, .ref mo), (1, .int w0), (2, .int a), (3, .int a2), (4, .int a3)] → W p l e { frames := 5, cells := 0, slots := 0, locals := 125 } s m [.ref mo, .int w0, .int a, .int a2, .int a3].toArray below meth c s.heap locs 0 0 (MQ below (QcP (QV (fun H H' => ((okC w0 (nI 0) (nI 3) ∧ okS a (nI 1) ∧ okS a2 (nI 1) ∧ okS a3 (nI 1)) ∧ (∃ k0 k1 k2 k3, w0 = nI k0 ∧ a = nI k1 ∧ a2 = nI k2 ∧ a3 = nI k3 ∧ k0 ≤ 3 ∧ k1 < 32 ∧ k2 < 32 ∧ k3 < 32 ∧ (((k0 = 3 → B k3 ≠ 0) ∧ MVP g n0 H' mo 0 pn tn wn (updI B k1 (rkV k0 (B k2) (B k3)))) ∨ (k0 = 3 ∧ B k3 = 0 ∧ MVP g n0 H' mo (nI 2) pn tn wn B)))) ∨ (¬ (okC w0 (nI 0) (nI 3) ∧ okS a (nI 1) ∧ okS a2 (nI 1) ∧ okS a3 (nI 1)) ∧ MVP g n0 H' mo 1 pn tn wn B)))) [.ref mo, .int w0, .int a, .int a2, .int a3].toArray s 0 0 (fun q => n0 q)) (F0 m 40 ls [.int (nI 0), .ref mo]) := by
    intro  locs   ls hok hF hl
    refine lv_iconst (v := nI 1) hx hb d_Model_reckon_40 (by decide) ?_
    refine q_cV (rest := []) E (c_Model_fails l g n0 mo th (nI pn) (nI tn) (nI wn) w9 n9 hw9 (nI 0) (nI 1) fd hmn (Or.inr rfl)) w_1056 w_15 w_1053 w_1055 (bw_s 24 rfl) hd_Model_fails rfl ⟨by decide, by decide⟩ (OB.recv E.2.2.2.2.2 (by rfl) hm.1) hm hF hl.1 rfl (Nat.le_of_ble_eq_true rfl) d_Model_reckon_41 ⟨by decide, by decide⟩ (qi (fun rf H1 locs hq hF => ?_))
    obtain ⟨hrf, hq, hm⟩ := hq
    subst hrf
    have hfr := hfr.tr hq
    rw [if_pos nI_0] at hm
    have hab := AJ.off hq (by unfold MR; omega) hab
    refine lv_if_ne (tgt := 77) hx hb d_Model_reckon_44 (by decide) (fun h9 => absurd (by decide) h9) (fun _ => ?_)
    have hsc : ∀ j, j < 448 → fd j = fd j := fun _ _ => rfl
    have hsp : ∀ j, 448 ≤ j → j < 1666 → fd j = fd j := fun _ _ _ => rfl
    obtain ⟨k0, e_k0, h_k0, h2_k0⟩ := okC_nat (by decide) (by decide) hok.1
    rw [e_k0] at hl
    obtain ⟨k1, e_k1, h_k1⟩ := okS_nat (by decide) (by decide) hok.2.1
    rw [e_k1] at hl
    obtain ⟨k2, e_k2, h_k2⟩ := okS_nat (by decide) (by decide) hok.2.2.1
    rw [e_k2] at hl
    obtain ⟨k3, e_k3, h_k3⟩ := okS_nat (by decide) (by decide) hok.2.2.2
    rw [e_k3] at hl
    obtain ⟨hq9, -⟩ : k0 ≤ 3 ∧ True := ⟨h2_k0, trivial⟩
    match k0, hq9, e_k0 with
    | 0, _, e_k0 =>
      refine lv_aload_n hx hb d_Model_reckon_47 rfl (lv_at hl 0 rfl) ?_
      refine lv_iload_n hx hb d_Model_reckon_48 rfl (lv_at hl 1 rfl) ?_
      refine lv_iconst (v := nI 3) hx hb d_Model_reckon_49 (by decide) ?_
      refine lv_icmp_ne (tgt := 69) hx hb d_Model_reckon_50 (by decide) (fun _ => ?_) (fun h9 => absurd h9 (by decide))
      refine lv_iconst (v := nI 0) hx hb d_Model_reckon_69 (by decide) ?_
      refine lv_iconst (v := nI 2) hx hb d_Model_reckon_70 (by decide) ?_
      refine q_cV (rest := []) E (c_Model_fails l g n0 mo 0 (nI pn) (nI tn) (nI wn) w9 n9 hw9 (nI 0) (nI 2) fd hmn (Or.inr rfl)) w_1056 w_15 w_1053 w_1055 (bw_s 24 rfl) hd_Model_fails rfl ⟨by decide, by decide⟩ (OB.recv E.2.2.2.2.2 (by rfl) hm.1) hm hF hl.1 rfl (Nat.le_of_ble_eq_true rfl) d_Model_reckon_71 ⟨by decide, by decide⟩ (qi (fun rf H2 locs hq hF => ?_))
      obtain ⟨hrf, hq, hm⟩ := hq
      subst hrf
      have hfr := hfr.tr hq
      rw [if_pos nI_0] at hm
      have hab := AJ.off hq (by unfold MR; omega) hab
      refine lv_if_eq (tgt := 78) hx hb d_Model_reckon_74 (by decide) (fun _ => ?_) (fun h9 => absurd (by decide) h9)
      refine lv_aload_n hx hb d_Model_reckon_78 rfl (lv_at hl 0 rfl) ?_
      refine lv_iconst (v := nI 1) hx hb d_Model_reckon_79 (by decide) ?_
      refine q_cV (rest := []) E (c_Model_use l g n0 mo 0 (nI pn) (nI tn) (nI wn) w9 n9 hw9 1 10 hw1 fd hmn) w_967 w_15 w_964 w_966 (bw_s 15 rfl) hd_Model_use rfl ⟨by decide, by decide⟩ (OB.recv E.2.2.2.2.2 (by rfl) hm.1) hm hF hl.1 rfl (Nat.le_of_ble_eq_true rfl) d_Model_reckon_80 ⟨by decide, by decide⟩ (qv (fun H3 locs hq hF => ?_))
      obtain ⟨hq, hm⟩ := hq
      have hfr := hfr.tr hq
      have hab := AJ.off hq (by unfold MR; omega) hab
      refine lv_iload_n hx hb d_Model_reckon_83 rfl (lv_at hl 1 rfl) ?_
      refine lv_if_ne (tgt := 95) hx hb d_Model_reckon_84 (by decide) (fun h9 => absurd (by decide) h9) (fun _ => ?_)
      refine lv_aload_n hx hb d_Model_reckon_87 rfl (lv_at hl 0 rfl) ?_
      refine lv_iload_n hx hb d_Model_reckon_88 rfl (lv_at hl 2 rfl) ?_
      refine lv_iload_n hx hb d_Model_reckon_89 rfl (lv_at hl 3 rfl) ?_
      refine lv_iload hx hb d_Model_reckon_90 (lv_at hl 4 rfl) ?_
      refine q_cV (rest := []) E (N_Model_add l g n0 mo k1 k2 k3 0 (nI pn) (nI tn) (nI wn) fd (by omega) (by omega) (by omega) (B k2) (B k3) hm.2.2.2.2.2.1 ((hB k2 (by omega)).1.fr (fun k hk => hsc _ (by omega))) ((hB k3 (by omega)).1.fr (fun k hk => hsc _ (by omega))) ((hB k2 (by omega)).2) ((hB k3 (by omega)).2)) w_975 w_15 w_972 w_974 (bw_s 17 rfl) hd_Model_add rfl ⟨by decide, by decide⟩ (OB.recv E.2.2.2.2.2 (by rfl) hm.1) hm hF hl.1 rfl (Nat.le_of_ble_eq_true rfl) d_Model_reckon_92 ⟨by decide, by decide⟩ (qv (fun H4 locs hq hF => ?_))
      obtain ⟨hq, fd_1, hm, ho, hn⟩ := hq
      have hab := hq.ajo (by omega) hab
      have hfr := hfr.tr (kjR hq)
      have hsp : ∀ j, 448 ≤ j → j < 1666 → fd_1 j = fd j := fun j h8 h9 => (ho j (by omega)).trans (hsp j h8 h9)
      have hB := nb_set hB (fun j hj h9 => (ho j  h9).trans (hsc j hj)) hn (rm_r _).2
      have hsc : ∀ j, j < 448 → fd_1 j = fd_1 j := fun _ _ => rfl
      refine lv_iload_n hx hb d_Model_reckon_95 rfl (lv_at hl 1 rfl) ?_
      refine lv_iconst (v := nI 1) hx hb d_Model_reckon_96 (by decide) ?_
      refine lv_icmp_ne (tgt := 108) hx hb d_Model_reckon_97 (by decide) (fun _ => ?_) (fun h9 => absurd h9 (by decide))
      refine lv_iload_n hx hb d_Model_reckon_108 rfl (lv_at hl 1 rfl) ?_
      refine lv_iconst (v := nI 2) hx hb d_Model_reckon_109 (by decide) ?_
      refine lv_icmp_ne (tgt := 121) hx hb d_Model_reckon_110 (by decide) (fun _ => ?_) (fun h9 => absurd h9 (by decide))
      refine lv_iload_n hx hb d_Model_reckon_121 rfl (lv_at hl 1 rfl) ?_
      refine lv_iconst (v := nI 3) hx hb d_Model_reckon_122 (by decide) ?_
      refine lv_icmp_ge (tgt := 127) hx hb d_Model_reckon_123 (by decide) (fun h9 => absurd h9 (by decide)) (fun _ => ?_)
      exact q_vret E hr hlk (⟨rfl, Or.inl ⟨hok, 0, k1, k2, k3, e_k0, e_k1, e_k2, e_k3, by decide, by omega, by omega, by omega, Or.inl ⟨fun h => absurd h (by decide), hP.keep hfr hw1 hm (hB9.mk hB hsp (by intro k9 h9; first | rfl | (unfold updI; rw [if_neg (by omega)]; done) | (unfold updI opB; rw [if_neg (by omega), if_neg (by omega)]; done) | (unfold trB; rw [if_neg (by omega)]; done)))⟩⟩⟩) hF d_Model_reckon_126
    | 1, _, e_k0 =>
      refine lv_aload_n hx hb d_Model_reckon_47 rfl (lv_at hl 0 rfl) ?_
      refine lv_iload_n hx hb d_Model_reckon_48 rfl (lv_at hl 1 rfl) ?_
      refine lv_iconst (v := nI 3) hx hb d_Model_reckon_49 (by decide) ?_
      refine lv_icmp_ne (tgt := 69) hx hb d_Model_reckon_50 (by decide) (fun _ => ?_) (fun h9 => absurd h9 (by decide))
      refine lv_iconst (v := nI 0) hx hb d_Model_reckon_69 (by decide) ?_
      refine lv_iconst (v := nI 2) hx hb d_Model_reckon_70 (by decide) ?_
      refine q_cV (rest := []) E (c_Model_fails l g n0 mo 0 (nI pn) (nI tn) (nI wn) w9 n9 hw9 (nI 0) (nI 2) fd hmn (Or.inr rfl)) w_1056 w_15 w_1053 w_1055 (bw_s 24 rfl) hd_Model_fails rfl ⟨by decide, by decide⟩ (OB.recv E.2.2.2.2.2 (by rfl) hm.1) hm hF hl.1 rfl (Nat.le_of_ble_eq_true rfl) d_Model_reckon_71 ⟨by decide, by decide⟩ (qi (fun rf H2 locs hq hF => ?_))
      obtain ⟨hrf, hq, hm⟩ := hq
      subst hrf
      have hfr := hfr.tr hq
      rw [if_pos nI_0] at hm
      have hab := AJ.off hq (by unfold MR; omega) hab
      refine lv_if_eq (tgt := 78) hx hb d_Model_reckon_74 (by decide) (fun _ => ?_) (fun h9 => absurd (by decide) h9)
      refine lv_aload_n hx hb d_Model_reckon_78 rfl (lv_at hl 0 rfl) ?_
      refine lv_iconst (v := nI 1) hx hb d_Model_reckon_79 (by decide) ?_
      refine q_cV (rest := []) E (c_Model_use l g n0 mo 0 (nI pn) (nI tn) (nI wn) w9 n9 hw9 1 10 hw1 fd hmn) w_967 w_15 w_964 w_966 (bw_s 15 rfl) hd_Model_use rfl ⟨by decide, by decide⟩ (OB.recv E.2.2.2.2.2 (by rfl) hm.1) hm hF hl.1 rfl (Nat.le_of_ble_eq_true rfl) d_Model_reckon_80 ⟨by decide, by decide⟩ (qv (fun H3 locs hq hF => ?_))
      obtain ⟨hq, hm⟩ := hq
      have hfr := hfr.tr hq
      have hab := AJ.off hq (by unfold MR; omega) hab
      refine lv_iload_n hx hb d_Model_reckon_83 rfl (lv_at hl 1 rfl) ?_
      refine lv_if_ne (tgt := 95) hx hb d_Model_reckon_84 (by decide) (fun _ => ?_) (fun h9 => absurd h9 (by decide))
      refine lv_iload_n hx hb d_Model_reckon_95 rfl (lv_at hl 1 rfl) ?_
      refine lv_iconst (v := nI 1) hx hb d_Model_reckon_96 (by decide) ?_
      refine lv_icmp_ne (tgt := 108) hx hb d_Model_reckon_97 (by decide) (fun h9 => absurd (by decide) h9) (fun _ => ?_)
      refine lv_aload_n hx hb d_Model_reckon_100 rfl (lv_at hl 0 rfl) ?_
      refine lv_iload_n hx hb d_Model_reckon_101 rfl (lv_at hl 2 rfl) ?_
      refine lv_iload_n hx hb d_Model_reckon_102 rfl (lv_at hl 3 rfl) ?_
      refine lv_iload hx hb d_Model_reckon_103 (lv_at hl 4 rfl) ?_
      refine q_cV (rest := []) E (N_Model_less l g n0 mo k1 k2 k3 0 (nI pn) (nI tn) (nI wn) fd (by omega) (by omega) (by omega) (B k2) (B k3) hm.2.2.2.2.2.1 ((hB k2 (by omega)).1.fr (fun k hk => hsc _ (by omega))) ((hB k3 (by omega)).1.fr (fun k hk => hsc _ (by omega))) ((hB k2 (by omega)).2) ((hB k3 (by omega)).2)) w_1109 w_15 w_1106 w_1108 (bw_s 31 rfl) hd_Model_less rfl ⟨by decide, by decide⟩ (OB.recv E.2.2.2.2.2 (by rfl) hm.1) hm hF hl.1 rfl (Nat.le_of_ble_eq_true rfl) d_Model_reckon_105 ⟨by decide, by decide⟩ (qv (fun H4 locs hq hF => ?_))
      obtain ⟨hq, fd_2, hm, ho, hn⟩ := hq
      have hab := hq.ajo (by omega) hab
      have hfr := hfr.tr (kjR hq)
      have hsp : ∀ j, 448 ≤ j → j < 1666 → fd_2 j = fd j := fun j h8 h9 => (ho j (by omega)).trans (hsp j h8 h9)
      have hB := nb_set hB (fun j hj h9 => (ho j  h9).trans (hsc j hj)) hn (rm_r _).2
      have hsc : ∀ j, j < 448 → fd_2 j = fd_2 j := fun _ _ => rfl
      refine lv_iload_n hx hb d_Model_reckon_108 rfl (lv_at hl 1 rfl) ?_
      refine lv_iconst (v := nI 2) hx hb d_Model_reckon_109 (by decide) ?_
      refine lv_icmp_ne (tgt := 121) hx hb d_Model_reckon_110 (by decide) (fun _ => ?_) (fun h9 => absurd h9 (by decide))
      refine lv_iload_n hx hb d_Model_reckon_121 rfl (lv_at hl 1 rfl) ?_
      refine lv_iconst (v := nI 3) hx hb d_Model_reckon_122 (by decide) ?_
      refine lv_icmp_ge (tgt := 127) hx hb d_Model_reckon_123 (by decide) (fun h9 => absurd h9 (by decide)) (fun _ => ?_)
      exact q_vret E hr hlk (⟨rfl, Or.inl ⟨hok, 1, k1, k2, k3, e_k0, e_k1, e_k2, e_k3, by decide, by omega, by omega, by omega, Or.inl ⟨fun h => absurd h (by decide), hP.keep hfr hw1 hm (hB9.mk hB hsp (by intro k9 h9; first | rfl | (unfold updI; rw [if_neg (by omega)]; done) | (unfold updI opB; rw [if_neg (by omega), if_neg (by omega)]; done) | (unfold trB; rw [if_neg (by omega)]; done)))⟩⟩⟩) hF d_Model_reckon_126
    | 2, _, e_k0 =>
      refine lv_aload_n hx hb d_Model_reckon_47 rfl (lv_at hl 0 rfl) ?_
      refine lv_iload_n hx hb d_Model_reckon_48 rfl (lv_at hl 1 rfl) ?_
      refine lv_iconst (v := nI 3) hx hb d_Model_reckon_49 (by decide) ?_
      refine lv_icmp_ne (tgt := 69) hx hb d_Model_reckon_50 (by decide) (fun _ => ?_) (fun h9 => absurd h9 (by decide))
      refine lv_iconst (v := nI 0) hx hb d_Model_reckon_69 (by decide) ?_
      refine lv_iconst (v := nI 2) hx hb d_Model_reckon_70 (by decide) ?_
      refine q_cV (rest := []) E (c_Model_fails l g n0 mo 0 (nI pn) (nI tn) (nI wn) w9 n9 hw9 (nI 0) (nI 2) fd hmn (Or.inr rfl)) w_1056 w_15 w_1053 w_1055 (bw_s 24 rfl) hd_Model_fails rfl ⟨by decide, by decide⟩ (OB.recv E.2.2.2.2.2 (by rfl) hm.1) hm hF hl.1 rfl (Nat.le_of_ble_eq_true rfl) d_Model_reckon_71 ⟨by decide, by decide⟩ (qi (fun rf H2 locs hq hF => ?_))
      obtain ⟨hrf, hq, hm⟩ := hq
      subst hrf
      have hfr := hfr.tr hq
      rw [if_pos nI_0] at hm
      have hab := AJ.off hq (by unfold MR; omega) hab
      refine lv_if_eq (tgt := 78) hx hb d_Model_reckon_74 (by decide) (fun _ => ?_) (fun h9 => absurd (by decide) h9)
      refine lv_aload_n hx hb d_Model_reckon_78 rfl (lv_at hl 0 rfl) ?_
      refine lv_iconst (v := nI 1) hx hb d_Model_reckon_79 (by decide) ?_
      refine q_cV (rest := []) E (c_Model_use l g n0 mo 0 (nI pn) (nI tn) (nI wn) w9 n9 hw9 1 10 hw1 fd hmn) w_967 w_15 w_964 w_966 (bw_s 15 rfl) hd_Model_use rfl ⟨by decide, by decide⟩ (OB.recv E.2.2.2.2.2 (by rfl) hm.1) hm hF hl.1 rfl (Nat.le_of_ble_eq_true rfl) d_Model_reckon_80 ⟨by decide, by decide⟩ (qv (fun H3 locs hq hF => ?_))
      obtain ⟨hq, hm⟩ := hq
      have hfr := hfr.tr hq
      have hab := AJ.off hq (by unfold MR; omega) hab
      refine lv_iload_n hx hb d_Model_reckon_83 rfl (lv_at hl 1 rfl) ?_
      refine lv_if_ne (tgt := 95) hx hb d_Model_reckon_84 (by decide) (fun _ => ?_) (fun h9 => absurd h9 (by decide))
      refine lv_iload_n hx hb d_Model_reckon_95 rfl (lv_at hl 1 rfl) ?_
      refine lv_iconst (v := nI 1) hx hb d_Model_reckon_96 (by decide) ?_
      refine lv_icmp_ne (tgt := 108) hx hb d_Model_reckon_97 (by decide) (fun _ => ?_) (fun h9 => absurd h9 (by decide))
      refine lv_iload_n hx hb d_Model_reckon_108 rfl (lv_at hl 1 rfl) ?_
      refine lv_iconst (v := nI 2) hx hb d_Model_reckon_109 (by decide) ?_
      refine lv_icmp_ne (tgt := 121) hx hb d_Model_reckon_110 (by decide) (fun h9 => absurd (by decide) h9) (fun _ => ?_)
      refine lv_aload_n hx hb d_Model_reckon_113 rfl (lv_at hl 0 rfl) ?_
      refine lv_iload_n hx hb d_Model_reckon_114 rfl (lv_at hl 2 rfl) ?_
      refine lv_iload_n hx hb d_Model_reckon_115 rfl (lv_at hl 3 rfl) ?_
      refine lv_iload hx hb d_Model_reckon_116 (lv_at hl 4 rfl) ?_
      refine q_cV (rest := []) E (N_Model_product l g n0 mo k1 k2 k3 0 (nI pn) (nI tn) (nI wn) fd (by omega) (by omega) (by omega) fa hAT (B k2) (B k3) hm.2.2.2.2.2.1 ((hB k2 (by omega)).1.fr (fun k hk => hsc _ (by omega))) ((hB k3 (by omega)).1.fr (fun k hk => hsc _ (by omega))) ((hB k2 (by omega)).2) ((hB k3 (by omega)).2)) w_1113 w_15 w_1110 w_1112 (bw_s 32 rfl) hd_Model_product rfl ⟨by decide, by decide⟩ (OB.recv E.2.2.2.2.2 (by rfl) hm.1) (⟨hm, hab⟩) hF hl.1 rfl (Nat.le_of_ble_eq_true rfl) d_Model_reckon_118 ⟨by decide, by decide⟩ (qv (fun H4 locs hq hF => ?_))
      obtain ⟨hq, fd_3, hm, ho, hn⟩ := hq
      have hab := hq.ajo (by omega) hab
      have hfr := hfr.tr (kjR hq)
      have hsp : ∀ j, 448 ≤ j → j < 1666 → fd_3 j = fd j := fun j h8 h9 => (ho j (by omega)).trans (hsp j h8 h9)
      have hB := nb_set hB (fun j hj h9 => (ho j  h9).trans (hsc j hj)) hn (rm_r _).2
      have hsc : ∀ j, j < 448 → fd_3 j = fd_3 j := fun _ _ => rfl
      refine lv_iload_n hx hb d_Model_reckon_121 rfl (lv_at hl 1 rfl) ?_
      refine lv_iconst (v := nI 3) hx hb d_Model_reckon_122 (by decide) ?_
      refine lv_icmp_ge (tgt := 127) hx hb d_Model_reckon_123 (by decide) (fun h9 => absurd h9 (by decide)) (fun _ => ?_)
      exact q_vret E hr hlk (⟨rfl, Or.inl ⟨hok, 2, k1, k2, k3, e_k0, e_k1, e_k2, e_k3, by decide, by omega, by omega, by omega, Or.inl ⟨fun h => absurd h (by decide), hP.keep hfr hw1 hm (hB9.mk hB hsp (by intro k9 h9; first | rfl | (unfold updI; rw [if_neg (by omega)]; done) | (unfold updI opB; rw [if_neg (by omega), if_neg (by omega)]; done) | (unfold trB; rw [if_neg (by omega)]; done)))⟩⟩⟩) hF d_Model_reckon_126
    | 3, _, e_k0 =>
      refine lv_aload_n hx hb d_Model_reckon_47 rfl (lv_at hl 0 rfl) ?_
      refine lv_iload_n hx hb d_Model_reckon_48 rfl (lv_at hl 1 rfl) ?_
      refine lv_iconst (v := nI 3) hx hb d_Model_reckon_49 (by decide) ?_
      refine lv_icmp_ne (tgt := 69) hx hb d_Model_reckon_50 (by decide) (fun h9 => absurd (by decide) h9) (fun _ => ?_)
      refine lv_aload_n hx hb d_Model_reckon_53 rfl (lv_at hl 0 rfl) ?_
      refine lv_iload hx hb d_Model_reckon_54 (lv_at hl 4 rfl) ?_
      refine lv_bipush (v := nI 31) hx hb d_Model_reckon_56 (by decide) ?_
      refine lv_iand hx hb d_Model_reckon_58 ?_
      refine lv_topi (fun t9 e9 => ?_)
      obtain rfl : t9 = nI k3 := e9.trans (by rw [pk_andN (by omega) (k := 5) (by decide), Nat.mod_eq_of_lt (by omega)])
      refine q_cV (rest := [.ref mo]) E (N_Model_isZero l g n0 mo k3 0 (nI pn) (nI tn) (nI wn) w9 n9 hw9 fd (by omega) (B k3) ((hB k3 (by omega)).1)) w_1105 w_15 w_1102 w_1104 (bw_s 30 rfl) hd_Model_isZero rfl ⟨by decide, by decide⟩ (OB.recv E.2.2.2.2.2 (by rfl) hm.1) hm hF hl.1 rfl (Nat.le_of_ble_eq_true rfl) d_Model_reckon_59 ⟨by decide, by decide⟩ (qi (fun rz H2 locs hq hF => ?_))
      obtain ⟨hrz, hq⟩ := hq
      subst hq
      refine lv_if_eq (tgt := 69) hx hb d_Model_reckon_62 (by decide) (fun hz => ?_) (fun hz => ?_)
      rotate_left
      · skip
        have hz0 : B k3 = 0 := hrz.elim (fun h => h.2) (fun h => absurd h.1 hz)
        refine lv_iconst (v := nI 1) hx hb d_Model_reckon_65 (by decide) ?_
        refine lv_goto (tgt := 70) hx hb d_Model_reckon_66 (by decide) ?_
        refine lv_iconst (v := nI 2) hx hb d_Model_reckon_70 (by decide) ?_
        refine q_cV (rest := []) E (c_Model_fails l g n0 mo 0 (nI pn) (nI tn) (nI wn) w9 n9 hw9 (nI 1) (nI 2) fd hmn (Or.inl rfl)) w_1056 w_15 w_1053 w_1055 (bw_s 24 rfl) hd_Model_fails rfl ⟨by decide, by decide⟩ (OB.recv E.2.2.2.2.2 (by rfl) hm.1) hm hF hl.1 rfl (Nat.le_of_ble_eq_true rfl) d_Model_reckon_71 ⟨by decide, by decide⟩ (qi (fun rf H3 locs hq hF => ?_))
        obtain ⟨hrf, hq, hm⟩ := hq
        subst hrf
        have hfr := hfr.tr hq
        rw [if_neg (by decide)] at hm
        refine lv_if_eq (tgt := 78) hx hb d_Model_reckon_74 (by decide) (fun h9 => absurd h9 (by decide)) (fun _ => ?_)
        exact q_vret E hr hlk (⟨rfl, Or.inl ⟨hok, 3, k1, k2, k3, e_k0, e_k1, e_k2, e_k3, by decide, by omega, by omega, by omega, Or.inr ⟨rfl, hz0, hP.keep hfr hw9 hm (hB9.mk hB hsp (by intro k9 h9; first | rfl | (unfold updI; rw [if_neg (by omega)]; done) | (unfold updI opB; rw [if_neg (by omega), if_neg (by omega)]; done) | (unfold trB; rw [if_neg (by omega)]; done)))⟩⟩⟩) hF d_Model_reckon_77
      have hnz : B k3 ≠ 0 := hrz.elim (fun h => absurd (hz.symm.trans h.1) (by decide)) (fun h => h.2)
      refine lv_iconst (v := nI 0) hx hb d_Model_reckon_69 (by decide) ?_
      refine lv_iconst (v := nI 2) hx hb d_Model_reckon_70 (by decide) ?_
      refine q_cV (rest := []) E (c_Model_fails l g n0 mo 0 (nI pn) (nI tn) (nI wn) w9 n9 hw9 (nI 0) (nI 2) fd hmn (Or.inr rfl)) w_1056 w_15 w_1053 w_1055 (bw_s 24 rfl) hd_Model_fails rfl ⟨by decide, by decide⟩ (OB.recv E.2.2.2.2.2 (by rfl) hm.1) hm hF hl.1 rfl (Nat.le_of_ble_eq_true rfl) d_Model_reckon_71 ⟨by decide, by decide⟩ (qi (fun rf H3 locs hq hF => ?_))
      obtain ⟨hrf, hq, hm⟩ := hq
      subst hrf
      have hfr := hfr.tr hq
      rw [if_pos nI_0] at hm
      have hab := AJ.off hq (by unfold MR; omega) hab
      refine lv_if_eq (tgt := 78) hx hb d_Model_reckon_74 (by decide) (fun _ => ?_) (fun h9 => absurd (by decide) h9)
      refine lv_aload_n hx hb d_Model_reckon_78 rfl (lv_at hl 0 rfl) ?_
      refine lv_iconst (v := nI 1) hx hb d_Model_reckon_79 (by decide) ?_
      refine q_cV (rest := []) E (c_Model_use l g n0 mo 0 (nI pn) (nI tn) (nI wn) w9 n9 hw9 1 10 hw1 fd hmn) w_967 w_15 w_964 w_966 (bw_s 15 rfl) hd_Model_use rfl ⟨by decide, by decide⟩ (OB.recv E.2.2.2.2.2 (by rfl) hm.1) hm hF hl.1 rfl (Nat.le_of_ble_eq_true rfl) d_Model_reckon_80 ⟨by decide, by decide⟩ (qv (fun H4 locs hq hF => ?_))
      obtain ⟨hq, hm⟩ := hq
      have hfr := hfr.tr hq
      have hab := AJ.off hq (by unfold MR; omega) hab
      refine lv_iload_n hx hb d_Model_reckon_83 rfl (lv_at hl 1 rfl) ?_
      refine lv_if_ne (tgt := 95) hx hb d_Model_reckon_84 (by decide) (fun _ => ?_) (fun h9 => absurd h9 (by decide))
      refine lv_iload_n hx hb d_Model_reckon_95 rfl (lv_at hl 1 rfl) ?_
      refine lv_iconst (v := nI 1) hx hb d_Model_reckon_96 (by decide) ?_
      refine lv_icmp_ne (tgt := 108) hx hb d_Model_reckon_97 (by decide) (fun _ => ?_) (fun h9 => absurd h9 (by decide))
      refine lv_iload_n hx hb d_Model_reckon_108 rfl (lv_at hl 1 rfl) ?_
      refine lv_iconst (v := nI 2) hx hb d_Model_reckon_109 (by decide) ?_
      refine lv_icmp_ne (tgt := 121) hx hb d_Model_reckon_110 (by decide) (fun _ => ?_) (fun h9 => absurd h9 (by decide))
      refine lv_iload_n hx hb d_Model_reckon_121 rfl (lv_at hl 1 rfl) ?_
      refine lv_iconst (v := nI 3) hx hb d_Model_reckon_122 (by decide) ?_
      refine lv_icmp_ge (tgt := 127) hx hb d_Model_reckon_123 (by decide) (fun _ => ?_) (fun h9 => absurd (by decide) h9)
      refine lv_aload_n hx hb d_Model_reckon_127 rfl (lv_at hl 0 rfl) ?_
      refine lv_sipush (v := nI 145) hx hb d_Model_reckon_128 (by decide) ?_
      refine lv_iload_n hx hb d_Model_reckon_131 rfl (lv_at hl 3 rfl) ?_
      refine q_cV (rest := []) E (c_Model_move l g n0 mo 145 k2 0 (nI pn) (nI tn) (nI wn) 1 10 hw1 fd (by omega) (by omega)) w_1076 w_15 w_1073 w_1075 (bw_s 27 rfl) hd_Model_move rfl ⟨by decide, by decide⟩ (OB.recv E.2.2.2.2.2 (by rfl) hm.1) hm hF hl.1 rfl (Nat.le_of_ble_eq_true rfl) d_Model_reckon_132 ⟨by decide, by decide⟩ (qv (fun H5 locs hq hF => ?_))
      obtain ⟨hq, fd_4, hm, hpv⟩ := hq
      have hab := AJ.off hq (by unfold MR; omega) hab
      have hfr := hfr.tr hq
      have ho := hpv.1
      have hn : NV fd_4 145 (B k2) := (VL_ext (fun k hk => hpv.2 k hk)).trans ((hB k2 (by omega)).1.fr (fun k hk => hsc _ (by omega)))
      have hsp : ∀ j, 448 ≤ j → j < 1666 → fd_4 j = fd j := fun j h8 h9 => (ho j (by omega)).trans (hsp j h8 h9)
      have hsc : ∀ j, j < 448 → fd_4 j = fd j := fun j hj => (ho j (by omega)).trans (hsc j hj)
      have n_145 : NV fd_4 145 (B k2) := hn
      refine lv_aload_n hx hb d_Model_reckon_135 rfl (lv_at hl 0 rfl) ?_
      refine lv_sipush (v := nI 146) hx hb d_Model_reckon_136 (by decide) ?_
      refine lv_iload hx hb d_Model_reckon_139 (lv_at hl 4 rfl) ?_
      refine q_cV (rest := []) E (N_Model_inverse l g n0 mo 146 k3 0 (nI pn) (nI tn) (nI wn) fd_4 fa (by omega) (by omega) (by omega) hAT (B k3) ((hB k3 (by omega)).1.fr (fun k hk => hsc _ (by omega))) ((hB k3 (by omega)).2)) w_1117 w_15 w_1114 w_1116 (bw_s 33 rfl) hd_Model_inverse rfl ⟨by decide, by decide⟩ (OB.recv E.2.2.2.2.2 (by rfl) hm.1) (⟨hm, hab⟩) hF hl.1 rfl (Nat.le_of_ble_eq_true rfl) d_Model_reckon_141 ⟨by decide, by decide⟩ (qv (fun H6 locs hq hF => ?_))
      obtain ⟨hq, hab, fd_5, hm, ho, hn⟩ := hq
      have hfr := hfr.tr hq
      have n_145 : NV fd_5 145 (B k2) := n_145.fr (fun k hk => ho _ (by omega) (by omega))
      have hsp : ∀ j, 448 ≤ j → j < 1666 → fd_5 j = fd j := fun j h8 h9 => (ho j (by omega) (by omega)).trans (hsp j h8 h9)
      have hsc : ∀ j, j < 448 → fd_5 j = fd j := fun j hj => (ho j (by omega) (by omega)).trans (hsc j hj)
      have n_146 : NV fd_5 146 ((B k3) ^ (RN - 2) % RI) := hn
      refine lv_aload_n hx hb d_Model_reckon_144 rfl (lv_at hl 0 rfl) ?_
      refine lv_iload_n hx hb d_Model_reckon_145 rfl (lv_at hl 2 rfl) ?_
      refine lv_sipush (v := nI 145) hx hb d_Model_reckon_146 (by decide) ?_
      refine lv_sipush (v := nI 146) hx hb d_Model_reckon_149 (by decide) ?_
      refine q_cV (rest := []) E (N_Model_product l g n0 mo k1 145 146 0 (nI pn) (nI tn) (nI wn) fd_5 (by omega) (by omega) (by omega) fa hAT (B k2) ((B k3) ^ (RN - 2) % RI) hm.2.2.2.2.2.1 n_145 n_146 ((hB k2 (by omega)).2) ((rm_r _).2)) w_1113 w_15 w_1110 w_1112 (bw_s 32 rfl) hd_Model_product rfl ⟨by decide, by decide⟩ (OB.recv E.2.2.2.2.2 (by rfl) hm.1) (⟨hm, hab⟩) hF hl.1 rfl (Nat.le_of_ble_eq_true rfl) d_Model_reckon_152 ⟨by decide, by decide⟩ (qv (fun H7 locs hq hF => ?_))
      obtain ⟨hq, fd_6, hm, ho, hn⟩ := hq
      have hab := hq.ajo (by omega) hab
      have hfr := hfr.tr (kjR hq)
      have n_145 : NV fd_6 145 (B k2) := n_145.fr (fun k hk => ho _ (by omega))
      have n_146 : NV fd_6 146 ((B k3) ^ (RN - 2) % RI) := n_146.fr (fun k hk => ho _ (by omega))
      have hsp : ∀ j, 448 ≤ j → j < 1666 → fd_6 j = fd j := fun j h8 h9 => (ho j (by omega)).trans (hsp j h8 h9)
      have hB := nb_set hB (fun j hj h9 => (ho j  h9).trans (hsc j hj)) hn (rm_r _).2
      have hsc : ∀ j, j < 448 → fd_6 j = fd_6 j := fun _ _ => rfl
      exact q_vret E hr hlk (⟨rfl, Or.inl ⟨hok, 3, k1, k2, k3, e_k0, e_k1, e_k2, e_k3, by decide, by omega, by omega, by omega, Or.inl ⟨fun _ => hnz, hP.keep hfr hw1 hm (hB9.mk hB hsp (by intro k9 h9; first | rfl | (unfold updI; rw [if_neg (by omega)]; done) | (unfold updI opB; rw [if_neg (by omega), if_neg (by omega)]; done) | (unfold trB; rw [if_neg (by omega)]; done)))⟩⟩⟩) hF d_Model_reckon_155
  refine lv_aload_n hx hb d_Model_reckon_0 rfl (lv_at hl 0 rfl) ?_
  refine lv_iload_n hx hb d_Model_reckon_1 rfl (lv_at hl 1 rfl) ?_
  refine lv_i2l (v := w0.toInt64) hx hb d_Model_reckon_2 rfl ?_
  refine lv_lconst (v := 0) hx hb d_Model_reckon_3 (by decide) ?_
  refine lv_ldc2 (v := 3) hx hb E.2.2.2.1 (E.2.2.2.2.1 _ w_1098) d_Model_reckon_4 ?_
  refine q_cS (rest := [.ref mo]) E (c_Model_in l g n0 w0.toInt64 0 3 ) w_1101 w_15 w_1099 w_1100 hd_Model_in rfl ⟨by decide, by decide⟩ trivial hF hl.1 rfl (Nat.le_of_ble_eq_true rfl) d_Model_reckon_7 ⟨by decide, by decide⟩ (qi (fun r_0 H1 locs hq hF => ?_))
  obtain ⟨h_0, hq⟩ := hq
  subst hq
  rcases h_0 with ⟨rfl, f_0⟩ | ⟨rfl, f_0⟩
  · skip
    refine lv_if_eq (tgt := 35) hx hb d_Model_reckon_10 (by decide) (fun _ => ?_) (fun h9 => absurd (by decide) h9)
    refine lv_iconst (v := nI 1) hx hb d_Model_reckon_35 (by decide) ?_
    refine lv_goto (tgt := 40) hx hb d_Model_reckon_36 (by decide) ?_
    have hl : lv_has ls 5 [(0, .ref mo), (1, .int w0), (2, .int a), (3, .int a2), (4, .int a3)] := lv_sub hl [0, 1, 2, 3, 4] rfl
    exact bad _ ls (fun h => (fun q => f_0 ((in_okC (a := 0) (b := 3) (by decide) (by decide) (by decide) (by decide)).mpr q)) h.1) hF hl
  · skip
    refine lv_if_eq (tgt := 35) hx hb d_Model_reckon_10 (by decide) (fun h9 => absurd h9 (by decide)) (fun _ => ?_)
    refine lv_iload_n hx hb d_Model_reckon_13 rfl (lv_at hl 2 rfl) ?_
    refine q_cS (rest := [.ref mo]) E (c_Model_noScalar l g n0 a ) w_1064 w_15 w_1062 w_1063 hd_Model_noScalar rfl ⟨by decide, by decide⟩ trivial hF hl.1 rfl (Nat.le_of_ble_eq_true rfl) d_Model_reckon_14 ⟨by decide, by decide⟩ (qi (fun r_1 H2 locs hq hF => ?_))
    obtain ⟨h_1, hq⟩ := hq
    subst hq
    rcases h_1 with ⟨rfl, f_1⟩ | ⟨rfl, f_1⟩
    · skip
      refine lv_if_ne (tgt := 35) hx hb d_Model_reckon_17 (by decide) (fun _ => ?_) (fun h9 => absurd h9 (by decide))
      refine lv_iconst (v := nI 1) hx hb d_Model_reckon_35 (by decide) ?_
      refine lv_goto (tgt := 40) hx hb d_Model_reckon_36 (by decide) ?_
      have hl : lv_has ls 5 [(0, .ref mo), (1, .int w0), (2, .int a), (3, .int a2), (4, .int a3)] := lv_sub hl [0, 1, 2, 3, 4] rfl
      exact bad _ ls (fun h => (f_1) h.2.1) hF hl
    · skip
      refine lv_if_ne (tgt := 35) hx hb d_Model_reckon_17 (by decide) (fun h9 => absurd (by decide) h9) (fun _ => ?_)
      refine lv_iload_n hx hb d_Model_reckon_20 rfl (lv_at hl 3 rfl) ?_
      refine q_cS (rest := [.ref mo]) E (c_Model_noScalar l g n0 a2 ) w_1064 w_15 w_1062 w_1063 hd_Model_noScalar rfl ⟨by decide, by decide⟩ trivial hF hl.1 rfl (Nat.le_of_ble_eq_true rfl) d_Model_reckon_21 ⟨by decide, by decide⟩ (qi (fun r_2 H3 locs hq hF => ?_))
      obtain ⟨h_2, hq⟩ := hq
      subst hq
      rcases h_2 with ⟨rfl, f_2⟩ | ⟨rfl, f_2⟩
      · skip
        refine lv_if_ne (tgt := 35) hx hb d_Model_reckon_24 (by decide) (fun _ => ?_) (fun h9 => absurd h9 (by decide))
        refine lv_iconst (v := nI 1) hx hb d_Model_reckon_35 (by decide) ?_
        refine lv_goto (tgt := 40) hx hb d_Model_reckon_36 (by decide) ?_
        have hl : lv_has ls 5 [(0, .ref mo), (1, .int w0), (2, .int a), (3, .int a2), (4, .int a3)] := lv_sub hl [0, 1, 2, 3, 4] rfl
        exact bad _ ls (fun h => (f_2) h.2.2.1) hF hl
      · skip
        refine lv_if_ne (tgt := 35) hx hb d_Model_reckon_24 (by decide) (fun h9 => absurd (by decide) h9) (fun _ => ?_)
        refine lv_iload hx hb d_Model_reckon_27 (lv_at hl 4 rfl) ?_
        refine q_cS (rest := [.ref mo]) E (c_Model_noScalar l g n0 a3 ) w_1064 w_15 w_1062 w_1063 hd_Model_noScalar rfl ⟨by decide, by decide⟩ trivial hF hl.1 rfl (Nat.le_of_ble_eq_true rfl) d_Model_reckon_29 ⟨by decide, by decide⟩ (qi (fun r_3 H4 locs hq hF => ?_))
        obtain ⟨h_3, hq⟩ := hq
        subst hq
        rcases h_3 with ⟨rfl, f_3⟩ | ⟨rfl, f_3⟩
        · skip
          refine lv_if_eq (tgt := 39) hx hb d_Model_reckon_32 (by decide) (fun h9 => absurd h9 (by decide)) (fun _ => ?_)
          refine lv_iconst (v := nI 1) hx hb d_Model_reckon_35 (by decide) ?_
          refine lv_goto (tgt := 40) hx hb d_Model_reckon_36 (by decide) ?_
          have hl : lv_has ls 5 [(0, .ref mo), (1, .int w0), (2, .int a), (3, .int a2), (4, .int a3)] := lv_sub hl [0, 1, 2, 3, 4] rfl
          exact bad _ ls (fun h => (f_3) h.2.2.2) hF hl
        · skip
          refine lv_if_eq (tgt := 39) hx hb d_Model_reckon_32 (by decide) (fun _ => ?_) (fun h9 => absurd (by decide) h9)
          refine lv_iconst (v := nI 0) hx hb d_Model_reckon_39 (by decide) ?_
          have hl : lv_has ls 5 [(0, .ref mo), (1, .int w0), (2, .int a), (3, .int a2), (4, .int a3)] := lv_sub hl [0, 1, 2, 3, 4] rfl
          exact good _ ls ⟨(in_okC (a := 0) (b := 3) (by decide) (by decide) (by decide) (by decide)).mp f_0, f_1, f_2, f_3⟩ hF hl
