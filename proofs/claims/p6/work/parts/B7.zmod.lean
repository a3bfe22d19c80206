section MVR
variable {g : WG} {n0 : Nat → Prop} {H H' : Heap} {mo : Nat} {th th2 : Int32} {pn tn wn pn2 tn2 wn2 w n : Nat} {fd fd0 : Nat → Int64} {B : Nat → Int}
theorem MV.mn (h : MV g n0 H mo th pn tn wn B) : n0 mo := h.2.2.2.2.2.2.1
theorem hB_same (hS : SAME fd0 fd (fun t => 32 ≤ t)) (hB : ∀ k, k < 32 → NV fd0 k (B k) ∧ B k < RI) : ∀ k, k < 32 → NV fd k (B k) ∧ B k < RI := fun k hk => ⟨(hB k hk).1.fr (fun j hj => hS k j (by show ¬ 32 ≤ k; omega) hj), (hB k hk).2⟩
theorem MV.zfin (h : MV g n0 H mo th pn tn wn B) (hfr : FRM (MR mo) H H') (hw : WH w n) (hm : MS g n0 H' mo th2 (nI pn2) (nI tn2) (nI wn2) w n fd) (hS : SAME fd0 fd (fun t => 32 ≤ t)) (hB : ∀ k, k < 32 → NV fd0 k (B k) ∧ B k < RI) (hb : pn2 ≤ 16 ∧ tn2 ≤ 96 ∧ wn2 ≤ 96) : MV g n0 H' mo th2 pn2 tn2 wn2 B := h.fin hfr hw hm (hB_same hS hB) hb
theorem MV.zkeep (h : MV g n0 H mo th pn tn wn B) (hfr : FRM (MR mo) H H') (hw : WH w n) (hm : MS g n0 H' mo th2 (nI pn) (nI tn) (nI wn) w n fd) (hS : SAME fd0 fd (fun t => 32 ≤ t)) (hB : ∀ k, k < 32 → NV fd0 k (B k) ∧ B k < RI) : MV g n0 H' mo th2 pn tn wn B := h.fin hfr hw hm (hB_same hS hB) h.2.2.2.2.2.1
theorem MV.zfin6 (h : MV g n0 H mo th pn tn wn B) (hfr : FRM (fun q => MR mo q ∨ q = mo + 6) H H') (hA : ∃ f, AI g H' (mo + 6) 96 f) (hw : WH w n) (hm : MS g n0 H' mo th2 (nI pn2) (nI tn2) (nI wn2) w n fd) (hS : SAME fd0 fd (fun t => 32 ≤ t)) (hB : ∀ k, k < 32 → NV fd0 k (B k) ∧ B k < RI) (hb : pn2 ≤ 16 ∧ tn2 ≤ 96 ∧ wn2 ≤ 96) : MV g n0 H' mo th2 pn2 tn2 wn2 B := ⟨⟨w, n, fd, hw, hm, hB_same hS hB⟩, h.2.1.imp (fun f hf => ⟨AJ.off hfr (by unfold MR; omega) hf.1, hf.2⟩), (h.mp.fin6 hfr hA hw hm hb).2⟩
theorem MV.zfin7 (h : MV g n0 H mo th pn tn wn B) (hfr : FRM (fun q => MR mo q ∨ q = mo + 7) H H') (hA : ∃ f, AI g H' (mo + 7) 96 f) (hw : WH w n) (hm : MS g n0 H' mo th2 (nI pn2) (nI tn2) (nI wn2) w n fd) (hS : SAME fd0 fd (fun t => 32 ≤ t)) (hB : ∀ k, k < 32 → NV fd0 k (B k) ∧ B k < RI) (hb : pn2 ≤ 16 ∧ tn2 ≤ 96 ∧ wn2 ≤ 96) : MV g n0 H' mo th2 pn2 tn2 wn2 B := ⟨⟨w, n, fd, hw, hm, hB_same hS hB⟩, h.2.1.imp (fun f hf => ⟨AJ.off hfr (by unfold MR; omega) hf.1, hf.2⟩), (h.mp.fin7 hfr hA hw hm hb).2⟩
end MVR
set_option maxHeartbeats 4000000 in
set_option maxRecDepth 100000 in
theorem Z_Model_look (l : Launch) (g : WG) (n0 : Nat → Prop) (mo : Nat) (th : Int32) (pn tn wn : Nat) (B : Nat → Int) (w0 : Int32) : Ctr l y_Model_look (.code y_Model_look prog_11_method_61_code 2 (some FieldType.int)) 1 25 0 0 n0 g [.ref mo, .int w0] (fun H => MV g n0 H mo th pn tn wn B) (QI (fun r H H' => ((okC w0 (nI 0) (nI 2)) ∧ MV g n0 H' mo 0 pn tn wn B) ∨ (¬ (okC w0 (nI 0) (nI 2)) ∧ MV g n0 H' mo 1 pn tn wn B))) := by
  refine ctr_mk l (lv0 := [(0, .ref mo), (1, .int w0)]) (by decide) (Nat.le_of_ble_eq_true rfl) rfl ?_
  intro p e s m below meth c ls E hr hlk hnm hl hP
  have hx := E.1
  have hb := E.2.1
  have hK := E.2.2.2.2.2
  have hF : ∀ q ∈ ([] : List Loc), n0 q.base := fun q hq => absurd hq List.not_mem_nil
  obtain ⟨⟨w9, n9, fd, hw9, hm, hB⟩, -⟩ := id hP
  have hS : SAME fd fd (fun t => 32 ≤ t) := SAME.rf
  have hmn := hP.mn
  have hbd := hP.2.2.2.2.2.1
  have hfr : FRM (MR mo) s.heap s.heap := FRM.rf
  have bad : ∀ (locs : List Loc) (ls : Array Slot), ¬ (okC w0 (nI 0) (nI 2)) → (∀ q ∈ locs, n0 q.base) → lv_has ls 2 [(0, .ref mo), (1, .int w0)] → W p l e { frames := 1, cells := 0, slots := 0, locals := 25 } s m [.ref mo, .int w0].toArray below meth c s.heap locs 0 0 (MQ below (QcP (QI (fun r H H' => ((okC w0 (nI 0) (nI 2)) ∧ MV g n0 H' mo 0 pn tn wn B) ∨ (¬ (okC w0 (nI 0) (nI 2)) ∧ MV g n0 H' mo 1 pn tn wn B)))) [.ref mo, .int w0].toArray s 0 0 (fun q => n0 q)) (F0 m 18 ls [.int (nI 1), .ref mo]) := by
    intro  locs   ls hno hF hl
    refine lv_iconst (v := nI 1) hx hb d_Model_look_18 (by decide) ?_
    refine q_cV (rest := []) E (c_Model_fails l g n0 mo th (nI pn) (nI tn) (nI wn) w9 n9 hw9 (nI 1) (nI 1) fd hmn (Or.inl rfl)) w_1056 w_15 w_1053 w_1055 (bw_s 24 rfl) hd_Model_fails rfl ⟨by decide, by decide⟩ (OB.recv E.2.2.2.2.2 (by rfl) hm.1) hm hF hl.1 rfl (Nat.le_of_ble_eq_true rfl) d_Model_look_19 ⟨by decide, by decide⟩ (qi (fun rf H1 locs hq hF => ?_))
    obtain ⟨hrf, hq, hm⟩ := hq
    subst hrf
    have hfr := hfr.tr hq
    rw [if_neg (by decide)] at hm
    refine lv_if_eq (tgt := 27) hx hb d_Model_look_22 (by decide) (fun h9 => absurd h9 (by decide)) (fun _ => ?_)
    refine lv_iconst (v := nI 0) hx hb d_Model_look_25 (by decide) ?_
    exact q_iret E hr hlk (⟨_, rfl, Or.inr ⟨hno, hP.zkeep hfr hw9 hm hS hB⟩⟩) hF d_Model_look_26
  have good : ∀ (locs : List Loc) (ls : Array Slot), okC w0 (nI 0) (nI 2) → (∀ q ∈ locs, n0 q.base) → lv_has ls 2 [(0, .ref mo), (1, .int w0)] → W p l e { frames := 1, cells := 0, slots := 0, locals := 25 } s m [.ref mo, .int w0].toArray below meth c s.heap locs 0 0 (MQ below (QcP (QI (fun r H H' => ((okC w0 (nI 0) (nI 2)) ∧ MV g n0 H' mo 0 pn tn wn B) ∨ (¬ (okC w0 (nI 0) (nI 2)) ∧ MV g n0 H' mo 1 pn tn wn B)))) [.ref mo, .int w0].toArray s 0 0 (fun q => n0 q)) (F0 m 18 ls [.int (nI 0), .ref mo]) := by
    intro  locs   ls hok hF hl
    refine lv_iconst (v := nI 1) hx hb d_Model_look_18 (by decide) ?_
    refine q_cV (rest := []) E (c_Model_fails l g n0 mo th (nI pn) (nI tn) (nI wn) w9 n9 hw9 (nI 0) (nI 1) fd hmn (Or.inr rfl)) w_1056 w_15 w_1053 w_1055 (bw_s 24 rfl) hd_Model_fails rfl ⟨by decide, by decide⟩ (OB.recv E.2.2.2.2.2 (by rfl) hm.1) hm hF hl.1 rfl (Nat.le_of_ble_eq_true rfl) d_Model_look_19 ⟨by decide, by decide⟩ (qi (fun rf H1 locs hq hF => ?_))
    obtain ⟨hrf, hq, hm⟩ := hq
    subst hrf
    have hfr := hfr.tr hq
    rw [if_pos nI_0] at hm
    refine lv_if_eq (tgt := 27) hx hb d_Model_look_22 (by decide) (fun _ => ?_) (fun h9 => absurd (by decide) h9)
    obtain ⟨k0, e_k0, h_k0, h2_k0⟩ := okC_nat (by decide) (by decide) hok
    rw [e_k0] at hl
    obtain ⟨hq9, -⟩ : k0 ≤ 2 ∧ True := ⟨h2_k0, trivial⟩
    match k0, hq9 with
    | 0, _ =>
      refine lv_iload_n hx hb d_Model_look_27 rfl (lv_at hl 1 rfl) ?_
      refine lv_if_ne (tgt := 38) hx hb d_Model_look_28 (by decide) (fun h9 => absurd (by decide) h9) (fun _ => ?_)
      refine lv_aload_n hx hb d_Model_look_31 rfl (lv_at hl 0 rfl) ?_
      refine q_get (C := "KateDeskModel") (T := T_Model) (N := 14) (ci := 8) E hm.1 in_Model rfl 8 (by decide) w_1009 rfl rfl d_Model_look_32 ?_
      refine lv_goto (tgt := 54) hx hb d_Model_look_35 (by decide) ?_
      exact q_iret E hr hlk (⟨_, rfl, Or.inl ⟨hok, hP.zkeep hfr hw9 hm hS hB⟩⟩) hF d_Model_look_54
    | 1, _ =>
      refine lv_iload_n hx hb d_Model_look_27 rfl (lv_at hl 1 rfl) ?_
      refine lv_if_ne (tgt := 38) hx hb d_Model_look_28 (by decide) (fun _ => ?_) (fun h9 => absurd h9 (by decide))
      refine lv_iload_n hx hb d_Model_look_38 rfl (lv_at hl 1 rfl) ?_
      refine lv_iconst (v := nI 1) hx hb d_Model_look_39 (by decide) ?_
      refine lv_icmp_ne (tgt := 50) hx hb d_Model_look_40 (by decide) (fun h9 => absurd (by decide) h9) (fun _ => ?_)
      refine lv_aload_n hx hb d_Model_look_43 rfl (lv_at hl 0 rfl) ?_
      refine q_get (C := "KateDeskModel") (T := T_Model) (N := 14) (ci := 8) E hm.1 in_Model rfl 10 (by decide) w_1011 rfl rfl d_Model_look_44 ?_
      refine lv_goto (tgt := 54) hx hb d_Model_look_47 (by decide) ?_
      exact q_iret E hr hlk (⟨_, rfl, Or.inl ⟨hok, hP.zkeep hfr hw9 hm hS hB⟩⟩) hF d_Model_look_54
    | 2, _ =>
      refine lv_iload_n hx hb d_Model_look_27 rfl (lv_at hl 1 rfl) ?_
      refine lv_if_ne (tgt := 38) hx hb d_Model_look_28 (by decide) (fun _ => ?_) (fun h9 => absurd h9 (by decide))
      refine lv_iload_n hx hb d_Model_look_38 rfl (lv_at hl 1 rfl) ?_
      refine lv_iconst (v := nI 1) hx hb d_Model_look_39 (by decide) ?_
      refine lv_icmp_ne (tgt := 50) hx hb d_Model_look_40 (by decide) (fun _ => ?_) (fun h9 => absurd h9 (by decide))
      refine lv_aload_n hx hb d_Model_look_50 rfl (lv_at hl 0 rfl) ?_
      refine q_get (C := "KateDeskModel") (T := T_Model) (N := 14) (ci := 8) E hm.1 in_Model rfl 12 (by decide) w_1013 rfl rfl d_Model_look_51 ?_
      exact q_iret E hr hlk (⟨_, rfl, Or.inl ⟨hok, hP.zkeep hfr hw9 hm hS hB⟩⟩) hF d_Model_look_54
  refine lv_aload_n hx hb d_Model_look_0 rfl (lv_at hl 0 rfl) ?_
  refine lv_iload_n hx hb d_Model_look_1 rfl (lv_at hl 1 rfl) ?_
  refine lv_i2l (v := w0.toInt64) hx hb d_Model_look_2 rfl ?_
  refine lv_lconst (v := 0) hx hb d_Model_look_3 (by decide) ?_
  refine lv_ldc2 (v := 2) hx hb E.2.2.2.1 (E.2.2.2.2.1 _ w_1089) d_Model_look_4 ?_
  refine q_cS (rest := [.ref mo]) E (c_Model_in l g n0 w0.toInt64 0 2 ) w_1101 w_15 w_1099 w_1100 hd_Model_in rfl ⟨by decide, by decide⟩ trivial hF hl.1 rfl (Nat.le_of_ble_eq_true rfl) d_Model_look_7 ⟨by decide, by decide⟩ (qi (fun r_0 H1 locs hq hF => ?_))
  obtain ⟨h_0, hq⟩ := hq
  subst hq
  rcases h_0 with ⟨rfl, f_0⟩ | ⟨rfl, f_0⟩
  · skip
    refine lv_if_ne (tgt := 17) hx hb d_Model_look_10 (by decide) (fun h9 => absurd (by decide) h9) (fun _ => ?_)
    refine lv_iconst (v := nI 1) hx hb d_Model_look_13 (by decide) ?_
    refine lv_goto (tgt := 18) hx hb d_Model_look_14 (by decide) ?_
    have hl : lv_has ls 2 [(0, .ref mo), (1, .int w0)] := lv_sub hl [0, 1] rfl
    exact bad _ ls (fun h => (fun q => f_0 ((in_okC (a := 0) (b := 2) (by decide) (by decide) (by decide) (by decide)).mpr q)) h) hF hl
  · skip
    refine lv_if_ne (tgt := 17) hx hb d_Model_look_10 (by decide) (fun _ => ?_) (fun h9 => absurd h9 (by decide))
    refine lv_iconst (v := nI 0) hx hb d_Model_look_17 (by decide) ?_
    have hl : lv_has ls 2 [(0, .ref mo), (1, .int w0)] := lv_sub hl [0, 1] rfl
    exact good _ ls ((in_okC (a := 0) (b := 2) (by decide) (by decide) (by decide) (by decide)).mp f_0) hF hl
set_option maxHeartbeats 4000000 in
set_option maxRecDepth 100000 in
theorem Z_Model_times (l : Launch) (g : WG) (n0 : Nat → Prop) (mo : Nat) (th : Int32) (pn tn wn : Nat) (B : Nat → Int) (a : Int32) (a2 : Int32) (a3 : Int32) : Ctr l y_Model_times (.code y_Model_times prog_11_method_50_code 4 none) 6 143 0 0 n0 g [.ref mo, .int a, .int a2, .int a3] (fun H => MV g n0 H mo th pn tn wn B) (QV (fun H H' => ((okP a (nI 1) ∧ okS a2 (nI 1) ∧ okP a3 (nI 1)) ∧ MV g n0 H' mo 0 pn tn wn B) ∨ (¬ (okP a (nI 1) ∧ okS a2 (nI 1) ∧ okP a3 (nI 1)) ∧ MV g n0 H' mo 1 pn tn wn B))) := by
  refine ctr_mk l (lv0 := [(0, .ref mo), (1, .int a), (2, .int a2), (3, .int a3)]) (by decide) (Nat.le_of_ble_eq_true rfl) rfl ?_
  intro p e s m below meth c ls E hr hlk hnm hl hP
  have hx := E.1
  have hb := E.2.1
  have hK := E.2.2.2.2.2
  have hF : ∀ q ∈ ([] : List Loc), n0 q.base := fun q hq => absurd hq List.not_mem_nil
  obtain ⟨⟨w9, n9, fd, hw9, hm, hB⟩, -⟩ := id hP
  have hS : SAME fd fd (fun t => 32 ≤ t) := SAME.rf
  have hmn := hP.mn
  have hbd := hP.2.2.2.2.2.1
  have hfr : FRM (MR mo) s.heap s.heap := FRM.rf
  have bad : ∀ (locs : List Loc) (ls : Array Slot), ¬ (okP a (nI 1) ∧ okS a2 (nI 1) ∧ okP a3 (nI 1)) → (∀ q ∈ locs, n0 q.base) → lv_has ls 4 [(0, .ref mo), (1, .int a), (2, .int a2), (3, .int a3)] → W p l e { frames := 6, cells := 0, slots := 0, locals := 143 } s m [.ref mo, .int a, .int a2, .int a3].toArray below meth c s.heap locs 0 0 (MQ below (QcP (QV (fun H H' => ((okP a (nI 1) ∧ okS a2 (nI 1) ∧ okP a3 (nI 1)) ∧ MV g n0 H' mo 0 pn tn wn B) ∨ (¬ (okP a (nI 1) ∧ okS a2 (nI 1) ∧ okP a3 (nI 1)) ∧ MV g n0 H' mo 1 pn tn wn B)))) [.ref mo, .int a, .int a2, .int a3].toArray s 0 0 (fun q => n0 q)) (F0 m 27 ls [.int (nI 1), .ref mo]) := by
    intro  locs   ls hno hF hl
    refine lv_iconst (v := nI 1) hx hb d_Model_times_27 (by decide) ?_
    refine q_cV (rest := []) E (c_Model_fails l g n0 mo th (nI pn) (nI tn) (nI wn) w9 n9 hw9 (nI 1) (nI 1) fd hmn (Or.inl rfl)) w_1056 w_15 w_1053 w_1055 (bw_s 24 rfl) hd_Model_fails rfl ⟨by decide, by decide⟩ (OB.recv E.2.2.2.2.2 (by rfl) hm.1) hm hF hl.1 rfl (Nat.le_of_ble_eq_true rfl) d_Model_times_28 ⟨by decide, by decide⟩ (qi (fun rf H1 locs hq hF => ?_))
    obtain ⟨hrf, hq, hm⟩ := hq
    subst hrf
    have hfr := hfr.tr hq
    rw [if_neg (by decide)] at hm
    refine lv_if_eq (tgt := 35) hx hb d_Model_times_31 (by decide) (fun h9 => absurd h9 (by decide)) (fun _ => ?_)
    exact q_vret E hr hlk (⟨rfl, Or.inr ⟨hno, hP.zkeep hfr hw9 hm hS hB⟩⟩) hF d_Model_times_34
  have good : ∀ (locs : List Loc) (ls : Array Slot), okP a (nI 1) ∧ okS a2 (nI 1) ∧ okP a3 (nI 1) → (∀ q ∈ locs, n0 q.base) → lv_has ls 4 [(0, .ref mo), (1, .int a), (2, .int a2), (3, .int a3)] → W p l e { frames := 6, cells := 0, slots := 0, locals := 143 } s m [.ref mo, .int a, .int a2, .int a3].toArray below meth c s.heap locs 0 0 (MQ below (QcP (QV (fun H H' => ((okP a (nI 1) ∧ okS a2 (nI 1) ∧ okP a3 (nI 1)) ∧ MV g n0 H' mo 0 pn tn wn B) ∨ (¬ (okP a (nI 1) ∧ okS a2 (nI 1) ∧ okP a3 (nI 1)) ∧ MV g n0 H' mo 1 pn tn wn B)))) [.ref mo, .int a, .int a2, .int a3].toArray s 0 0 (fun q => n0 q)) (F0 m 27 ls [.int (nI 0), .ref mo]) := by
    intro  locs   ls hok hF hl
    refine lv_iconst (v := nI 1) hx hb d_Model_times_27 (by decide) ?_
    refine q_cV (rest := []) E (c_Model_fails l g n0 mo th (nI pn) (nI tn) (nI wn) w9 n9 hw9 (nI 0) (nI 1) fd hmn (Or.inr rfl)) w_1056 w_15 w_1053 w_1055 (bw_s 24 rfl) hd_Model_fails rfl ⟨by decide, by decide⟩ (OB.recv E.2.2.2.2.2 (by rfl) hm.1) hm hF hl.1 rfl (Nat.le_of_ble_eq_true rfl) d_Model_times_28 ⟨by decide, by decide⟩ (qi (fun rf H1 locs hq hF => ?_))
    obtain ⟨hrf, hq, hm⟩ := hq
    subst hrf
    have hfr := hfr.tr hq
    rw [if_pos nI_0] at hm
    refine lv_if_eq (tgt := 35) hx hb d_Model_times_31 (by decide) (fun _ => ?_) (fun h9 => absurd (by decide) h9)
    obtain ⟨k1, e_k1, h_k1⟩ := okP_nat (by decide) (by decide) hok.1
    rw [e_k1] at hl
    obtain ⟨k2, e_k2, h_k2⟩ := okS_nat (by decide) (by decide) hok.2.1
    rw [e_k2] at hl
    obtain ⟨k3, e_k3, h_k3⟩ := okP_nat (by decide) (by decide) hok.2.2
    rw [e_k3] at hl
    refine lv_aload_n hx hb d_Model_times_35 rfl (lv_at hl 0 rfl) ?_
    refine lv_iconst (v := nI 0) hx hb d_Model_times_36 (by decide) ?_
    refine q_cV (rest := []) E (c_Model_use l g n0 mo 0 (nI pn) (nI tn) (nI wn) w9 n9 hw9 0 14 hw0 fd hmn) w_967 w_15 w_964 w_966 (bw_s 15 rfl) hd_Model_use rfl ⟨by decide, by decide⟩ (OB.recv E.2.2.2.2.2 (by rfl) hm.1) hm hF hl.1 rfl (Nat.le_of_ble_eq_true rfl) d_Model_times_37 ⟨by decide, by decide⟩ (qv (fun H2 locs hq hF => ?_))
    obtain ⟨hq, hm⟩ := hq
    have hfr := hfr.tr hq
    refine lv_aload_n hx hb d_Model_times_40 rfl (lv_at hl 0 rfl) ?_
    refine lv_iload_n hx hb d_Model_times_41 rfl (lv_at hl 1 rfl) ?_
    refine q_cS (rest := [.ref mo]) E (c_Model_slot l g n0 (nI k1)) w_1154 w_15 w_1152 w_1153 hd_Model_slot rfl ⟨by decide, by decide⟩ trivial hF hl.1 rfl (Nat.le_of_ble_eq_true rfl) d_Model_times_42 ⟨by decide, by decide⟩ (qi (fun rs H3 locs hq hF => ?_))
    obtain ⟨hrs, hq9⟩ := hq
    subst hrs
    subst hq9
    refine lv_topi (fun t9 e9 => ?_)
    obtain rfl : t9 = nI (32 + 3 * k1) := e9.trans (by rw [pk_mul, nI_add])
    refine lv_iload_n hx hb d_Model_times_45 rfl (lv_at hl 2 rfl) ?_
    refine lv_iload_n hx hb d_Model_times_46 rfl (lv_at hl 3 rfl) ?_
    refine q_cS (rest := [.int (nI k2), .int (nI (32 + 3 * k1)), .ref mo]) E (c_Model_slot l g n0 (nI k3)) w_1154 w_15 w_1152 w_1153 hd_Model_slot rfl ⟨by decide, by decide⟩ trivial hF hl.1 rfl (Nat.le_of_ble_eq_true rfl) d_Model_times_47 ⟨by decide, by decide⟩ (qi (fun rs H4 locs hq hF => ?_))
    obtain ⟨hrs, hq9⟩ := hq
    subst hrs
    subst hq9
    refine lv_topi (fun t9 e9 => ?_)
    obtain rfl : t9 = nI (32 + 3 * k3) := e9.trans (by rw [pk_mul, nI_add])
    refine q_cV (rest := []) E (c_Model_multiple l g n0 mo (32 + 3 * k1) k2 (32 + 3 * k3) 0 (nI pn) (nI tn) (nI wn) 0 14 hw0 fd (by omega) (by omega) (by omega)) w_1167 w_15 w_1164 w_1166 (bw_s 40 rfl) hd_Model_multiple rfl ⟨by decide, by decide⟩ (OB.recv E.2.2.2.2.2 (by rfl) hm.1) hm hF hl.1 rfl (Nat.le_of_ble_eq_true rfl) d_Model_times_50 ⟨by decide, by decide⟩ (qv (fun H5 locs hq hF => ?_))
    obtain ⟨hq, fd_1, hm, hS9, hV9⟩ := hq
    have hS := hS.tr (hS9.mono (fun t h => by show 32 ≤ t; omega))
    have hfr := hfr.tr hq
    exact q_vret E hr hlk (⟨rfl, Or.inl ⟨hok, hP.zkeep hfr hw0 hm hS hB⟩⟩) hF d_Model_times_53
  refine lv_aload_n hx hb d_Model_times_0 rfl (lv_at hl 0 rfl) ?_
  refine lv_iload_n hx hb d_Model_times_1 rfl (lv_at hl 1 rfl) ?_
  refine q_cS (rest := [.ref mo]) E (c_Model_noPoint l g n0 a ) w_1151 w_15 w_1149 w_1150 hd_Model_noPoint rfl ⟨by decide, by decide⟩ trivial hF hl.1 rfl (Nat.le_of_ble_eq_true rfl) d_Model_times_2 ⟨by decide, by decide⟩ (qi (fun r_0 H1 locs hq hF => ?_))
  obtain ⟨h_0, hq⟩ := hq
  subst hq
  rcases h_0 with ⟨rfl, f_0⟩ | ⟨rfl, f_0⟩
  · skip
    refine lv_if_ne (tgt := 22) hx hb d_Model_times_5 (by decide) (fun _ => ?_) (fun h9 => absurd h9 (by decide))
    refine lv_iconst (v := nI 1) hx hb d_Model_times_22 (by decide) ?_
    refine lv_goto (tgt := 27) hx hb d_Model_times_23 (by decide) ?_
    have hl : lv_has ls 4 [(0, .ref mo), (1, .int a), (2, .int a2), (3, .int a3)] := lv_sub hl [0, 1, 2, 3] rfl
    exact bad _ ls (fun h => (f_0) h.1) hF hl
  · skip
    refine lv_if_ne (tgt := 22) hx hb d_Model_times_5 (by decide) (fun h9 => absurd (by decide) h9) (fun _ => ?_)
    refine lv_iload_n hx hb d_Model_times_8 rfl (lv_at hl 2 rfl) ?_
    refine q_cS (rest := [.ref mo]) E (c_Model_noScalar l g n0 a2 ) w_1064 w_15 w_1062 w_1063 hd_Model_noScalar rfl ⟨by decide, by decide⟩ trivial hF hl.1 rfl (Nat.le_of_ble_eq_true rfl) d_Model_times_9 ⟨by decide, by decide⟩ (qi (fun r_1 H2 locs hq hF => ?_))
    obtain ⟨h_1, hq⟩ := hq
    subst hq
    rcases h_1 with ⟨rfl, f_1⟩ | ⟨rfl, f_1⟩
    · skip
      refine lv_if_ne (tgt := 22) hx hb d_Model_times_12 (by decide) (fun _ => ?_) (fun h9 => absurd h9 (by decide))
      refine lv_iconst (v := nI 1) hx hb d_Model_times_22 (by decide) ?_
      refine lv_goto (tgt := 27) hx hb d_Model_times_23 (by decide) ?_
      have hl : lv_has ls 4 [(0, .ref mo), (1, .int a), (2, .int a2), (3, .int a3)] := lv_sub hl [0, 1, 2, 3] rfl
      exact bad _ ls (fun h => (f_1) h.2.1) hF hl
    · skip
      refine lv_if_ne (tgt := 22) hx hb d_Model_times_12 (by decide) (fun h9 => absurd (by decide) h9) (fun _ => ?_)
      refine lv_iload_n hx hb d_Model_times_15 rfl (lv_at hl 3 rfl) ?_
      refine q_cS (rest := [.ref mo]) E (c_Model_noPoint l g n0 a3 ) w_1151 w_15 w_1149 w_1150 hd_Model_noPoint rfl ⟨by decide, by decide⟩ trivial hF hl.1 rfl (Nat.le_of_ble_eq_true rfl) d_Model_times_16 ⟨by decide, by decide⟩ (qi (fun r_2 H3 locs hq hF => ?_))
      obtain ⟨h_2, hq⟩ := hq
      subst hq
      rcases h_2 with ⟨rfl, f_2⟩ | ⟨rfl, f_2⟩
      · skip
        refine lv_if_eq (tgt := 26) hx hb d_Model_times_19 (by decide) (fun h9 => absurd h9 (by decide)) (fun _ => ?_)
        refine lv_iconst (v := nI 1) hx hb d_Model_times_22 (by decide) ?_
        refine lv_goto (tgt := 27) hx hb d_Model_times_23 (by decide) ?_
        have hl : lv_has ls 4 [(0, .ref mo), (1, .int a), (2, .int a2), (3, .int a3)] := lv_sub hl [0, 1, 2, 3] rfl
        exact bad _ ls (fun h => (f_2) h.2.2) hF hl
      · skip
        refine lv_if_eq (tgt := 26) hx hb d_Model_times_19 (by decide) (fun _ => ?_) (fun h9 => absurd (by decide) h9)
        refine lv_iconst (v := nI 0) hx hb d_Model_times_26 (by decide) ?_
        have hl : lv_has ls 4 [(0, .ref mo), (1, .int a), (2, .int a2), (3, .int a3)] := lv_sub hl [0, 1, 2, 3] rfl
        exact good _ ls ⟨f_0, f_1, f_2⟩ hF hl
set_option maxHeartbeats 4000000 in
set_option maxRecDepth 100000 in
theorem Z_Model_same (l : Launch) (g : WG) (n0 : Nat → Prop) (mo : Nat) (th : Int32) (pn tn wn : Nat) (B : Nat → Int) (a : Int32) (a2 : Int32) : Ctr l y_Model_same (.code y_Model_same prog_11_method_53_code 3 (some FieldType.boolean)) 4 101 0 0 n0 g [.ref mo, .int a, .int a2] (fun H => MV g n0 H mo th pn tn wn B) (QI (fun r H H' => ((okP a (nI 1) ∧ okP a2 (nI 1)) ∧ MV g n0 H' mo 0 pn tn wn B) ∨ (¬ (okP a (nI 1) ∧ okP a2 (nI 1)) ∧ MV g n0 H' mo 1 pn tn wn B))) := by
  refine ctr_mk l (lv0 := [(0, .ref mo), (1, .int a), (2, .int a2)]) (by decide) (Nat.le_of_ble_eq_true rfl) rfl ?_
  intro p e s m below meth c ls E hr hlk hnm hl hP
  have hx := E.1
  have hb := E.2.1
  have hK := E.2.2.2.2.2
  have hF : ∀ q ∈ ([] : List Loc), n0 q.base := fun q hq => absurd hq List.not_mem_nil
  obtain ⟨⟨w9, n9, fd, hw9, hm, hB⟩, -⟩ := id hP
  have hS : SAME fd fd (fun t => 32 ≤ t) := SAME.rf
  have hmn := hP.mn
  have hbd := hP.2.2.2.2.2.1
  have hfr : FRM (MR mo) s.heap s.heap := FRM.rf
  have bad : ∀ (locs : List Loc) (ls : Array Slot), ¬ (okP a (nI 1) ∧ okP a2 (nI 1)) → (∀ q ∈ locs, n0 q.base) → lv_has ls 3 [(0, .ref mo), (1, .int a), (2, .int a2)] → W p l e { frames := 4, cells := 0, slots := 0, locals := 101 } s m [.ref mo, .int a, .int a2].toArray below meth c s.heap locs 0 0 (MQ below (QcP (QI (fun r H H' => ((okP a (nI 1) ∧ okP a2 (nI 1)) ∧ MV g n0 H' mo 0 pn tn wn B) ∨ (¬ (okP a (nI 1) ∧ okP a2 (nI 1)) ∧ MV g n0 H' mo 1 pn tn wn B)))) [.ref mo, .int a, .int a2].toArray s 0 0 (fun q => n0 q)) (F0 m 20 ls [.int (nI 1), .ref mo]) := by
    intro  locs   ls hno hF hl
    refine lv_iconst (v := nI 1) hx hb d_Model_same_20 (by decide) ?_
    refine q_cV (rest := []) E (c_Model_fails l g n0 mo th (nI pn) (nI tn) (nI wn) w9 n9 hw9 (nI 1) (nI 1) fd hmn (Or.inl rfl)) w_1056 w_15 w_1053 w_1055 (bw_s 24 rfl) hd_Model_fails rfl ⟨by decide, by decide⟩ (OB.recv E.2.2.2.2.2 (by rfl) hm.1) hm hF hl.1 rfl (Nat.le_of_ble_eq_true rfl) d_Model_same_21 ⟨by decide, by decide⟩ (qi (fun rf H1 locs hq hF => ?_))
    obtain ⟨hrf, hq, hm⟩ := hq
    subst hrf
    have hfr := hfr.tr hq
    rw [if_neg (by decide)] at hm
    refine lv_if_eq (tgt := 29) hx hb d_Model_same_24 (by decide) (fun h9 => absurd h9 (by decide)) (fun _ => ?_)
    refine lv_iconst (v := nI 0) hx hb d_Model_same_27 (by decide) ?_
    exact q_zret E hr rfl hlk (⟨_, rfl, Or.inr ⟨hno, hP.zkeep hfr hw9 hm hS hB⟩⟩) hF d_Model_same_28
  have good : ∀ (locs : List Loc) (ls : Array Slot), okP a (nI 1) ∧ okP a2 (nI 1) → (∀ q ∈ locs, n0 q.base) → lv_has ls 3 [(0, .ref mo), (1, .int a), (2, .int a2)] → W p l e { frames := 4, cells := 0, slots := 0, locals := 101 } s m [.ref mo, .int a, .int a2].toArray below meth c s.heap locs 0 0 (MQ below (QcP (QI (fun r H H' => ((okP a (nI 1) ∧ okP a2 (nI 1)) ∧ MV g n0 H' mo 0 pn tn wn B) ∨ (¬ (okP a (nI 1) ∧ okP a2 (nI 1)) ∧ MV g n0 H' mo 1 pn tn wn B)))) [.ref mo, .int a, .int a2].toArray s 0 0 (fun q => n0 q)) (F0 m 20 ls [.int (nI 0), .ref mo]) := by
    intro  locs   ls hok hF hl
    refine lv_iconst (v := nI 1) hx hb d_Model_same_20 (by decide) ?_
    refine q_cV (rest := []) E (c_Model_fails l g n0 mo th (nI pn) (nI tn) (nI wn) w9 n9 hw9 (nI 0) (nI 1) fd hmn (Or.inr rfl)) w_1056 w_15 w_1053 w_1055 (bw_s 24 rfl) hd_Model_fails rfl ⟨by decide, by decide⟩ (OB.recv E.2.2.2.2.2 (by rfl) hm.1) hm hF hl.1 rfl (Nat.le_of_ble_eq_true rfl) d_Model_same_21 ⟨by decide, by decide⟩ (qi (fun rf H1 locs hq hF => ?_))
    obtain ⟨hrf, hq, hm⟩ := hq
    subst hrf
    have hfr := hfr.tr hq
    rw [if_pos nI_0] at hm
    refine lv_if_eq (tgt := 29) hx hb d_Model_same_24 (by decide) (fun _ => ?_) (fun h9 => absurd (by decide) h9)
    obtain ⟨k1, e_k1, h_k1⟩ := okP_nat (by decide) (by decide) hok.1
    rw [e_k1] at hl
    obtain ⟨k2, e_k2, h_k2⟩ := okP_nat (by decide) (by decide) hok.2
    rw [e_k2] at hl
    refine lv_aload_n hx hb d_Model_same_29 rfl (lv_at hl 0 rfl) ?_
    refine lv_iconst (v := nI 0) hx hb d_Model_same_30 (by decide) ?_
    refine q_cV (rest := []) E (c_Model_use l g n0 mo 0 (nI pn) (nI tn) (nI wn) w9 n9 hw9 0 14 hw0 fd hmn) w_967 w_15 w_964 w_966 (bw_s 15 rfl) hd_Model_use rfl ⟨by decide, by decide⟩ (OB.recv E.2.2.2.2.2 (by rfl) hm.1) hm hF hl.1 rfl (Nat.le_of_ble_eq_true rfl) d_Model_same_31 ⟨by decide, by decide⟩ (qv (fun H2 locs hq hF => ?_))
    obtain ⟨hq, hm⟩ := hq
    have hfr := hfr.tr hq
    refine lv_aload_n hx hb d_Model_same_34 rfl (lv_at hl 0 rfl) ?_
    refine lv_iload_n hx hb d_Model_same_35 rfl (lv_at hl 1 rfl) ?_
    refine q_cS (rest := [.ref mo]) E (c_Model_slot l g n0 (nI k1)) w_1154 w_15 w_1152 w_1153 hd_Model_slot rfl ⟨by decide, by decide⟩ trivial hF hl.1 rfl (Nat.le_of_ble_eq_true rfl) d_Model_same_36 ⟨by decide, by decide⟩ (qi (fun rs H3 locs hq hF => ?_))
    obtain ⟨hrs, hq9⟩ := hq
    subst hrs
    subst hq9
    refine lv_topi (fun t9 e9 => ?_)
    obtain rfl : t9 = nI (32 + 3 * k1) := e9.trans (by rw [pk_mul, nI_add])
    refine lv_iload_n hx hb d_Model_same_39 rfl (lv_at hl 2 rfl) ?_
    refine q_cS (rest := [.int (nI (32 + 3 * k1)), .ref mo]) E (c_Model_slot l g n0 (nI k2)) w_1154 w_15 w_1152 w_1153 hd_Model_slot rfl ⟨by decide, by decide⟩ trivial hF hl.1 rfl (Nat.le_of_ble_eq_true rfl) d_Model_same_40 ⟨by decide, by decide⟩ (qi (fun rs H4 locs hq hF => ?_))
    obtain ⟨hrs, hq9⟩ := hq
    subst hrs
    subst hq9
    refine lv_topi (fun t9 e9 => ?_)
    obtain rfl : t9 = nI (32 + 3 * k2) := e9.trans (by rw [pk_mul, nI_add])
    refine q_cV (rest := []) E (S_Model_alike l g n0 mo (32 + 3 * k1) (32 + 3 * k2) 0 (nI pn) (nI tn) (nI wn) 0 14 hw0 fd (by omega) (by omega)) w_1218 w_15 w_1215 w_1217 (bw_s 46 rfl) hd_Model_alike rfl ⟨by decide, by decide⟩ (OB.recv E.2.2.2.2.2 (by rfl) hm.1) hm hF hl.1 rfl (Nat.le_of_ble_eq_true rfl) d_Model_same_43 ⟨by decide, by decide⟩ (qi (fun rz1 H5 locs hq hF => ?_))
    obtain ⟨hbrz1, hq, fd_1, hm, hS9⟩ := hq
    have hS := hS.tr (hS9.mono (fun t h => by show 32 ≤ t; omega))
    have hfr := hfr.tr hq
    exact q_zret E hr (by rcases hbrz1.1 with h | h <;> rw [h] <;> rfl) hlk (⟨_, rfl, Or.inl ⟨hok, hP.zkeep hfr hw0 hm hS hB⟩⟩) hF d_Model_same_46
  refine lv_aload_n hx hb d_Model_same_0 rfl (lv_at hl 0 rfl) ?_
  refine lv_iload_n hx hb d_Model_same_1 rfl (lv_at hl 1 rfl) ?_
  refine q_cS (rest := [.ref mo]) E (c_Model_noPoint l g n0 a ) w_1151 w_15 w_1149 w_1150 hd_Model_noPoint rfl ⟨by decide, by decide⟩ trivial hF hl.1 rfl (Nat.le_of_ble_eq_true rfl) d_Model_same_2 ⟨by decide, by decide⟩ (qi (fun r_0 H1 locs hq hF => ?_))
  obtain ⟨h_0, hq⟩ := hq
  subst hq
  rcases h_0 with ⟨rfl, f_0⟩ | ⟨rfl, f_0⟩
  · skip
    refine lv_if_ne (tgt := 15) hx hb d_Model_same_5 (by decide) (fun _ => ?_) (fun h9 => absurd h9 (by decide))
    refine lv_iconst (v := nI 1) hx hb d_Model_same_15 (by decide) ?_
    refine lv_goto (tgt := 20) hx hb d_Model_same_16 (by decide) ?_
    have hl : lv_has ls 3 [(0, .ref mo), (1, .int a), (2, .int a2)] := lv_sub hl [0, 1, 2] rfl
    exact bad _ ls (fun h => (f_0) h.1) hF hl
  · skip
    refine lv_if_ne (tgt := 15) hx hb d_Model_same_5 (by decide) (fun h9 => absurd (by decide) h9) (fun _ => ?_)
    refine lv_iload_n hx hb d_Model_same_8 rfl (lv_at hl 2 rfl) ?_
    refine q_cS (rest := [.ref mo]) E (c_Model_noPoint l g n0 a2 ) w_1151 w_15 w_1149 w_1150 hd_Model_noPoint rfl ⟨by decide, by decide⟩ trivial hF hl.1 rfl (Nat.le_of_ble_eq_true rfl) d_Model_same_9 ⟨by decide, by decide⟩ (qi (fun r_1 H2 locs hq hF => ?_))
    obtain ⟨h_1, hq⟩ := hq
    subst hq
    rcases h_1 with ⟨rfl, f_1⟩ | ⟨rfl, f_1⟩
    · skip
      refine lv_if_eq (tgt := 19) hx hb d_Model_same_12 (by decide) (fun h9 => absurd h9 (by decide)) (fun _ => ?_)
      refine lv_iconst (v := nI 1) hx hb d_Model_same_15 (by decide) ?_
      refine lv_goto (tgt := 20) hx hb d_Model_same_16 (by decide) ?_
      have hl : lv_has ls 3 [(0, .ref mo), (1, .int a), (2, .int a2)] := lv_sub hl [0, 1, 2] rfl
      exact bad _ ls (fun h => (f_1) h.2) hF hl
    · skip
      refine lv_if_eq (tgt := 19) hx hb d_Model_same_12 (by decide) (fun _ => ?_) (fun h9 => absurd (by decide) h9)
      refine lv_iconst (v := nI 0) hx hb d_Model_same_19 (by decide) ?_
      have hl : lv_has ls 3 [(0, .ref mo), (1, .int a), (2, .int a2)] := lv_sub hl [0, 1, 2] rfl
      exact good _ ls ⟨f_0, f_1⟩ hF hl
set_option maxHeartbeats 4000000 in
set_option maxRecDepth 100000 in
theorem Z_Model_checks (l : Launch) (g : WG) (n0 : Nat → Prop) (mo : Nat) (th : Int32) (pn tn wn : Nat) (B : Nat → Int) (p0 : Int32) (q0 : Int32) (z0 : Int32) (y0 : Int32) (t0 : Int32) : Ctr l y_Model_checks (.code y_Model_checks prog_11_method_58_code 6 (some FieldType.boolean)) 6 143 0 0 n0 g [.ref mo, .int p0, .int q0, .int z0, .int y0, .int t0] (fun H => MV g n0 H mo th pn tn wn B) (QI (fun r H H' => ((okP p0 (nI 1) ∧ okP q0 (nI 1) ∧ okS z0 (nI 1) ∧ okS y0 (nI 1) ∧ okS t0 (nI 1)) ∧ MV g n0 H' mo 0 pn tn wn B) ∨ (¬ (okP p0 (nI 1) ∧ okP q0 (nI 1) ∧ okS z0 (nI 1) ∧ okS y0 (nI 1) ∧ okS t0 (nI 1)) ∧ MV g n0 H' mo 1 pn tn wn B))) := by
  refine ctr_mk l (lv0 := [(0, .ref mo), (1, .int p0), (2, .int q0), (3, .int z0), (4, .int y0), (5, .int t0)]) (by decide) (Nat.le_of_ble_eq_true rfl) rfl ?_
  intro p e s m below meth c ls E hr hlk hnm hl hP
  have hx := E.1
  have hb := E.2.1
  have hK := E.2.2.2.2.2
  have hF : ∀ q ∈ ([] : List Loc), n0 q.base := fun q hq => absurd hq List.not_mem_nil
  obtain ⟨⟨w9, n9, fd, hw9, hm, hB⟩, -⟩ := id hP
  have hS : SAME fd fd (fun t => 32 ≤ t) := SAME.rf
  have hmn := hP.mn
  have hbd := hP.2.2.2.2.2.1
  have hfr : FRM (MR mo) s.heap s.heap := FRM.rf
  have bad : ∀ (locs : List Loc) (ls : Array Slot), ¬ (okP p0 (nI 1) ∧ okP q0 (nI 1) ∧ okS z0 (nI 1) ∧ okS y0 (nI 1) ∧ okS t0 (nI 1)) → (∀ q ∈ locs, n0 q.base) → lv_has ls 6 [(0, .ref mo), (1, .int p0), (2, .int q0), (3, .int z0), (4, .int y0), (5, .int t0)] → W p l e { frames := 6, cells := 0, slots := 0, locals := 143 } s m [.ref mo, .int p0, .int q0, .int z0, .int y0, .int t0].toArray below meth c s.heap locs 0 0 (MQ below (QcP (QI (fun r H H' => ((okP p0 (nI 1) ∧ okP q0 (nI 1) ∧ okS z0 (nI 1) ∧ okS y0 (nI 1) ∧ okS t0 (nI 1)) ∧ MV g n0 H' mo 0 pn tn wn B) ∨ (¬ (okP p0 (nI 1) ∧ okP q0 (nI 1) ∧ okS z0 (nI 1) ∧ okS y0 (nI 1) ∧ okS t0 (nI 1)) ∧ MV g n0 H' mo 1 pn tn wn B)))) [.ref mo, .int p0, .int q0, .int z0, .int y0, .int t0].toArray s 0 0 (fun q => n0 q)) (F0 m 43 ls [.int (nI 1), .ref mo]) := by
    intro  locs   ls hno hF hl
    refine lv_iconst (v := nI 1) hx hb d_Model_checks_43 (by decide) ?_
    refine q_cV (rest := []) E (c_Model_fails l g n0 mo th (nI pn) (nI tn) (nI wn) w9 n9 hw9 (nI 1) (nI 1) fd hmn (Or.inl rfl)) w_1056 w_15 w_1053 w_1055 (bw_s 24 rfl) hd_Model_fails rfl ⟨by decide, by decide⟩ (OB.recv E.2.2.2.2.2 (by rfl) hm.1) hm hF hl.1 rfl (Nat.le_of_ble_eq_true rfl) d_Model_checks_44 ⟨by decide, by decide⟩ (qi (fun rf H1 locs hq hF => ?_))
    obtain ⟨hrf, hq, hm⟩ := hq
    subst hrf
    have hfr := hfr.tr hq
    rw [if_neg (by decide)] at hm
    refine lv_if_eq (tgt := 52) hx hb d_Model_checks_47 (by decide) (fun h9 => absurd h9 (by decide)) (fun _ => ?_)
    refine lv_iconst (v := nI 0) hx hb d_Model_checks_50 (by decide) ?_
    exact q_zret E hr rfl hlk (⟨_, rfl, Or.inr ⟨hno, hP.zkeep hfr hw9 hm hS hB⟩⟩) hF d_Model_checks_51
  have good : ∀ (locs : List Loc) (ls : Array Slot), okP p0 (nI 1) ∧ okP q0 (nI 1) ∧ okS z0 (nI 1) ∧ okS y0 (nI 1) ∧ okS t0 (nI 1) → (∀ q ∈ locs, n0 q.base) → lv_has ls 6 [(0, .ref mo), (1, .int p0), (2, .int q0), (3, .int z0), (4, .int y0), (5, .int t0)] → W p l e { frames := 6, cells := 0, slots := 0, locals := 143 } s m [.ref mo, .int p0, .int q0, .int z0, .int y0, .int t0].toArray below meth c s.heap locs 0 0 (MQ below (QcP (QI (fun r H H' => ((okP p0 (nI 1) ∧ okP q0 (nI 1) ∧ okS z0 (nI 1) ∧ okS y0 (nI 1) ∧ okS t0 (nI 1)) ∧ MV g n0 H' mo 0 pn tn wn B) ∨ (¬ (okP p0 (nI 1) ∧ okP q0 (nI 1) ∧ okS z0 (nI 1) ∧ okS y0 (nI 1) ∧ okS t0 (nI 1)) ∧ MV g n0 H' mo 1 pn tn wn B)))) [.ref mo, .int p0, .int q0, .int z0, .int y0, .int t0].toArray s 0 0 (fun q => n0 q)) (F0 m 43 ls [.int (nI 0), .ref mo]) := by
    intro  locs   ls hok hF hl
    refine lv_iconst (v := nI 1) hx hb d_Model_checks_43 (by decide) ?_
    refine q_cV (rest := []) E (c_Model_fails l g n0 mo th (nI pn) (nI tn) (nI wn) w9 n9 hw9 (nI 0) (nI 1) fd hmn (Or.inr rfl)) w_1056 w_15 w_1053 w_1055 (bw_s 24 rfl) hd_Model_fails rfl ⟨by decide, by decide⟩ (OB.recv E.2.2.2.2.2 (by rfl) hm.1) hm hF hl.1 rfl (Nat.le_of_ble_eq_true rfl) d_Model_checks_44 ⟨by decide, by decide⟩ (qi (fun rf H1 locs hq hF => ?_))
    obtain ⟨hrf, hq, hm⟩ := hq
    subst hrf
    have hfr := hfr.tr hq
    rw [if_pos nI_0] at hm
    refine lv_if_eq (tgt := 52) hx hb d_Model_checks_47 (by decide) (fun _ => ?_) (fun h9 => absurd (by decide) h9)
    obtain ⟨k1, e_k1, h_k1⟩ := okP_nat (by decide) (by decide) hok.1
    rw [e_k1] at hl
    obtain ⟨k2, e_k2, h_k2⟩ := okP_nat (by decide) (by decide) hok.2.1
    rw [e_k2] at hl
    obtain ⟨k3, e_k3, h_k3⟩ := okS_nat (by decide) (by decide) hok.2.2.1
    rw [e_k3] at hl
    obtain ⟨k4, e_k4, h_k4⟩ := okS_nat (by decide) (by decide) hok.2.2.2.1
    rw [e_k4] at hl
    obtain ⟨k5, e_k5, h_k5⟩ := okS_nat (by decide) (by decide) hok.2.2.2.2
    rw [e_k5] at hl
    refine lv_aload_n hx hb d_Model_checks_52 rfl (lv_at hl 0 rfl) ?_
    refine lv_iconst (v := nI 1) hx hb d_Model_checks_53 (by decide) ?_
    refine q_cV (rest := []) E (c_Model_use l g n0 mo 0 (nI pn) (nI tn) (nI wn) w9 n9 hw9 1 10 hw1 fd hmn) w_967 w_15 w_964 w_966 (bw_s 15 rfl) hd_Model_use rfl ⟨by decide, by decide⟩ (OB.recv E.2.2.2.2.2 (by rfl) hm.1) hm hF hl.1 rfl (Nat.le_of_ble_eq_true rfl) d_Model_checks_54 ⟨by decide, by decide⟩ (qv (fun H2 locs hq hF => ?_))
    obtain ⟨hq, hm⟩ := hq
    have hfr := hfr.tr hq
    refine lv_aload_n hx hb d_Model_checks_57 rfl (lv_at hl 0 rfl) ?_
    refine lv_sipush (v := nI 166) hx hb d_Model_checks_58 (by decide) ?_
    refine lv_iload hx hb d_Model_checks_61 (lv_at hl 5 rfl) ?_
    refine lv_iload_n hx hb d_Model_checks_63 rfl (lv_at hl 3 rfl) ?_
    refine q_cV (rest := []) E (c_Model_less l g n0 mo 166 k5 k3 0 (nI pn) (nI tn) (nI wn) 1 10 hw1  fd (by omega) (by omega) (by omega) ) w_1109 w_15 w_1106 w_1108 (bw_s 31 rfl) hd_Model_less rfl ⟨by decide, by decide⟩ (OB.recv E.2.2.2.2.2 (by rfl) hm.1) hm hF hl.1 rfl (Nat.le_of_ble_eq_true rfl) d_Model_checks_64 ⟨by decide, by decide⟩ (qv (fun H3 locs hq hF => ?_))
    obtain ⟨hq, fd_1, hm, hpv, hv⟩ := hq
    have hS := hS.put hpv.1 (by show 32 ≤ _; omega)
    have hfr := hfr.tr (kjR hq)
    refine lv_aload_n hx hb d_Model_checks_67 rfl (lv_at hl 0 rfl) ?_
    refine lv_iconst (v := nI 0) hx hb d_Model_checks_68 (by decide) ?_
    refine q_cV (rest := []) E (c_Model_use l g n0 mo 0 (nI pn) (nI tn) (nI wn) 1 10 hw1 0 14 hw0 fd_1 hmn) w_967 w_15 w_964 w_966 (bw_s 15 rfl) hd_Model_use rfl ⟨by decide, by decide⟩ (OB.recv E.2.2.2.2.2 (by rfl) hm.1) hm hF hl.1 rfl (Nat.le_of_ble_eq_true rfl) d_Model_checks_69 ⟨by decide, by decide⟩ (qv (fun H4 locs hq hF => ?_))
    obtain ⟨hq, hm⟩ := hq
    have hfr := hfr.tr hq
    refine lv_aload_n hx hb d_Model_checks_72 rfl (lv_at hl 0 rfl) ?_
    refine lv_sipush (v := nI 161) hx hb d_Model_checks_73 (by decide) ?_
    refine lv_sipush (v := nI 166) hx hb d_Model_checks_76 (by decide) ?_
    refine lv_iload_n hx hb d_Model_checks_79 rfl (lv_at hl 2 rfl) ?_
    refine q_cS (rest := [.int (nI 166), .int (nI 161), .ref mo]) E (c_Model_slot l g n0 (nI k2)) w_1154 w_15 w_1152 w_1153 hd_Model_slot rfl ⟨by decide, by decide⟩ trivial hF hl.1 rfl (Nat.le_of_ble_eq_true rfl) d_Model_checks_80 ⟨by decide, by decide⟩ (qi (fun rs H5 locs hq hF => ?_))
    obtain ⟨hrs, hq9⟩ := hq
    subst hrs
    subst hq9
    refine lv_topi (fun t9 e9 => ?_)
    obtain rfl : t9 = nI (32 + 3 * k2) := e9.trans (by rw [pk_mul, nI_add])
    refine q_cV (rest := []) E (c_Model_multiple l g n0 mo 161 166 (32 + 3 * k2) 0 (nI pn) (nI tn) (nI wn) 0 14 hw0 fd_1 (by omega) (by omega) (by omega)) w_1167 w_15 w_1164 w_1166 (bw_s 40 rfl) hd_Model_multiple rfl ⟨by decide, by decide⟩ (OB.recv E.2.2.2.2.2 (by rfl) hm.1) hm hF hl.1 rfl (Nat.le_of_ble_eq_true rfl) d_Model_checks_83 ⟨by decide, by decide⟩ (qv (fun H6 locs hq hF => ?_))
    obtain ⟨hq, fd_2, hm, hS9, hV9⟩ := hq
    have hS := hS.tr (hS9.mono (fun t h => by show 32 ≤ t; omega))
    have hfr := hfr.tr hq
    refine lv_aload_n hx hb d_Model_checks_86 rfl (lv_at hl 0 rfl) ?_
    refine lv_sipush (v := nI 157) hx hb d_Model_checks_87 (by decide) ?_
    refine lv_iload hx hb d_Model_checks_90 (lv_at hl 4 rfl) ?_
    refine lv_bipush (v := nI 116) hx hb d_Model_checks_92 (by decide) ?_
    refine q_cV (rest := []) E (c_Model_multiple l g n0 mo 157 k4 116 0 (nI pn) (nI tn) (nI wn) 0 14 hw0 fd_2 (by omega) (by omega) (by omega)) w_1167 w_15 w_1164 w_1166 (bw_s 40 rfl) hd_Model_multiple rfl ⟨by decide, by decide⟩ (OB.recv E.2.2.2.2.2 (by rfl) hm.1) hm hF hl.1 rfl (Nat.le_of_ble_eq_true rfl) d_Model_checks_94 ⟨by decide, by decide⟩ (qv (fun H7 locs hq hF => ?_))
    obtain ⟨hq, fd_3, hm, hS9, hV9⟩ := hq
    have hS := hS.tr (hS9.mono (fun t h => by show 32 ≤ t; omega))
    have hfr := hfr.tr hq
    refine lv_aload_n hx hb d_Model_checks_97 rfl (lv_at hl 0 rfl) ?_
    refine lv_sipush (v := nI 160) hx hb d_Model_checks_98 (by decide) ?_
    refine q_cV (rest := []) E (c_Model_zero l g n0 mo 160 0 (nI pn) (nI tn) (nI wn) 0 14 hw0  fd_3 (by omega) ) w_1000 w_15 w_997 w_999 (bw_s 23 rfl) hd_Model_zero rfl ⟨by decide, by decide⟩ (OB.recv E.2.2.2.2.2 (by rfl) hm.1) hm hF hl.1 rfl (Nat.le_of_ble_eq_true rfl) d_Model_checks_101 ⟨by decide, by decide⟩ (qv (fun H8 locs hq hF => ?_))
    obtain ⟨hq, fd_4, hm, hpv⟩ := hq
    have hS := hS.put hpv.1 (by show 32 ≤ _; omega)
    have hfr := hfr.tr hq
    refine lv_aload_n hx hb d_Model_checks_104 rfl (lv_at hl 0 rfl) ?_
    refine lv_sipush (v := nI 158) hx hb d_Model_checks_105 (by decide) ?_
    refine lv_sipush (v := nI 160) hx hb d_Model_checks_108 (by decide) ?_
    refine lv_sipush (v := nI 158) hx hb d_Model_checks_111 (by decide) ?_
    refine q_cV (rest := []) E (c_Model_less l g n0 mo 158 160 158 0 (nI pn) (nI tn) (nI wn) 0 14 hw0  fd_4 (by omega) (by omega) (by omega) ) w_1109 w_15 w_1106 w_1108 (bw_s 31 rfl) hd_Model_less rfl ⟨by decide, by decide⟩ (OB.recv E.2.2.2.2.2 (by rfl) hm.1) hm hF hl.1 rfl (Nat.le_of_ble_eq_true rfl) d_Model_checks_114 ⟨by decide, by decide⟩ (qv (fun H9 locs hq hF => ?_))
    obtain ⟨hq, fd_5, hm, hpv, hv⟩ := hq
    have hS := hS.put hpv.1 (by show 32 ≤ _; omega)
    have hfr := hfr.tr (kjR hq)
    refine lv_aload_n hx hb d_Model_checks_117 rfl (lv_at hl 0 rfl) ?_
    refine lv_sipush (v := nI 164) hx hb d_Model_checks_118 (by decide) ?_
    refine lv_iload_n hx hb d_Model_checks_121 rfl (lv_at hl 1 rfl) ?_
    refine q_cS (rest := [.int (nI 164), .ref mo]) E (c_Model_slot l g n0 (nI k1)) w_1154 w_15 w_1152 w_1153 hd_Model_slot rfl ⟨by decide, by decide⟩ trivial hF hl.1 rfl (Nat.le_of_ble_eq_true rfl) d_Model_checks_122 ⟨by decide, by decide⟩ (qi (fun rs H10 locs hq hF => ?_))
    obtain ⟨hrs, hq9⟩ := hq
    subst hrs
    subst hq9
    refine lv_topi (fun t9 e9 => ?_)
    obtain rfl : t9 = nI (32 + 3 * k1) := e9.trans (by rw [pk_mul, nI_add])
    refine lv_sipush (v := nI 157) hx hb d_Model_checks_125 (by decide) ?_
    refine q_cV (rest := []) E (c_Model_sum l g n0 mo 164 (32 + 3 * k1) 157 0 (nI pn) (nI tn) (nI wn) 0 14 hw0 fd_5 (by omega) (by omega) (by omega) False False 0 0 (fun h => h.elim) (fun h => h.elim)) w_1175 w_15 w_1172 w_1174 (bw_s 42 rfl) hd_Model_sum rfl ⟨by decide, by decide⟩ (OB.recv E.2.2.2.2.2 (by rfl) hm.1) hm hF hl.1 rfl (Nat.le_of_ble_eq_true rfl) d_Model_checks_128 ⟨by decide, by decide⟩ (qv (fun H11 locs hq hF => ?_))
    obtain ⟨hq, fd_6, hm, hS9, hC9, hD9⟩ := hq
    have hS := hS.tr (hS9.mono (fun t h => by show 32 ≤ t; omega))
    have hfr := hfr.tr hq
    refine lv_aload_n hx hb d_Model_checks_131 rfl (lv_at hl 0 rfl) ?_
    refine lv_sipush (v := nI 164) hx hb d_Model_checks_132 (by decide) ?_
    refine lv_sipush (v := nI 161) hx hb d_Model_checks_135 (by decide) ?_
    refine q_cV (rest := []) E (S_Model_alike l g n0 mo 164 161 0 (nI pn) (nI tn) (nI wn) 0 14 hw0 fd_6 (by omega) (by omega)) w_1218 w_15 w_1215 w_1217 (bw_s 46 rfl) hd_Model_alike rfl ⟨by decide, by decide⟩ (OB.recv E.2.2.2.2.2 (by rfl) hm.1) hm hF hl.1 rfl (Nat.le_of_ble_eq_true rfl) d_Model_checks_138 ⟨by decide, by decide⟩ (qi (fun rz1 H12 locs hq hF => ?_))
    obtain ⟨hbrz1, hq, fd_7, hm, hS9⟩ := hq
    have hS := hS.tr (hS9.mono (fun t h => by show 32 ≤ t; omega))
    have hfr := hfr.tr hq
    exact q_zret E hr (by rcases hbrz1.1 with h | h <;> rw [h] <;> rfl) hlk (⟨_, rfl, Or.inl ⟨hok, hP.zkeep hfr hw0 hm hS hB⟩⟩) hF d_Model_checks_141
  refine lv_aload_n hx hb d_Model_checks_0 rfl (lv_at hl 0 rfl) ?_
  refine lv_iload_n hx hb d_Model_checks_1 rfl (lv_at hl 1 rfl) ?_
  refine q_cS (rest := [.ref mo]) E (c_Model_noPoint l g n0 p0 ) w_1151 w_15 w_1149 w_1150 hd_Model_noPoint rfl ⟨by decide, by decide⟩ trivial hF hl.1 rfl (Nat.le_of_ble_eq_true rfl) d_Model_checks_2 ⟨by decide, by decide⟩ (qi (fun r_0 H1 locs hq hF => ?_))
  obtain ⟨h_0, hq⟩ := hq
  subst hq
  rcases h_0 with ⟨rfl, f_0⟩ | ⟨rfl, f_0⟩
  · skip
    refine lv_if_ne (tgt := 38) hx hb d_Model_checks_5 (by decide) (fun _ => ?_) (fun h9 => absurd h9 (by decide))
    refine lv_iconst (v := nI 1) hx hb d_Model_checks_38 (by decide) ?_
    refine lv_goto (tgt := 43) hx hb d_Model_checks_39 (by decide) ?_
    have hl : lv_has ls 6 [(0, .ref mo), (1, .int p0), (2, .int q0), (3, .int z0), (4, .int y0), (5, .int t0)] := lv_sub hl [0, 1, 2, 3, 4, 5] rfl
    exact bad _ ls (fun h => (f_0) h.1) hF hl
  · skip
    refine lv_if_ne (tgt := 38) hx hb d_Model_checks_5 (by decide) (fun h9 => absurd (by decide) h9) (fun _ => ?_)
    refine lv_iload_n hx hb d_Model_checks_8 rfl (lv_at hl 2 rfl) ?_
    refine q_cS (rest := [.ref mo]) E (c_Model_noPoint l g n0 q0 ) w_1151 w_15 w_1149 w_1150 hd_Model_noPoint rfl ⟨by decide, by decide⟩ trivial hF hl.1 rfl (Nat.le_of_ble_eq_true rfl) d_Model_checks_9 ⟨by decide, by decide⟩ (qi (fun r_1 H2 locs hq hF => ?_))
    obtain ⟨h_1, hq⟩ := hq
    subst hq
    rcases h_1 with ⟨rfl, f_1⟩ | ⟨rfl, f_1⟩
    · skip
      refine lv_if_ne (tgt := 38) hx hb d_Model_checks_12 (by decide) (fun _ => ?_) (fun h9 => absurd h9 (by decide))
      refine lv_iconst (v := nI 1) hx hb d_Model_checks_38 (by decide) ?_
      refine lv_goto (tgt := 43) hx hb d_Model_checks_39 (by decide) ?_
      have hl : lv_has ls 6 [(0, .ref mo), (1, .int p0), (2, .int q0), (3, .int z0), (4, .int y0), (5, .int t0)] := lv_sub hl [0, 1, 2, 3, 4, 5] rfl
      exact bad _ ls (fun h => (f_1) h.2.1) hF hl
    · skip
      refine lv_if_ne (tgt := 38) hx hb d_Model_checks_12 (by decide) (fun h9 => absurd (by decide) h9) (fun _ => ?_)
      refine lv_iload_n hx hb d_Model_checks_15 rfl (lv_at hl 3 rfl) ?_
      refine q_cS (rest := [.ref mo]) E (c_Model_noScalar l g n0 z0 ) w_1064 w_15 w_1062 w_1063 hd_Model_noScalar rfl ⟨by decide, by decide⟩ trivial hF hl.1 rfl (Nat.le_of_ble_eq_true rfl) d_Model_checks_16 ⟨by decide, by decide⟩ (qi (fun r_2 H3 locs hq hF => ?_))
      obtain ⟨h_2, hq⟩ := hq
      subst hq
      rcases h_2 with ⟨rfl, f_2⟩ | ⟨rfl, f_2⟩
      · skip
        refine lv_if_ne (tgt := 38) hx hb d_Model_checks_19 (by decide) (fun _ => ?_) (fun h9 => absurd h9 (by decide))
        refine lv_iconst (v := nI 1) hx hb d_Model_checks_38 (by decide) ?_
        refine lv_goto (tgt := 43) hx hb d_Model_checks_39 (by decide) ?_
        have hl : lv_has ls 6 [(0, .ref mo), (1, .int p0), (2, .int q0), (3, .int z0), (4, .int y0), (5, .int t0)] := lv_sub hl [0, 1, 2, 3, 4, 5] rfl
        exact bad _ ls (fun h => (f_2) h.2.2.1) hF hl
      · skip
        refine lv_if_ne (tgt := 38) hx hb d_Model_checks_19 (by decide) (fun h9 => absurd (by decide) h9) (fun _ => ?_)
        refine lv_iload hx hb d_Model_checks_22 (lv_at hl 4 rfl) ?_
        refine q_cS (rest := [.ref mo]) E (c_Model_noScalar l g n0 y0 ) w_1064 w_15 w_1062 w_1063 hd_Model_noScalar rfl ⟨by decide, by decide⟩ trivial hF hl.1 rfl (Nat.le_of_ble_eq_true rfl) d_Model_checks_24 ⟨by decide, by decide⟩ (qi (fun r_3 H4 locs hq hF => ?_))
        obtain ⟨h_3, hq⟩ := hq
        subst hq
        rcases h_3 with ⟨rfl, f_3⟩ | ⟨rfl, f_3⟩
        · skip
          refine lv_if_ne (tgt := 38) hx hb d_Model_checks_27 (by decide) (fun _ => ?_) (fun h9 => absurd h9 (by decide))
          refine lv_iconst (v := nI 1) hx hb d_Model_checks_38 (by decide) ?_
          refine lv_goto (tgt := 43) hx hb d_Model_checks_39 (by decide) ?_
          have hl : lv_has ls 6 [(0, .ref mo), (1, .int p0), (2, .int q0), (3, .int z0), (4, .int y0), (5, .int t0)] := lv_sub hl [0, 1, 2, 3, 4, 5] rfl
          exact bad _ ls (fun h => (f_3) h.2.2.2.1) hF hl
        · skip
          refine lv_if_ne (tgt := 38) hx hb d_Model_checks_27 (by decide) (fun h9 => absurd (by decide) h9) (fun _ => ?_)
          refine lv_iload hx hb d_Model_checks_30 (lv_at hl 5 rfl) ?_
          refine q_cS (rest := [.ref mo]) E (c_Model_noScalar l g n0 t0 ) w_1064 w_15 w_1062 w_1063 hd_Model_noScalar rfl ⟨by decide, by decide⟩ trivial hF hl.1 rfl (Nat.le_of_ble_eq_true rfl) d_Model_checks_32 ⟨by decide, by decide⟩ (qi (fun r_4 H5 locs hq hF => ?_))
          obtain ⟨h_4, hq⟩ := hq
          subst hq
          rcases h_4 with ⟨rfl, f_4⟩ | ⟨rfl, f_4⟩
          · skip
            refine lv_if_eq (tgt := 42) hx hb d_Model_checks_35 (by decide) (fun h9 => absurd h9 (by decide)) (fun _ => ?_)
            refine lv_iconst (v := nI 1) hx hb d_Model_checks_38 (by decide) ?_
            refine lv_goto (tgt := 43) hx hb d_Model_checks_39 (by decide) ?_
            have hl : lv_has ls 6 [(0, .ref mo), (1, .int p0), (2, .int q0), (3, .int z0), (4, .int y0), (5, .int t0)] := lv_sub hl [0, 1, 2, 3, 4, 5] rfl
            exact bad _ ls (fun h => (f_4) h.2.2.2.2) hF hl
          · skip
            refine lv_if_eq (tgt := 42) hx hb d_Model_checks_35 (by decide) (fun _ => ?_) (fun h9 => absurd (by decide) h9)
            refine lv_iconst (v := nI 0) hx hb d_Model_checks_42 (by decide) ?_
            have hl : lv_has ls 6 [(0, .ref mo), (1, .int p0), (2, .int q0), (3, .int z0), (4, .int y0), (5, .int t0)] := lv_sub hl [0, 1, 2, 3, 4, 5] rfl
            exact good _ ls ⟨f_0, f_1, f_2, f_3, f_4⟩ hF hl
set_option maxHeartbeats 4000000 in
set_option maxRecDepth 100000 in
theorem Z_Model_join (l : Launch) (g : WG) (n0 : Nat → Prop) (mo : Nat) (th : Int32) (pn tn wn : Nat) (B : Nat → Int) (w0 : Int32) (a : Int32) (a2 : Int32) (a3 : Int32) : Ctr l y_Model_join (.code y_Model_join prog_11_method_49_code 5 none) 5 119 0 0 n0 g [.ref mo, .int w0, .int a, .int a2, .int a3] (fun H => MV g n0 H mo th pn tn wn B) (QV (fun H H' => ((okC w0 (nI 0) (nI 3) ∧ okP a (nI 1) ∧ okP a2 (nI 1) ∧ okP a3 (nI 1)) ∧ MV g n0 H' mo 0 pn tn wn B) ∨ (¬ (okC w0 (nI 0) (nI 3) ∧ okP a (nI 1) ∧ okP a2 (nI 1) ∧ okP a3 (nI 1)) ∧ MV g n0 H' mo 1 pn tn wn B))) := by
  refine ctr_mk l (lv0 := [(0, .ref mo), (1, .int w0), (2, .int a), (3, .int a2), (4, .int a3)]) (by decide) (Nat.le_of_ble_eq_true rfl) rfl ?_
  intro p e s m below meth c ls E hr hlk hnm hl hP
  have hx := E.1
  have hb := E.2.1
  have hK := E.2.2.2.2.2
  have hF : ∀ q ∈ ([] : List Loc), n0 q.base := fun q hq => absurd hq List.not_mem_nil
  obtain ⟨⟨w9, n9, fd, hw9, hm, hB⟩, -⟩ := id hP
  have hS : SAME fd fd (fun t => 32 ≤ t) := SAME.rf
  have hmn := hP.mn
  have hbd := hP.2.2.2.2.2.1
  have hfr : FRM (MR mo) s.heap s.heap := FRM.rf
  have bad : ∀ (locs : List Loc) (ls : Array Slot), ¬ (okC w0 (nI 0) (nI 3) ∧ okP a (nI 1) ∧ okP a2 (nI 1) ∧ okP a3 (nI 1)) → (∀ q ∈ locs, n0 q.base) → lv_has ls 5 [(0, .ref mo), (1, .int w0), (2, .int a), (3, .int a2), (4, .int a3)] → W p l e { frames := 5, cells := 0, slots := 0, locals := 119 } s m [.ref mo, .int w0, .int a, .int a2, .int a3].toArray below meth c s.heap locs 0 0 (MQ below (QcP (QV (fun H H' => ((okC w0 (nI 0) (nI 3) ∧ okP a (nI 1) ∧ okP a2 (nI 1) ∧ okP a3 (nI 1)) ∧ MV g n0 H' mo 0 pn tn wn B) ∨ (¬ (okC w0 (nI 0) (nI 3) ∧ okP a (nI 1) ∧ okP a2 (nI 1) ∧ okP a3 (nI 1)) ∧ MV g n0 H' mo 1 pn tn wn B)))) [.ref mo, .int w0, .int a, .int a2, .int a3].toArray s 0 0 (fun q => n0 q)) (F0 m 40 ls [.int (nI 1), .ref mo]) := by
    intro  locs   ls hno hF hl
    refine lv_iconst (v := nI 1) hx hb d_Model_join_40 (by decide) ?_
    refine q_cV (rest := []) E (c_Model_fails l g n0 mo th (nI pn) (nI tn) (nI wn) w9 n9 hw9 (nI 1) (nI 1) fd hmn (Or.inl rfl)) w_1056 w_15 w_1053 w_1055 (bw_s 24 rfl) hd_Model_fails rfl ⟨by decide, by decide⟩ (OB.recv E.2.2.2.2.2 (by rfl) hm.1) hm hF hl.1 rfl (Nat.le_of_ble_eq_true rfl) d_Model_join_41 ⟨by decide, by decide⟩ (qi (fun rf H1 locs hq hF => ?_))
    obtain ⟨hrf, hq, hm⟩ := hq
    subst hrf
    have hfr := hfr.tr hq
    rw [if_neg (by decide)] at hm
    refine lv_if_eq (tgt := 48) hx hb d_Model_join_44 (by decide) (fun h9 => absurd h9 (by decide)) (fun _ => ?_)
    exact q_vret E hr hlk (⟨rfl, Or.inr ⟨hno, hP.zkeep hfr hw9 hm hS hB⟩⟩) hF d_Model_join_47
  have good : ∀ (locs : List Loc) (ls : Array Slot), okC w0 (nI 0) (nI 3) ∧ okP a (nI 1) ∧ okP a2 (nI 1) ∧ okP a3 (nI 1) → (∀ q ∈ locs, n0 q.base) → lv_has ls 5 [(0, .ref mo), (1, .int w0), (2, .int a), (3, .int a2), (4, .int a3)] → W p l e { frames := 5, cells := 0, slots := 0, locals := 119 } s m [.ref mo, .int w0, .int a, .int a2, .int a3].toArray below meth c s.heap locs 0 0 (MQ below (QcP (QV (fun H H' => ((okC w0 (nI 0) (nI 3) ∧ okP a (nI 1) ∧ okP a2 (nI 1) ∧ okP a3 (nI 1)) ∧ MV g n0 H' mo 0 pn tn wn B) ∨ (¬ (okC w0 (nI 0) (nI 3) ∧ okP a (nI 1) ∧ okP a2 (nI 1) ∧ okP a3 (nI 1)) ∧ MV g n0 H' mo 1 pn tn wn B)))) [.ref mo, .int w0, .int a, .int a2, .int a3].toArray s 0 0 (fun q => n0 q)) (F0 m 40 ls [.int (nI 0), .ref mo]) := by
    intro  locs   ls hok hF hl
    refine lv_iconst (v := nI 1) hx hb d_Model_join_40 (by decide) ?_
    refine q_cV (rest := []) E (c_Model_fails l g n0 mo th (nI pn) (nI tn) (nI wn) w9 n9 hw9 (nI 0) (nI 1) fd hmn (Or.inr rfl)) w_1056 w_15 w_1053 w_1055 (bw_s 24 rfl) hd_Model_fails rfl ⟨by decide, by decide⟩ (OB.recv E.2.2.2.2.2 (by rfl) hm.1) hm hF hl.1 rfl (Nat.le_of_ble_eq_true rfl) d_Model_join_41 ⟨by decide, by decide⟩ (qi (fun rf H1 locs hq hF => ?_))
    obtain ⟨hrf, hq, hm⟩ := hq
    subst hrf
    have hfr := hfr.tr hq
    rw [if_pos nI_0] at hm
    refine lv_if_eq (tgt := 48) hx hb d_Model_join_44 (by decide) (fun _ => ?_) (fun h9 => absurd (by decide) h9)
    obtain ⟨k0, e_k0, h_k0, h2_k0⟩ := okC_nat (by decide) (by decide) hok.1
    rw [e_k0] at hl
    obtain ⟨k1, e_k1, h_k1⟩ := okP_nat (by decide) (by decide) hok.2.1
    rw [e_k1] at hl
    obtain ⟨k2, e_k2, h_k2⟩ := okP_nat (by decide) (by decide) hok.2.2.1
    rw [e_k2] at hl
    obtain ⟨k3, e_k3, h_k3⟩ := okP_nat (by decide) (by decide) hok.2.2.2
    rw [e_k3] at hl
    obtain ⟨hq9, -⟩ : k0 ≤ 3 ∧ True := ⟨h2_k0, trivial⟩
    match k0, hq9 with
    | 0, _ =>
      refine lv_aload_n hx hb d_Model_join_48 rfl (lv_at hl 0 rfl) ?_
      refine lv_iconst (v := nI 0) hx hb d_Model_join_49 (by decide) ?_
      refine q_cV (rest := []) E (c_Model_use l g n0 mo 0 (nI pn) (nI tn) (nI wn) w9 n9 hw9 0 14 hw0 fd hmn) w_967 w_15 w_964 w_966 (bw_s 15 rfl) hd_Model_use rfl ⟨by decide, by decide⟩ (OB.recv E.2.2.2.2.2 (by rfl) hm.1) hm hF hl.1 rfl (Nat.le_of_ble_eq_true rfl) d_Model_join_50 ⟨by decide, by decide⟩ (qv (fun H2 locs hq hF => ?_))
      obtain ⟨hq, hm⟩ := hq
      have hfr := hfr.tr hq
      refine lv_iload_n hx hb d_Model_join_53 rfl (lv_at hl 1 rfl) ?_
      refine lv_if_ne (tgt := 65) hx hb d_Model_join_54 (by decide) (fun h9 => absurd (by decide) h9) (fun _ => ?_)
      refine lv_aload_n hx hb d_Model_join_57 rfl (lv_at hl 0 rfl) ?_
      refine lv_iload_n hx hb d_Model_join_58 rfl (lv_at hl 2 rfl) ?_
      refine q_cS (rest := [.ref mo]) E (c_Model_slot l g n0 (nI k1)) w_1154 w_15 w_1152 w_1153 hd_Model_slot rfl ⟨by decide, by decide⟩ trivial hF hl.1 rfl (Nat.le_of_ble_eq_true rfl) d_Model_join_59 ⟨by decide, by decide⟩ (qi (fun rs H3 locs hq hF => ?_))
      obtain ⟨hrs, hq9⟩ := hq
      subst hrs
      subst hq9
      refine lv_topi (fun t9 e9 => ?_)
      obtain rfl : t9 = nI (32 + 3 * k1) := e9.trans (by rw [pk_mul, nI_add])
      refine q_cV (rest := []) E (c_Model_nothing l g n0 mo (32 + 3 * k1) 0 (nI pn) (nI tn) (nI wn) 0 14 hw0 fd (by omega)) w_996 w_15 w_993 w_995 (bw_s 22 rfl) hd_Model_nothing rfl ⟨by decide, by decide⟩ (OB.recv E.2.2.2.2.2 (by rfl) hm.1) hm hF hl.1 rfl (Nat.le_of_ble_eq_true rfl) d_Model_join_62 ⟨by decide, by decide⟩ (qv (fun H4 locs hq hF => ?_))
      obtain ⟨hq, fd_1, hm, hS9, hz1, hone, hz2⟩ := hq
      have hS := hS.tr (hS9.mono (fun t h => by show 32 ≤ t; omega))
      have hfr := hfr.tr hq
      refine lv_iload_n hx hb d_Model_join_65 rfl (lv_at hl 1 rfl) ?_
      refine lv_iconst (v := nI 1) hx hb d_Model_join_66 (by decide) ?_
      refine lv_icmp_ne (tgt := 80) hx hb d_Model_join_67 (by decide) (fun _ => ?_) (fun h9 => absurd h9 (by decide))
      refine lv_iload_n hx hb d_Model_join_80 rfl (lv_at hl 1 rfl) ?_
      refine lv_iconst (v := nI 2) hx hb d_Model_join_81 (by decide) ?_
      refine lv_icmp_ge (tgt := 86) hx hb d_Model_join_82 (by decide) (fun h9 => absurd h9 (by decide)) (fun _ => ?_)
      exact q_vret E hr hlk (⟨rfl, Or.inl ⟨hok, hP.zkeep hfr hw0 hm hS hB⟩⟩) hF d_Model_join_85
    | 1, _ =>
      refine lv_aload_n hx hb d_Model_join_48 rfl (lv_at hl 0 rfl) ?_
      refine lv_iconst (v := nI 0) hx hb d_Model_join_49 (by decide) ?_
      refine q_cV (rest := []) E (c_Model_use l g n0 mo 0 (nI pn) (nI tn) (nI wn) w9 n9 hw9 0 14 hw0 fd hmn) w_967 w_15 w_964 w_966 (bw_s 15 rfl) hd_Model_use rfl ⟨by decide, by decide⟩ (OB.recv E.2.2.2.2.2 (by rfl) hm.1) hm hF hl.1 rfl (Nat.le_of_ble_eq_true rfl) d_Model_join_50 ⟨by decide, by decide⟩ (qv (fun H2 locs hq hF => ?_))
      obtain ⟨hq, hm⟩ := hq
      have hfr := hfr.tr hq
      refine lv_iload_n hx hb d_Model_join_53 rfl (lv_at hl 1 rfl) ?_
      refine lv_if_ne (tgt := 65) hx hb d_Model_join_54 (by decide) (fun _ => ?_) (fun h9 => absurd h9 (by decide))
      refine lv_iload_n hx hb d_Model_join_65 rfl (lv_at hl 1 rfl) ?_
      refine lv_iconst (v := nI 1) hx hb d_Model_join_66 (by decide) ?_
      refine lv_icmp_ne (tgt := 80) hx hb d_Model_join_67 (by decide) (fun h9 => absurd (by decide) h9) (fun _ => ?_)
      refine lv_aload_n hx hb d_Model_join_70 rfl (lv_at hl 0 rfl) ?_
      refine lv_iload_n hx hb d_Model_join_71 rfl (lv_at hl 2 rfl) ?_
      refine q_cS (rest := [.ref mo]) E (c_Model_slot l g n0 (nI k1)) w_1154 w_15 w_1152 w_1153 hd_Model_slot rfl ⟨by decide, by decide⟩ trivial hF hl.1 rfl (Nat.le_of_ble_eq_true rfl) d_Model_join_72 ⟨by decide, by decide⟩ (qi (fun rs H3 locs hq hF => ?_))
      obtain ⟨hrs, hq9⟩ := hq
      subst hrs
      subst hq9
      refine lv_topi (fun t9 e9 => ?_)
      obtain rfl : t9 = nI (32 + 3 * k1) := e9.trans (by rw [pk_mul, nI_add])
      refine lv_bipush (v := nI 116) hx hb d_Model_join_75 (by decide) ?_
      refine q_cV (rest := []) E (c_Model_movePoint l g n0 mo (32 + 3 * k1) 116 0 (nI pn) (nI tn) (nI wn) 0 14 hw0 fd (by omega) (by omega) (by omega)) w_1171 w_15 w_1168 w_1170 (bw_s 41 rfl) hd_Model_movePoint rfl ⟨by decide, by decide⟩ (OB.recv E.2.2.2.2.2 (by rfl) hm.1) hm hF hl.1 rfl (Nat.le_of_ble_eq_true rfl) d_Model_join_77 ⟨by decide, by decide⟩ (qv (fun H4 locs hq hF => ?_))
      obtain ⟨hq, fd_2, hm, hS9, hcp⟩ := hq
      have hS := hS.tr (hS9.mono (fun t h => by show 32 ≤ t; omega))
      have hfr := hfr.tr hq
      refine lv_iload_n hx hb d_Model_join_80 rfl (lv_at hl 1 rfl) ?_
      refine lv_iconst (v := nI 2) hx hb d_Model_join_81 (by decide) ?_
      refine lv_icmp_ge (tgt := 86) hx hb d_Model_join_82 (by decide) (fun h9 => absurd h9 (by decide)) (fun _ => ?_)
      exact q_vret E hr hlk (⟨rfl, Or.inl ⟨hok, hP.zkeep hfr hw0 hm hS hB⟩⟩) hF d_Model_join_85
    | 2, _ =>
      refine lv_aload_n hx hb d_Model_join_48 rfl (lv_at hl 0 rfl) ?_
      refine lv_iconst (v := nI 0) hx hb d_Model_join_49 (by decide) ?_
      refine q_cV (rest := []) E (c_Model_use l g n0 mo 0 (nI pn) (nI tn) (nI wn) w9 n9 hw9 0 14 hw0 fd hmn) w_967 w_15 w_964 w_966 (bw_s 15 rfl) hd_Model_use rfl ⟨by decide, by decide⟩ (OB.recv E.2.2.2.2.2 (by rfl) hm.1) hm hF hl.1 rfl (Nat.le_of_ble_eq_true rfl) d_Model_join_50 ⟨by decide, by decide⟩ (qv (fun H2 locs hq hF => ?_))
      obtain ⟨hq, hm⟩ := hq
      have hfr := hfr.tr hq
      refine lv_iload_n hx hb d_Model_join_53 rfl (lv_at hl 1 rfl) ?_
      refine lv_if_ne (tgt := 65) hx hb d_Model_join_54 (by decide) (fun _ => ?_) (fun h9 => absurd h9 (by decide))
      refine lv_iload_n hx hb d_Model_join_65 rfl (lv_at hl 1 rfl) ?_
      refine lv_iconst (v := nI 1) hx hb d_Model_join_66 (by decide) ?_
      refine lv_icmp_ne (tgt := 80) hx hb d_Model_join_67 (by decide) (fun _ => ?_) (fun h9 => absurd h9 (by decide))
      refine lv_iload_n hx hb d_Model_join_80 rfl (lv_at hl 1 rfl) ?_
      refine lv_iconst (v := nI 2) hx hb d_Model_join_81 (by decide) ?_
      refine lv_icmp_ge (tgt := 86) hx hb d_Model_join_82 (by decide) (fun _ => ?_) (fun h9 => absurd (by decide) h9)
      refine lv_aload_n hx hb d_Model_join_86 rfl (lv_at hl 0 rfl) ?_
      refine lv_sipush (v := nI 157) hx hb d_Model_join_87 (by decide) ?_
      refine lv_iload hx hb d_Model_join_90 (lv_at hl 4 rfl) ?_
      refine q_cS (rest := [.int (nI 157), .ref mo]) E (c_Model_slot l g n0 (nI k3)) w_1154 w_15 w_1152 w_1153 hd_Model_slot rfl ⟨by decide, by decide⟩ trivial hF hl.1 rfl (Nat.le_of_ble_eq_true rfl) d_Model_join_92 ⟨by decide, by decide⟩ (qi (fun rs H3 locs hq hF => ?_))
      obtain ⟨hrs, hq9⟩ := hq
      subst hrs
      subst hq9
      refine lv_topi (fun t9 e9 => ?_)
      obtain rfl : t9 = nI (32 + 3 * k3) := e9.trans (by rw [pk_mul, nI_add])
      refine q_cV (rest := []) E (c_Model_movePoint l g n0 mo 157 (32 + 3 * k3) 0 (nI pn) (nI tn) (nI wn) 0 14 hw0 fd (by omega) (by omega) (by omega)) w_1171 w_15 w_1168 w_1170 (bw_s 41 rfl) hd_Model_movePoint rfl ⟨by decide, by decide⟩ (OB.recv E.2.2.2.2.2 (by rfl) hm.1) hm hF hl.1 rfl (Nat.le_of_ble_eq_true rfl) d_Model_join_95 ⟨by decide, by decide⟩ (qv (fun H4 locs hq hF => ?_))
      obtain ⟨hq, fd_3, hm, hS9, hcp⟩ := hq
      have hS := hS.tr (hS9.mono (fun t h => by show 32 ≤ t; omega))
      have hfr := hfr.tr hq
      refine lv_aload_n hx hb d_Model_join_98 rfl (lv_at hl 0 rfl) ?_
      refine lv_sipush (v := nI 160) hx hb d_Model_join_99 (by decide) ?_
      refine q_cV (rest := []) E (c_Model_zero l g n0 mo 160 0 (nI pn) (nI tn) (nI wn) 0 14 hw0  fd_3 (by omega) ) w_1000 w_15 w_997 w_999 (bw_s 23 rfl) hd_Model_zero rfl ⟨by decide, by decide⟩ (OB.recv E.2.2.2.2.2 (by rfl) hm.1) hm hF hl.1 rfl (Nat.le_of_ble_eq_true rfl) d_Model_join_102 ⟨by decide, by decide⟩ (qv (fun H5 locs hq hF => ?_))
      obtain ⟨hq, fd_4, hm, hpv⟩ := hq
      have hS := hS.put hpv.1 (by show 32 ≤ _; omega)
      have hfr := hfr.tr hq
      refine lv_iload_n hx hb d_Model_join_105 rfl (lv_at hl 1 rfl) ?_
      refine lv_iconst (v := nI 3) hx hb d_Model_join_106 (by decide) ?_
      refine lv_icmp_ne (tgt := 123) hx hb d_Model_join_107 (by decide) (fun _ => ?_) (fun h9 => absurd h9 (by decide))
      refine lv_aload_n hx hb d_Model_join_123 rfl (lv_at hl 0 rfl) ?_
      refine lv_sipush (v := nI 161) hx hb d_Model_join_124 (by decide) ?_
      refine lv_iload_n hx hb d_Model_join_127 rfl (lv_at hl 3 rfl) ?_
      refine q_cS (rest := [.int (nI 161), .ref mo]) E (c_Model_slot l g n0 (nI k2)) w_1154 w_15 w_1152 w_1153 hd_Model_slot rfl ⟨by decide, by decide⟩ trivial hF hl.1 rfl (Nat.le_of_ble_eq_true rfl) d_Model_join_128 ⟨by decide, by decide⟩ (qi (fun rs H6 locs hq hF => ?_))
      obtain ⟨hrs, hq9⟩ := hq
      subst hrs
      subst hq9
      refine lv_topi (fun t9 e9 => ?_)
      obtain rfl : t9 = nI (32 + 3 * k2) := e9.trans (by rw [pk_mul, nI_add])
      refine lv_sipush (v := nI 157) hx hb d_Model_join_131 (by decide) ?_
      refine q_cV (rest := []) E (c_Model_sum l g n0 mo 161 (32 + 3 * k2) 157 0 (nI pn) (nI tn) (nI wn) 0 14 hw0 fd_4 (by omega) (by omega) (by omega) False False 0 0 (fun h => h.elim) (fun h => h.elim)) w_1175 w_15 w_1172 w_1174 (bw_s 42 rfl) hd_Model_sum rfl ⟨by decide, by decide⟩ (OB.recv E.2.2.2.2.2 (by rfl) hm.1) hm hF hl.1 rfl (Nat.le_of_ble_eq_true rfl) d_Model_join_134 ⟨by decide, by decide⟩ (qv (fun H7 locs hq hF => ?_))
      obtain ⟨hq, fd_5, hm, hS9, hC9, hD9⟩ := hq
      have hS := hS.tr (hS9.mono (fun t h => by show 32 ≤ t; omega))
      have hfr := hfr.tr hq
      refine lv_aload_n hx hb d_Model_join_137 rfl (lv_at hl 0 rfl) ?_
      refine lv_iload_n hx hb d_Model_join_138 rfl (lv_at hl 2 rfl) ?_
      refine q_cS (rest := [.ref mo]) E (c_Model_slot l g n0 (nI k1)) w_1154 w_15 w_1152 w_1153 hd_Model_slot rfl ⟨by decide, by decide⟩ trivial hF hl.1 rfl (Nat.le_of_ble_eq_true rfl) d_Model_join_139 ⟨by decide, by decide⟩ (qi (fun rs H8 locs hq hF => ?_))
      obtain ⟨hrs, hq9⟩ := hq
      subst hrs
      subst hq9
      refine lv_topi (fun t9 e9 => ?_)
      obtain rfl : t9 = nI (32 + 3 * k1) := e9.trans (by rw [pk_mul, nI_add])
      refine lv_sipush (v := nI 161) hx hb d_Model_join_142 (by decide) ?_
      refine q_cV (rest := []) E (c_Model_movePoint l g n0 mo (32 + 3 * k1) 161 0 (nI pn) (nI tn) (nI wn) 0 14 hw0 fd_5 (by omega) (by omega) (by omega)) w_1171 w_15 w_1168 w_1170 (bw_s 41 rfl) hd_Model_movePoint rfl ⟨by decide, by decide⟩ (OB.recv E.2.2.2.2.2 (by rfl) hm.1) hm hF hl.1 rfl (Nat.le_of_ble_eq_true rfl) d_Model_join_145 ⟨by decide, by decide⟩ (qv (fun H9 locs hq hF => ?_))
      obtain ⟨hq, fd_6, hm, hS9, hcp⟩ := hq
      have hS := hS.tr (hS9.mono (fun t h => by show 32 ≤ t; omega))
      have hfr := hfr.tr hq
      exact q_vret E hr hlk (⟨rfl, Or.inl ⟨hok, hP.zkeep hfr hw0 hm hS hB⟩⟩) hF d_Model_join_148
    | 3, _ =>
      refine lv_aload_n hx hb d_Model_join_48 rfl (lv_at hl 0 rfl) ?_
      refine lv_iconst (v := nI 0) hx hb d_Model_join_49 (by decide) ?_
      refine q_cV (rest := []) E (c_Model_use l g n0 mo 0 (nI pn) (nI tn) (nI wn) w9 n9 hw9 0 14 hw0 fd hmn) w_967 w_15 w_964 w_966 (bw_s 15 rfl) hd_Model_use rfl ⟨by decide, by decide⟩ (OB.recv E.2.2.2.2.2 (by rfl) hm.1) hm hF hl.1 rfl (Nat.le_of_ble_eq_true rfl) d_Model_join_50 ⟨by decide, by decide⟩ (qv (fun H2 locs hq hF => ?_))
      obtain ⟨hq, hm⟩ := hq
      have hfr := hfr.tr hq
      refine lv_iload_n hx hb d_Model_join_53 rfl (lv_at hl 1 rfl) ?_
      refine lv_if_ne (tgt := 65) hx hb d_Model_join_54 (by decide) (fun _ => ?_) (fun h9 => absurd h9 (by decide))
      refine lv_iload_n hx hb d_Model_join_65 rfl (lv_at hl 1 rfl) ?_
      refine lv_iconst (v := nI 1) hx hb d_Model_join_66 (by decide) ?_
      refine lv_icmp_ne (tgt := 80) hx hb d_Model_join_67 (by decide) (fun _ => ?_) (fun h9 => absurd h9 (by decide))
      refine lv_iload_n hx hb d_Model_join_80 rfl (lv_at hl 1 rfl) ?_
      refine lv_iconst (v := nI 2) hx hb d_Model_join_81 (by decide) ?_
      refine lv_icmp_ge (tgt := 86) hx hb d_Model_join_82 (by decide) (fun _ => ?_) (fun h9 => absurd (by decide) h9)
      refine lv_aload_n hx hb d_Model_join_86 rfl (lv_at hl 0 rfl) ?_
      refine lv_sipush (v := nI 157) hx hb d_Model_join_87 (by decide) ?_
      refine lv_iload hx hb d_Model_join_90 (lv_at hl 4 rfl) ?_
      refine q_cS (rest := [.int (nI 157), .ref mo]) E (c_Model_slot l g n0 (nI k3)) w_1154 w_15 w_1152 w_1153 hd_Model_slot rfl ⟨by decide, by decide⟩ trivial hF hl.1 rfl (Nat.le_of_ble_eq_true rfl) d_Model_join_92 ⟨by decide, by decide⟩ (qi (fun rs H3 locs hq hF => ?_))
      obtain ⟨hrs, hq9⟩ := hq
      subst hrs
      subst hq9
      refine lv_topi (fun t9 e9 => ?_)
      obtain rfl : t9 = nI (32 + 3 * k3) := e9.trans (by rw [pk_mul, nI_add])
      refine q_cV (rest := []) E (c_Model_movePoint l g n0 mo 157 (32 + 3 * k3) 0 (nI pn) (nI tn) (nI wn) 0 14 hw0 fd (by omega) (by omega) (by omega)) w_1171 w_15 w_1168 w_1170 (bw_s 41 rfl) hd_Model_movePoint rfl ⟨by decide, by decide⟩ (OB.recv E.2.2.2.2.2 (by rfl) hm.1) hm hF hl.1 rfl (Nat.le_of_ble_eq_true rfl) d_Model_join_95 ⟨by decide, by decide⟩ (qv (fun H4 locs hq hF => ?_))
      obtain ⟨hq, fd_7, hm, hS9, hcp⟩ := hq
      have hS := hS.tr (hS9.mono (fun t h => by show 32 ≤ t; omega))
      have hfr := hfr.tr hq
      refine lv_aload_n hx hb d_Model_join_98 rfl (lv_at hl 0 rfl) ?_
      refine lv_sipush (v := nI 160) hx hb d_Model_join_99 (by decide) ?_
      refine q_cV (rest := []) E (c_Model_zero l g n0 mo 160 0 (nI pn) (nI tn) (nI wn) 0 14 hw0  fd_7 (by omega) ) w_1000 w_15 w_997 w_999 (bw_s 23 rfl) hd_Model_zero rfl ⟨by decide, by decide⟩ (OB.recv E.2.2.2.2.2 (by rfl) hm.1) hm hF hl.1 rfl (Nat.le_of_ble_eq_true rfl) d_Model_join_102 ⟨by decide, by decide⟩ (qv (fun H5 locs hq hF => ?_))
      obtain ⟨hq, fd_8, hm, hpv⟩ := hq
      have hS := hS.put hpv.1 (by show 32 ≤ _; omega)
      have hfr := hfr.tr hq
      refine lv_iload_n hx hb d_Model_join_105 rfl (lv_at hl 1 rfl) ?_
      refine lv_iconst (v := nI 3) hx hb d_Model_join_106 (by decide) ?_
      refine lv_icmp_ne (tgt := 123) hx hb d_Model_join_107 (by decide) (fun h9 => absurd (by decide) h9) (fun _ => ?_)
      refine lv_aload_n hx hb d_Model_join_110 rfl (lv_at hl 0 rfl) ?_
      refine lv_sipush (v := nI 158) hx hb d_Model_join_111 (by decide) ?_
      refine lv_sipush (v := nI 160) hx hb d_Model_join_114 (by decide) ?_
      refine lv_sipush (v := nI 158) hx hb d_Model_join_117 (by decide) ?_
      refine q_cV (rest := []) E (c_Model_less l g n0 mo 158 160 158 0 (nI pn) (nI tn) (nI wn) 0 14 hw0  fd_8 (by omega) (by omega) (by omega) ) w_1109 w_15 w_1106 w_1108 (bw_s 31 rfl) hd_Model_less rfl ⟨by decide, by decide⟩ (OB.recv E.2.2.2.2.2 (by rfl) hm.1) hm hF hl.1 rfl (Nat.le_of_ble_eq_true rfl) d_Model_join_120 ⟨by decide, by decide⟩ (qv (fun H6 locs hq hF => ?_))
      obtain ⟨hq, fd_9, hm, hpv, hv⟩ := hq
      have hS := hS.put hpv.1 (by show 32 ≤ _; omega)
      have hfr := hfr.tr (kjR hq)
      refine lv_aload_n hx hb d_Model_join_123 rfl (lv_at hl 0 rfl) ?_
      refine lv_sipush (v := nI 161) hx hb d_Model_join_124 (by decide) ?_
      refine lv_iload_n hx hb d_Model_join_127 rfl (lv_at hl 3 rfl) ?_
      refine q_cS (rest := [.int (nI 161), .ref mo]) E (c_Model_slot l g n0 (nI k2)) w_1154 w_15 w_1152 w_1153 hd_Model_slot rfl ⟨by decide, by decide⟩ trivial hF hl.1 rfl (Nat.le_of_ble_eq_true rfl) d_Model_join_128 ⟨by decide, by decide⟩ (qi (fun rs H7 locs hq hF => ?_))
      obtain ⟨hrs, hq9⟩ := hq
      subst hrs
      subst hq9
      refine lv_topi (fun t9 e9 => ?_)
      obtain rfl : t9 = nI (32 + 3 * k2) := e9.trans (by rw [pk_mul, nI_add])
      refine lv_sipush (v := nI 157) hx hb d_Model_join_131 (by decide) ?_
      refine q_cV (rest := []) E (c_Model_sum l g n0 mo 161 (32 + 3 * k2) 157 0 (nI pn) (nI tn) (nI wn) 0 14 hw0 fd_9 (by omega) (by omega) (by omega) False False 0 0 (fun h => h.elim) (fun h => h.elim)) w_1175 w_15 w_1172 w_1174 (bw_s 42 rfl) hd_Model_sum rfl ⟨by decide, by decide⟩ (OB.recv E.2.2.2.2.2 (by rfl) hm.1) hm hF hl.1 rfl (Nat.le_of_ble_eq_true rfl) d_Model_join_134 ⟨by decide, by decide⟩ (qv (fun H8 locs hq hF => ?_))
      obtain ⟨hq, fd_10, hm, hS9, hC9, hD9⟩ := hq
      have hS := hS.tr (hS9.mono (fun t h => by show 32 ≤ t; omega))
      have hfr := hfr.tr hq
      refine lv_aload_n hx hb d_Model_join_137 rfl (lv_at hl 0 rfl) ?_
      refine lv_iload_n hx hb d_Model_join_138 rfl (lv_at hl 2 rfl) ?_
      refine q_cS (rest := [.ref mo]) E (c_Model_slot l g n0 (nI k1)) w_1154 w_15 w_1152 w_1153 hd_Model_slot rfl ⟨by decide, by decide⟩ trivial hF hl.1 rfl (Nat.le_of_ble_eq_true rfl) d_Model_join_139 ⟨by decide, by decide⟩ (qi (fun rs H9 locs hq hF => ?_))
      obtain ⟨hrs, hq9⟩ := hq
      subst hrs
      subst hq9
      refine lv_topi (fun t9 e9 => ?_)
      obtain rfl : t9 = nI (32 + 3 * k1) := e9.trans (by rw [pk_mul, nI_add])
      refine lv_sipush (v := nI 161) hx hb d_Model_join_142 (by decide) ?_
      refine q_cV (rest := []) E (c_Model_movePoint l g n0 mo (32 + 3 * k1) 161 0 (nI pn) (nI tn) (nI wn) 0 14 hw0 fd_10 (by omega) (by omega) (by omega)) w_1171 w_15 w_1168 w_1170 (bw_s 41 rfl) hd_Model_movePoint rfl ⟨by decide, by decide⟩ (OB.recv E.2.2.2.2.2 (by rfl) hm.1) hm hF hl.1 rfl (Nat.le_of_ble_eq_true rfl) d_Model_join_145 ⟨by decide, by decide⟩ (qv (fun H10 locs hq hF => ?_))
      obtain ⟨hq, fd_11, hm, hS9, hcp⟩ := hq
      have hS := hS.tr (hS9.mono (fun t h => by show 32 ≤ t; omega))
      have hfr := hfr.tr hq
      exact q_vret E hr hlk (⟨rfl, Or.inl ⟨hok, hP.zkeep hfr hw0 hm hS hB⟩⟩) hF d_Model_join_148
  refine lv_aload_n hx hb d_Model_join_0 rfl (lv_at hl 0 rfl) ?_
  refine lv_iload_n hx hb d_Model_join_1 rfl (lv_at hl 1 rfl) ?_
  refine lv_i2l (v := w0.toInt64) hx hb d_Model_join_2 rfl ?_
  refine lv_lconst (v := 0) hx hb d_Model_join_3 (by decide) ?_
  refine lv_ldc2 (v := 3) hx hb E.2.2.2.1 (E.2.2.2.2.1 _ w_1098) d_Model_join_4 ?_
  refine q_cS (rest := [.ref mo]) E (c_Model_in l g n0 w0.toInt64 0 3 ) w_1101 w_15 w_1099 w_1100 hd_Model_in rfl ⟨by decide, by decide⟩ trivial hF hl.1 rfl (Nat.le_of_ble_eq_true rfl) d_Model_join_7 ⟨by decide, by decide⟩ (qi (fun r_0 H1 locs hq hF => ?_))
  obtain ⟨h_0, hq⟩ := hq
  subst hq
  rcases h_0 with ⟨rfl, f_0⟩ | ⟨rfl, f_0⟩
  · skip
    refine lv_if_eq (tgt := 35) hx hb d_Model_join_10 (by decide) (fun _ => ?_) (fun h9 => absurd (by decide) h9)
    refine lv_iconst (v := nI 1) hx hb d_Model_join_35 (by decide) ?_
    refine lv_goto (tgt := 40) hx hb d_Model_join_36 (by decide) ?_
    have hl : lv_has ls 5 [(0, .ref mo), (1, .int w0), (2, .int a), (3, .int a2), (4, .int a3)] := lv_sub hl [0, 1, 2, 3, 4] rfl
    exact bad _ ls (fun h => (fun q => f_0 ((in_okC (a := 0) (b := 3) (by decide) (by decide) (by decide) (by decide)).mpr q)) h.1) hF hl
  · skip
    refine lv_if_eq (tgt := 35) hx hb d_Model_join_10 (by decide) (fun h9 => absurd h9 (by decide)) (fun _ => ?_)
    refine lv_iload_n hx hb d_Model_join_13 rfl (lv_at hl 2 rfl) ?_
    refine q_cS (rest := [.ref mo]) E (c_Model_noPoint l g n0 a ) w_1151 w_15 w_1149 w_1150 hd_Model_noPoint rfl ⟨by decide, by decide⟩ trivial hF hl.1 rfl (Nat.le_of_ble_eq_true rfl) d_Model_join_14 ⟨by decide, by decide⟩ (qi (fun r_1 H2 locs hq hF => ?_))
    obtain ⟨h_1, hq⟩ := hq
    subst hq
    rcases h_1 with ⟨rfl, f_1⟩ | ⟨rfl, f_1⟩
    · skip
      refine lv_if_ne (tgt := 35) hx hb d_Model_join_17 (by decide) (fun _ => ?_) (fun h9 => absurd h9 (by decide))
      refine lv_iconst (v := nI 1) hx hb d_Model_join_35 (by decide) ?_
      refine lv_goto (tgt := 40) hx hb d_Model_join_36 (by decide) ?_
      have hl : lv_has ls 5 [(0, .ref mo), (1, .int w0), (2, .int a), (3, .int a2), (4, .int a3)] := lv_sub hl [0, 1, 2, 3, 4] rfl
      exact bad _ ls (fun h => (f_1) h.2.1) hF hl
    · skip
      refine lv_if_ne (tgt := 35) hx hb d_Model_join_17 (by decide) (fun h9 => absurd (by decide) h9) (fun _ => ?_)
      refine lv_iload_n hx hb d_Model_join_20 rfl (lv_at hl 3 rfl) ?_
      refine q_cS (rest := [.ref mo]) E (c_Model_noPoint l g n0 a2 ) w_1151 w_15 w_1149 w_1150 hd_Model_noPoint rfl ⟨by decide, by decide⟩ trivial hF hl.1 rfl (Nat.le_of_ble_eq_true rfl) d_Model_join_21 ⟨by decide, by decide⟩ (qi (fun r_2 H3 locs hq hF => ?_))
      obtain ⟨h_2, hq⟩ := hq
      subst hq
      rcases h_2 with ⟨rfl, f_2⟩ | ⟨rfl, f_2⟩
      · skip
        refine lv_if_ne (tgt := 35) hx hb d_Model_join_24 (by decide) (fun _ => ?_) (fun h9 => absurd h9 (by decide))
        refine lv_iconst (v := nI 1) hx hb d_Model_join_35 (by decide) ?_
        refine lv_goto (tgt := 40) hx hb d_Model_join_36 (by decide) ?_
        have hl : lv_has ls 5 [(0, .ref mo), (1, .int w0), (2, .int a), (3, .int a2), (4, .int a3)] := lv_sub hl [0, 1, 2, 3, 4] rfl
        exact bad _ ls (fun h => (f_2) h.2.2.1) hF hl
      · skip
        refine lv_if_ne (tgt := 35) hx hb d_Model_join_24 (by decide) (fun h9 => absurd (by decide) h9) (fun _ => ?_)
        refine lv_iload hx hb d_Model_join_27 (lv_at hl 4 rfl) ?_
        refine q_cS (rest := [.ref mo]) E (c_Model_noPoint l g n0 a3 ) w_1151 w_15 w_1149 w_1150 hd_Model_noPoint rfl ⟨by decide, by decide⟩ trivial hF hl.1 rfl (Nat.le_of_ble_eq_true rfl) d_Model_join_29 ⟨by decide, by decide⟩ (qi (fun r_3 H4 locs hq hF => ?_))
        obtain ⟨h_3, hq⟩ := hq
        subst hq
        rcases h_3 with ⟨rfl, f_3⟩ | ⟨rfl, f_3⟩
        · skip
          refine lv_if_eq (tgt := 39) hx hb d_Model_join_32 (by decide) (fun h9 => absurd h9 (by decide)) (fun _ => ?_)
          refine lv_iconst (v := nI 1) hx hb d_Model_join_35 (by decide) ?_
          refine lv_goto (tgt := 40) hx hb d_Model_join_36 (by decide) ?_
          have hl : lv_has ls 5 [(0, .ref mo), (1, .int w0), (2, .int a), (3, .int a2), (4, .int a3)] := lv_sub hl [0, 1, 2, 3, 4] rfl
          exact bad _ ls (fun h => (f_3) h.2.2.2) hF hl
        · skip
          refine lv_if_eq (tgt := 39) hx hb d_Model_join_32 (by decide) (fun _ => ?_) (fun h9 => absurd (by decide) h9)
          refine lv_iconst (v := nI 0) hx hb d_Model_join_39 (by decide) ?_
          have hl : lv_has ls 5 [(0, .ref mo), (1, .int w0), (2, .int a), (3, .int a2), (4, .int a3)] := lv_sub hl [0, 1, 2, 3, 4] rfl
          exact good _ ls ⟨(in_okC (a := 0) (b := 3) (by decide) (by decide) (by decide) (by decide)).mp f_0, f_1, f_2, f_3⟩ hF hl
set_option maxHeartbeats 4000000 in
set_option maxRecDepth 100000 in
theorem Z_Model_commit (l : Launch) (g : WG) (n0 : Nat → Prop) (mo : Nat) (th : Int32) (pn tn wn : Nat) (B : Nat → Int) (a : Int32) (a2 : Int32) (n : Int32) : Ctr l y_Model_commit (.code y_Model_commit prog_11_method_55_code 4 none) 7 167 0 0 n0 g [.ref mo, .int a, .int a2, .int n] (fun H => MV g n0 H mo th pn tn wn B) (QV (fun H H' => ((okP a (nI 1) ∧ okC n (nI 0) (nI 16) ∧ okS a2 n) ∧ ((n ≤ nI pn ∧ MV g n0 H' mo 0 pn tn wn B) ∨ (¬ n ≤ nI pn ∧ MV g n0 H' mo (nI 2) pn tn wn B))) ∨ (¬ (okP a (nI 1) ∧ okC n (nI 0) (nI 16) ∧ okS a2 n) ∧ MV g n0 H' mo 1 pn tn wn B))) := by
  refine ctr_mk l (lv0 := [(0, .ref mo), (1, .int a), (2, .int a2), (3, .int n)]) (by decide) (Nat.le_of_ble_eq_true rfl) rfl ?_
  intro p e s m below meth c ls E hr hlk hnm hl hP
  have hx := E.1
  have hb := E.2.1
  have hK := E.2.2.2.2.2
  have hF : ∀ q ∈ ([] : List Loc), n0 q.base := fun q hq => absurd hq List.not_mem_nil
  obtain ⟨⟨w9, n9, fd, hw9, hm, hB⟩, -⟩ := id hP
  have hS : SAME fd fd (fun t => 32 ≤ t) := SAME.rf
  have hmn := hP.mn
  have hbd := hP.2.2.2.2.2.1
  have hfr : FRM (MR mo) s.heap s.heap := FRM.rf
  have bad : ∀ (locs : List Loc) (ls : Array Slot), ¬ (okP a (nI 1) ∧ okC n (nI 0) (nI 16) ∧ okS a2 n) → (∀ q ∈ locs, n0 q.base) → lv_has ls 4 [(0, .ref mo), (1, .int a), (2, .int a2), (3, .int n)] → W p l e { frames := 7, cells := 0, slots := 0, locals := 167 } s m [.ref mo, .int a, .int a2, .int n].toArray below meth c s.heap locs 0 0 (MQ below (QcP (QV (fun H H' => ((okP a (nI 1) ∧ okC n (nI 0) (nI 16) ∧ okS a2 n) ∧ ((n ≤ nI pn ∧ MV g n0 H' mo 0 pn tn wn B) ∨ (¬ n ≤ nI pn ∧ MV g n0 H' mo (nI 2) pn tn wn B))) ∨ (¬ (okP a (nI 1) ∧ okC n (nI 0) (nI 16) ∧ okS a2 n) ∧ MV g n0 H' mo 1 pn tn wn B)))) [.ref mo, .int a, .int a2, .int n].toArray s 0 0 (fun q => n0 q)) (F0 m 33 ls [.int (nI 1), .ref mo]) := by
    intro  locs   ls hno hF hl
    refine lv_iconst (v := nI 1) hx hb d_Model_commit_33 (by decide) ?_
    refine q_cV (rest := []) E (c_Model_fails l g n0 mo th (nI pn) (nI tn) (nI wn) w9 n9 hw9 (nI 1) (nI 1) fd hmn (Or.inl rfl)) w_1056 w_15 w_1053 w_1055 (bw_s 24 rfl) hd_Model_fails rfl ⟨by decide, by decide⟩ (OB.recv E.2.2.2.2.2 (by rfl) hm.1) hm hF hl.1 rfl (Nat.le_of_ble_eq_true rfl) d_Model_commit_34 ⟨by decide, by decide⟩ (qi (fun rf H1 locs hq hF => ?_))
    obtain ⟨hrf, hq, hm⟩ := hq
    subst hrf
    have hfr := hfr.tr hq
    rw [if_neg (by decide)] at hm
    refine lv_if_ne (tgt := 61) hx hb d_Model_commit_37 (by decide) (fun _ => ?_) (fun h9 => absurd h9 (by decide))
    exact q_vret E hr hlk (⟨rfl, Or.inr ⟨hno, hP.zkeep hfr hw9 hm hS hB⟩⟩) hF d_Model_commit_61
  have good : ∀ (locs : List Loc) (ls : Array Slot), okP a (nI 1) ∧ okC n (nI 0) (nI 16) ∧ okS a2 n → (∀ q ∈ locs, n0 q.base) → lv_has ls 4 [(0, .ref mo), (1, .int a), (2, .int a2), (3, .int n)] → W p l e { frames := 7, cells := 0, slots := 0, locals := 167 } s m [.ref mo, .int a, .int a2, .int n].toArray below meth c s.heap locs 0 0 (MQ below (QcP (QV (fun H H' => ((okP a (nI 1) ∧ okC n (nI 0) (nI 16) ∧ okS a2 n) ∧ ((n ≤ nI pn ∧ MV g n0 H' mo 0 pn tn wn B) ∨ (¬ n ≤ nI pn ∧ MV g n0 H' mo (nI 2) pn tn wn B))) ∨ (¬ (okP a (nI 1) ∧ okC n (nI 0) (nI 16) ∧ okS a2 n) ∧ MV g n0 H' mo 1 pn tn wn B)))) [.ref mo, .int a, .int a2, .int n].toArray s 0 0 (fun q => n0 q)) (F0 m 33 ls [.int (nI 0), .ref mo]) := by
    intro  locs   ls hok hF hl
    refine lv_iconst (v := nI 1) hx hb d_Model_commit_33 (by decide) ?_
    refine q_cV (rest := []) E (c_Model_fails l g n0 mo th (nI pn) (nI tn) (nI wn) w9 n9 hw9 (nI 0) (nI 1) fd hmn (Or.inr rfl)) w_1056 w_15 w_1053 w_1055 (bw_s 24 rfl) hd_Model_fails rfl ⟨by decide, by decide⟩ (OB.recv E.2.2.2.2.2 (by rfl) hm.1) hm hF hl.1 rfl (Nat.le_of_ble_eq_true rfl) d_Model_commit_34 ⟨by decide, by decide⟩ (qi (fun rf H1 locs hq hF => ?_))
    obtain ⟨hrf, hq, hm⟩ := hq
    subst hrf
    have hfr := hfr.tr hq
    rw [if_pos nI_0] at hm
    refine lv_if_ne (tgt := 61) hx hb d_Model_commit_37 (by decide) (fun h9 => absurd (by decide) h9) (fun _ => ?_)
    obtain ⟨k3, e_k3, h_k3, h2_k3⟩ := okC_nat (by decide) (by decide) hok.2.1
    rw [e_k3] at hl
    obtain ⟨k1, e_k1, h_k1⟩ := okP_nat (by decide) (by decide) hok.1
    rw [e_k1] at hl
    refine lv_aload_n hx hb d_Model_commit_40 rfl (lv_at hl 0 rfl) ?_
    refine lv_iload_n hx hb d_Model_commit_41 rfl (lv_at hl 3 rfl) ?_
    refine lv_aload_n hx hb d_Model_commit_42 rfl (lv_at hl 0 rfl) ?_
    refine q_get (C := "KateDeskModel") (T := T_Model) (N := 14) (ci := 8) E hm.1 in_Model rfl 8 (by decide) w_1009 rfl rfl d_Model_commit_43 ?_
    refine lv_icmp_le (tgt := 53) hx hb d_Model_commit_46 (by decide) (fun hc => ?_) (fun hc => ?_)
    rotate_left
    · skip
      refine lv_iconst (v := nI 1) hx hb d_Model_commit_49 (by decide) ?_
      refine lv_goto (tgt := 54) hx hb d_Model_commit_50 (by decide) ?_
      refine lv_iconst (v := nI 2) hx hb d_Model_commit_54 (by decide) ?_
      refine q_cV (rest := []) E (c_Model_fails l g n0 mo 0 (nI pn) (nI tn) (nI wn) w9 n9 hw9 (nI 1) (nI 2) fd hmn (Or.inl rfl)) w_1056 w_15 w_1053 w_1055 (bw_s 24 rfl) hd_Model_fails rfl ⟨by decide, by decide⟩ (OB.recv E.2.2.2.2.2 (by rfl) hm.1) hm hF hl.1 rfl (Nat.le_of_ble_eq_true rfl) d_Model_commit_55 ⟨by decide, by decide⟩ (qi (fun rf H2 locs hq hF => ?_))
      obtain ⟨hrf, hq, hm⟩ := hq
      subst hrf
      have hfr := hfr.tr hq
      rw [if_neg (by decide)] at hm
      refine lv_if_eq (tgt := 62) hx hb d_Model_commit_58 (by decide) (fun h9 => absurd h9 (by decide)) (fun _ => ?_)
      exact q_vret E hr hlk (⟨rfl, Or.inl ⟨hok, Or.inr ⟨by rw [e_k3]; exact hc, hP.zkeep hfr hw9 hm hS hB⟩⟩⟩) hF d_Model_commit_61
    refine lv_iconst (v := nI 0) hx hb d_Model_commit_53 (by decide) ?_
    refine lv_iconst (v := nI 2) hx hb d_Model_commit_54 (by decide) ?_
    refine q_cV (rest := []) E (c_Model_fails l g n0 mo 0 (nI pn) (nI tn) (nI wn) w9 n9 hw9 (nI 0) (nI 2) fd hmn (Or.inr rfl)) w_1056 w_15 w_1053 w_1055 (bw_s 24 rfl) hd_Model_fails rfl ⟨by decide, by decide⟩ (OB.recv E.2.2.2.2.2 (by rfl) hm.1) hm hF hl.1 rfl (Nat.le_of_ble_eq_true rfl) d_Model_commit_55 ⟨by decide, by decide⟩ (qi (fun rf H2 locs hq hF => ?_))
    obtain ⟨hrf, hq, hm⟩ := hq
    subst hrf
    have hfr := hfr.tr hq
    rw [if_pos nI_0] at hm
    refine lv_if_eq (tgt := 62) hx hb d_Model_commit_58 (by decide) (fun _ => ?_) (fun h9 => absurd (by decide) h9)
    refine lv_aload_n hx hb d_Model_commit_62 rfl (lv_at hl 0 rfl) ?_
    refine lv_iload_n hx hb d_Model_commit_63 rfl (lv_at hl 2 rfl) ?_
    refine lv_bipush (v := nI 68) hx hb d_Model_commit_64 (by decide) ?_
    refine lv_iload_n hx hb d_Model_commit_66 rfl (lv_at hl 3 rfl) ?_
    have hsv : 0 < k3 → ∃ s1 q1, a2 = nI s1 ∧ nI 68 = nI q1 ∧ s1 + k3 ≤ 32 ∧ q1 + 3 * k3 ≤ 124 := by
      intro h0
      have h1 := hok.2.2
      rw [e_k3] at h1
      obtain ⟨s1, e1, h3⟩ := okS_nat h0 (by omega) h1
      exact ⟨s1, 68, e1, rfl, h3, by omega⟩
    refine q_cV (rest := []) E (S_Model_sums l g n0 mo k3 a2 (nI 68) 0 (nI pn) (nI tn) (nI wn) w9 n9 hw9 fd hmn (by omega) hsv) w_1210 w_15 w_1207 w_1209 (bw_s 45 rfl) hd_Model_sums rfl ⟨by decide, by decide⟩ (OB.recv E.2.2.2.2.2 (by rfl) hm.1) hm hF hl.1 rfl (Nat.le_of_ble_eq_true rfl) d_Model_commit_67 ⟨by decide, by decide⟩ (qv (fun H3 locs hq hF => ?_))
    obtain ⟨hq, fd_1, hm, hS9⟩ := hq
    have hS := hS.tr (hS9.mono (fun t h => by show 32 ≤ t; omega))
    have hfr := hfr.tr hq
    refine lv_aload_n hx hb d_Model_commit_70 rfl (lv_at hl 0 rfl) ?_
    refine lv_iload_n hx hb d_Model_commit_71 rfl (lv_at hl 1 rfl) ?_
    refine q_cS (rest := [.ref mo]) E (c_Model_slot l g n0 (nI k1)) w_1154 w_15 w_1152 w_1153 hd_Model_slot rfl ⟨by decide, by decide⟩ trivial hF hl.1 rfl (Nat.le_of_ble_eq_true rfl) d_Model_commit_72 ⟨by decide, by decide⟩ (qi (fun rs H4 locs hq hF => ?_))
    obtain ⟨hrs, hq9⟩ := hq
    subst hrs
    subst hq9
    refine lv_topi (fun t9 e9 => ?_)
    obtain rfl : t9 = nI (32 + 3 * k1) := e9.trans (by rw [pk_mul, nI_add])
    refine lv_sipush (v := nI 164) hx hb d_Model_commit_75 (by decide) ?_
    refine q_cV (rest := []) E (c_Model_movePoint l g n0 mo (32 + 3 * k1) 164 0 (nI pn) (nI tn) (nI wn) 0 14 hw0 fd_1 (by omega) (by omega) (by omega)) w_1171 w_15 w_1168 w_1170 (bw_s 41 rfl) hd_Model_movePoint rfl ⟨by decide, by decide⟩ (OB.recv E.2.2.2.2.2 (by rfl) hm.1) hm hF hl.1 rfl (Nat.le_of_ble_eq_true rfl) d_Model_commit_78 ⟨by decide, by decide⟩ (qv (fun H5 locs hq hF => ?_))
    obtain ⟨hq, fd_2, hm, hS9, hcp⟩ := hq
    have hS := hS.tr (hS9.mono (fun t h => by show 32 ≤ t; omega))
    have hfr := hfr.tr hq
    exact q_vret E hr hlk (⟨rfl, Or.inl ⟨hok, Or.inl ⟨by rw [e_k3]; exact hc, hP.zkeep hfr hw0 hm hS hB⟩⟩⟩) hF d_Model_commit_81
  refine lv_aload_n hx hb d_Model_commit_0 rfl (lv_at hl 0 rfl) ?_
  refine lv_iload_n hx hb d_Model_commit_1 rfl (lv_at hl 1 rfl) ?_
  refine q_cS (rest := [.ref mo]) E (c_Model_noPoint l g n0 a ) w_1151 w_15 w_1149 w_1150 hd_Model_noPoint rfl ⟨by decide, by decide⟩ trivial hF hl.1 rfl (Nat.le_of_ble_eq_true rfl) d_Model_commit_2 ⟨by decide, by decide⟩ (qi (fun r_0 H1 locs hq hF => ?_))
  obtain ⟨h_0, hq⟩ := hq
  subst hq
  rcases h_0 with ⟨rfl, f_0⟩ | ⟨rfl, f_0⟩
  · skip
    refine lv_if_ne (tgt := 28) hx hb d_Model_commit_5 (by decide) (fun _ => ?_) (fun h9 => absurd h9 (by decide))
    refine lv_iconst (v := nI 1) hx hb d_Model_commit_28 (by decide) ?_
    refine lv_goto (tgt := 33) hx hb d_Model_commit_29 (by decide) ?_
    have hl : lv_has ls 4 [(0, .ref mo), (1, .int a), (2, .int a2), (3, .int n)] := lv_sub hl [0, 1, 2, 3] rfl
    exact bad _ ls (fun h => (f_0) h.1) hF hl
  · skip
    refine lv_if_ne (tgt := 28) hx hb d_Model_commit_5 (by decide) (fun h9 => absurd (by decide) h9) (fun _ => ?_)
    refine lv_iload_n hx hb d_Model_commit_8 rfl (lv_at hl 3 rfl) ?_
    refine lv_i2l (v := n.toInt64) hx hb d_Model_commit_9 rfl ?_
    refine lv_lconst (v := 0) hx hb d_Model_commit_10 (by decide) ?_
    refine lv_ldc2 (v := 16) hx hb E.2.2.2.1 (E.2.2.2.2.1 _ w_1223) d_Model_commit_11 ?_
    refine q_cS (rest := [.ref mo]) E (c_Model_in l g n0 n.toInt64 0 16 ) w_1101 w_15 w_1099 w_1100 hd_Model_in rfl ⟨by decide, by decide⟩ trivial hF hl.1 rfl (Nat.le_of_ble_eq_true rfl) d_Model_commit_14 ⟨by decide, by decide⟩ (qi (fun r_1 H2 locs hq hF => ?_))
    obtain ⟨h_1, hq⟩ := hq
    subst hq
    rcases h_1 with ⟨rfl, f_1⟩ | ⟨rfl, f_1⟩
    · skip
      refine lv_if_eq (tgt := 28) hx hb d_Model_commit_17 (by decide) (fun _ => ?_) (fun h9 => absurd (by decide) h9)
      refine lv_iconst (v := nI 1) hx hb d_Model_commit_28 (by decide) ?_
      refine lv_goto (tgt := 33) hx hb d_Model_commit_29 (by decide) ?_
      have hl : lv_has ls 4 [(0, .ref mo), (1, .int a), (2, .int a2), (3, .int n)] := lv_sub hl [0, 1, 2, 3] rfl
      exact bad _ ls (fun h => (fun q => f_1 ((in_okC (a := 0) (b := 16) (by decide) (by decide) (by decide) (by decide)).mpr q)) h.2.1) hF hl
    · skip
      refine lv_if_eq (tgt := 28) hx hb d_Model_commit_17 (by decide) (fun h9 => absurd h9 (by decide)) (fun _ => ?_)
      refine lv_iload_n hx hb d_Model_commit_20 rfl (lv_at hl 2 rfl) ?_
      refine lv_iload_n hx hb d_Model_commit_21 rfl (lv_at hl 3 rfl) ?_
      refine q_cS (rest := [.ref mo]) E (c_Model_noScalars l g n0 a2 n (okC_n ((in_okC (a := 0) (b := 16) (by decide) (by decide) (by decide) (by decide)).mp f_1))) w_1206 w_15 w_1204 w_1205 hd_Model_noScalars rfl ⟨by decide, by decide⟩ trivial hF hl.1 rfl (Nat.le_of_ble_eq_true rfl) d_Model_commit_22 ⟨by decide, by decide⟩ (qi (fun r_2 H3 locs hq hF => ?_))
      obtain ⟨h_2, hq⟩ := hq
      subst hq
      rcases h_2 with ⟨rfl, f_2⟩ | ⟨rfl, f_2⟩
      · skip
        refine lv_if_eq (tgt := 32) hx hb d_Model_commit_25 (by decide) (fun h9 => absurd h9 (by decide)) (fun _ => ?_)
        refine lv_iconst (v := nI 1) hx hb d_Model_commit_28 (by decide) ?_
        refine lv_goto (tgt := 33) hx hb d_Model_commit_29 (by decide) ?_
        have hl : lv_has ls 4 [(0, .ref mo), (1, .int a), (2, .int a2), (3, .int n)] := lv_sub hl [0, 1, 2, 3] rfl
        exact bad _ ls (fun h => (f_2) h.2.2) hF hl
      · skip
        refine lv_if_eq (tgt := 32) hx hb d_Model_commit_25 (by decide) (fun _ => ?_) (fun h9 => absurd (by decide) h9)
        refine lv_iconst (v := nI 0) hx hb d_Model_commit_32 (by decide) ?_
        have hl : lv_has ls 4 [(0, .ref mo), (1, .int a), (2, .int a2), (3, .int n)] := lv_sub hl [0, 1, 2, 3] rfl
        exact good _ ls ⟨f_0, (in_okC (a := 0) (b := 16) (by decide) (by decide) (by decide) (by decide)).mp f_1, f_2⟩ hF hl
set_option maxHeartbeats 4000000 in
set_option maxRecDepth 100000 in
theorem Z_Model_combine (l : Launch) (g : WG) (n0 : Nat → Prop) (mo : Nat) (th : Int32) (pn tn wn : Nat) (B : Nat → Int) (a : Int32) (a2 : Int32) (a3 : Int32) (n : Int32) : Ctr l y_Model_combine (.code y_Model_combine prog_11_method_52_code 6 none) 7 167 0 0 n0 g [.ref mo, .int a, .int a2, .int a3, .int n] (fun H => MV g n0 H mo th pn tn wn B) (QV (fun H H' => ((okP a (nI 1) ∧ okC n (nI 0) (nI 12) ∧ okS a2 n ∧ okP a3 n) ∧ MV g n0 H' mo 0 pn tn wn B) ∨ (¬ (okP a (nI 1) ∧ okC n (nI 0) (nI 12) ∧ okS a2 n ∧ okP a3 n) ∧ MV g n0 H' mo 1 pn tn wn B))) := by
  refine ctr_mk l (lv0 := [(0, .ref mo), (1, .int a), (2, .int a2), (3, .int a3), (4, .int n)]) (by decide) (Nat.le_of_ble_eq_true rfl) rfl ?_
  intro p e s m below meth c ls E hr hlk hnm hl hP
  have hx := E.1
  have hb := E.2.1
  have hK := E.2.2.2.2.2
  have hF : ∀ q ∈ ([] : List Loc), n0 q.base := fun q hq => absurd hq List.not_mem_nil
  obtain ⟨⟨w9, n9, fd, hw9, hm, hB⟩, -⟩ := id hP
  have hS : SAME fd fd (fun t => 32 ≤ t) := SAME.rf
  have hmn := hP.mn
  have hbd := hP.2.2.2.2.2.1
  have hfr : FRM (MR mo) s.heap s.heap := FRM.rf
  have bad : ∀ (locs : List Loc) (ls : Array Slot), ¬ (okP a (nI 1) ∧ okC n (nI 0) (nI 12) ∧ okS a2 n ∧ okP a3 n) → (∀ q ∈ locs, n0 q.base) → lv_has ls 6 [(0, .ref mo), (1, .int a), (2, .int a2), (3, .int a3), (4, .int n)] → W p l e { frames := 7, cells := 0, slots := 0, locals := 167 } s m [.ref mo, .int a, .int a2, .int a3, .int n].toArray below meth c s.heap locs 0 0 (MQ below (QcP (QV (fun H H' => ((okP a (nI 1) ∧ okC n (nI 0) (nI 12) ∧ okS a2 n ∧ okP a3 n) ∧ MV g n0 H' mo 0 pn tn wn B) ∨ (¬ (okP a (nI 1) ∧ okC n (nI 0) (nI 12) ∧ okS a2 n ∧ okP a3 n) ∧ MV g n0 H' mo 1 pn tn wn B)))) [.ref mo, .int a, .int a2, .int a3, .int n].toArray s 0 0 (fun q => n0 q)) (F0 m 69 ls [.int (nI 1)]) := by
    intro  locs   ls hno hF hl
    refine lv_istore (lv' := [(5, .int (nI 1)), (0, .ref mo), (1, .int a), (2, .int a2), (3, .int a3), (4, .int n)]) hx hb d_Model_combine_69 hl (by decide) rfl (fun ls hl => ?_)
    refine lv_aload_n hx hb d_Model_combine_71 rfl (lv_at hl 1 rfl) ?_
    refine lv_iload hx hb d_Model_combine_72 (lv_at hl 0 rfl) ?_
    refine lv_iconst (v := nI 1) hx hb d_Model_combine_74 (by decide) ?_
    refine q_cV (rest := []) E (c_Model_fails l g n0 mo th (nI pn) (nI tn) (nI wn) w9 n9 hw9 (nI 1) (nI 1) fd hmn (Or.inl rfl)) w_1056 w_15 w_1053 w_1055 (bw_s 24 rfl) hd_Model_fails rfl ⟨by decide, by decide⟩ (OB.recv E.2.2.2.2.2 (by rfl) hm.1) hm hF hl.1 rfl (Nat.le_of_ble_eq_true rfl) d_Model_combine_75 ⟨by decide, by decide⟩ (qi (fun rf H1 locs hq hF => ?_))
    obtain ⟨hrf, hq, hm⟩ := hq
    subst hrf
    have hfr := hfr.tr hq
    rw [if_neg (by decide)] at hm
    refine lv_if_eq (tgt := 82) hx hb d_Model_combine_78 (by decide) (fun h9 => absurd h9 (by decide)) (fun _ => ?_)
    exact q_vret E hr hlk (⟨rfl, Or.inr ⟨hno, hP.zkeep hfr hw9 hm hS hB⟩⟩) hF d_Model_combine_81
  have good : ∀ (locs : List Loc) (ls : Array Slot), okP a (nI 1) ∧ okC n (nI 0) (nI 12) ∧ okS a2 n ∧ okP a3 n → (∀ q ∈ locs, n0 q.base) → lv_has ls 6 [(0, .ref mo), (1, .int a), (2, .int a2), (3, .int a3), (4, .int n)] → W p l e { frames := 7, cells := 0, slots := 0, locals := 167 } s m [.ref mo, .int a, .int a2, .int a3, .int n].toArray below meth c s.heap locs 0 0 (MQ below (QcP (QV (fun H H' => ((okP a (nI 1) ∧ okC n (nI 0) (nI 12) ∧ okS a2 n ∧ okP a3 n) ∧ MV g n0 H' mo 0 pn tn wn B) ∨ (¬ (okP a (nI 1) ∧ okC n (nI 0) (nI 12) ∧ okS a2 n ∧ okP a3 n) ∧ MV g n0 H' mo 1 pn tn wn B)))) [.ref mo, .int a, .int a2, .int a3, .int n].toArray s 0 0 (fun q => n0 q)) (F0 m 69 ls [.int (nI 0)]) := by
    intro  locs   ls hok hF hl
    refine lv_istore (lv' := [(5, .int (nI 0)), (0, .ref mo), (1, .int a), (2, .int a2), (3, .int a3), (4, .int n)]) hx hb d_Model_combine_69 hl (by decide) rfl (fun ls hl => ?_)
    refine lv_aload_n hx hb d_Model_combine_71 rfl (lv_at hl 1 rfl) ?_
    refine lv_iload hx hb d_Model_combine_72 (lv_at hl 0 rfl) ?_
    refine lv_iconst (v := nI 1) hx hb d_Model_combine_74 (by decide) ?_
    refine q_cV (rest := []) E (c_Model_fails l g n0 mo th (nI pn) (nI tn) (nI wn) w9 n9 hw9 (nI 0) (nI 1) fd hmn (Or.inr rfl)) w_1056 w_15 w_1053 w_1055 (bw_s 24 rfl) hd_Model_fails rfl ⟨by decide, by decide⟩ (OB.recv E.2.2.2.2.2 (by rfl) hm.1) hm hF hl.1 rfl (Nat.le_of_ble_eq_true rfl) d_Model_combine_75 ⟨by decide, by decide⟩ (qi (fun rf H1 locs hq hF => ?_))
    obtain ⟨hrf, hq, hm⟩ := hq
    subst hrf
    have hfr := hfr.tr hq
    rw [if_pos nI_0] at hm
    refine lv_if_eq (tgt := 82) hx hb d_Model_combine_78 (by decide) (fun _ => ?_) (fun h9 => absurd (by decide) h9)
    obtain ⟨k1, e_k1, h_k1⟩ := okP_nat (by decide) (by decide) hok.1
    rw [e_k1] at hl
    refine lv_aload_n hx hb d_Model_combine_82 rfl (lv_at hl 1 rfl) ?_
    refine lv_iload_n hx hb d_Model_combine_83 rfl (lv_at hl 3 rfl) ?_
    refine lv_iload_n hx hb d_Model_combine_84 rfl (lv_at hl 4 rfl) ?_
    refine q_cS (rest := [.int a2, .ref mo]) E (c_Model_slot l g n0 a3) w_1154 w_15 w_1152 w_1153 hd_Model_slot rfl ⟨by decide, by decide⟩ trivial hF hl.1 rfl (Nat.le_of_ble_eq_true rfl) d_Model_combine_85 ⟨by decide, by decide⟩ (qi (fun rs H2 locs hq hF => ?_))
    obtain ⟨hrs, hq9⟩ := hq
    subst hq9
    obtain ⟨k4, e_k4, h_k4, h2_k4⟩ := okC_nat (by decide) (by decide) hok.2.1
    rw [e_k4] at hl
    refine lv_iload hx hb d_Model_combine_88 (lv_at hl 5 rfl) ?_
    have hsv : 0 < k4 → ∃ s1 q1, a2 = nI s1 ∧ rs = nI q1 ∧ s1 + k4 ≤ 32 ∧ q1 + 3 * k4 ≤ 124 := by
      intro h0
      have h1 := hok.2.2.1
      have h2 := hok.2.2.2
      rw [e_k4] at h1 h2
      obtain ⟨s1, e1, h3⟩ := okS_nat h0 (by omega) h1
      obtain ⟨q1, e2, h4⟩ := okP_nat h0 h2_k4 h2
      exact ⟨s1, 32 + 3 * q1, e1, by rw [hrs, e2, pk_mul, nI_add], h3, by omega⟩
    refine q_cV (rest := []) E (S_Model_sums l g n0 mo k4 a2 rs 0 (nI pn) (nI tn) (nI wn) w9 n9 hw9 fd hmn (by omega) hsv) w_1210 w_15 w_1207 w_1209 (bw_s 45 rfl) hd_Model_sums rfl ⟨by decide, by decide⟩ (OB.recv E.2.2.2.2.2 (by rfl) hm.1) hm hF hl.1 rfl (Nat.le_of_ble_eq_true rfl) d_Model_combine_90 ⟨by decide, by decide⟩ (qv (fun H3 locs hq hF => ?_))
    obtain ⟨hq, fd_1, hm, hS9⟩ := hq
    have hS := hS.tr (hS9.mono (fun t h => by show 32 ≤ t; omega))
    have hfr := hfr.tr hq
    refine lv_aload_n hx hb d_Model_combine_93 rfl (lv_at hl 1 rfl) ?_
    refine lv_iload_n hx hb d_Model_combine_94 rfl (lv_at hl 2 rfl) ?_
    refine q_cS (rest := [.ref mo]) E (c_Model_slot l g n0 (nI k1)) w_1154 w_15 w_1152 w_1153 hd_Model_slot rfl ⟨by decide, by decide⟩ trivial hF hl.1 rfl (Nat.le_of_ble_eq_true rfl) d_Model_combine_95 ⟨by decide, by decide⟩ (qi (fun rs H4 locs hq hF => ?_))
    obtain ⟨hrs, hq9⟩ := hq
    subst hrs
    subst hq9
    refine lv_topi (fun t9 e9 => ?_)
    obtain rfl : t9 = nI (32 + 3 * k1) := e9.trans (by rw [pk_mul, nI_add])
    refine lv_sipush (v := nI 164) hx hb d_Model_combine_98 (by decide) ?_
    refine q_cV (rest := []) E (c_Model_movePoint l g n0 mo (32 + 3 * k1) 164 0 (nI pn) (nI tn) (nI wn) 0 14 hw0 fd_1 (by omega) (by omega) (by omega)) w_1171 w_15 w_1168 w_1170 (bw_s 41 rfl) hd_Model_movePoint rfl ⟨by decide, by decide⟩ (OB.recv E.2.2.2.2.2 (by rfl) hm.1) hm hF hl.1 rfl (Nat.le_of_ble_eq_true rfl) d_Model_combine_101 ⟨by decide, by decide⟩ (qv (fun H5 locs hq hF => ?_))
    obtain ⟨hq, fd_2, hm, hS9, hcp⟩ := hq
    have hS := hS.tr (hS9.mono (fun t h => by show 32 ≤ t; omega))
    have hfr := hfr.tr hq
    exact q_vret E hr hlk (⟨rfl, Or.inl ⟨hok, hP.zkeep hfr hw0 hm hS hB⟩⟩) hF d_Model_combine_104
  refine lv_iload_n hx hb d_Model_combine_0 rfl (lv_at hl 1 rfl) ?_
  refine q_cS (rest := []) E (c_Model_noPoint l g n0 a ) w_1151 w_15 w_1149 w_1150 hd_Model_noPoint rfl ⟨by decide, by decide⟩ trivial hF hl.1 rfl (Nat.le_of_ble_eq_true rfl) d_Model_combine_1 ⟨by decide, by decide⟩ (qi (fun r_0 H1 locs hq hF => ?_))
  obtain ⟨h_0, hq⟩ := hq
  subst hq
  rcases h_0 with ⟨rfl, f_0⟩ | ⟨rfl, f_0⟩
  · skip
    refine lv_if_ne (tgt := 19) hx hb d_Model_combine_4 (by decide) (fun _ => ?_) (fun h9 => absurd h9 (by decide))
    refine lv_iconst (v := nI 1) hx hb d_Model_combine_19 (by decide) ?_
    refine lv_goto (tgt := 24) hx hb d_Model_combine_20 (by decide) ?_
    refine lv_istore (lv' := [(5, .int (nI 1)), (0, .ref mo), (1, .int a), (2, .int a2), (3, .int a3), (4, .int n)]) hx hb d_Model_combine_24 hl (by decide) rfl (fun ls hl => ?_)
    refine lv_iload hx hb d_Model_combine_26 (lv_at hl 0 rfl) ?_
    refine lv_if_ne (tgt := 64) hx hb d_Model_combine_28 (by decide) (fun _ => ?_) (fun h9 => absurd h9 (by decide))
    refine lv_iconst (v := nI 1) hx hb d_Model_combine_64 (by decide) ?_
    refine lv_goto (tgt := 69) hx hb d_Model_combine_65 (by decide) ?_
    have hl : lv_has ls 6 [(0, .ref mo), (1, .int a), (2, .int a2), (3, .int a3), (4, .int n)] := lv_sub hl [1, 2, 3, 4, 5] rfl
    exact bad _ ls (fun h => (f_0) h.1) hF hl
  · skip
    refine lv_if_ne (tgt := 19) hx hb d_Model_combine_4 (by decide) (fun h9 => absurd (by decide) h9) (fun _ => ?_)
    refine lv_iload hx hb d_Model_combine_7 (lv_at hl 4 rfl) ?_
    refine lv_if_lt (tgt := 19) hx hb d_Model_combine_9 (by decide) (fun g_9 => ?_) (fun g_9 => ?_)
    rotate_left
    · skip
      refine lv_iload hx hb d_Model_combine_12 (lv_at hl 4 rfl) ?_
      refine lv_bipush (v := nI 12) hx hb d_Model_combine_14 (by decide) ?_
      refine lv_icmp_le (tgt := 23) hx hb d_Model_combine_16 (by decide) (fun g_16 => ?_) (fun g_16 => ?_)
      rotate_left
      · skip
        refine lv_iconst (v := nI 1) hx hb d_Model_combine_19 (by decide) ?_
        refine lv_goto (tgt := 24) hx hb d_Model_combine_20 (by decide) ?_
        refine lv_istore (lv' := [(5, .int (nI 1)), (0, .ref mo), (1, .int a), (2, .int a2), (3, .int a3), (4, .int n)]) hx hb d_Model_combine_24 hl (by decide) rfl (fun ls hl => ?_)
        refine lv_iload hx hb d_Model_combine_26 (lv_at hl 0 rfl) ?_
        refine lv_if_ne (tgt := 64) hx hb d_Model_combine_28 (by decide) (fun _ => ?_) (fun h9 => absurd h9 (by decide))
        refine lv_iconst (v := nI 1) hx hb d_Model_combine_64 (by decide) ?_
        refine lv_goto (tgt := 69) hx hb d_Model_combine_65 (by decide) ?_
        have hl : lv_has ls 6 [(0, .ref mo), (1, .int a), (2, .int a2), (3, .int a3), (4, .int n)] := lv_sub hl [1, 2, 3, 4, 5] rfl
        exact bad _ ls (fun h => (fun q => g_16 q.2) h.2.1) hF hl
      refine lv_iconst (v := nI 0) hx hb d_Model_combine_23 (by decide) ?_
      refine lv_istore (lv' := [(5, .int (nI 0)), (0, .ref mo), (1, .int a), (2, .int a2), (3, .int a3), (4, .int n)]) hx hb d_Model_combine_24 hl (by decide) rfl (fun ls hl => ?_)
      refine lv_iload hx hb d_Model_combine_26 (lv_at hl 0 rfl) ?_
      refine lv_if_ne (tgt := 64) hx hb d_Model_combine_28 (by decide) (fun h9 => absurd (by decide) h9) (fun _ => ?_)
      refine lv_iload hx hb d_Model_combine_31 (lv_at hl 5 rfl) ?_
      refine lv_if_le (tgt := 68) hx hb d_Model_combine_33 (by decide) (fun g_33 => ?_) (fun g_33 => ?_)
      rotate_left
      · skip
        refine lv_iload_n hx hb d_Model_combine_36 rfl (lv_at hl 3 rfl) ?_
        refine lv_iload hx hb d_Model_combine_37 (lv_at hl 5 rfl) ?_
        refine q_cS (rest := []) E (c_Model_noScalars l g n0 a2 n (okC_n12 ⟨g_9, g_16⟩)) w_1206 w_15 w_1204 w_1205 hd_Model_noScalars rfl ⟨by decide, by decide⟩ trivial hF hl.1 rfl (Nat.le_of_ble_eq_true rfl) d_Model_combine_39 ⟨by decide, by decide⟩ (qi (fun r_2 H2 locs hq hF => ?_))
        obtain ⟨h_2, hq⟩ := hq
        subst hq
        rcases h_2 with ⟨rfl, f_2⟩ | ⟨rfl, f_2⟩
        · skip
          refine lv_if_ne (tgt := 64) hx hb d_Model_combine_42 (by decide) (fun _ => ?_) (fun h9 => absurd h9 (by decide))
          refine lv_iconst (v := nI 1) hx hb d_Model_combine_64 (by decide) ?_
          refine lv_goto (tgt := 69) hx hb d_Model_combine_65 (by decide) ?_
          have hl : lv_has ls 6 [(0, .ref mo), (1, .int a), (2, .int a2), (3, .int a3), (4, .int n)] := lv_sub hl [1, 2, 3, 4, 5] rfl
          exact bad _ ls (fun h => (f_2) h.2.2.1) hF hl
        · skip
          refine lv_if_ne (tgt := 64) hx hb d_Model_combine_42 (by decide) (fun h9 => absurd (by decide) h9) (fun _ => ?_)
          refine lv_iload_n hx hb d_Model_combine_45 rfl (lv_at hl 4 rfl) ?_
          refine q_cS (rest := []) E (c_Model_noPoint l g n0 a3) w_1151 w_15 w_1149 w_1150 hd_Model_noPoint rfl ⟨by decide, by decide⟩ trivial hF hl.1 rfl (Nat.le_of_ble_eq_true rfl) d_Model_combine_46 ⟨by decide, by decide⟩ (qi (fun r_46 H3 locs hq hF => ?_))
          obtain ⟨h_9, hq⟩ := hq
          subst hq
          rcases h_9 with ⟨rfl, f_46⟩ | ⟨rfl, f_46⟩
          · skip
            refine lv_if_ne (tgt := 64) hx hb d_Model_combine_49 (by decide) (fun _ => ?_) (fun h9 => absurd h9 (by decide))
            refine lv_iconst (v := nI 1) hx hb d_Model_combine_64 (by decide) ?_
            refine lv_goto (tgt := 69) hx hb d_Model_combine_65 (by decide) ?_
            have hl : lv_has ls 6 [(0, .ref mo), (1, .int a), (2, .int a2), (3, .int a3), (4, .int n)] := lv_sub hl [1, 2, 3, 4, 5] rfl
            exact bad _ ls (fun h => (fun q => f_46 (okP_s ⟨g_9, g_16⟩ g_33 q)) h.2.2.2) hF hl
          · skip
            refine lv_if_ne (tgt := 64) hx hb d_Model_combine_49 (by decide) (fun h9 => absurd (by decide) h9) (fun _ => ?_)
            refine lv_iload_n hx hb d_Model_combine_52 rfl (lv_at hl 4 rfl) ?_
            refine lv_iload hx hb d_Model_combine_53 (lv_at hl 5 rfl) ?_
            refine lv_iadd hx hb d_Model_combine_55 ?_
            refine lv_iconst (v := nI 1) hx hb d_Model_combine_56 (by decide) ?_
            refine lv_isub hx hb d_Model_combine_57 ?_
            refine q_cS (rest := []) E (c_Model_noPoint l g n0 ((a3 + n) - (nI 1))) w_1151 w_15 w_1149 w_1150 hd_Model_noPoint rfl ⟨by decide, by decide⟩ trivial hF hl.1 rfl (Nat.le_of_ble_eq_true rfl) d_Model_combine_58 ⟨by decide, by decide⟩ (qi (fun r_58 H4 locs hq hF => ?_))
            obtain ⟨h_9, hq⟩ := hq
            subst hq
            rcases h_9 with ⟨rfl, f_58⟩ | ⟨rfl, f_58⟩
            · skip
              refine lv_if_eq (tgt := 68) hx hb d_Model_combine_61 (by decide) (fun h9 => absurd h9 (by decide)) (fun _ => ?_)
              refine lv_iconst (v := nI 1) hx hb d_Model_combine_64 (by decide) ?_
              refine lv_goto (tgt := 69) hx hb d_Model_combine_65 (by decide) ?_
              have hl : lv_has ls 6 [(0, .ref mo), (1, .int a), (2, .int a2), (3, .int a3), (4, .int n)] := lv_sub hl [1, 2, 3, 4, 5] rfl
              exact bad _ ls (fun h => (fun q => f_58 ((okP_t ⟨g_9, g_16⟩ g_33 f_46).mp q)) h.2.2.2) hF hl
            · skip
              refine lv_if_eq (tgt := 68) hx hb d_Model_combine_61 (by decide) (fun _ => ?_) (fun h9 => absurd (by decide) h9)
              refine lv_iconst (v := nI 0) hx hb d_Model_combine_68 (by decide) ?_
              have hl : lv_has ls 6 [(0, .ref mo), (1, .int a), (2, .int a2), (3, .int a3), (4, .int n)] := lv_sub hl [1, 2, 3, 4, 5] rfl
              exact good _ ls ⟨f_0, ⟨g_9, g_16⟩, f_2, (okP_t ⟨g_9, g_16⟩ g_33 f_46).mpr f_58⟩ hF hl
      refine lv_iconst (v := nI 0) hx hb d_Model_combine_68 (by decide) ?_
      have hl : lv_has ls 6 [(0, .ref mo), (1, .int a), (2, .int a2), (3, .int a3), (4, .int n)] := lv_sub hl [1, 2, 3, 4, 5] rfl
      exact good _ ls ⟨f_0, ⟨g_9, g_16⟩, Or.inl g_33, Or.inl g_33⟩ hF hl
    refine lv_iconst (v := nI 1) hx hb d_Model_combine_19 (by decide) ?_
    refine lv_goto (tgt := 24) hx hb d_Model_combine_20 (by decide) ?_
    refine lv_istore (lv' := [(5, .int (nI 1)), (0, .ref mo), (1, .int a), (2, .int a2), (3, .int a3), (4, .int n)]) hx hb d_Model_combine_24 hl (by decide) rfl (fun ls hl => ?_)
    refine lv_iload hx hb d_Model_combine_26 (lv_at hl 0 rfl) ?_
    refine lv_if_ne (tgt := 64) hx hb d_Model_combine_28 (by decide) (fun _ => ?_) (fun h9 => absurd h9 (by decide))
    refine lv_iconst (v := nI 1) hx hb d_Model_combine_64 (by decide) ?_
    refine lv_goto (tgt := 69) hx hb d_Model_combine_65 (by decide) ?_
    have hl : lv_has ls 6 [(0, .ref mo), (1, .int a), (2, .int a2), (3, .int a3), (4, .int n)] := lv_sub hl [1, 2, 3, 4, 5] rfl
    exact bad _ ls (fun h => (fun q => q.1 g_9) h.2.1) hF hl
set_option maxHeartbeats 4000000 in
set_option maxRecDepth 100000 in
theorem Z_Model_setup (l : Launch) (g : WG) (n0 : Nat → Prop) (mo : Nat) (th : Int32) (pn tn wn : Nat) (B : Nat → Int) (a : Int32) (n : Int32) : Ctr l y_Model_setup (.code y_Model_setup prog_11_method_54_code 4 none) 6 143 0 0 n0 g [.ref mo, .int a, .int n] (fun H => MV g n0 H mo th pn tn wn B) (QV (fun H H' => ((okS a (nI 1) ∧ okC n (nI 1) (nI 16)) ∧ (∃ k9, n = nI k9 ∧ MV g n0 H' mo 0 k9 tn wn B)) ∨ (¬ (okS a (nI 1) ∧ okC n (nI 1) (nI 16)) ∧ MV g n0 H' mo 1 pn tn wn B))) := by
  refine ctr_mk l (lv0 := [(0, .ref mo), (1, .int a), (2, .int n)]) (by decide) (Nat.le_of_ble_eq_true rfl) rfl ?_
  intro p e s m below meth c ls E hr hlk hnm hl hP
  have hx := E.1
  have hb := E.2.1
  have hK := E.2.2.2.2.2
  have hF : ∀ q ∈ ([] : List Loc), n0 q.base := fun q hq => absurd hq List.not_mem_nil
  obtain ⟨⟨w9, n9, fd, hw9, hm, hB⟩, -⟩ := id hP
  have hS : SAME fd fd (fun t => 32 ≤ t) := SAME.rf
  have hmn := hP.mn
  have hbd := hP.2.2.2.2.2.1
  have hfr : FRM (MR mo) s.heap s.heap := FRM.rf
  have bad : ∀ (locs : List Loc) (ls : Array Slot), ¬ (okS a (nI 1) ∧ okC n (nI 1) (nI 16)) → (∀ q ∈ locs, n0 q.base) → lv_has ls 4 [(0, .ref mo), (1, .int a), (2, .int n)] → W p l e { frames := 6, cells := 0, slots := 0, locals := 143 } s m [.ref mo, .int a, .int n].toArray below meth c s.heap locs 0 0 (MQ below (QcP (QV (fun H H' => ((okS a (nI 1) ∧ okC n (nI 1) (nI 16)) ∧ (∃ k9, n = nI k9 ∧ MV g n0 H' mo 0 k9 tn wn B)) ∨ (¬ (okS a (nI 1) ∧ okC n (nI 1) (nI 16)) ∧ MV g n0 H' mo 1 pn tn wn B)))) [.ref mo, .int a, .int n].toArray s 0 0 (fun q => n0 q)) (F0 m 25 ls [.int (nI 1), .ref mo]) := by
    intro  locs   ls hno hF hl
    refine lv_iconst (v := nI 1) hx hb d_Model_setup_25 (by decide) ?_
    refine q_cV (rest := []) E (c_Model_fails l g n0 mo th (nI pn) (nI tn) (nI wn) w9 n9 hw9 (nI 1) (nI 1) fd hmn (Or.inl rfl)) w_1056 w_15 w_1053 w_1055 (bw_s 24 rfl) hd_Model_fails rfl ⟨by decide, by decide⟩ (OB.recv E.2.2.2.2.2 (by rfl) hm.1) hm hF hl.1 rfl (Nat.le_of_ble_eq_true rfl) d_Model_setup_26 ⟨by decide, by decide⟩ (qi (fun rf H1 locs hq hF => ?_))
    obtain ⟨hrf, hq, hm⟩ := hq
    subst hrf
    have hfr := hfr.tr hq
    rw [if_neg (by decide)] at hm
    refine lv_if_eq (tgt := 33) hx hb d_Model_setup_29 (by decide) (fun h9 => absurd h9 (by decide)) (fun _ => ?_)
    exact q_vret E hr hlk (⟨rfl, Or.inr ⟨hno, hP.zkeep hfr hw9 hm hS hB⟩⟩) hF d_Model_setup_32
  have good : ∀ (locs : List Loc) (ls : Array Slot), okS a (nI 1) ∧ okC n (nI 1) (nI 16) → (∀ q ∈ locs, n0 q.base) → lv_has ls 4 [(0, .ref mo), (1, .int a), (2, .int n)] → W p l e { frames := 6, cells := 0, slots := 0, locals := 143 } s m [.ref mo, .int a, .int n].toArray below meth c s.heap locs 0 0 (MQ below (QcP (QV (fun H H' => ((okS a (nI 1) ∧ okC n (nI 1) (nI 16)) ∧ (∃ k9, n = nI k9 ∧ MV g n0 H' mo 0 k9 tn wn B)) ∨ (¬ (okS a (nI 1) ∧ okC n (nI 1) (nI 16)) ∧ MV g n0 H' mo 1 pn tn wn B)))) [.ref mo, .int a, .int n].toArray s 0 0 (fun q => n0 q)) (F0 m 25 ls [.int (nI 0), .ref mo]) := by
    intro  locs   ls hok hF hl
    refine lv_iconst (v := nI 1) hx hb d_Model_setup_25 (by decide) ?_
    refine q_cV (rest := []) E (c_Model_fails l g n0 mo th (nI pn) (nI tn) (nI wn) w9 n9 hw9 (nI 0) (nI 1) fd hmn (Or.inr rfl)) w_1056 w_15 w_1053 w_1055 (bw_s 24 rfl) hd_Model_fails rfl ⟨by decide, by decide⟩ (OB.recv E.2.2.2.2.2 (by rfl) hm.1) hm hF hl.1 rfl (Nat.le_of_ble_eq_true rfl) d_Model_setup_26 ⟨by decide, by decide⟩ (qi (fun rf H1 locs hq hF => ?_))
    obtain ⟨hrf, hq, hm⟩ := hq
    subst hrf
    have hfr := hfr.tr hq
    rw [if_pos nI_0] at hm
    refine lv_if_eq (tgt := 33) hx hb d_Model_setup_29 (by decide) (fun _ => ?_) (fun h9 => absurd (by decide) h9)
    obtain ⟨k1, e_k1, h_k1⟩ := okS_nat (by decide) (by decide) hok.1
    rw [e_k1] at hl
    obtain ⟨k2, e_k2, h_k2, h2_k2⟩ := okC_nat (by decide) (by decide) hok.2
    rw [e_k2] at hl
    refine lv_aload_n hx hb d_Model_setup_33 rfl (lv_at hl 0 rfl) ?_
    refine lv_iload_n hx hb d_Model_setup_34 rfl (lv_at hl 2 rfl) ?_
    refine q_put (C := "KateDeskModel") (T := T_Model) (N := 14) (ci := 8) (ty := .int) E hm.1 in_Model ty_Model tyok_Model nm_Model rfl 8 (by decide) w_1009 rfl rfl (by decide +kernel) rfl rfl (Nat.le_of_ble_eq_true rfl) hmn hF d_Model_setup_35 (fun H2 locs hq ho2 hF => ?_)
    have hm : MS g n0 H2 mo 0 (nI k2) (nI tn) (nI wn) w9 n9 fd := hm.frm hq (by omega) (by omega) (by omega) (by omega) ho2
    have hfr := hfr.tr (hq.mono (fun q h => Or.inl h))
    refine lv_aload_n hx hb d_Model_setup_38 rfl (lv_at hl 0 rfl) ?_
    refine lv_sipush (v := nI 165) hx hb d_Model_setup_39 (by decide) ?_
    refine q_cV (rest := []) E (c_Model_one l g n0 mo 165 0 (nI k2) (nI tn) (nI wn) w9 n9 hw9  fd (by omega) ) w_971 w_15 w_968 w_970 (bw_s 16 rfl) hd_Model_one rfl ⟨by decide, by decide⟩ (OB.recv E.2.2.2.2.2 (by rfl) hm.1) hm hF hl.1 rfl (Nat.le_of_ble_eq_true rfl) d_Model_setup_42 ⟨by decide, by decide⟩ (qv (fun H3 locs hq hF => ?_))
    obtain ⟨hq, fd_1, hm, hpv⟩ := hq
    have hS := hS.put hpv.1 (by show 32 ≤ _; omega)
    have hfr := hfr.tr hq
    refine lv_iconst (v := nI 0) hx hb d_Model_setup_45 (by decide) ?_
    refine lv_istore_n (lv' := [(3, .int (nI 0)), (0, .ref mo), (1, .int (nI k1)), (2, .int (nI k2))]) hx hb d_Model_setup_46 rfl hl (by decide) rfl (fun ls hl => ?_)
    have hl : lv_has ls 4 [(3, .int (nI 0)), (0, .ref mo), (1, .int (nI k1)), (2, .int (nI k2))] := lv_sub hl [0, 1, 2, 3] rfl
    have loop : ∀ (k : Nat) (i : Nat) (H : Heap) (locs : List Loc) (ls : Array Slot) (w n8 : Nat) (fd1 : Nat → Int64), i + k = k2 → WH w n8 → FRM (MR mo) s.heap H → MS g n0 H mo 0 (nI k2) (nI tn) (nI wn) w n8 fd1 → SAME fd fd1 (fun t => 32 ≤ t) → (∀ q ∈ locs, n0 q.base) → lv_has ls 4 [(3, .int (nI i)), (0, .ref mo), (1, .int (nI k1)), (2, .int (nI k2))] → W p l e { frames := 6, cells := 0, slots := 0, locals := 143 } s m [.ref mo, .int a, .int n].toArray below meth c H locs 0 0 (MQ below (QcP (QV (fun H H' => ((okS a (nI 1) ∧ okC n (nI 1) (nI 16)) ∧ (∃ k9, n = nI k9 ∧ MV g n0 H' mo 0 k9 tn wn B)) ∨ (¬ (okS a (nI 1) ∧ okC n (nI 1) (nI 16)) ∧ MV g n0 H' mo 1 pn tn wn B)))) [.ref mo, .int a, .int n].toArray s 0 0 (fun q => n0 q)) (F0 m 47 ls []) := by
      intro k
      induction k with
      | zero =>
        intro  i   H   locs   ls   w n8   fd1 hi hw hfr hm hS hF hl
        obtain rfl : i = k2 := by omega
        refine lv_iload_n hx hb d_Model_setup_47 rfl (lv_at hl 0 rfl) ?_
        refine lv_iload_n hx hb d_Model_setup_48 rfl (lv_at hl 3 rfl) ?_
        refine lv_icmp_ge (tgt := 94) hx hb d_Model_setup_49 (by decide) (fun _ => ?_) (fun h9 => absurd (nI_le (Nat.le_refl _) (by omega)) h9)
        exact q_vret E hr hlk (⟨rfl, Or.inl ⟨hok, _, e_k2, hP.zfin hfr hw hm hS hB ⟨by omega, hbd.2⟩⟩⟩) hF d_Model_setup_94
      | succ k ih =>
        intro  i   H   locs   ls   w n8   fd1 hi hw hfr hm hS hF hl
        refine lv_iload_n hx hb d_Model_setup_47 rfl (lv_at hl 0 rfl) ?_
        refine lv_iload_n hx hb d_Model_setup_48 rfl (lv_at hl 3 rfl) ?_
        refine lv_icmp_ge (tgt := 94) hx hb d_Model_setup_49 (by decide) (fun h9 => absurd h9 (nI_ge (by omega) (by omega))) (fun _ => ?_)
        refine lv_aload_n hx hb d_Model_setup_52 rfl (lv_at hl 1 rfl) ?_
        refine lv_iconst (v := nI 0) hx hb d_Model_setup_53 (by decide) ?_
        refine q_cV (rest := []) E (c_Model_use l g n0 mo 0 (nI k2) (nI tn) (nI wn) w n8 hw 0 14 hw0 fd1 hmn) w_967 w_15 w_964 w_966 (bw_s 15 rfl) hd_Model_use rfl ⟨by decide, by decide⟩ (OB.recv E.2.2.2.2.2 (by rfl) hm.1) hm hF hl.1 rfl (Nat.le_of_ble_eq_true rfl) d_Model_setup_54 ⟨by decide, by decide⟩ (qv (fun H1 locs hq hF => ?_))
        obtain ⟨hq, hm⟩ := hq
        have hfr := hfr.tr hq
        refine lv_aload_n hx hb d_Model_setup_57 rfl (lv_at hl 1 rfl) ?_
        refine lv_bipush (v := nI 68) hx hb d_Model_setup_58 (by decide) ?_
        refine lv_iconst (v := nI 3) hx hb d_Model_setup_60 (by decide) ?_
        refine lv_iload_n hx hb d_Model_setup_61 rfl (lv_at hl 0 rfl) ?_
        refine lv_imul hx hb d_Model_setup_62 ?_
        refine lv_topi (fun t9 e9 => ?_)
        obtain rfl : t9 = nI (3 * i) := e9.trans (pk_mul _ _)
        refine lv_iadd hx hb d_Model_setup_63 ?_
        refine lv_topi (fun t9 e9 => ?_)
        obtain rfl : t9 = nI (68 + (3 * i)) := e9.trans (nI_add _ _)
        refine lv_sipush (v := nI 165) hx hb d_Model_setup_64 (by decide) ?_
        refine lv_bipush (v := nI 116) hx hb d_Model_setup_67 (by decide) ?_
        refine q_cV (rest := []) E (c_Model_multiple l g n0 mo (68 + (3 * i)) 165 116 0 (nI k2) (nI tn) (nI wn) 0 14 hw0 fd1 (by omega) (by omega) (by omega)) w_1167 w_15 w_1164 w_1166 (bw_s 40 rfl) hd_Model_multiple rfl ⟨by decide, by decide⟩ (OB.recv E.2.2.2.2.2 (by rfl) hm.1) hm hF hl.1 rfl (Nat.le_of_ble_eq_true rfl) d_Model_setup_69 ⟨by decide, by decide⟩ (qv (fun H2 locs hq hF => ?_))
        obtain ⟨hq, fd_2, hm, hS9, hV9⟩ := hq
        have hS := hS.tr (hS9.mono (fun t h => by show 32 ≤ t; omega))
        have hfr := hfr.tr hq
        refine lv_aload_n hx hb d_Model_setup_72 rfl (lv_at hl 1 rfl) ?_
        refine lv_iconst (v := nI 1) hx hb d_Model_setup_73 (by decide) ?_
        refine q_cV (rest := []) E (c_Model_use l g n0 mo 0 (nI k2) (nI tn) (nI wn) 0 14 hw0 1 10 hw1 fd_2 hmn) w_967 w_15 w_964 w_966 (bw_s 15 rfl) hd_Model_use rfl ⟨by decide, by decide⟩ (OB.recv E.2.2.2.2.2 (by rfl) hm.1) hm hF hl.1 rfl (Nat.le_of_ble_eq_true rfl) d_Model_setup_74 ⟨by decide, by decide⟩ (qv (fun H3 locs hq hF => ?_))
        obtain ⟨hq, hm⟩ := hq
        have hfr := hfr.tr hq
        refine lv_aload_n hx hb d_Model_setup_77 rfl (lv_at hl 1 rfl) ?_
        refine lv_sipush (v := nI 165) hx hb d_Model_setup_78 (by decide) ?_
        refine lv_sipush (v := nI 165) hx hb d_Model_setup_81 (by decide) ?_
        refine lv_iload_n hx hb d_Model_setup_84 rfl (lv_at hl 2 rfl) ?_
        refine q_cV (rest := []) E (c_Model_product l g n0 mo 165 165 k1 0 (nI k2) (nI tn) (nI wn) 1 10 hw1  fd_2 (by omega) (by omega) (by omega) ) w_1113 w_15 w_1110 w_1112 (bw_s 32 rfl) hd_Model_product rfl ⟨by decide, by decide⟩ (OB.recv E.2.2.2.2.2 (by rfl) hm.1) hm hF hl.1 rfl (Nat.le_of_ble_eq_true rfl) d_Model_setup_85 ⟨by decide, by decide⟩ (qv (fun H4 locs hq hF => ?_))
        obtain ⟨hq, fd_3, hm, hpv, hv⟩ := hq
        have hS := hS.put hpv.1 (by show 32 ≤ _; omega)
        have hfr := hfr.tr (kjR hq)
        refine lv_iinc (k := 0) (v := nI (i + 1)) (lv' := [(3, .int (nI (i + 1))), (0, .ref mo), (1, .int (nI k1)), (2, .int (nI k2))]) hx hb d_Model_setup_88 hl rfl (i_inc i) (by decide) rfl (fun ls hl => ?_)
        refine lv_goto (tgt := 47) hx hb d_Model_setup_91 (by decide) ?_
        have hl : lv_has ls 4 [(3, .int (nI (i + 1))), (0, .ref mo), (1, .int (nI k1)), (2, .int (nI k2))] := lv_sub hl [0, 1, 2, 3] rfl
        exact ih (i + 1) _ _ ls 1 10 _ (by omega) hw1 hfr hm hS hF hl
    exact loop k2 0 _ _ ls w9 n9 _ (by omega) hw9 hfr hm hS hF hl
  refine lv_aload_n hx hb d_Model_setup_0 rfl (lv_at hl 0 rfl) ?_
  refine lv_iload_n hx hb d_Model_setup_1 rfl (lv_at hl 1 rfl) ?_
  refine q_cS (rest := [.ref mo]) E (c_Model_noScalar l g n0 a ) w_1064 w_15 w_1062 w_1063 hd_Model_noScalar rfl ⟨by decide, by decide⟩ trivial hF hl.1 rfl (Nat.le_of_ble_eq_true rfl) d_Model_setup_2 ⟨by decide, by decide⟩ (qi (fun r_0 H1 locs hq hF => ?_))
  obtain ⟨h_0, hq⟩ := hq
  subst hq
  rcases h_0 with ⟨rfl, f_0⟩ | ⟨rfl, f_0⟩
  · skip
    refine lv_if_ne (tgt := 20) hx hb d_Model_setup_5 (by decide) (fun _ => ?_) (fun h9 => absurd h9 (by decide))
    refine lv_iconst (v := nI 1) hx hb d_Model_setup_20 (by decide) ?_
    refine lv_goto (tgt := 25) hx hb d_Model_setup_21 (by decide) ?_
    have hl : lv_has ls 4 [(0, .ref mo), (1, .int a), (2, .int n)] := lv_sub hl [0, 1, 2] rfl
    exact bad _ ls (fun h => (f_0) h.1) hF hl
  · skip
    refine lv_if_ne (tgt := 20) hx hb d_Model_setup_5 (by decide) (fun h9 => absurd (by decide) h9) (fun _ => ?_)
    refine lv_iload_n hx hb d_Model_setup_8 rfl (lv_at hl 2 rfl) ?_
    refine lv_i2l (v := n.toInt64) hx hb d_Model_setup_9 rfl ?_
    refine lv_lconst (v := 1) hx hb d_Model_setup_10 (by decide) ?_
    refine lv_ldc2 (v := 16) hx hb E.2.2.2.1 (E.2.2.2.2.1 _ w_1223) d_Model_setup_11 ?_
    refine q_cS (rest := [.ref mo]) E (c_Model_in l g n0 n.toInt64 1 16 ) w_1101 w_15 w_1099 w_1100 hd_Model_in rfl ⟨by decide, by decide⟩ trivial hF hl.1 rfl (Nat.le_of_ble_eq_true rfl) d_Model_setup_14 ⟨by decide, by decide⟩ (qi (fun r_1 H2 locs hq hF => ?_))
    obtain ⟨h_1, hq⟩ := hq
    subst hq
    rcases h_1 with ⟨rfl, f_1⟩ | ⟨rfl, f_1⟩
    · skip
      refine lv_if_ne (tgt := 24) hx hb d_Model_setup_17 (by decide) (fun h9 => absurd (by decide) h9) (fun _ => ?_)
      refine lv_iconst (v := nI 1) hx hb d_Model_setup_20 (by decide) ?_
      refine lv_goto (tgt := 25) hx hb d_Model_setup_21 (by decide) ?_
      have hl : lv_has ls 4 [(0, .ref mo), (1, .int a), (2, .int n)] := lv_sub hl [0, 1, 2] rfl
      exact bad _ ls (fun h => (fun q => f_1 ((in_okC (a := 1) (b := 16) (by decide) (by decide) (by decide) (by decide)).mpr q)) h.2) hF hl
    · skip
      refine lv_if_ne (tgt := 24) hx hb d_Model_setup_17 (by decide) (fun _ => ?_) (fun h9 => absurd h9 (by decide))
      refine lv_iconst (v := nI 0) hx hb d_Model_setup_24 (by decide) ?_
      have hl : lv_has ls 4 [(0, .ref mo), (1, .int a), (2, .int n)] := lv_sub hl [0, 1, 2] rfl
      exact good _ ls ⟨f_0, (in_okC (a := 1) (b := 16) (by decide) (by decide) (by decide) (by decide)).mp f_1⟩ hF hl
set_option maxHeartbeats 4000000 in
set_option maxRecDepth 100000 in
theorem Z_Model_out (l : Launch) (g : WG) (n0 : Nat → Prop) (mo : Nat) (th : Int32) (pn tn wn : Nat) (B : Nat → Int) (kv : Int32) : Ctr l y_Model_out (.code y_Model_out prog_11_method_48_code 5 (some FieldType.long)) 1 25 0 0 n0 g [.ref mo, .int kv] (fun H => MV g n0 H mo th pn tn wn B) (QL (fun r H H' => ((((0 : Int64).toInt ≤ kv.toInt64.toInt ∧ kv.toInt64.toInt ≤ (nI wn - nI 1).toInt64.toInt)) ∧ MV g n0 H' mo 0 pn tn wn B) ∨ (¬ (((0 : Int64).toInt ≤ kv.toInt64.toInt ∧ kv.toInt64.toInt ≤ (nI wn - nI 1).toInt64.toInt)) ∧ MV g n0 H' mo 1 pn tn wn B))) := by
  refine ctr_mk l (lv0 := [(0, .ref mo), (1, .int kv)]) (by decide) (Nat.le_of_ble_eq_true rfl) rfl ?_
  intro p e s m below meth c ls E hr hlk hnm hl hP
  have hx := E.1
  have hb := E.2.1
  have hK := E.2.2.2.2.2
  have hF : ∀ q ∈ ([] : List Loc), n0 q.base := fun q hq => absurd hq List.not_mem_nil
  obtain ⟨⟨w9, n9, fd, hw9, hm, hB⟩, -⟩ := id hP
  have hS : SAME fd fd (fun t => 32 ≤ t) := SAME.rf
  have hmn := hP.mn
  have hbd := hP.2.2.2.2.2.1
  have hfr : FRM (MR mo) s.heap s.heap := FRM.rf
  have bad : ∀ (locs : List Loc) (ls : Array Slot), ¬ (((0 : Int64).toInt ≤ kv.toInt64.toInt ∧ kv.toInt64.toInt ≤ (nI wn - nI 1).toInt64.toInt)) → (∀ q ∈ locs, n0 q.base) → lv_has ls 5 [(0, .ref mo), (1, .int kv)] → W p l e { frames := 1, cells := 0, slots := 0, locals := 25 } s m [.ref mo, .int kv].toArray below meth c s.heap locs 0 0 (MQ below (QcP (QL (fun r H H' => ((((0 : Int64).toInt ≤ kv.toInt64.toInt ∧ kv.toInt64.toInt ≤ (nI wn - nI 1).toInt64.toInt)) ∧ MV g n0 H' mo 0 pn tn wn B) ∨ (¬ (((0 : Int64).toInt ≤ kv.toInt64.toInt ∧ kv.toInt64.toInt ≤ (nI wn - nI 1).toInt64.toInt)) ∧ MV g n0 H' mo 1 pn tn wn B)))) [.ref mo, .int kv].toArray s 0 0 (fun q => n0 q)) (F0 m 22 ls [.int (nI 1), .ref mo]) := by
    intro  locs   ls hno hF hl
    refine lv_iconst (v := nI 1) hx hb d_Model_out_22 (by decide) ?_
    refine q_cV (rest := []) E (c_Model_fails l g n0 mo th (nI pn) (nI tn) (nI wn) w9 n9 hw9 (nI 1) (nI 1) fd hmn (Or.inl rfl)) w_1056 w_15 w_1053 w_1055 (bw_s 24 rfl) hd_Model_fails rfl ⟨by decide, by decide⟩ (OB.recv E.2.2.2.2.2 (by rfl) hm.1) hm hF hl.1 rfl (Nat.le_of_ble_eq_true rfl) d_Model_out_23 ⟨by decide, by decide⟩ (qi (fun rf H1 locs hq hF => ?_))
    obtain ⟨hrf, hq, hm⟩ := hq
    subst hrf
    have hfr := hfr.tr hq
    rw [if_neg (by decide)] at hm
    refine lv_if_eq (tgt := 31) hx hb d_Model_out_26 (by decide) (fun h9 => absurd h9 (by decide)) (fun _ => ?_)
    refine lv_lconst (v := 0) hx hb d_Model_out_29 (by decide) ?_
    exact q_lret E hr hlk (⟨_, rfl, Or.inr ⟨hno, hP.zkeep hfr hw9 hm hS hB⟩⟩) hF d_Model_out_30
  have good : ∀ (locs : List Loc) (ls : Array Slot), ((0 : Int64).toInt ≤ kv.toInt64.toInt ∧ kv.toInt64.toInt ≤ (nI wn - nI 1).toInt64.toInt) → (∀ q ∈ locs, n0 q.base) → lv_has ls 5 [(0, .ref mo), (1, .int kv)] → W p l e { frames := 1, cells := 0, slots := 0, locals := 25 } s m [.ref mo, .int kv].toArray below meth c s.heap locs 0 0 (MQ below (QcP (QL (fun r H H' => ((((0 : Int64).toInt ≤ kv.toInt64.toInt ∧ kv.toInt64.toInt ≤ (nI wn - nI 1).toInt64.toInt)) ∧ MV g n0 H' mo 0 pn tn wn B) ∨ (¬ (((0 : Int64).toInt ≤ kv.toInt64.toInt ∧ kv.toInt64.toInt ≤ (nI wn - nI 1).toInt64.toInt)) ∧ MV g n0 H' mo 1 pn tn wn B)))) [.ref mo, .int kv].toArray s 0 0 (fun q => n0 q)) (F0 m 22 ls [.int (nI 0), .ref mo]) := by
    intro  locs   ls hok hF hl
    refine lv_iconst (v := nI 1) hx hb d_Model_out_22 (by decide) ?_
    refine q_cV (rest := []) E (c_Model_fails l g n0 mo th (nI pn) (nI tn) (nI wn) w9 n9 hw9 (nI 0) (nI 1) fd hmn (Or.inr rfl)) w_1056 w_15 w_1053 w_1055 (bw_s 24 rfl) hd_Model_fails rfl ⟨by decide, by decide⟩ (OB.recv E.2.2.2.2.2 (by rfl) hm.1) hm hF hl.1 rfl (Nat.le_of_ble_eq_true rfl) d_Model_out_23 ⟨by decide, by decide⟩ (qi (fun rf H1 locs hq hF => ?_))
    obtain ⟨hrf, hq, hm⟩ := hq
    subst hrf
    have hfr := hfr.tr hq
    rw [if_pos nI_0] at hm
    refine lv_if_eq (tgt := 31) hx hb d_Model_out_26 (by decide) (fun _ => ?_) (fun h9 => absurd (by decide) h9)
    obtain ⟨k1, e_k1, h_k1⟩ := out_k hbd.2.2 hok
    rw [e_k1] at hl
    have ht7 := hP.2.2.2.2.1.imp (fun f hf => AI.off hfr (show ¬ MR mo (mo + 7) by unfold MR; omega) hf)
    refine lv_lconst (v := 0) hx hb d_Model_out_31 (by decide) ?_
    refine lv_lstore_n (lv' := [(2, .long 0), (0, .ref mo), (1, .int (nI k1))]) hx hb d_Model_out_32 rfl hl (by decide) rfl (fun ls hl => ?_)
    refine lv_iconst (v := nI 0) hx hb d_Model_out_33 (by decide) ?_
    refine lv_istore (lv' := [(4, .int (nI 0)), (2, .long 0), (0, .ref mo), (1, .int (nI k1))]) hx hb d_Model_out_34 hl (by decide) rfl (fun ls hl => ?_)
    have hl : lv_has ls 5 [(4, .int (nI 0)), (2, .long 0), (0, .ref mo), (1, .int (nI k1))] := lv_sub hl [0, 1, 2, 3] rfl
    have loop : ∀ (k : Nat) (i : Nat) (locs : List Loc) (ls : Array Slot) (y : Int64), i + k = 8 → (∀ q ∈ locs, n0 q.base) → lv_has ls 5 [(4, .int (nI i)), (2, .long y), (0, .ref mo), (1, .int (nI k1))] → W p l e { frames := 1, cells := 0, slots := 0, locals := 25 } s m [.ref mo, .int kv].toArray below meth c H1 locs 0 0 (MQ below (QcP (QL (fun r H H' => ((((0 : Int64).toInt ≤ kv.toInt64.toInt ∧ kv.toInt64.toInt ≤ (nI wn - nI 1).toInt64.toInt)) ∧ MV g n0 H' mo 0 pn tn wn B) ∨ (¬ (((0 : Int64).toInt ≤ kv.toInt64.toInt ∧ kv.toInt64.toInt ≤ (nI wn - nI 1).toInt64.toInt)) ∧ MV g n0 H' mo 1 pn tn wn B)))) [.ref mo, .int kv].toArray s 0 0 (fun q => n0 q)) (F0 m 36 ls []) := by
      intro k
      induction k with
      | zero =>
        intro  i   locs   ls   y hi hF hl
        obtain rfl : i = 8 := by omega
        refine lv_iload hx hb d_Model_out_36 (lv_at hl 0 rfl) ?_
        refine lv_bipush (v := nI 8) hx hb d_Model_out_38 (by decide) ?_
        refine lv_icmp_ge (tgt := 79) hx hb d_Model_out_40 (by decide) (fun _ => ?_) (fun h9 => absurd (by decide) h9)
        refine lv_lload_n hx hb d_Model_out_79 rfl (lv_at hl 1 rfl) ?_
        exact q_lret E hr hlk (⟨_, rfl, Or.inl ⟨hok, hP.zkeep hfr hw9 hm hS hB⟩⟩) hF d_Model_out_80
      | succ k ih =>
        intro  i   locs   ls   y hi hF hl
        refine lv_iload hx hb d_Model_out_36 (lv_at hl 0 rfl) ?_
        refine lv_bipush (v := nI 8) hx hb d_Model_out_38 (by decide) ?_
        refine lv_icmp_ge (tgt := 79) hx hb d_Model_out_40 (by decide) (fun h9 => absurd h9 (nI_ge (by omega) (by decide))) (fun _ => ?_)
        refine lv_iload_n hx hb d_Model_out_43 rfl (lv_at hl 3 rfl) ?_
        refine lv_iload hx hb d_Model_out_44 (lv_at hl 0 rfl) ?_
        refine lv_iadd hx hb d_Model_out_46 ?_
        refine lv_topi (fun t9 e9 => ?_)
        obtain rfl : t9 = nI (k1 + i) := e9.trans (nI_add _ _)
        refine lv_aload_n hx hb d_Model_out_47 rfl (lv_at hl 2 rfl) ?_
        refine q_get (C := "KateDeskModel") (T := T_Model) (N := 14) (ci := 8) E hm.1 in_Model rfl 12 (by decide) w_1013 rfl rfl d_Model_out_48 ?_
        refine lv_icmp_ge (tgt := 79) hx hb d_Model_out_51 (by decide) (fun hc => ?_) (fun hc => ?_)
        rotate_left
        · skip
          have hc2 : k1 + i < wn := Nat.lt_of_not_le (fun q => hc (nI_le q (by omega)))
          refine lv_lload_n hx hb d_Model_out_54 rfl (lv_at hl 1 rfl) ?_
          refine lv_aload_n hx hb d_Model_out_55 rfl (lv_at hl 2 rfl) ?_
          refine q_get (C := "KateDeskModel") (T := T_Model) (N := 14) (ci := 8) E hm.1 in_Model rfl 11 (by decide) w_1012 rfl rfl d_Model_out_56 ?_
          refine lv_iload_n hx hb d_Model_out_59 rfl (lv_at hl 3 rfl) ?_
          refine lv_iload hx hb d_Model_out_60 (lv_at hl 0 rfl) ?_
          refine lv_iadd hx hb d_Model_out_62 ?_
          refine lv_topi (fun t9 e9 => ?_)
          obtain rfl : t9 = nI (k1 + i) := e9.trans (nI_add _ _)
          obtain ⟨fq, hfq⟩ := id (ht7)
          refine q_iald E hfq (k1 + i) rfl (by omega) (by decide) d_Model_out_63 ?_
          refine lv_i2l (v := (fq (k1 + i)).toInt64) hx hb d_Model_out_64 rfl ?_
          refine lv_bipush (v := nI 8) hx hb d_Model_out_65 (by decide) ?_
          refine lv_iload hx hb d_Model_out_67 (lv_at hl 0 rfl) ?_
          refine lv_imul hx hb d_Model_out_69 ?_
          refine lv_lshl (v := ((fq (k1 + i)).toInt64) <<< (((nI 8) * (nI i)).toInt64 &&& 63)) hx hb d_Model_out_70 rfl ?_
          refine lv_lor hx hb d_Model_out_71 ?_
          refine lv_topl (fun v1 _ => ?_)
          refine lv_lstore_n (lv' := [(2, .long v1), (4, .int (nI i)), (0, .ref mo), (1, .int (nI k1))]) hx hb d_Model_out_72 rfl hl (by decide) rfl (fun ls hl => ?_)
          refine lv_iinc (k := 1) (v := nI (i + 1)) (lv' := [(4, .int (nI (i + 1))), (2, .long v1), (0, .ref mo), (1, .int (nI k1))]) hx hb d_Model_out_73 hl rfl (i_inc i) (by decide) rfl (fun ls hl => ?_)
          refine lv_goto (tgt := 36) hx hb d_Model_out_76 (by decide) ?_
          have hl : lv_has ls 5 [(4, .int (nI (i + 1))), (2, .long v1), (0, .ref mo), (1, .int (nI k1))] := lv_sub hl [0, 1, 2, 3] rfl
          exact ih (i + 1) _ ls _ (by omega) hF hl
        refine lv_lload_n hx hb d_Model_out_79 rfl (lv_at hl 1 rfl) ?_
        exact q_lret E hr hlk (⟨_, rfl, Or.inl ⟨hok, hP.zkeep hfr hw9 hm hS hB⟩⟩) hF d_Model_out_80
    exact loop 8 0 _ ls _ (by omega) hF hl
  refine lv_aload_n hx hb d_Model_out_0 rfl (lv_at hl 0 rfl) ?_
  refine lv_iload_n hx hb d_Model_out_1 rfl (lv_at hl 1 rfl) ?_
  refine lv_i2l (v := kv.toInt64) hx hb d_Model_out_2 rfl ?_
  refine lv_lconst (v := 0) hx hb d_Model_out_3 (by decide) ?_
  refine lv_aload_n hx hb d_Model_out_4 rfl (lv_at hl 0 rfl) ?_
  refine q_get (C := "KateDeskModel") (T := T_Model) (N := 14) (ci := 8) E hm.1 in_Model rfl 12 (by decide) w_1013 rfl rfl d_Model_out_5 ?_
  refine lv_iconst (v := nI 1) hx hb d_Model_out_8 (by decide) ?_
  refine lv_isub hx hb d_Model_out_9 ?_
  refine lv_i2l (v := ((nI wn) - (nI 1)).toInt64) hx hb d_Model_out_10 rfl ?_
  refine q_cS (rest := [.ref mo]) E (c_Model_in l g n0 kv.toInt64 0 (((nI wn) - (nI 1)).toInt64) ) w_1101 w_15 w_1099 w_1100 hd_Model_in rfl ⟨by decide, by decide⟩ trivial hF hl.1 rfl (Nat.le_of_ble_eq_true rfl) d_Model_out_11 ⟨by decide, by decide⟩ (qi (fun r_0 H1 locs hq hF => ?_))
  obtain ⟨h_0, hq⟩ := hq
  subst hq
  rcases h_0 with ⟨rfl, f_0⟩ | ⟨rfl, f_0⟩
  · skip
    refine lv_if_ne (tgt := 21) hx hb d_Model_out_14 (by decide) (fun h9 => absurd (by decide) h9) (fun _ => ?_)
    refine lv_iconst (v := nI 1) hx hb d_Model_out_17 (by decide) ?_
    refine lv_goto (tgt := 22) hx hb d_Model_out_18 (by decide) ?_
    have hl : lv_has ls 5 [(0, .ref mo), (1, .int kv)] := lv_sub hl [0, 1] rfl
    exact bad _ ls (fun h => (f_0) h) hF hl
  · skip
    refine lv_if_ne (tgt := 21) hx hb d_Model_out_14 (by decide) (fun _ => ?_) (fun h9 => absurd h9 (by decide))
    refine lv_iconst (v := nI 0) hx hb d_Model_out_21 (by decide) ?_
    have hl : lv_has ls 5 [(0, .ref mo), (1, .int kv)] := lv_sub hl [0, 1] rfl
    exact good _ ls f_0 hF hl
set_option maxHeartbeats 4000000 in
set_option maxRecDepth 100000 in
theorem Z_Model_point (l : Launch) (g : WG) (n0 : Nat → Prop) (mo : Nat) (th : Int32) (pn tn wn : Nat) (B : Nat → Int) (a : Int32) : Ctr l y_Model_point (.code y_Model_point prog_11_method_46_code 6 (some FieldType.int)) 6 143 0 0 n0 g [.ref mo, .int a] (fun H => MV g n0 H mo th pn tn wn B) (QI (fun r H H' => ((okP a (nI 1)) ∧ MV g n0 H' mo 0 pn 0 wn B) ∨ (¬ (okP a (nI 1)) ∧ MV g n0 H' mo 1 pn tn wn B))) := by
  refine ctr_mk l (lv0 := [(0, .ref mo), (1, .int a)]) (by decide) (Nat.le_of_ble_eq_true rfl) rfl ?_
  intro p e s m below meth c ls E hr hlk hnm hl hP
  have hx := E.1
  have hb := E.2.1
  have hK := E.2.2.2.2.2
  have hF : ∀ q ∈ ([] : List Loc), n0 q.base := fun q hq => absurd hq List.not_mem_nil
  obtain ⟨⟨w9, n9, fd, hw9, hm, hB⟩, -⟩ := id hP
  have hS : SAME fd fd (fun t => 32 ≤ t) := SAME.rf
  have hmn := hP.mn
  have hbd := hP.2.2.2.2.2.1
  have hfr : FRM (MR mo) s.heap s.heap := FRM.rf
  have bad : ∀ (locs : List Loc) (ls : Array Slot), ¬ (okP a (nI 1)) → (∀ q ∈ locs, n0 q.base) → lv_has ls 6 [(0, .ref mo), (1, .int a)] → W p l e { frames := 6, cells := 0, slots := 0, locals := 143 } s m [.ref mo, .int a].toArray below meth c s.heap locs 0 0 (MQ below (QcP (QI (fun r H H' => ((okP a (nI 1)) ∧ MV g n0 H' mo 0 pn 0 wn B) ∨ (¬ (okP a (nI 1)) ∧ MV g n0 H' mo 1 pn tn wn B)))) [.ref mo, .int a].toArray s 0 0 (fun q => n0 q)) (F0 m 5 ls [.int (nI 1), .ref mo]) := by
    intro  locs   ls hno hF hl
    refine lv_iconst (v := nI 1) hx hb d_Model_point_5 (by decide) ?_
    refine q_cV (rest := []) E (c_Model_fails l g n0 mo th (nI pn) (nI tn) (nI wn) w9 n9 hw9 (nI 1) (nI 1) fd hmn (Or.inl rfl)) w_1056 w_15 w_1053 w_1055 (bw_s 24 rfl) hd_Model_fails rfl ⟨by decide, by decide⟩ (OB.recv E.2.2.2.2.2 (by rfl) hm.1) hm hF hl.1 rfl (Nat.le_of_ble_eq_true rfl) d_Model_point_6 ⟨by decide, by decide⟩ (qi (fun rf H1 locs hq hF => ?_))
    obtain ⟨hrf, hq, hm⟩ := hq
    subst hrf
    have hfr := hfr.tr hq
    rw [if_neg (by decide)] at hm
    refine lv_if_eq (tgt := 14) hx hb d_Model_point_9 (by decide) (fun h9 => absurd h9 (by decide)) (fun _ => ?_)
    refine lv_iconst (v := nI 0) hx hb d_Model_point_12 (by decide) ?_
    exact q_iret E hr hlk (⟨_, rfl, Or.inr ⟨hno, hP.zkeep hfr hw9 hm hS hB⟩⟩) hF d_Model_point_13
  have good : ∀ (locs : List Loc) (ls : Array Slot), okP a (nI 1) → (∀ q ∈ locs, n0 q.base) → lv_has ls 6 [(0, .ref mo), (1, .int a)] → W p l e { frames := 6, cells := 0, slots := 0, locals := 143 } s m [.ref mo, .int a].toArray below meth c s.heap locs 0 0 (MQ below (QcP (QI (fun r H H' => ((okP a (nI 1)) ∧ MV g n0 H' mo 0 pn 0 wn B) ∨ (¬ (okP a (nI 1)) ∧ MV g n0 H' mo 1 pn tn wn B)))) [.ref mo, .int a].toArray s 0 0 (fun q => n0 q)) (F0 m 5 ls [.int (nI 0), .ref mo]) := by
    intro  locs   ls hok hF hl
    refine lv_iconst (v := nI 1) hx hb d_Model_point_5 (by decide) ?_
    refine q_cV (rest := []) E (c_Model_fails l g n0 mo th (nI pn) (nI tn) (nI wn) w9 n9 hw9 (nI 0) (nI 1) fd hmn (Or.inr rfl)) w_1056 w_15 w_1053 w_1055 (bw_s 24 rfl) hd_Model_fails rfl ⟨by decide, by decide⟩ (OB.recv E.2.2.2.2.2 (by rfl) hm.1) hm hF hl.1 rfl (Nat.le_of_ble_eq_true rfl) d_Model_point_6 ⟨by decide, by decide⟩ (qi (fun rf H1 locs hq hF => ?_))
    obtain ⟨hrf, hq, hm⟩ := hq
    subst hrf
    have hfr := hfr.tr hq
    rw [if_pos nI_0] at hm
    refine lv_if_eq (tgt := 14) hx hb d_Model_point_9 (by decide) (fun _ => ?_) (fun h9 => absurd (by decide) h9)
    obtain ⟨k1, e_k1, h_k1⟩ := okP_nat (by decide) (by decide) hok
    rw [e_k1] at hl
    refine lv_aload_n hx hb d_Model_point_14 rfl (lv_at hl 0 rfl) ?_
    refine q_get (C := "KateDeskModel") (T := T_Model) (N := 14) (ci := 8) E hm.1 in_Model rfl 10 (by decide) w_1011 rfl rfl d_Model_point_15 ?_
    refine lv_istore_n (lv' := [(2, .int (nI tn)), (0, .ref mo), (1, .int (nI k1))]) hx hb d_Model_point_18 rfl hl (by decide) rfl (fun ls hl => ?_)
    refine lv_aload_n hx hb d_Model_point_19 rfl (lv_at hl 1 rfl) ?_
    refine lv_iconst (v := nI 0) hx hb d_Model_point_20 (by decide) ?_
    refine q_put (C := "KateDeskModel") (T := T_Model) (N := 14) (ci := 8) (ty := .int) E hm.1 in_Model ty_Model tyok_Model nm_Model rfl 10 (by decide) w_1011 rfl rfl (by decide +kernel) rfl rfl (Nat.le_of_ble_eq_true rfl) hmn hF d_Model_point_21 (fun H2 locs hq ho2 hF => ?_)
    have hm : MS g n0 H2 mo 0 (nI pn) (nI 0) (nI wn) w9 n9 fd := hm.frm hq (by omega) (by omega) (by omega) (by omega) ho2
    have hfr := hfr.tr (hq.mono (fun q h => Or.inl h))
    have ord : ∀ (k : Nat) (i : Nat) (H : Heap) (locs : List Loc) (ls : Array Slot) (fd1 : Nat → Int64), i + k = 14 → FRM (MR mo) s.heap H → MS g n0 H mo 0 (nI pn) (nI 0) (nI wn) 0 14 fd1 → SAME fd fd1 (fun t => 32 ≤ t) → (∀ q ∈ locs, n0 q.base) → lv_has ls 6 [(5, .int (nI i)), (2, .int (nI tn)), (0, .ref mo), (1, .int (nI k1))] → W p l e { frames := 6, cells := 0, slots := 0, locals := 143 } s m [.ref mo, .int a].toArray below meth c H locs 0 0 (MQ below (QcP (QI (fun r H H' => ((okP a (nI 1)) ∧ MV g n0 H' mo 0 pn 0 wn B) ∨ (¬ (okP a (nI 1)) ∧ MV g n0 H' mo 1 pn tn wn B)))) [.ref mo, .int a].toArray s 0 0 (fun q => n0 q)) (F0 m 413 ls []) := by
      intro k
      induction k with
      | zero =>
        intro  i   H   locs   ls   fd1 hi hfr hm hS hF hl
        obtain rfl : i = 14 := by omega
        refine lv_iload hx hb d_Model_point_413 (lv_at hl 0 rfl) ?_
        refine lv_bipush (v := nI 14) hx hb d_Model_point_415 (by decide) ?_
        refine lv_icmp_ge (tgt := 447) hx hb d_Model_point_417 (by decide) (fun _ => ?_) (fun h9 => absurd (by decide) h9)
        refine lv_aload_n hx hb d_Model_point_447 rfl (lv_at hl 2 rfl) ?_
        refine lv_sipush (v := nI 154) hx hb d_Model_point_448 (by decide) ?_
        refine lv_sipush (v := nI 153) hx hb d_Model_point_451 (by decide) ?_
        refine lv_sipush (v := nI 148) hx hb d_Model_point_454 (by decide) ?_
        refine q_cV (rest := []) E (c_Model_multiple l g n0 mo 154 153 148 0 (nI pn) (nI 0) (nI wn) 0 14 hw0 fd1 (by omega) (by omega) (by omega)) w_1167 w_15 w_1164 w_1166 (bw_s 40 rfl) hd_Model_multiple rfl ⟨by decide, by decide⟩ (OB.recv E.2.2.2.2.2 (by rfl) hm.1) hm hF hl.1 rfl (Nat.le_of_ble_eq_true rfl) d_Model_point_457 ⟨by decide, by decide⟩ (qv (fun H1 locs hq hF => ?_))
        obtain ⟨hq, fd_1, hm, hS9, hV9⟩ := hq
        have hS := hS.tr (hS9.mono (fun t h => by show 32 ≤ t; omega))
        have hfr := hfr.tr hq
        refine lv_aload_n hx hb d_Model_point_460 rfl (lv_at hl 2 rfl) ?_
        refine lv_sipush (v := nI 156) hx hb d_Model_point_461 (by decide) ?_
        refine q_cV (rest := []) E (c_Model_isZero l g n0 mo 156 0 (nI pn) (nI 0) (nI wn) 0 14 hw0 fd_1 (by omega)) w_1105 w_15 w_1102 w_1104 (bw_s 30 rfl) hd_Model_isZero rfl ⟨by decide, by decide⟩ (OB.recv E.2.2.2.2.2 (by rfl) hm.1) hm hF hl.1 rfl (Nat.le_of_ble_eq_true rfl) d_Model_point_464 ⟨by decide, by decide⟩ (qi (fun rz1 H2 locs hq hF => ?_))
        obtain ⟨hbrz1, hq⟩ := hq
        subst hq
        refine lv_if_ne (tgt := 473) hx hb d_Model_point_467 (by decide) (fun _ => ?_) (fun _ => ?_)
        · skip
          refine lv_aload_n hx hb d_Model_point_473 rfl (lv_at hl 2 rfl) ?_
          refine lv_iload_n hx hb d_Model_point_474 rfl (lv_at hl 3 rfl) ?_
          refine q_cS (rest := [.ref mo]) E (c_Model_slot l g n0 (nI k1)) w_1154 w_15 w_1152 w_1153 hd_Model_slot rfl ⟨by decide, by decide⟩ trivial hF hl.1 rfl (Nat.le_of_ble_eq_true rfl) d_Model_point_475 ⟨by decide, by decide⟩ (qi (fun rs H3 locs hq hF => ?_))
          obtain ⟨hrs, hq9⟩ := hq
          subst hrs
          subst hq9
          refine lv_topi (fun t9 e9 => ?_)
          obtain rfl : t9 = nI (32 + 3 * k1) := e9.trans (by rw [pk_mul, nI_add])
          refine lv_sipush (v := nI 148) hx hb d_Model_point_478 (by decide) ?_
          refine q_cV (rest := []) E (c_Model_movePoint l g n0 mo (32 + 3 * k1) 148 0 (nI pn) (nI 0) (nI wn) 0 14 hw0 fd_1 (by omega) (by omega) (by omega)) w_1171 w_15 w_1168 w_1170 (bw_s 41 rfl) hd_Model_movePoint rfl ⟨by decide, by decide⟩ (OB.recv E.2.2.2.2.2 (by rfl) hm.1) hm hF hl.1 rfl (Nat.le_of_ble_eq_true rfl) d_Model_point_481 ⟨by decide, by decide⟩ (qv (fun H4 locs hq hF => ?_))
          obtain ⟨hq, fd_2, hm, hS9, hcp⟩ := hq
          have hS := hS.tr (hS9.mono (fun t h => by show 32 ≤ t; omega))
          have hfr := hfr.tr hq
          refine lv_iconst (v := nI 0) hx hb d_Model_point_484 (by decide) ?_
          exact q_iret E hr hlk (⟨_, rfl, Or.inl ⟨hok, hP.zfin hfr hw0 hm hS hB ⟨hbd.1, Nat.zero_le _, hbd.2.2⟩⟩⟩) hF d_Model_point_485
        · skip
          refine lv_bipush (v := nI 6) hx hb d_Model_point_470 (by decide) ?_
          exact q_iret E hr hlk (⟨_, rfl, Or.inl ⟨hok, hP.zfin hfr hw0 hm hS hB ⟨hbd.1, Nat.zero_le _, hbd.2.2⟩⟩⟩) hF d_Model_point_472
      | succ k ih =>
        intro  i   H   locs   ls   fd1 hi hfr hm hS hF hl
        refine lv_iload hx hb d_Model_point_413 (lv_at hl 0 rfl) ?_
        refine lv_bipush (v := nI 14) hx hb d_Model_point_415 (by decide) ?_
        refine lv_icmp_ge (tgt := 447) hx hb d_Model_point_417 (by decide) (fun h9 => absurd h9 (nI_ge (by omega) (by decide))) (fun _ => ?_)
        refine lv_aload_n hx hb d_Model_point_420 rfl (lv_at hl 2 rfl) ?_
        refine q_get (C := "KateDeskModel") (T := T_Model) (N := 14) (ci := 8) E hm.1 in_Model rfl 1 (by decide) w_1002 rfl rfl d_Model_point_421 ?_
        refine lv_sipush (v := nI 2142) hx hb d_Model_point_424 (by decide) ?_
        refine lv_iload hx hb d_Model_point_427 (lv_at hl 0 rfl) ?_
        refine lv_iadd hx hb d_Model_point_429 ?_
        refine lv_topi (fun t9 e9 => ?_)
        obtain rfl : t9 = nI (2142 + i) := e9.trans (nI_add _ _)
        refine lv_aload_n hx hb d_Model_point_430 rfl (lv_at hl 2 rfl) ?_
        refine q_get (C := "KateDeskModel") (T := T_Model) (N := 14) (ci := 8) E hm.1 in_Model rfl 2 (by decide) w_1003 rfl rfl d_Model_point_431 ?_
        refine lv_bipush (v := nI 14) hx hb d_Model_point_434 (by decide) ?_
        refine lv_iload hx hb d_Model_point_436 (lv_at hl 0 rfl) ?_
        refine lv_iadd hx hb d_Model_point_438 ?_
        refine lv_topi (fun t9 e9 => ?_)
        obtain rfl : t9 = nI (14 + i) := e9.trans (nI_add _ _)
        refine q_lald (N := 28) (f := kPr) E hm.2.1 (14 + i) rfl (by omega) (by decide) d_Model_point_439 ?_
        have hdv : dg (kPr (14 + i)) := dg_kPr _ (by omega)
        refine q_last E hm.2.2.2.2.1 hm.2.2.2.2.2.2.1 hF (2142 + i) rfl (by omega) (by decide) d_Model_point_440 (fun H1 locs hq hf2 hF => ?_)
        have hm := hm.step hK (hq.mono (fun q h => Or.inl h)) hf2 ((hm.2.2.2.2.2.1).upd hdv)
        have hfr := hfr.tr (kjR1 hq)
        have hS := hS.um (s := 153) hm (by show 32 ≤ _; decide) (by omega)
        refine lv_iinc (k := 0) (v := nI (i + 1)) (lv' := [(5, .int (nI (i + 1))), (2, .int (nI tn)), (0, .ref mo), (1, .int (nI k1))]) hx hb d_Model_point_441 hl rfl (i_inc i) (by decide) rfl (fun ls hl => ?_)
        refine lv_goto (tgt := 413) hx hb d_Model_point_444 (by decide) ?_
        have hl : lv_has ls 6 [(5, .int (nI (i + 1))), (2, .int (nI tn)), (0, .ref mo), (1, .int (nI k1))] := lv_sub hl [0, 1, 2, 3] rfl
        exact ih (i + 1) _ _ ls _ (by omega) hfr hm hS hF hl
    have s375 : ∀ (H : Heap) (locs : List Loc) (ls : Array Slot) (fd1 : Nat → Int64) (x3 : Int32), FRM (MR mo) s.heap H → MS g n0 H mo 0 (nI pn) (nI 0) (nI wn) 0 14 fd1 → SAME fd fd1 (fun t => 32 ≤ t) → (∀ q ∈ locs, n0 q.base) → lv_has ls 6 [(3, .int x3), (2, .int (nI tn)), (0, .ref mo), (1, .int (nI k1))] → W p l e { frames := 6, cells := 0, slots := 0, locals := 143 } s m [.ref mo, .int a].toArray below meth c H locs 0 0 (MQ below (QcP (QI (fun r H H' => ((okP a (nI 1)) ∧ MV g n0 H' mo 0 pn 0 wn B) ∨ (¬ (okP a (nI 1)) ∧ MV g n0 H' mo 1 pn tn wn B)))) [.ref mo, .int a].toArray s 0 0 (fun q => n0 q)) (F0 m 375 ls []) := by
      intro  H   locs   ls   fd1   x3 hfr hm hS hF hl
      refine lv_aload_n hx hb d_Model_point_375 rfl (lv_at hl 2 rfl) ?_
      refine lv_sipush (v := nI 152) hx hb d_Model_point_376 (by decide) ?_
      refine lv_sipush (v := nI 149) hx hb d_Model_point_379 (by decide) ?_
      refine lv_sipush (v := nI 149) hx hb d_Model_point_382 (by decide) ?_
      refine q_cV (rest := []) E (c_Model_product l g n0 mo 152 149 149 0 (nI pn) (nI 0) (nI wn) 0 14 hw0  fd1 (by omega) (by omega) (by omega) ) w_1113 w_15 w_1110 w_1112 (bw_s 32 rfl) hd_Model_product rfl ⟨by decide, by decide⟩ (OB.recv E.2.2.2.2.2 (by rfl) hm.1) hm hF hl.1 rfl (Nat.le_of_ble_eq_true rfl) d_Model_point_385 ⟨by decide, by decide⟩ (qv (fun H1 locs hq hF => ?_))
      obtain ⟨hq, fd_3, hm, hpv, hv⟩ := hq
      have hS := hS.put hpv.1 (by show 32 ≤ _; omega)
      have hfr := hfr.tr (kjR hq)
      refine lv_aload_n hx hb d_Model_point_388 rfl (lv_at hl 2 rfl) ?_
      refine lv_sipush (v := nI 151) hx hb d_Model_point_389 (by decide) ?_
      refine lv_sipush (v := nI 152) hx hb d_Model_point_392 (by decide) ?_
      refine q_cV (rest := []) E (c_Model_isSame l g n0 mo 151 152 0 (nI pn) (nI 0) (nI wn) 0 14 hw0 fd_3 (by omega) (by omega)) w_1163 w_15 w_1160 w_1162 (bw_s 39 rfl) hd_Model_isSame rfl ⟨by decide, by decide⟩ (OB.recv E.2.2.2.2.2 (by rfl) hm.1) hm hF hl.1 rfl (Nat.le_of_ble_eq_true rfl) d_Model_point_395 ⟨by decide, by decide⟩ (qi (fun rz1 H2 locs hq hF => ?_))
      obtain ⟨hbrz1, hq⟩ := hq
      subst hq
      refine lv_if_ne (tgt := 403) hx hb d_Model_point_398 (by decide) (fun _ => ?_) (fun _ => ?_)
      · skip
        refine lv_aload_n hx hb d_Model_point_403 rfl (lv_at hl 2 rfl) ?_
        refine lv_sipush (v := nI 150) hx hb d_Model_point_404 (by decide) ?_
        refine q_cV (rest := []) E (c_Model_one l g n0 mo 150 0 (nI pn) (nI 0) (nI wn) 0 14 hw0  fd_3 (by omega) ) w_971 w_15 w_968 w_970 (bw_s 16 rfl) hd_Model_one rfl ⟨by decide, by decide⟩ (OB.recv E.2.2.2.2.2 (by rfl) hm.1) hm hF hl.1 rfl (Nat.le_of_ble_eq_true rfl) d_Model_point_407 ⟨by decide, by decide⟩ (qv (fun H3 locs hq hF => ?_))
        obtain ⟨hq, fd_4, hm, hpv⟩ := hq
        have hS := hS.put hpv.1 (by show 32 ≤ _; omega)
        have hfr := hfr.tr hq
        refine lv_iconst (v := nI 0) hx hb d_Model_point_410 (by decide) ?_
        refine lv_istore (lv' := [(5, .int (nI 0)), (3, .int x3), (2, .int (nI tn)), (0, .ref mo), (1, .int (nI k1))]) hx hb d_Model_point_411 hl (by decide) rfl (fun ls hl => ?_)
        have hl : lv_has ls 6 [(5, .int (nI 0)), (2, .int (nI tn)), (0, .ref mo), (1, .int (nI k1))] := lv_sub hl [0, 2, 3, 4] rfl
        exact ord 14 0 _ _ ls _ (by omega) hfr hm hS hF hl
      · skip
        refine lv_iconst (v := nI 5) hx hb d_Model_point_401 (by decide) ?_
        exact q_iret E hr hlk (⟨_, rfl, Or.inl ⟨hok, hP.zfin hfr hw0 hm hS hB ⟨hbd.1, Nat.zero_le _, hbd.2.2⟩⟩⟩) hF d_Model_point_402
    have s251 : ∀ (H : Heap) (locs : List Loc) (ls : Array Slot) (fd1 : Nat → Int64) (x3 : Int32), FRM (MR mo) s.heap H → MS g n0 H mo 0 (nI pn) (nI 0) (nI wn) 0 14 fd1 → SAME fd fd1 (fun t => 32 ≤ t) → (∀ q ∈ locs, n0 q.base) → lv_has ls 6 [(3, .int x3), (2, .int (nI tn)), (0, .ref mo), (1, .int (nI k1))] → W p l e { frames := 6, cells := 0, slots := 0, locals := 143 } s m [.ref mo, .int a].toArray below meth c H locs 0 0 (MQ below (QcP (QI (fun r H H' => ((okP a (nI 1)) ∧ MV g n0 H' mo 0 pn 0 wn B) ∨ (¬ (okP a (nI 1)) ∧ MV g n0 H' mo 1 pn tn wn B)))) [.ref mo, .int a].toArray s 0 0 (fun q => n0 q)) (F0 m 251 ls []) := by
      intro  H   locs   ls   fd1   x3 hfr hm hS hF hl
      refine lv_aload_n hx hb d_Model_point_251 rfl (lv_at hl 2 rfl) ?_
      refine lv_sipush (v := nI 151) hx hb d_Model_point_252 (by decide) ?_
      refine lv_sipush (v := nI 148) hx hb d_Model_point_255 (by decide) ?_
      refine lv_sipush (v := nI 148) hx hb d_Model_point_258 (by decide) ?_
      refine q_cV (rest := []) E (c_Model_product l g n0 mo 151 148 148 0 (nI pn) (nI 0) (nI wn) 0 14 hw0  fd1 (by omega) (by omega) (by omega) ) w_1113 w_15 w_1110 w_1112 (bw_s 32 rfl) hd_Model_product rfl ⟨by decide, by decide⟩ (OB.recv E.2.2.2.2.2 (by rfl) hm.1) hm hF hl.1 rfl (Nat.le_of_ble_eq_true rfl) d_Model_point_261 ⟨by decide, by decide⟩ (qv (fun H1 locs hq hF => ?_))
      obtain ⟨hq, fd_5, hm, hpv, hv⟩ := hq
      have hS := hS.put hpv.1 (by show 32 ≤ _; omega)
      have hfr := hfr.tr (kjR hq)
      refine lv_aload_n hx hb d_Model_point_264 rfl (lv_at hl 2 rfl) ?_
      refine lv_sipush (v := nI 151) hx hb d_Model_point_265 (by decide) ?_
      refine lv_sipush (v := nI 151) hx hb d_Model_point_268 (by decide) ?_
      refine lv_sipush (v := nI 148) hx hb d_Model_point_271 (by decide) ?_
      refine q_cV (rest := []) E (c_Model_product l g n0 mo 151 151 148 0 (nI pn) (nI 0) (nI wn) 0 14 hw0  fd_5 (by omega) (by omega) (by omega) ) w_1113 w_15 w_1110 w_1112 (bw_s 32 rfl) hd_Model_product rfl ⟨by decide, by decide⟩ (OB.recv E.2.2.2.2.2 (by rfl) hm.1) hm hF hl.1 rfl (Nat.le_of_ble_eq_true rfl) d_Model_point_274 ⟨by decide, by decide⟩ (qv (fun H2 locs hq hF => ?_))
      obtain ⟨hq, fd_6, hm, hpv, hv⟩ := hq
      have hS := hS.put hpv.1 (by show 32 ≤ _; omega)
      have hfr := hfr.tr (kjR hq)
      refine lv_aload_n hx hb d_Model_point_277 rfl (lv_at hl 2 rfl) ?_
      refine lv_sipush (v := nI 152) hx hb d_Model_point_278 (by decide) ?_
      refine lv_ldc2 (v := 4) hx hb E.2.2.2.1 (E.2.2.2.2.1 _ w_1155) d_Model_point_281 ?_
      refine q_cV (rest := []) E (S_Model_small l g n0 mo 152 4 0 (nI pn) (nI 0) (nI wn) 0 14 hw0 fd_6 (by omega) (by decide)) w_1084 w_15 w_1081 w_1083 (bw_s 28 rfl) hd_Model_small rfl ⟨by decide, by decide⟩ (OB.recv E.2.2.2.2.2 (by rfl) hm.1) hm hF hl.1 rfl (Nat.le_of_ble_eq_true rfl) d_Model_point_284 ⟨by decide, by decide⟩ (qv (fun H3 locs hq hF => ?_))
      obtain ⟨hq, fd_7, hm, hS9⟩ := hq
      have hS := hS.tr (hS9.mono (fun t h => by show 32 ≤ t; omega))
      have hfr := hfr.tr hq
      refine lv_aload_n hx hb d_Model_point_287 rfl (lv_at hl 2 rfl) ?_
      refine lv_sipush (v := nI 151) hx hb d_Model_point_288 (by decide) ?_
      refine lv_sipush (v := nI 151) hx hb d_Model_point_291 (by decide) ?_
      refine lv_sipush (v := nI 152) hx hb d_Model_point_294 (by decide) ?_
      refine q_cV (rest := []) E (c_Model_add l g n0 mo 151 151 152 0 (nI pn) (nI 0) (nI wn) 0 14 hw0  fd_7 (by omega) (by omega) (by omega) ) w_975 w_15 w_972 w_974 (bw_s 17 rfl) hd_Model_add rfl ⟨by decide, by decide⟩ (OB.recv E.2.2.2.2.2 (by rfl) hm.1) hm hF hl.1 rfl (Nat.le_of_ble_eq_true rfl) d_Model_point_297 ⟨by decide, by decide⟩ (qv (fun H4 locs hq hF => ?_))
      obtain ⟨hq, fd_8, hm, hpv, hv⟩ := hq
      have hS := hS.put hpv.1 (by show 32 ≤ _; omega)
      have hfr := hfr.tr (kjR hq)
      refine lv_iload_n hx hb d_Model_point_300 rfl (lv_at hl 1 rfl) ?_
      refine lv_bipush (v := nI 48) hx hb d_Model_point_301 (by decide) ?_
      refine lv_icmp_ne (tgt := 375) hx hb d_Model_point_303 (by decide) (fun _ => ?_) (fun _ => ?_)
      · skip
        have hl : lv_has ls 6 [(3, .int x3), (2, .int (nI tn)), (0, .ref mo), (1, .int (nI k1))] := lv_sub hl [0, 1, 2, 3] rfl
        exact s375 _ _ ls _ _ hfr hm hS hF hl
      · skip
        refine lv_aload_n hx hb d_Model_point_306 rfl (lv_at hl 2 rfl) ?_
        refine lv_sipush (v := nI 152) hx hb d_Model_point_307 (by decide) ?_
        refine lv_lconst (v := 1) hx hb d_Model_point_310 (by decide) ?_
        refine q_cV (rest := []) E (S_Model_primeAnd l g n0 mo 152 1 0 (nI pn) (nI 0) (nI wn) 0 14 hw0 fd_8 (by omega) (by decide)) w_1122 w_15 w_1119 w_1121 (bw_s 34 rfl) hd_Model_primeAnd rfl ⟨by decide, by decide⟩ (OB.recv E.2.2.2.2.2 (by rfl) hm.1) hm hF hl.1 rfl (Nat.le_of_ble_eq_true rfl) d_Model_point_311 ⟨by decide, by decide⟩ (qv (fun H5 locs hq hF => ?_))
        obtain ⟨hq, fd_9, hm, hS9⟩ := hq
        have hS := hS.tr (hS9.mono (fun t h => by show 32 ≤ t; omega))
        have hfr := hfr.tr hq
        refine lv_aload_n hx hb d_Model_point_314 rfl (lv_at hl 2 rfl) ?_
        refine lv_sipush (v := nI 152) hx hb d_Model_point_315 (by decide) ?_
        refine lv_iconst (v := nI 2) hx hb d_Model_point_318 (by decide) ?_
        refine q_cV (rest := []) E (S_Model_halves l g n0 mo 152 2 0 (nI pn) (nI 0) (nI wn) 0 14 hw0  fd_9 (by omega) (by omega) ) w_1144 w_15 w_1141 w_1143 (bw_s 37 rfl) hd_Model_halves rfl ⟨by decide, by decide⟩ (OB.recv E.2.2.2.2.2 (by rfl) hm.1) hm hF hl.1 rfl (Nat.le_of_ble_eq_true rfl) d_Model_point_319 ⟨by decide, by decide⟩ (qv (fun H6 locs hq hF => ?_))
        obtain ⟨hq, fd_10, hm, hS9⟩ := hq
        have hS := hS.tr (hS9.mono (fun t h => by show 32 ≤ t; omega))
        have hfr := hfr.tr hq
        refine lv_aload_n hx hb d_Model_point_322 rfl (lv_at hl 2 rfl) ?_
        refine lv_sipush (v := nI 149) hx hb d_Model_point_323 (by decide) ?_
        refine lv_sipush (v := nI 151) hx hb d_Model_point_326 (by decide) ?_
        refine lv_sipush (v := nI 152) hx hb d_Model_point_329 (by decide) ?_
        refine q_cV (rest := []) E (S_Model_raise l g n0 mo 149 151 152 0 (nI pn) (nI 0) (nI wn) 0 14 hw0  fd_10 (by omega) (by omega) (by omega) ) w_1126 w_15 w_1123 w_1125 (bw_s 35 rfl) hd_Model_raise rfl ⟨by decide, by decide⟩ (OB.recv E.2.2.2.2.2 (by rfl) hm.1) hm hF hl.1 rfl (Nat.le_of_ble_eq_true rfl) d_Model_point_332 ⟨by decide, by decide⟩ (qv (fun H7 locs hq hF => ?_))
        obtain ⟨hq, fd_11, hm, hS9⟩ := hq
        have hS := hS.tr (hS9.mono (fun t h => by show 32 ≤ t; omega))
        have hfr := hfr.tr hq
        refine lv_aload_n hx hb d_Model_point_335 rfl (lv_at hl 2 rfl) ?_
        refine lv_sipush (v := nI 149) hx hb d_Model_point_336 (by decide) ?_
        refine q_cV (rest := []) E (S_Model_isGreat l g n0 mo 149 0 (nI pn) (nI 0) (nI wn) 0 14 hw0 fd_11 (by omega)) w_1159 w_15 w_1156 w_1158 (bw_s 38 rfl) hd_Model_isGreat rfl ⟨by decide, by decide⟩ (OB.recv E.2.2.2.2.2 (by rfl) hm.1) hm hF hl.1 rfl (Nat.le_of_ble_eq_true rfl) d_Model_point_339 ⟨by decide, by decide⟩ (qi (fun rz1 H8 locs hq hF => ?_))
        obtain ⟨hbrz1, hq, fd_12, hm, hS9⟩ := hq
        have hS := hS.tr (hS9.mono (fun t h => by show 32 ≤ t; omega))
        have hfr := hfr.tr hq
        refine lv_iload_n hx hb d_Model_point_342 rfl (lv_at hl 0 rfl) ?_
        refine lv_iconst (v := nI 5) hx hb d_Model_point_343 (by decide) ?_
        refine lv_icmp_ne (tgt := 351) hx hb d_Model_point_344 (by decide) (fun _ => ?_) (fun _ => ?_)
        · skip
          refine lv_iconst (v := nI 0) hx hb d_Model_point_351 (by decide) ?_
          refine lv_icmp_eq (tgt := 375) hx hb d_Model_point_352 (by decide) (fun _ => ?_) (fun _ => ?_)
          · skip
            have hl : lv_has ls 6 [(3, .int x3), (2, .int (nI tn)), (0, .ref mo), (1, .int (nI k1))] := lv_sub hl [0, 1, 2, 3] rfl
            exact s375 _ _ ls _ _ hfr hm hS hF hl
          · skip
            refine lv_aload_n hx hb d_Model_point_355 rfl (lv_at hl 2 rfl) ?_
            refine lv_sipush (v := nI 152) hx hb d_Model_point_356 (by decide) ?_
            refine q_cV (rest := []) E (c_Model_zero l g n0 mo 152 0 (nI pn) (nI 0) (nI wn) 0 14 hw0  fd_12 (by omega) ) w_1000 w_15 w_997 w_999 (bw_s 23 rfl) hd_Model_zero rfl ⟨by decide, by decide⟩ (OB.recv E.2.2.2.2.2 (by rfl) hm.1) hm hF hl.1 rfl (Nat.le_of_ble_eq_true rfl) d_Model_point_359 ⟨by decide, by decide⟩ (qv (fun H9 locs hq hF => ?_))
            obtain ⟨hq, fd_13, hm, hpv⟩ := hq
            have hS := hS.put hpv.1 (by show 32 ≤ _; omega)
            have hfr := hfr.tr hq
            refine lv_aload_n hx hb d_Model_point_362 rfl (lv_at hl 2 rfl) ?_
            refine lv_sipush (v := nI 149) hx hb d_Model_point_363 (by decide) ?_
            refine lv_sipush (v := nI 152) hx hb d_Model_point_366 (by decide) ?_
            refine lv_sipush (v := nI 149) hx hb d_Model_point_369 (by decide) ?_
            refine q_cV (rest := []) E (c_Model_less l g n0 mo 149 152 149 0 (nI pn) (nI 0) (nI wn) 0 14 hw0  fd_13 (by omega) (by omega) (by omega) ) w_1109 w_15 w_1106 w_1108 (bw_s 31 rfl) hd_Model_less rfl ⟨by decide, by decide⟩ (OB.recv E.2.2.2.2.2 (by rfl) hm.1) hm hF hl.1 rfl (Nat.le_of_ble_eq_true rfl) d_Model_point_372 ⟨by decide, by decide⟩ (qv (fun H10 locs hq hF => ?_))
            obtain ⟨hq, fd_14, hm, hpv, hv⟩ := hq
            have hS := hS.put hpv.1 (by show 32 ≤ _; omega)
            have hfr := hfr.tr (kjR hq)
            have hl : lv_has ls 6 [(3, .int x3), (2, .int (nI tn)), (0, .ref mo), (1, .int (nI k1))] := lv_sub hl [0, 1, 2, 3] rfl
            exact s375 _ _ ls _ _ hfr hm hS hF hl
        · skip
          refine lv_iconst (v := nI 1) hx hb d_Model_point_347 (by decide) ?_
          refine lv_goto (tgt := 352) hx hb d_Model_point_348 (by decide) ?_
          refine lv_icmp_eq (tgt := 375) hx hb d_Model_point_352 (by decide) (fun _ => ?_) (fun _ => ?_)
          · skip
            have hl : lv_has ls 6 [(3, .int x3), (2, .int (nI tn)), (0, .ref mo), (1, .int (nI k1))] := lv_sub hl [0, 1, 2, 3] rfl
            exact s375 _ _ ls _ _ hfr hm hS hF hl
          · skip
            refine lv_aload_n hx hb d_Model_point_355 rfl (lv_at hl 2 rfl) ?_
            refine lv_sipush (v := nI 152) hx hb d_Model_point_356 (by decide) ?_
            refine q_cV (rest := []) E (c_Model_zero l g n0 mo 152 0 (nI pn) (nI 0) (nI wn) 0 14 hw0  fd_12 (by omega) ) w_1000 w_15 w_997 w_999 (bw_s 23 rfl) hd_Model_zero rfl ⟨by decide, by decide⟩ (OB.recv E.2.2.2.2.2 (by rfl) hm.1) hm hF hl.1 rfl (Nat.le_of_ble_eq_true rfl) d_Model_point_359 ⟨by decide, by decide⟩ (qv (fun H9 locs hq hF => ?_))
            obtain ⟨hq, fd_15, hm, hpv⟩ := hq
            have hS := hS.put hpv.1 (by show 32 ≤ _; omega)
            have hfr := hfr.tr hq
            refine lv_aload_n hx hb d_Model_point_362 rfl (lv_at hl 2 rfl) ?_
            refine lv_sipush (v := nI 149) hx hb d_Model_point_363 (by decide) ?_
            refine lv_sipush (v := nI 152) hx hb d_Model_point_366 (by decide) ?_
            refine lv_sipush (v := nI 149) hx hb d_Model_point_369 (by decide) ?_
            refine q_cV (rest := []) E (c_Model_less l g n0 mo 149 152 149 0 (nI pn) (nI 0) (nI wn) 0 14 hw0  fd_15 (by omega) (by omega) (by omega) ) w_1109 w_15 w_1106 w_1108 (bw_s 31 rfl) hd_Model_less rfl ⟨by decide, by decide⟩ (OB.recv E.2.2.2.2.2 (by rfl) hm.1) hm hF hl.1 rfl (Nat.le_of_ble_eq_true rfl) d_Model_point_372 ⟨by decide, by decide⟩ (qv (fun H10 locs hq hF => ?_))
            obtain ⟨hq, fd_16, hm, hpv, hv⟩ := hq
            have hS := hS.put hpv.1 (by show 32 ≤ _; omega)
            have hfr := hfr.tr (kjR hq)
            have hl : lv_has ls 6 [(3, .int x3), (2, .int (nI tn)), (0, .ref mo), (1, .int (nI k1))] := lv_sub hl [0, 1, 2, 3] rfl
            exact s375 _ _ ls _ _ hfr hm hS hF hl
    have s229 : ∀ (H : Heap) (locs : List Loc) (ls : Array Slot) (fd1 : Nat → Int64) (x3 : Int32), FRM (MR mo) s.heap H → MS g n0 H mo 0 (nI pn) (nI 0) (nI wn) 0 14 fd1 → SAME fd fd1 (fun t => 32 ≤ t) → (∀ q ∈ locs, n0 q.base) → lv_has ls 6 [(3, .int x3), (2, .int (nI tn)), (0, .ref mo), (1, .int (nI k1))] → W p l e { frames := 6, cells := 0, slots := 0, locals := 143 } s m [.ref mo, .int a].toArray below meth c H locs 0 0 (MQ below (QcP (QI (fun r H H' => ((okP a (nI 1)) ∧ MV g n0 H' mo 0 pn 0 wn B) ∨ (¬ (okP a (nI 1)) ∧ MV g n0 H' mo 1 pn tn wn B)))) [.ref mo, .int a].toArray s 0 0 (fun q => n0 q)) (F0 m 229 ls []) := by
      intro  H   locs   ls   fd1   x3 hfr hm hS hF hl
      refine lv_aload_n hx hb d_Model_point_229 rfl (lv_at hl 2 rfl) ?_
      refine lv_sipush (v := nI 148) hx hb d_Model_point_230 (by decide) ?_
      refine q_cV (rest := []) E (v_Model_isNumber l g n0 mo 148 0 (nI pn) (nI 0) (nI wn) 0 14 hw0 fd1 (by omega)) w_1072 w_15 w_1069 w_1071 (bw_s 26 rfl) hd_Model_isNumber rfl ⟨by decide, by decide⟩ (OB.recv E.2.2.2.2.2 (by rfl) hm.1) hm hF hl.1 rfl (Nat.le_of_ble_eq_true rfl) d_Model_point_233 ⟨by decide, by decide⟩ (qi (fun rz1 H1 locs hq hF => ?_))
      obtain ⟨hbrz1, hq⟩ := hq
      subst hq
      refine lv_if_eq (tgt := 249) hx hb d_Model_point_236 (by decide) (fun _ => ?_) (fun _ => ?_)
      · skip
        refine lv_iconst (v := nI 4) hx hb d_Model_point_249 (by decide) ?_
        exact q_iret E hr hlk (⟨_, rfl, Or.inl ⟨hok, hP.zfin hfr hw0 hm hS hB ⟨hbd.1, Nat.zero_le _, hbd.2.2⟩⟩⟩) hF d_Model_point_250
      · skip
        refine lv_aload_n hx hb d_Model_point_239 rfl (lv_at hl 2 rfl) ?_
        refine lv_sipush (v := nI 149) hx hb d_Model_point_240 (by decide) ?_
        refine q_cV (rest := []) E (v_Model_isNumber l g n0 mo 149 0 (nI pn) (nI 0) (nI wn) 0 14 hw0 fd1 (by omega)) w_1072 w_15 w_1069 w_1071 (bw_s 26 rfl) hd_Model_isNumber rfl ⟨by decide, by decide⟩ (OB.recv E.2.2.2.2.2 (by rfl) hm.1) hm hF hl.1 rfl (Nat.le_of_ble_eq_true rfl) d_Model_point_243 ⟨by decide, by decide⟩ (qi (fun rz2 H2 locs hq hF => ?_))
        obtain ⟨hbrz2, hq⟩ := hq
        subst hq
        refine lv_if_ne (tgt := 251) hx hb d_Model_point_246 (by decide) (fun _ => ?_) (fun _ => ?_)
        · skip
          have hl : lv_has ls 6 [(3, .int x3), (2, .int (nI tn)), (0, .ref mo), (1, .int (nI k1))] := lv_sub hl [0, 1, 2, 3] rfl
          exact s251 _ _ ls _ _ hfr hm hS hF hl
        · skip
          refine lv_iconst (v := nI 4) hx hb d_Model_point_249 (by decide) ?_
          exact q_iret E hr hlk (⟨_, rfl, Or.inl ⟨hok, hP.zfin hfr hw0 hm hS hB ⟨hbd.1, Nat.zero_le _, hbd.2.2⟩⟩⟩) hF d_Model_point_250
    have s186 : ∀ (H : Heap) (locs : List Loc) (ls : Array Slot) (fd1 : Nat → Int64) (x3 : Int32), FRM (MR mo) s.heap H → MS g n0 H mo 0 (nI pn) (nI 0) (nI wn) 0 14 fd1 → SAME fd fd1 (fun t => 32 ≤ t) → (∀ q ∈ locs, n0 q.base) → lv_has ls 6 [(3, .int x3), (2, .int (nI tn)), (0, .ref mo), (1, .int (nI k1))] → W p l e { frames := 6, cells := 0, slots := 0, locals := 143 } s m [.ref mo, .int a].toArray below meth c H locs 0 0 (MQ below (QcP (QI (fun r H H' => ((okP a (nI 1)) ∧ MV g n0 H' mo 0 pn 0 wn B) ∨ (¬ (okP a (nI 1)) ∧ MV g n0 H' mo 1 pn tn wn B)))) [.ref mo, .int a].toArray s 0 0 (fun q => n0 q)) (F0 m 186 ls []) := by
      intro  H   locs   ls   fd1   x3 hfr hm hS hF hl
      refine lv_iload_n hx hb d_Model_point_186 rfl (lv_at hl 0 rfl) ?_
      refine lv_bipush (v := nI 6) hx hb d_Model_point_187 (by decide) ?_
      refine lv_icmp_eq (tgt := 197) hx hb d_Model_point_189 (by decide) (fun _ => ?_) (fun _ => ?_)
      · skip
        refine lv_aload_n hx hb d_Model_point_197 rfl (lv_at hl 2 rfl) ?_
        refine lv_sipush (v := nI 148) hx hb d_Model_point_198 (by decide) ?_
        refine q_cV (rest := []) E (c_Model_isZero l g n0 mo 148 0 (nI pn) (nI 0) (nI wn) 0 14 hw0 fd1 (by omega)) w_1105 w_15 w_1102 w_1104 (bw_s 30 rfl) hd_Model_isZero rfl ⟨by decide, by decide⟩ (OB.recv E.2.2.2.2.2 (by rfl) hm.1) hm hF hl.1 rfl (Nat.le_of_ble_eq_true rfl) d_Model_point_201 ⟨by decide, by decide⟩ (qi (fun rz1 H1 locs hq hF => ?_))
        obtain ⟨hbrz1, hq⟩ := hq
        subst hq
        refine lv_if_eq (tgt := 217) hx hb d_Model_point_204 (by decide) (fun _ => ?_) (fun _ => ?_)
        · skip
          refine lv_iconst (v := nI 3) hx hb d_Model_point_217 (by decide) ?_
          exact q_iret E hr hlk (⟨_, rfl, Or.inl ⟨hok, hP.zfin hfr hw0 hm hS hB ⟨hbd.1, Nat.zero_le _, hbd.2.2⟩⟩⟩) hF d_Model_point_218
        · skip
          refine lv_aload_n hx hb d_Model_point_207 rfl (lv_at hl 2 rfl) ?_
          refine lv_sipush (v := nI 149) hx hb d_Model_point_208 (by decide) ?_
          refine q_cV (rest := []) E (c_Model_isZero l g n0 mo 149 0 (nI pn) (nI 0) (nI wn) 0 14 hw0 fd1 (by omega)) w_1105 w_15 w_1102 w_1104 (bw_s 30 rfl) hd_Model_isZero rfl ⟨by decide, by decide⟩ (OB.recv E.2.2.2.2.2 (by rfl) hm.1) hm hF hl.1 rfl (Nat.le_of_ble_eq_true rfl) d_Model_point_211 ⟨by decide, by decide⟩ (qi (fun rz2 H2 locs hq hF => ?_))
          obtain ⟨hbrz2, hq⟩ := hq
          subst hq
          refine lv_if_ne (tgt := 219) hx hb d_Model_point_214 (by decide) (fun _ => ?_) (fun _ => ?_)
          · skip
            refine lv_aload_n hx hb d_Model_point_219 rfl (lv_at hl 2 rfl) ?_
            refine lv_iload_n hx hb d_Model_point_220 rfl (lv_at hl 3 rfl) ?_
            refine q_cS (rest := [.ref mo]) E (c_Model_slot l g n0 (nI k1)) w_1154 w_15 w_1152 w_1153 hd_Model_slot rfl ⟨by decide, by decide⟩ trivial hF hl.1 rfl (Nat.le_of_ble_eq_true rfl) d_Model_point_221 ⟨by decide, by decide⟩ (qi (fun rs H3 locs hq hF => ?_))
            obtain ⟨hrs, hq9⟩ := hq
            subst hrs
            subst hq9
            refine lv_topi (fun t9 e9 => ?_)
            obtain rfl : t9 = nI (32 + 3 * k1) := e9.trans (by rw [pk_mul, nI_add])
            refine q_cV (rest := []) E (c_Model_nothing l g n0 mo (32 + 3 * k1) 0 (nI pn) (nI 0) (nI wn) 0 14 hw0 fd1 (by omega)) w_996 w_15 w_993 w_995 (bw_s 22 rfl) hd_Model_nothing rfl ⟨by decide, by decide⟩ (OB.recv E.2.2.2.2.2 (by rfl) hm.1) hm hF hl.1 rfl (Nat.le_of_ble_eq_true rfl) d_Model_point_224 ⟨by decide, by decide⟩ (qv (fun H4 locs hq hF => ?_))
            obtain ⟨hq, fd_17, hm, hS9, hz1, hone, hz2⟩ := hq
            have hS := hS.tr (hS9.mono (fun t h => by show 32 ≤ t; omega))
            have hfr := hfr.tr hq
            refine lv_iconst (v := nI 0) hx hb d_Model_point_227 (by decide) ?_
            exact q_iret E hr hlk (⟨_, rfl, Or.inl ⟨hok, hP.zfin hfr hw0 hm hS hB ⟨hbd.1, Nat.zero_le _, hbd.2.2⟩⟩⟩) hF d_Model_point_228
          · skip
            refine lv_iconst (v := nI 3) hx hb d_Model_point_217 (by decide) ?_
            exact q_iret E hr hlk (⟨_, rfl, Or.inl ⟨hok, hP.zfin hfr hw0 hm hS hB ⟨hbd.1, Nat.zero_le _, hbd.2.2⟩⟩⟩) hF d_Model_point_218
      · skip
        refine lv_iload_n hx hb d_Model_point_192 rfl (lv_at hl 0 rfl) ?_
        refine lv_iconst (v := nI 2) hx hb d_Model_point_193 (by decide) ?_
        refine lv_icmp_ne (tgt := 229) hx hb d_Model_point_194 (by decide) (fun _ => ?_) (fun _ => ?_)
        · skip
          have hl : lv_has ls 6 [(3, .int x3), (2, .int (nI tn)), (0, .ref mo), (1, .int (nI k1))] := lv_sub hl [0, 1, 2, 3] rfl
          exact s229 _ _ ls _ _ hfr hm hS hF hl
        · skip
          refine lv_aload_n hx hb d_Model_point_197 rfl (lv_at hl 2 rfl) ?_
          refine lv_sipush (v := nI 148) hx hb d_Model_point_198 (by decide) ?_
          refine q_cV (rest := []) E (c_Model_isZero l g n0 mo 148 0 (nI pn) (nI 0) (nI wn) 0 14 hw0 fd1 (by omega)) w_1105 w_15 w_1102 w_1104 (bw_s 30 rfl) hd_Model_isZero rfl ⟨by decide, by decide⟩ (OB.recv E.2.2.2.2.2 (by rfl) hm.1) hm hF hl.1 rfl (Nat.le_of_ble_eq_true rfl) d_Model_point_201 ⟨by decide, by decide⟩ (qi (fun rz1 H1 locs hq hF => ?_))
          obtain ⟨hbrz1, hq⟩ := hq
          subst hq
          refine lv_if_eq (tgt := 217) hx hb d_Model_point_204 (by decide) (fun _ => ?_) (fun _ => ?_)
          · skip
            refine lv_iconst (v := nI 3) hx hb d_Model_point_217 (by decide) ?_
            exact q_iret E hr hlk (⟨_, rfl, Or.inl ⟨hok, hP.zfin hfr hw0 hm hS hB ⟨hbd.1, Nat.zero_le _, hbd.2.2⟩⟩⟩) hF d_Model_point_218
          · skip
            refine lv_aload_n hx hb d_Model_point_207 rfl (lv_at hl 2 rfl) ?_
            refine lv_sipush (v := nI 149) hx hb d_Model_point_208 (by decide) ?_
            refine q_cV (rest := []) E (c_Model_isZero l g n0 mo 149 0 (nI pn) (nI 0) (nI wn) 0 14 hw0 fd1 (by omega)) w_1105 w_15 w_1102 w_1104 (bw_s 30 rfl) hd_Model_isZero rfl ⟨by decide, by decide⟩ (OB.recv E.2.2.2.2.2 (by rfl) hm.1) hm hF hl.1 rfl (Nat.le_of_ble_eq_true rfl) d_Model_point_211 ⟨by decide, by decide⟩ (qi (fun rz2 H2 locs hq hF => ?_))
            obtain ⟨hbrz2, hq⟩ := hq
            subst hq
            refine lv_if_ne (tgt := 219) hx hb d_Model_point_214 (by decide) (fun _ => ?_) (fun _ => ?_)
            · skip
              refine lv_aload_n hx hb d_Model_point_219 rfl (lv_at hl 2 rfl) ?_
              refine lv_iload_n hx hb d_Model_point_220 rfl (lv_at hl 3 rfl) ?_
              refine q_cS (rest := [.ref mo]) E (c_Model_slot l g n0 (nI k1)) w_1154 w_15 w_1152 w_1153 hd_Model_slot rfl ⟨by decide, by decide⟩ trivial hF hl.1 rfl (Nat.le_of_ble_eq_true rfl) d_Model_point_221 ⟨by decide, by decide⟩ (qi (fun rs H3 locs hq hF => ?_))
              obtain ⟨hrs, hq9⟩ := hq
              subst hrs
              subst hq9
              refine lv_topi (fun t9 e9 => ?_)
              obtain rfl : t9 = nI (32 + 3 * k1) := e9.trans (by rw [pk_mul, nI_add])
              refine q_cV (rest := []) E (c_Model_nothing l g n0 mo (32 + 3 * k1) 0 (nI pn) (nI 0) (nI wn) 0 14 hw0 fd1 (by omega)) w_996 w_15 w_993 w_995 (bw_s 22 rfl) hd_Model_nothing rfl ⟨by decide, by decide⟩ (OB.recv E.2.2.2.2.2 (by rfl) hm.1) hm hF hl.1 rfl (Nat.le_of_ble_eq_true rfl) d_Model_point_224 ⟨by decide, by decide⟩ (qv (fun H4 locs hq hF => ?_))
              obtain ⟨hq, fd_18, hm, hS9, hz1, hone, hz2⟩ := hq
              have hS := hS.tr (hS9.mono (fun t h => by show 32 ≤ t; omega))
              have hfr := hfr.tr hq
              refine lv_iconst (v := nI 0) hx hb d_Model_point_227 (by decide) ?_
              exact q_iret E hr hlk (⟨_, rfl, Or.inl ⟨hok, hP.zfin hfr hw0 hm hS hB ⟨hbd.1, Nat.zero_le _, hbd.2.2⟩⟩⟩) hF d_Model_point_228
            · skip
              refine lv_iconst (v := nI 3) hx hb d_Model_point_217 (by decide) ?_
              exact q_iret E hr hlk (⟨_, rfl, Or.inl ⟨hok, hP.zfin hfr hw0 hm hS hB ⟨hbd.1, Nat.zero_le _, hbd.2.2⟩⟩⟩) hF d_Model_point_218
    have rd : ∀ (k : Nat) (i : Nat) (H : Heap) (locs : List Loc) (ls : Array Slot) (fd1 : Nat → Int64) (x3 : Int32), i + k = tn → FRM (MR mo) s.heap H → MS g n0 H mo 0 (nI pn) (nI 0) (nI wn) 0 14 fd1 → SAME fd fd1 (fun t => 32 ≤ t) → (∀ q ∈ locs, n0 q.base) → lv_has ls 6 [(5, .int (nI i)), (3, .int x3), (2, .int (nI tn)), (0, .ref mo), (1, .int (nI k1))] → W p l e { frames := 6, cells := 0, slots := 0, locals := 143 } s m [.ref mo, .int a].toArray below meth c H locs 0 0 (MQ below (QcP (QI (fun r H H' => ((okP a (nI 1)) ∧ MV g n0 H' mo 0 pn 0 wn B) ∨ (¬ (okP a (nI 1)) ∧ MV g n0 H' mo 1 pn tn wn B)))) [.ref mo, .int a].toArray s 0 0 (fun q => n0 q)) (F0 m 122 ls []) := by
      intro k
      induction k with
      | zero =>
        intro  i   H   locs   ls   fd1   x3 hi hfr hm hS hF hl
        obtain rfl : tn = i := by omega
        refine lv_iload hx hb d_Model_point_122 (lv_at hl 0 rfl) ?_
        refine lv_iload_n hx hb d_Model_point_124 rfl (lv_at hl 2 rfl) ?_
        refine lv_icmp_ge (tgt := 186) hx hb d_Model_point_125 (by decide) (fun _ => ?_) (fun h9 => absurd (nI_le (Nat.le_refl _) (by omega)) h9)
        have hl : lv_has ls 6 [(3, .int x3), (2, .int (nI tn)), (0, .ref mo), (1, .int (nI k1))] := lv_sub hl [1, 2, 3, 4] rfl
        exact s186 _ _ ls _ _ hfr hm hS hF hl
      | succ k ih =>
        intro  i   H   locs   ls   fd1   x3 hi hfr hm hS hF hl
        refine lv_iload hx hb d_Model_point_122 (lv_at hl 0 rfl) ?_
        refine lv_iload_n hx hb d_Model_point_124 rfl (lv_at hl 2 rfl) ?_
        refine lv_icmp_ge (tgt := 186) hx hb d_Model_point_125 (by decide) (fun h9 => absurd h9 (nI_ge (by omega) (by omega))) (fun _ => ?_)
        refine lv_aload_n hx hb d_Model_point_128 rfl (lv_at hl 3 rfl) ?_
        refine lv_iload hx hb d_Model_point_129 (lv_at hl 0 rfl) ?_
        refine lv_bipush (v := nI 48) hx hb d_Model_point_131 (by decide) ?_
        refine lv_icmp_ge (tgt := 142) hx hb d_Model_point_133 (by decide) (fun _ => ?_) (fun _ => ?_)
        · skip
          refine lv_sipush (v := nI 149) hx hb d_Model_point_142 (by decide) ?_
          refine lv_bipush (v := nI 47) hx hb d_Model_point_145 (by decide) ?_
          refine lv_iload hx hb d_Model_point_147 (lv_at hl 0 rfl) ?_
          refine lv_bipush (v := nI 48) hx hb d_Model_point_149 (by decide) ?_
          refine lv_irem hx hb d_Model_point_151 (by decide) ?_
          refine lv_topi (fun t9 e9 => ?_)
          obtain rfl : t9 = nI (i - i / 48 * 48) := e9.trans (rem48 (by omega))
          refine lv_isub hx hb d_Model_point_152 ?_
          refine lv_topi (fun t9 e9 => ?_)
          obtain rfl : t9 = nI (47 - (i - i / 48 * 48)) := e9.trans (pk_sub (by omega))
          refine lv_iload hx hb d_Model_point_153 (lv_at hl 0 rfl) ?_
          refine lv_if_ne (tgt := 170) hx hb d_Model_point_155 (by decide) (fun _ => ?_) (fun _ => ?_)
          · skip
            refine lv_aload_n hx hb d_Model_point_170 rfl (lv_at hl 3 rfl) ?_
            refine q_get (C := "KateDeskModel") (T := T_Model) (N := 14) (ci := 8) E hm.1 in_Model rfl 9 (by decide) w_1010 rfl rfl d_Model_point_171 ?_
            refine lv_iload hx hb d_Model_point_174 (lv_at hl 0 rfl) ?_
            obtain ⟨fq, hfq⟩ := id (hP.2.2.2.1.imp (fun f hf => AI.off hfr (show ¬ MR mo (mo + 6) by unfold MR; omega) hf))
            refine q_iald E hfq i rfl (by omega) (by decide) d_Model_point_176 ?_
            refine q_cV (rest := []) E (S_Model_setByte l g n0 mo 149 (47 - (i - i / 48 * 48)) (fq i) 0 (nI pn) (nI 0) (nI wn) 0 14 hw0 fd1 (by omega) (by omega)) w_1068 w_15 w_1065 w_1067 (bw_s 25 rfl) hd_Model_setByte rfl ⟨by decide, by decide⟩ (OB.recv E.2.2.2.2.2 (by rfl) hm.1) hm hF hl.1 rfl (Nat.le_of_ble_eq_true rfl) d_Model_point_177 ⟨by decide, by decide⟩ (qv (fun H1 locs hq hF => ?_))
            obtain ⟨hq, fd_19, hm, hS9⟩ := hq
            have hS := hS.tr (hS9.mono (fun t h => by show 32 ≤ t; omega))
            have hfr := hfr.tr hq
            refine lv_iinc (k := 0) (v := nI (i + 1)) (lv' := [(5, .int (nI (i + 1))), (3, .int x3), (2, .int (nI tn)), (0, .ref mo), (1, .int (nI k1))]) hx hb d_Model_point_180 hl rfl (i_inc i) (by decide) rfl (fun ls hl => ?_)
            refine lv_goto (tgt := 122) hx hb d_Model_point_183 (by decide) ?_
            have hl : lv_has ls 6 [(5, .int (nI (i + 1))), (3, .int x3), (2, .int (nI tn)), (0, .ref mo), (1, .int (nI k1))] := lv_sub hl [0, 1, 2, 3, 4] rfl
            exact ih (i + 1) _ _ ls _ _ (by omega) hfr hm hS hF hl
          · skip
            refine lv_aload_n hx hb d_Model_point_158 rfl (lv_at hl 3 rfl) ?_
            refine q_get (C := "KateDeskModel") (T := T_Model) (N := 14) (ci := 8) E hm.1 in_Model rfl 9 (by decide) w_1010 rfl rfl d_Model_point_159 ?_
            refine lv_iconst (v := nI 0) hx hb d_Model_point_162 (by decide) ?_
            obtain ⟨fq, hfq⟩ := id (hP.2.2.2.1.imp (fun f hf => AI.off hfr (show ¬ MR mo (mo + 6) by unfold MR; omega) hf))
            refine q_iald E hfq 0 rfl (by omega) (by decide) d_Model_point_163 ?_
            refine lv_bipush (v := nI 31) hx hb d_Model_point_164 (by decide) ?_
            refine lv_iand hx hb d_Model_point_166 ?_
            refine lv_goto (tgt := 177) hx hb d_Model_point_167 (by decide) ?_
            refine q_cV (rest := []) E (S_Model_setByte l g n0 mo 149 (47 - (i - i / 48 * 48)) ((fq 0) &&& (nI 31)) 0 (nI pn) (nI 0) (nI wn) 0 14 hw0 fd1 (by omega) (by omega)) w_1068 w_15 w_1065 w_1067 (bw_s 25 rfl) hd_Model_setByte rfl ⟨by decide, by decide⟩ (OB.recv E.2.2.2.2.2 (by rfl) hm.1) hm hF hl.1 rfl (Nat.le_of_ble_eq_true rfl) d_Model_point_177 ⟨by decide, by decide⟩ (qv (fun H1 locs hq hF => ?_))
            obtain ⟨hq, fd_20, hm, hS9⟩ := hq
            have hS := hS.tr (hS9.mono (fun t h => by show 32 ≤ t; omega))
            have hfr := hfr.tr hq
            refine lv_iinc (k := 0) (v := nI (i + 1)) (lv' := [(5, .int (nI (i + 1))), (3, .int x3), (2, .int (nI tn)), (0, .ref mo), (1, .int (nI k1))]) hx hb d_Model_point_180 hl rfl (i_inc i) (by decide) rfl (fun ls hl => ?_)
            refine lv_goto (tgt := 122) hx hb d_Model_point_183 (by decide) ?_
            have hl : lv_has ls 6 [(5, .int (nI (i + 1))), (3, .int x3), (2, .int (nI tn)), (0, .ref mo), (1, .int (nI k1))] := lv_sub hl [0, 1, 2, 3, 4] rfl
            exact ih (i + 1) _ _ ls _ _ (by omega) hfr hm hS hF hl
        · skip
          refine lv_sipush (v := nI 148) hx hb d_Model_point_136 (by decide) ?_
          refine lv_goto (tgt := 145) hx hb d_Model_point_139 (by decide) ?_
          refine lv_bipush (v := nI 47) hx hb d_Model_point_145 (by decide) ?_
          refine lv_iload hx hb d_Model_point_147 (lv_at hl 0 rfl) ?_
          refine lv_bipush (v := nI 48) hx hb d_Model_point_149 (by decide) ?_
          refine lv_irem hx hb d_Model_point_151 (by decide) ?_
          refine lv_topi (fun t9 e9 => ?_)
          obtain rfl : t9 = nI (i - i / 48 * 48) := e9.trans (rem48 (by omega))
          refine lv_isub hx hb d_Model_point_152 ?_
          refine lv_topi (fun t9 e9 => ?_)
          obtain rfl : t9 = nI (47 - (i - i / 48 * 48)) := e9.trans (pk_sub (by omega))
          refine lv_iload hx hb d_Model_point_153 (lv_at hl 0 rfl) ?_
          refine lv_if_ne (tgt := 170) hx hb d_Model_point_155 (by decide) (fun _ => ?_) (fun _ => ?_)
          · skip
            refine lv_aload_n hx hb d_Model_point_170 rfl (lv_at hl 3 rfl) ?_
            refine q_get (C := "KateDeskModel") (T := T_Model) (N := 14) (ci := 8) E hm.1 in_Model rfl 9 (by decide) w_1010 rfl rfl d_Model_point_171 ?_
            refine lv_iload hx hb d_Model_point_174 (lv_at hl 0 rfl) ?_
            obtain ⟨fq, hfq⟩ := id (hP.2.2.2.1.imp (fun f hf => AI.off hfr (show ¬ MR mo (mo + 6) by unfold MR; omega) hf))
            refine q_iald E hfq i rfl (by omega) (by decide) d_Model_point_176 ?_
            refine q_cV (rest := []) E (S_Model_setByte l g n0 mo 148 (47 - (i - i / 48 * 48)) (fq i) 0 (nI pn) (nI 0) (nI wn) 0 14 hw0 fd1 (by omega) (by omega)) w_1068 w_15 w_1065 w_1067 (bw_s 25 rfl) hd_Model_setByte rfl ⟨by decide, by decide⟩ (OB.recv E.2.2.2.2.2 (by rfl) hm.1) hm hF hl.1 rfl (Nat.le_of_ble_eq_true rfl) d_Model_point_177 ⟨by decide, by decide⟩ (qv (fun H1 locs hq hF => ?_))
            obtain ⟨hq, fd_21, hm, hS9⟩ := hq
            have hS := hS.tr (hS9.mono (fun t h => by show 32 ≤ t; omega))
            have hfr := hfr.tr hq
            refine lv_iinc (k := 0) (v := nI (i + 1)) (lv' := [(5, .int (nI (i + 1))), (3, .int x3), (2, .int (nI tn)), (0, .ref mo), (1, .int (nI k1))]) hx hb d_Model_point_180 hl rfl (i_inc i) (by decide) rfl (fun ls hl => ?_)
            refine lv_goto (tgt := 122) hx hb d_Model_point_183 (by decide) ?_
            have hl : lv_has ls 6 [(5, .int (nI (i + 1))), (3, .int x3), (2, .int (nI tn)), (0, .ref mo), (1, .int (nI k1))] := lv_sub hl [0, 1, 2, 3, 4] rfl
            exact ih (i + 1) _ _ ls _ _ (by omega) hfr hm hS hF hl
          · skip
            refine lv_aload_n hx hb d_Model_point_158 rfl (lv_at hl 3 rfl) ?_
            refine q_get (C := "KateDeskModel") (T := T_Model) (N := 14) (ci := 8) E hm.1 in_Model rfl 9 (by decide) w_1010 rfl rfl d_Model_point_159 ?_
            refine lv_iconst (v := nI 0) hx hb d_Model_point_162 (by decide) ?_
            obtain ⟨fq, hfq⟩ := id (hP.2.2.2.1.imp (fun f hf => AI.off hfr (show ¬ MR mo (mo + 6) by unfold MR; omega) hf))
            refine q_iald E hfq 0 rfl (by omega) (by decide) d_Model_point_163 ?_
            refine lv_bipush (v := nI 31) hx hb d_Model_point_164 (by decide) ?_
            refine lv_iand hx hb d_Model_point_166 ?_
            refine lv_goto (tgt := 177) hx hb d_Model_point_167 (by decide) ?_
            refine q_cV (rest := []) E (S_Model_setByte l g n0 mo 148 (47 - (i - i / 48 * 48)) ((fq 0) &&& (nI 31)) 0 (nI pn) (nI 0) (nI wn) 0 14 hw0 fd1 (by omega) (by omega)) w_1068 w_15 w_1065 w_1067 (bw_s 25 rfl) hd_Model_setByte rfl ⟨by decide, by decide⟩ (OB.recv E.2.2.2.2.2 (by rfl) hm.1) hm hF hl.1 rfl (Nat.le_of_ble_eq_true rfl) d_Model_point_177 ⟨by decide, by decide⟩ (qv (fun H1 locs hq hF => ?_))
            obtain ⟨hq, fd_22, hm, hS9⟩ := hq
            have hS := hS.tr (hS9.mono (fun t h => by show 32 ≤ t; omega))
            have hfr := hfr.tr hq
            refine lv_iinc (k := 0) (v := nI (i + 1)) (lv' := [(5, .int (nI (i + 1))), (3, .int x3), (2, .int (nI tn)), (0, .ref mo), (1, .int (nI k1))]) hx hb d_Model_point_180 hl rfl (i_inc i) (by decide) rfl (fun ls hl => ?_)
            refine lv_goto (tgt := 122) hx hb d_Model_point_183 (by decide) ?_
            have hl : lv_has ls 6 [(5, .int (nI (i + 1))), (3, .int x3), (2, .int (nI tn)), (0, .ref mo), (1, .int (nI k1))] := lv_sub hl [0, 1, 2, 3, 4] rfl
            exact ih (i + 1) _ _ ls _ _ (by omega) hfr hm hS hF hl
    have s100 : ∀ (H : Heap) (locs : List Loc) (ls : Array Slot) (fd1 : Nat → Int64) (x3 : Int32), FRM (MR mo) s.heap H → MS g n0 H mo 0 (nI pn) (nI 0) (nI wn) w9 n9 fd1 → SAME fd fd1 (fun t => 32 ≤ t) → (∀ q ∈ locs, n0 q.base) → lv_has ls 6 [(3, .int x3), (2, .int (nI tn)), (0, .ref mo), (1, .int (nI k1))] → W p l e { frames := 6, cells := 0, slots := 0, locals := 143 } s m [.ref mo, .int a].toArray below meth c H locs 0 0 (MQ below (QcP (QI (fun r H H' => ((okP a (nI 1)) ∧ MV g n0 H' mo 0 pn 0 wn B) ∨ (¬ (okP a (nI 1)) ∧ MV g n0 H' mo 1 pn tn wn B)))) [.ref mo, .int a].toArray s 0 0 (fun q => n0 q)) (F0 m 100 ls []) := by
      intro  H   locs   ls   fd1   x3 hfr hm hS hF hl
      refine lv_aload_n hx hb d_Model_point_100 rfl (lv_at hl 2 rfl) ?_
      refine lv_iconst (v := nI 0) hx hb d_Model_point_101 (by decide) ?_
      refine q_cV (rest := []) E (c_Model_use l g n0 mo 0 (nI pn) (nI 0) (nI wn) w9 n9 hw9 0 14 hw0 fd1 hmn) w_967 w_15 w_964 w_966 (bw_s 15 rfl) hd_Model_use rfl ⟨by decide, by decide⟩ (OB.recv E.2.2.2.2.2 (by rfl) hm.1) hm hF hl.1 rfl (Nat.le_of_ble_eq_true rfl) d_Model_point_102 ⟨by decide, by decide⟩ (qv (fun H1 locs hq hF => ?_))
      obtain ⟨hq, hm⟩ := hq
      have hfr := hfr.tr hq
      refine lv_aload_n hx hb d_Model_point_105 rfl (lv_at hl 2 rfl) ?_
      refine lv_sipush (v := nI 148) hx hb d_Model_point_106 (by decide) ?_
      refine q_cV (rest := []) E (c_Model_zero l g n0 mo 148 0 (nI pn) (nI 0) (nI wn) 0 14 hw0  fd1 (by omega) ) w_1000 w_15 w_997 w_999 (bw_s 23 rfl) hd_Model_zero rfl ⟨by decide, by decide⟩ (OB.recv E.2.2.2.2.2 (by rfl) hm.1) hm hF hl.1 rfl (Nat.le_of_ble_eq_true rfl) d_Model_point_109 ⟨by decide, by decide⟩ (qv (fun H2 locs hq hF => ?_))
      obtain ⟨hq, fd_23, hm, hpv⟩ := hq
      have hS := hS.put hpv.1 (by show 32 ≤ _; omega)
      have hfr := hfr.tr hq
      refine lv_aload_n hx hb d_Model_point_112 rfl (lv_at hl 2 rfl) ?_
      refine lv_sipush (v := nI 149) hx hb d_Model_point_113 (by decide) ?_
      refine q_cV (rest := []) E (c_Model_zero l g n0 mo 149 0 (nI pn) (nI 0) (nI wn) 0 14 hw0  fd_23 (by omega) ) w_1000 w_15 w_997 w_999 (bw_s 23 rfl) hd_Model_zero rfl ⟨by decide, by decide⟩ (OB.recv E.2.2.2.2.2 (by rfl) hm.1) hm hF hl.1 rfl (Nat.le_of_ble_eq_true rfl) d_Model_point_116 ⟨by decide, by decide⟩ (qv (fun H3 locs hq hF => ?_))
      obtain ⟨hq, fd_24, hm, hpv⟩ := hq
      have hS := hS.put hpv.1 (by show 32 ≤ _; omega)
      have hfr := hfr.tr hq
      refine lv_iconst (v := nI 0) hx hb d_Model_point_119 (by decide) ?_
      refine lv_istore (lv' := [(5, .int (nI 0)), (3, .int x3), (2, .int (nI tn)), (0, .ref mo), (1, .int (nI k1))]) hx hb d_Model_point_120 hl (by decide) rfl (fun ls hl => ?_)
      have hl : lv_has ls 6 [(5, .int (nI 0)), (3, .int x3), (2, .int (nI tn)), (0, .ref mo), (1, .int (nI k1))] := lv_sub hl [0, 1, 2, 3, 4] rfl
      exact rd tn 0 _ _ ls _ _ (by omega) hfr hm hS hF hl
    refine lv_iload_n hx hb d_Model_point_24 rfl (lv_at hl 0 rfl) ?_
    refine lv_bipush (v := nI 48) hx hb d_Model_point_25 (by decide) ?_
    refine lv_icmp_eq (tgt := 38) hx hb d_Model_point_27 (by decide) (fun _ => ?_) (fun _ => ?_)
    · skip
      refine lv_aload_n hx hb d_Model_point_38 rfl (lv_at hl 1 rfl) ?_
      refine q_get (C := "KateDeskModel") (T := T_Model) (N := 14) (ci := 8) E hm.1 in_Model rfl 9 (by decide) w_1010 rfl rfl d_Model_point_39 ?_
      refine lv_iconst (v := nI 0) hx hb d_Model_point_42 (by decide) ?_
      obtain ⟨fq, hfq⟩ := id (hP.2.2.2.1.imp (fun f hf => AI.off hfr (show ¬ MR mo (mo + 6) by unfold MR; omega) hf))
      refine q_iald E hfq 0 rfl (by omega) (by decide) d_Model_point_43 ?_
      refine lv_iconst (v := nI 5) hx hb d_Model_point_44 (by decide) ?_
      refine lv_ishr hx hb d_Model_point_45 ?_
      refine lv_topi (fun v1 _ => ?_)
      refine lv_istore_n (lv' := [(3, .int v1), (2, .int (nI tn)), (0, .ref mo), (1, .int (nI k1))]) hx hb d_Model_point_46 rfl hl (by decide) rfl (fun ls hl => ?_)
      refine lv_iload_n hx hb d_Model_point_47 rfl (lv_at hl 1 rfl) ?_
      refine lv_bipush (v := nI 48) hx hb d_Model_point_48 (by decide) ?_
      refine lv_icmp_ne (tgt := 77) hx hb d_Model_point_50 (by decide) (fun _ => ?_) (fun _ => ?_)
      · skip
        refine lv_iload_n hx hb d_Model_point_77 rfl (lv_at hl 0 rfl) ?_
        refine lv_if_eq (tgt := 86) hx hb d_Model_point_78 (by decide) (fun _ => ?_) (fun _ => ?_)
        · skip
          refine lv_iconst (v := nI 1) hx hb d_Model_point_86 (by decide) ?_
          refine lv_goto (tgt := 91) hx hb d_Model_point_87 (by decide) ?_
          refine lv_istore (lv' := [(4, .int (nI 1)), (3, .int v1), (2, .int (nI tn)), (0, .ref mo), (1, .int (nI k1))]) hx hb d_Model_point_91 hl (by decide) rfl (fun ls hl => ?_)
          refine lv_iload hx hb d_Model_point_93 (lv_at hl 0 rfl) ?_
          refine lv_if_ne (tgt := 100) hx hb d_Model_point_95 (by decide) (fun _ => ?_) (fun h9 => absurd h9 (by decide))
          have hl : lv_has ls 6 [(3, .int v1), (2, .int (nI tn)), (0, .ref mo), (1, .int (nI k1))] := lv_sub hl [1, 2, 3, 4] rfl
          exact s100 _ _ ls _ _ hfr hm hS hF hl
        · skip
          refine lv_iload_n hx hb d_Model_point_81 rfl (lv_at hl 0 rfl) ?_
          refine lv_iconst (v := nI 2) hx hb d_Model_point_82 (by decide) ?_
          refine lv_icmp_ne (tgt := 90) hx hb d_Model_point_83 (by decide) (fun _ => ?_) (fun _ => ?_)
          · skip
            refine lv_iconst (v := nI 0) hx hb d_Model_point_90 (by decide) ?_
            refine lv_istore (lv' := [(4, .int (nI 0)), (3, .int v1), (2, .int (nI tn)), (0, .ref mo), (1, .int (nI k1))]) hx hb d_Model_point_91 hl (by decide) rfl (fun ls hl => ?_)
            refine lv_iload hx hb d_Model_point_93 (lv_at hl 0 rfl) ?_
            refine lv_if_ne (tgt := 100) hx hb d_Model_point_95 (by decide) (fun h9 => absurd (by decide) h9) (fun _ => ?_)
            refine lv_iconst (v := nI 2) hx hb d_Model_point_98 (by decide) ?_
            exact q_iret E hr hlk (⟨_, rfl, Or.inl ⟨hok, hP.zfin hfr hw9 hm hS hB ⟨hbd.1, Nat.zero_le _, hbd.2.2⟩⟩⟩) hF d_Model_point_99
          · skip
            refine lv_iconst (v := nI 1) hx hb d_Model_point_86 (by decide) ?_
            refine lv_goto (tgt := 91) hx hb d_Model_point_87 (by decide) ?_
            refine lv_istore (lv' := [(4, .int (nI 1)), (3, .int v1), (2, .int (nI tn)), (0, .ref mo), (1, .int (nI k1))]) hx hb d_Model_point_91 hl (by decide) rfl (fun ls hl => ?_)
            refine lv_iload hx hb d_Model_point_93 (lv_at hl 0 rfl) ?_
            refine lv_if_ne (tgt := 100) hx hb d_Model_point_95 (by decide) (fun _ => ?_) (fun h9 => absurd h9 (by decide))
            have hl : lv_has ls 6 [(3, .int v1), (2, .int (nI tn)), (0, .ref mo), (1, .int (nI k1))] := lv_sub hl [1, 2, 3, 4] rfl
            exact s100 _ _ ls _ _ hfr hm hS hF hl
      · skip
        refine lv_iload_n hx hb d_Model_point_53 rfl (lv_at hl 0 rfl) ?_
        refine lv_iconst (v := nI 4) hx hb d_Model_point_54 (by decide) ?_
        refine lv_icmp_eq (tgt := 69) hx hb d_Model_point_55 (by decide) (fun _ => ?_) (fun _ => ?_)
        · skip
          refine lv_iconst (v := nI 1) hx hb d_Model_point_69 (by decide) ?_
          refine lv_goto (tgt := 91) hx hb d_Model_point_70 (by decide) ?_
          refine lv_istore (lv' := [(4, .int (nI 1)), (3, .int v1), (2, .int (nI tn)), (0, .ref mo), (1, .int (nI k1))]) hx hb d_Model_point_91 hl (by decide) rfl (fun ls hl => ?_)
          refine lv_iload hx hb d_Model_point_93 (lv_at hl 0 rfl) ?_
          refine lv_if_ne (tgt := 100) hx hb d_Model_point_95 (by decide) (fun _ => ?_) (fun h9 => absurd h9 (by decide))
          have hl : lv_has ls 6 [(3, .int v1), (2, .int (nI tn)), (0, .ref mo), (1, .int (nI k1))] := lv_sub hl [1, 2, 3, 4] rfl
          exact s100 _ _ ls _ _ hfr hm hS hF hl
        · skip
          refine lv_iload_n hx hb d_Model_point_58 rfl (lv_at hl 0 rfl) ?_
          refine lv_iconst (v := nI 5) hx hb d_Model_point_59 (by decide) ?_
          refine lv_icmp_eq (tgt := 69) hx hb d_Model_point_60 (by decide) (fun _ => ?_) (fun _ => ?_)
          · skip
            refine lv_iconst (v := nI 1) hx hb d_Model_point_69 (by decide) ?_
            refine lv_goto (tgt := 91) hx hb d_Model_point_70 (by decide) ?_
            refine lv_istore (lv' := [(4, .int (nI 1)), (3, .int v1), (2, .int (nI tn)), (0, .ref mo), (1, .int (nI k1))]) hx hb d_Model_point_91 hl (by decide) rfl (fun ls hl => ?_)
            refine lv_iload hx hb d_Model_point_93 (lv_at hl 0 rfl) ?_
            refine lv_if_ne (tgt := 100) hx hb d_Model_point_95 (by decide) (fun _ => ?_) (fun h9 => absurd h9 (by decide))
            have hl : lv_has ls 6 [(3, .int v1), (2, .int (nI tn)), (0, .ref mo), (1, .int (nI k1))] := lv_sub hl [1, 2, 3, 4] rfl
            exact s100 _ _ ls _ _ hfr hm hS hF hl
          · skip
            refine lv_iload_n hx hb d_Model_point_63 rfl (lv_at hl 0 rfl) ?_
            refine lv_bipush (v := nI 6) hx hb d_Model_point_64 (by decide) ?_
            refine lv_icmp_ne (tgt := 73) hx hb d_Model_point_66 (by decide) (fun _ => ?_) (fun _ => ?_)
            · skip
              refine lv_iconst (v := nI 0) hx hb d_Model_point_73 (by decide) ?_
              refine lv_goto (tgt := 91) hx hb d_Model_point_74 (by decide) ?_
              refine lv_istore (lv' := [(4, .int (nI 0)), (3, .int v1), (2, .int (nI tn)), (0, .ref mo), (1, .int (nI k1))]) hx hb d_Model_point_91 hl (by decide) rfl (fun ls hl => ?_)
              refine lv_iload hx hb d_Model_point_93 (lv_at hl 0 rfl) ?_
              refine lv_if_ne (tgt := 100) hx hb d_Model_point_95 (by decide) (fun h9 => absurd (by decide) h9) (fun _ => ?_)
              refine lv_iconst (v := nI 2) hx hb d_Model_point_98 (by decide) ?_
              exact q_iret E hr hlk (⟨_, rfl, Or.inl ⟨hok, hP.zfin hfr hw9 hm hS hB ⟨hbd.1, Nat.zero_le _, hbd.2.2⟩⟩⟩) hF d_Model_point_99
            · skip
              refine lv_iconst (v := nI 1) hx hb d_Model_point_69 (by decide) ?_
              refine lv_goto (tgt := 91) hx hb d_Model_point_70 (by decide) ?_
              refine lv_istore (lv' := [(4, .int (nI 1)), (3, .int v1), (2, .int (nI tn)), (0, .ref mo), (1, .int (nI k1))]) hx hb d_Model_point_91 hl (by decide) rfl (fun ls hl => ?_)
              refine lv_iload hx hb d_Model_point_93 (lv_at hl 0 rfl) ?_
              refine lv_if_ne (tgt := 100) hx hb d_Model_point_95 (by decide) (fun _ => ?_) (fun h9 => absurd h9 (by decide))
              have hl : lv_has ls 6 [(3, .int v1), (2, .int (nI tn)), (0, .ref mo), (1, .int (nI k1))] := lv_sub hl [1, 2, 3, 4] rfl
              exact s100 _ _ ls _ _ hfr hm hS hF hl
    · skip
      refine lv_iload_n hx hb d_Model_point_30 rfl (lv_at hl 0 rfl) ?_
      refine lv_bipush (v := nI 96) hx hb d_Model_point_31 (by decide) ?_
      refine lv_icmp_eq (tgt := 38) hx hb d_Model_point_33 (by decide) (fun _ => ?_) (fun _ => ?_)
      · skip
        refine lv_aload_n hx hb d_Model_point_38 rfl (lv_at hl 1 rfl) ?_
        refine q_get (C := "KateDeskModel") (T := T_Model) (N := 14) (ci := 8) E hm.1 in_Model rfl 9 (by decide) w_1010 rfl rfl d_Model_point_39 ?_
        refine lv_iconst (v := nI 0) hx hb d_Model_point_42 (by decide) ?_
        obtain ⟨fq, hfq⟩ := id (hP.2.2.2.1.imp (fun f hf => AI.off hfr (show ¬ MR mo (mo + 6) by unfold MR; omega) hf))
        refine q_iald E hfq 0 rfl (by omega) (by decide) d_Model_point_43 ?_
        refine lv_iconst (v := nI 5) hx hb d_Model_point_44 (by decide) ?_
        refine lv_ishr hx hb d_Model_point_45 ?_
        refine lv_topi (fun v1 _ => ?_)
        refine lv_istore_n (lv' := [(3, .int v1), (2, .int (nI tn)), (0, .ref mo), (1, .int (nI k1))]) hx hb d_Model_point_46 rfl hl (by decide) rfl (fun ls hl => ?_)
        refine lv_iload_n hx hb d_Model_point_47 rfl (lv_at hl 1 rfl) ?_
        refine lv_bipush (v := nI 48) hx hb d_Model_point_48 (by decide) ?_
        refine lv_icmp_ne (tgt := 77) hx hb d_Model_point_50 (by decide) (fun _ => ?_) (fun _ => ?_)
        · skip
          refine lv_iload_n hx hb d_Model_point_77 rfl (lv_at hl 0 rfl) ?_
          refine lv_if_eq (tgt := 86) hx hb d_Model_point_78 (by decide) (fun _ => ?_) (fun _ => ?_)
          · skip
            refine lv_iconst (v := nI 1) hx hb d_Model_point_86 (by decide) ?_
            refine lv_goto (tgt := 91) hx hb d_Model_point_87 (by decide) ?_
            refine lv_istore (lv' := [(4, .int (nI 1)), (3, .int v1), (2, .int (nI tn)), (0, .ref mo), (1, .int (nI k1))]) hx hb d_Model_point_91 hl (by decide) rfl (fun ls hl => ?_)
            refine lv_iload hx hb d_Model_point_93 (lv_at hl 0 rfl) ?_
            refine lv_if_ne (tgt := 100) hx hb d_Model_point_95 (by decide) (fun _ => ?_) (fun h9 => absurd h9 (by decide))
            have hl : lv_has ls 6 [(3, .int v1), (2, .int (nI tn)), (0, .ref mo), (1, .int (nI k1))] := lv_sub hl [1, 2, 3, 4] rfl
            exact s100 _ _ ls _ _ hfr hm hS hF hl
          · skip
            refine lv_iload_n hx hb d_Model_point_81 rfl (lv_at hl 0 rfl) ?_
            refine lv_iconst (v := nI 2) hx hb d_Model_point_82 (by decide) ?_
            refine lv_icmp_ne (tgt := 90) hx hb d_Model_point_83 (by decide) (fun _ => ?_) (fun _ => ?_)
            · skip
              refine lv_iconst (v := nI 0) hx hb d_Model_point_90 (by decide) ?_
              refine lv_istore (lv' := [(4, .int (nI 0)), (3, .int v1), (2, .int (nI tn)), (0, .ref mo), (1, .int (nI k1))]) hx hb d_Model_point_91 hl (by decide) rfl (fun ls hl => ?_)
              refine lv_iload hx hb d_Model_point_93 (lv_at hl 0 rfl) ?_
              refine lv_if_ne (tgt := 100) hx hb d_Model_point_95 (by decide) (fun h9 => absurd (by decide) h9) (fun _ => ?_)
              refine lv_iconst (v := nI 2) hx hb d_Model_point_98 (by decide) ?_
              exact q_iret E hr hlk (⟨_, rfl, Or.inl ⟨hok, hP.zfin hfr hw9 hm hS hB ⟨hbd.1, Nat.zero_le _, hbd.2.2⟩⟩⟩) hF d_Model_point_99
            · skip
              refine lv_iconst (v := nI 1) hx hb d_Model_point_86 (by decide) ?_
              refine lv_goto (tgt := 91) hx hb d_Model_point_87 (by decide) ?_
              refine lv_istore (lv' := [(4, .int (nI 1)), (3, .int v1), (2, .int (nI tn)), (0, .ref mo), (1, .int (nI k1))]) hx hb d_Model_point_91 hl (by decide) rfl (fun ls hl => ?_)
              refine lv_iload hx hb d_Model_point_93 (lv_at hl 0 rfl) ?_
              refine lv_if_ne (tgt := 100) hx hb d_Model_point_95 (by decide) (fun _ => ?_) (fun h9 => absurd h9 (by decide))
              have hl : lv_has ls 6 [(3, .int v1), (2, .int (nI tn)), (0, .ref mo), (1, .int (nI k1))] := lv_sub hl [1, 2, 3, 4] rfl
              exact s100 _ _ ls _ _ hfr hm hS hF hl
        · skip
          refine lv_iload_n hx hb d_Model_point_53 rfl (lv_at hl 0 rfl) ?_
          refine lv_iconst (v := nI 4) hx hb d_Model_point_54 (by decide) ?_
          refine lv_icmp_eq (tgt := 69) hx hb d_Model_point_55 (by decide) (fun _ => ?_) (fun _ => ?_)
          · skip
            refine lv_iconst (v := nI 1) hx hb d_Model_point_69 (by decide) ?_
            refine lv_goto (tgt := 91) hx hb d_Model_point_70 (by decide) ?_
            refine lv_istore (lv' := [(4, .int (nI 1)), (3, .int v1), (2, .int (nI tn)), (0, .ref mo), (1, .int (nI k1))]) hx hb d_Model_point_91 hl (by decide) rfl (fun ls hl => ?_)
            refine lv_iload hx hb d_Model_point_93 (lv_at hl 0 rfl) ?_
            refine lv_if_ne (tgt := 100) hx hb d_Model_point_95 (by decide) (fun _ => ?_) (fun h9 => absurd h9 (by decide))
            have hl : lv_has ls 6 [(3, .int v1), (2, .int (nI tn)), (0, .ref mo), (1, .int (nI k1))] := lv_sub hl [1, 2, 3, 4] rfl
            exact s100 _ _ ls _ _ hfr hm hS hF hl
          · skip
            refine lv_iload_n hx hb d_Model_point_58 rfl (lv_at hl 0 rfl) ?_
            refine lv_iconst (v := nI 5) hx hb d_Model_point_59 (by decide) ?_
            refine lv_icmp_eq (tgt := 69) hx hb d_Model_point_60 (by decide) (fun _ => ?_) (fun _ => ?_)
            · skip
              refine lv_iconst (v := nI 1) hx hb d_Model_point_69 (by decide) ?_
              refine lv_goto (tgt := 91) hx hb d_Model_point_70 (by decide) ?_
              refine lv_istore (lv' := [(4, .int (nI 1)), (3, .int v1), (2, .int (nI tn)), (0, .ref mo), (1, .int (nI k1))]) hx hb d_Model_point_91 hl (by decide) rfl (fun ls hl => ?_)
              refine lv_iload hx hb d_Model_point_93 (lv_at hl 0 rfl) ?_
              refine lv_if_ne (tgt := 100) hx hb d_Model_point_95 (by decide) (fun _ => ?_) (fun h9 => absurd h9 (by decide))
              have hl : lv_has ls 6 [(3, .int v1), (2, .int (nI tn)), (0, .ref mo), (1, .int (nI k1))] := lv_sub hl [1, 2, 3, 4] rfl
              exact s100 _ _ ls _ _ hfr hm hS hF hl
            · skip
              refine lv_iload_n hx hb d_Model_point_63 rfl (lv_at hl 0 rfl) ?_
              refine lv_bipush (v := nI 6) hx hb d_Model_point_64 (by decide) ?_
              refine lv_icmp_ne (tgt := 73) hx hb d_Model_point_66 (by decide) (fun _ => ?_) (fun _ => ?_)
              · skip
                refine lv_iconst (v := nI 0) hx hb d_Model_point_73 (by decide) ?_
                refine lv_goto (tgt := 91) hx hb d_Model_point_74 (by decide) ?_
                refine lv_istore (lv' := [(4, .int (nI 0)), (3, .int v1), (2, .int (nI tn)), (0, .ref mo), (1, .int (nI k1))]) hx hb d_Model_point_91 hl (by decide) rfl (fun ls hl => ?_)
                refine lv_iload hx hb d_Model_point_93 (lv_at hl 0 rfl) ?_
                refine lv_if_ne (tgt := 100) hx hb d_Model_point_95 (by decide) (fun h9 => absurd (by decide) h9) (fun _ => ?_)
                refine lv_iconst (v := nI 2) hx hb d_Model_point_98 (by decide) ?_
                exact q_iret E hr hlk (⟨_, rfl, Or.inl ⟨hok, hP.zfin hfr hw9 hm hS hB ⟨hbd.1, Nat.zero_le _, hbd.2.2⟩⟩⟩) hF d_Model_point_99
              · skip
                refine lv_iconst (v := nI 1) hx hb d_Model_point_69 (by decide) ?_
                refine lv_goto (tgt := 91) hx hb d_Model_point_70 (by decide) ?_
                refine lv_istore (lv' := [(4, .int (nI 1)), (3, .int v1), (2, .int (nI tn)), (0, .ref mo), (1, .int (nI k1))]) hx hb d_Model_point_91 hl (by decide) rfl (fun ls hl => ?_)
                refine lv_iload hx hb d_Model_point_93 (lv_at hl 0 rfl) ?_
                refine lv_if_ne (tgt := 100) hx hb d_Model_point_95 (by decide) (fun _ => ?_) (fun h9 => absurd h9 (by decide))
                have hl : lv_has ls 6 [(3, .int v1), (2, .int (nI tn)), (0, .ref mo), (1, .int (nI k1))] := lv_sub hl [1, 2, 3, 4] rfl
                exact s100 _ _ ls _ _ hfr hm hS hF hl
      · skip
        refine lv_iconst (v := nI 1) hx hb d_Model_point_36 (by decide) ?_
        exact q_iret E hr hlk (⟨_, rfl, Or.inl ⟨hok, hP.zfin hfr hw9 hm hS hB ⟨hbd.1, Nat.zero_le _, hbd.2.2⟩⟩⟩) hF d_Model_point_37
  refine lv_aload_n hx hb d_Model_point_0 rfl (lv_at hl 0 rfl) ?_
  refine lv_iload_n hx hb d_Model_point_1 rfl (lv_at hl 1 rfl) ?_
  refine q_cS (rest := [.ref mo]) E (c_Model_noPoint l g n0 a ) w_1151 w_15 w_1149 w_1150 hd_Model_noPoint rfl ⟨by decide, by decide⟩ trivial hF hl.1 rfl (Nat.le_of_ble_eq_true rfl) d_Model_point_2 ⟨by decide, by decide⟩ (qi (fun r_0 H1 locs hq hF => ?_))
  obtain ⟨h_0, hq⟩ := hq
  subst hq
  rcases h_0 with ⟨rfl, f_0⟩ | ⟨rfl, f_0⟩
  · skip
    have hl : lv_has ls 6 [(0, .ref mo), (1, .int a)] := lv_sub hl [0, 1] rfl
    exact bad _ ls (fun h => (f_0) h) hF hl
  · skip
    have hl : lv_has ls 6 [(0, .ref mo), (1, .int a)] := lv_sub hl [0, 1] rfl
    exact good _ ls f_0 hF hl
set_option maxHeartbeats 4000000 in
set_option maxRecDepth 100000 in
theorem Z_Model_bytes (l : Launch) (g : WG) (n0 : Nat → Prop) (mo : Nat) (th : Int32) (pn tn wn : Nat) (B : Nat → Int) (a : Int32) (sh : Int32) : Ctr l y_Model_bytes (.code y_Model_bytes prog_11_method_47_code 6 none) 5 125 0 0 n0 g [.ref mo, .int a, .int sh] (fun H => MV g n0 H mo th pn tn wn B) (QV (fun H H' => ((okP a (nI 1)) ∧ (∃ w8, MV g n0 H' mo 0 pn tn w8 B)) ∨ (¬ (okP a (nI 1)) ∧ MV g n0 H' mo 1 pn tn wn B))) := by
  refine ctr_mk l (lv0 := [(0, .ref mo), (1, .int a), (2, .int sh)]) (by decide) (Nat.le_of_ble_eq_true rfl) rfl ?_
  intro p e s m below meth c ls E hr hlk hnm hl hP
  have hx := E.1
  have hb := E.2.1
  have hK := E.2.2.2.2.2
  have hF : ∀ q ∈ ([] : List Loc), n0 q.base := fun q hq => absurd hq List.not_mem_nil
  obtain ⟨⟨w9, n9, fd, hw9, hm, hB⟩, -⟩ := id hP
  have hS : SAME fd fd (fun t => 32 ≤ t) := SAME.rf
  have hmn := hP.mn
  have hbd := hP.2.2.2.2.2.1
  have hfr : FRM (MR mo) s.heap s.heap := FRM.rf
  have bad : ∀ (locs : List Loc) (ls : Array Slot), ¬ (okP a (nI 1)) → (∀ q ∈ locs, n0 q.base) → lv_has ls 6 [(0, .ref mo), (1, .int a), (2, .int sh)] → W p l e { frames := 5, cells := 0, slots := 0, locals := 125 } s m [.ref mo, .int a, .int sh].toArray below meth c s.heap locs 0 0 (MQ below (QcP (QV (fun H H' => ((okP a (nI 1)) ∧ (∃ w8, MV g n0 H' mo 0 pn tn w8 B)) ∨ (¬ (okP a (nI 1)) ∧ MV g n0 H' mo 1 pn tn wn B)))) [.ref mo, .int a, .int sh].toArray s 0 0 (fun q => n0 q)) (F0 m 5 ls [.int (nI 1), .ref mo]) := by
    intro  locs   ls hno hF hl
    refine lv_iconst (v := nI 1) hx hb d_Model_bytes_5 (by decide) ?_
    refine q_cV (rest := []) E (c_Model_fails l g n0 mo th (nI pn) (nI tn) (nI wn) w9 n9 hw9 (nI 1) (nI 1) fd hmn (Or.inl rfl)) w_1056 w_15 w_1053 w_1055 (bw_s 24 rfl) hd_Model_fails rfl ⟨by decide, by decide⟩ (OB.recv E.2.2.2.2.2 (by rfl) hm.1) hm hF hl.1 rfl (Nat.le_of_ble_eq_true rfl) d_Model_bytes_6 ⟨by decide, by decide⟩ (qi (fun rf H1 locs hq hF => ?_))
    obtain ⟨hrf, hq, hm⟩ := hq
    subst hrf
    have hfr := hfr.tr hq
    rw [if_neg (by decide)] at hm
    refine lv_if_eq (tgt := 13) hx hb d_Model_bytes_9 (by decide) (fun h9 => absurd h9 (by decide)) (fun _ => ?_)
    exact q_vret E hr hlk (⟨rfl, Or.inr ⟨hno, hP.zkeep hfr hw9 hm hS hB⟩⟩) hF d_Model_bytes_12
  have good : ∀ (locs : List Loc) (ls : Array Slot), okP a (nI 1) → (∀ q ∈ locs, n0 q.base) → lv_has ls 6 [(0, .ref mo), (1, .int a), (2, .int sh)] → W p l e { frames := 5, cells := 0, slots := 0, locals := 125 } s m [.ref mo, .int a, .int sh].toArray below meth c s.heap locs 0 0 (MQ below (QcP (QV (fun H H' => ((okP a (nI 1)) ∧ (∃ w8, MV g n0 H' mo 0 pn tn w8 B)) ∨ (¬ (okP a (nI 1)) ∧ MV g n0 H' mo 1 pn tn wn B)))) [.ref mo, .int a, .int sh].toArray s 0 0 (fun q => n0 q)) (F0 m 5 ls [.int (nI 0), .ref mo]) := by
    intro  locs   ls hok hF hl
    refine lv_iconst (v := nI 1) hx hb d_Model_bytes_5 (by decide) ?_
    refine q_cV (rest := []) E (c_Model_fails l g n0 mo th (nI pn) (nI tn) (nI wn) w9 n9 hw9 (nI 0) (nI 1) fd hmn (Or.inr rfl)) w_1056 w_15 w_1053 w_1055 (bw_s 24 rfl) hd_Model_fails rfl ⟨by decide, by decide⟩ (OB.recv E.2.2.2.2.2 (by rfl) hm.1) hm hF hl.1 rfl (Nat.le_of_ble_eq_true rfl) d_Model_bytes_6 ⟨by decide, by decide⟩ (qi (fun rf H1 locs hq hF => ?_))
    obtain ⟨hrf, hq, hm⟩ := hq
    subst hrf
    have hfr := hfr.tr hq
    rw [if_pos nI_0] at hm
    refine lv_if_eq (tgt := 13) hx hb d_Model_bytes_9 (by decide) (fun _ => ?_) (fun h9 => absurd (by decide) h9)
    obtain ⟨k1, e_k1, h_k1⟩ := okP_nat (by decide) (by decide) hok
    rw [e_k1] at hl
    refine lv_aload_n hx hb d_Model_bytes_13 rfl (lv_at hl 0 rfl) ?_
    refine lv_iconst (v := nI 0) hx hb d_Model_bytes_14 (by decide) ?_
    refine q_cV (rest := []) E (c_Model_use l g n0 mo 0 (nI pn) (nI tn) (nI wn) w9 n9 hw9 0 14 hw0 fd hmn) w_967 w_15 w_964 w_966 (bw_s 15 rfl) hd_Model_use rfl ⟨by decide, by decide⟩ (OB.recv E.2.2.2.2.2 (by rfl) hm.1) hm hF hl.1 rfl (Nat.le_of_ble_eq_true rfl) d_Model_bytes_15 ⟨by decide, by decide⟩ (qv (fun H2 locs hq hF => ?_))
    obtain ⟨hq, hm⟩ := hq
    have hfr := hfr.tr hq
    refine lv_iload_n hx hb d_Model_bytes_18 rfl (lv_at hl 1 rfl) ?_
    refine q_cS (rest := []) E (c_Model_slot l g n0 (nI k1)) w_1154 w_15 w_1152 w_1153 hd_Model_slot rfl ⟨by decide, by decide⟩ trivial hF hl.1 rfl (Nat.le_of_ble_eq_true rfl) d_Model_bytes_19 ⟨by decide, by decide⟩ (qi (fun rs H3 locs hq hF => ?_))
    obtain ⟨hrs, hq9⟩ := hq
    subst hrs
    subst hq9
    refine lv_topi (fun t9 e9 => ?_)
    obtain rfl : t9 = nI (32 + 3 * k1) := e9.trans (by rw [pk_mul, nI_add])
    refine lv_istore_n (lv' := [(3, .int (nI (32 + 3 * k1))), (0, .ref mo), (1, .int (nI k1)), (2, .int sh)]) hx hb d_Model_bytes_22 rfl hl (by decide) rfl (fun ls hl => ?_)
    refine lv_aload_n hx hb d_Model_bytes_23 rfl (lv_at hl 1 rfl) ?_
    refine lv_iload_n hx hb d_Model_bytes_24 rfl (lv_at hl 0 rfl) ?_
    refine lv_iconst (v := nI 2) hx hb d_Model_bytes_25 (by decide) ?_
    refine lv_iadd hx hb d_Model_bytes_26 ?_
    refine lv_topi (fun t9 e9 => ?_)
    obtain rfl : t9 = nI ((32 + 3 * k1) + 2) := e9.trans (nI_add _ _)
    refine q_cV (rest := []) E (c_Model_isZero l g n0 mo ((32 + 3 * k1) + 2) 0 (nI pn) (nI tn) (nI wn) 0 14 hw0 fd (by omega)) w_1105 w_15 w_1102 w_1104 (bw_s 30 rfl) hd_Model_isZero rfl ⟨by decide, by decide⟩ (OB.recv E.2.2.2.2.2 (by rfl) hm.1) hm hF hl.1 rfl (Nat.le_of_ble_eq_true rfl) d_Model_bytes_27 ⟨by decide, by decide⟩ (qi (fun rz1 H4 locs hq hF => ?_))
    obtain ⟨hbrz1, hq⟩ := hq
    subst hq
    have hn7 := hP.2.2.2.2.2.2.2.2.1
    have tail : ∀ (NN : Nat) (H : Heap) (locs : List Loc) (ls : Array Slot) (fd1 : Nat → Int64) (x5 : Int32), MS g n0 H mo 0 (nI pn) (nI tn) (nI NN) 0 14 fd1 → SAME fd fd1 (fun t => 32 ≤ t) → (∃ f, AI g H (mo + 7) 96 f) → NN ≤ 96 → FRM (fun q => MR mo q ∨ q = mo + 7) s.heap H → (∀ q ∈ locs, n0 q.base) → lv_has ls 6 [(5, .int x5), (0, .ref mo)] → W p l e { frames := 5, cells := 0, slots := 0, locals := 125 } s m [.ref mo, .int a, .int sh].toArray below meth c H locs 0 0 (MQ below (QcP (QV (fun H H' => ((okP a (nI 1)) ∧ (∃ w8, MV g n0 H' mo 0 pn tn w8 B)) ∨ (¬ (okP a (nI 1)) ∧ MV g n0 H' mo 1 pn tn wn B)))) [.ref mo, .int a, .int sh].toArray s 0 0 (fun q => n0 q)) (F0 m 188 ls []) := by
      intro  NN   H   locs   ls   fd1   x5 hm hS hh hN hfx hF hl
      have hfr : FRM (MR mo) H H := FRM.rf
      refine lv_aload_n hx hb d_Model_bytes_188 rfl (lv_at hl 1 rfl) ?_
      refine q_get (C := "KateDeskModel") (T := T_Model) (N := 14) (ci := 8) E hm.1 in_Model rfl 11 (by decide) w_1012 rfl rfl d_Model_bytes_189 ?_
      refine lv_iconst (v := nI 0) hx hb d_Model_bytes_192 (by decide) ?_
      refine lv_dup2_11 hx hb d_Model_bytes_193 rfl rfl ?_
      obtain ⟨fq, hfq⟩ := id (hh)
      refine q_iald E hfq 0 rfl (by decide) (by decide) d_Model_bytes_194 ?_
      refine lv_bipush (v := nI 32) hx hb d_Model_bytes_195 (by decide) ?_
      refine lv_iload hx hb d_Model_bytes_197 (lv_at hl 0 rfl) ?_
      refine lv_imul hx hb d_Model_bytes_199 ?_
      refine lv_iadd hx hb d_Model_bytes_200 ?_
      obtain ⟨ft, hft⟩ := hh
      refine q_iast E hft hn7 hF 0 rfl (by omega) (by decide) d_Model_bytes_201 (fun H1 locs hq hft2 hF => ?_)
      have hm := hm.frm hq (by omega) (by omega) (by omega) (by omega) (OB.off hq (by omega) hm.1)
      have hfx := (hfx.tr (hfr.mono (fun q h => (Or.inl h : MR mo q ∨ q = mo + 7)))).tr (hq.mono (fun q h => Or.inr h))
      exact q_vret E hr hlk (⟨rfl, Or.inl ⟨hok, _, hP.zfin7 hfx ⟨_, hft2⟩ hw0 hm hS hB ⟨hbd.1, hbd.2.1, hN⟩⟩⟩) hF d_Model_bytes_202
    have loop : ∀ (k : Nat) (i NN : Nat) (H : Heap) (locs : List Loc) (ls : Array Slot) (fd1 : Nat → Int64) (x4 : Int32), i + k = NN → MS g n0 H mo 0 (nI pn) (nI tn) (nI NN) 0 14 fd1 → SAME fd fd1 (fun t => 32 ≤ t) → (∃ f, AI g H (mo + 7) 96 f) → NN ≤ 96 → FRM (fun q => MR mo q ∨ q = mo + 7) s.heap H → (∀ q ∈ locs, n0 q.base) → lv_has ls 6 [(5, .int (nI i)), (4, .int x4), (0, .ref mo), (2, .int sh)] → W p l e { frames := 5, cells := 0, slots := 0, locals := 125 } s m [.ref mo, .int a, .int sh].toArray below meth c H locs 0 0 (MQ below (QcP (QV (fun H H' => ((okP a (nI 1)) ∧ (∃ w8, MV g n0 H' mo 0 pn tn w8 B)) ∨ (¬ (okP a (nI 1)) ∧ MV g n0 H' mo 1 pn tn wn B)))) [.ref mo, .int a, .int sh].toArray s 0 0 (fun q => n0 q)) (F0 m 84 ls []) := by
      intro k
      induction k with
      | zero =>
        intro  i NN   H   locs   ls   fd1   x4 hi hm hS hh hN hfx hF hl
        have hfr : FRM (MR mo) H H := FRM.rf
        obtain rfl : NN = i := by omega
        refine lv_iload hx hb d_Model_bytes_84 (lv_at hl 0 rfl) ?_
        refine lv_aload_n hx hb d_Model_bytes_86 rfl (lv_at hl 2 rfl) ?_
        refine q_get (C := "KateDeskModel") (T := T_Model) (N := 14) (ci := 8) E hm.1 in_Model rfl 12 (by decide) w_1013 rfl rfl d_Model_bytes_87 ?_
        refine lv_icmp_ge (tgt := 143) hx hb d_Model_bytes_90 (by decide) (fun _ => ?_) (fun h9 => absurd (nI_le (Nat.le_refl _) (by omega)) h9)
        refine lv_iload hx hb d_Model_bytes_143 (lv_at hl 1 rfl) ?_
        refine lv_if_eq (tgt := 152) hx hb d_Model_bytes_145 (by decide) (fun _ => ?_) (fun _ => ?_)
        · skip
          refine lv_iconst (v := nI 0) hx hb d_Model_bytes_152 (by decide) ?_
          refine lv_istore (lv' := [(5, .int (nI 0)), (4, .int x4), (0, .ref mo), (2, .int sh)]) hx hb d_Model_bytes_153 hl (by decide) rfl (fun ls hl => ?_)
          refine lv_iload_n hx hb d_Model_bytes_155 rfl (lv_at hl 3 rfl) ?_
          refine lv_if_eq (tgt := 188) hx hb d_Model_bytes_156 (by decide) (fun _ => ?_) (fun _ => ?_)
          · skip
            have hl : lv_has ls 6 [(5, .int (nI 0)), (0, .ref mo)] := lv_sub hl [0, 2] rfl
            exact tail NN _ _ ls _ _ hm hS (hh.imp (fun f h => AI.off hfr (show ¬ MR mo (mo + 7) by unfold MR; omega) h)) hN (hfx.tr (hfr.mono (fun q h => Or.inl h))) hF hl
          · skip
            refine lv_iload hx hb d_Model_bytes_159 (lv_at hl 0 rfl) ?_
            refine lv_iload hx hb d_Model_bytes_161 (lv_at hl 1 rfl) ?_
            refine lv_if_eq (tgt := 170) hx hb d_Model_bytes_163 (by decide) (fun _ => ?_) (fun _ => ?_)
            · skip
              refine lv_aload_n hx hb d_Model_bytes_170 rfl (lv_at hl 2 rfl) ?_
              refine lv_sipush (v := nI 149) hx hb d_Model_bytes_171 (by decide) ?_
              refine q_cV (rest := [.int (nI 0)]) E (S_Model_isGreat l g n0 mo 149 0 (nI pn) (nI tn) (nI NN) 0 14 hw0 fd1 (by omega)) w_1159 w_15 w_1156 w_1158 (bw_s 38 rfl) hd_Model_isGreat rfl ⟨by decide, by decide⟩ (OB.recv E.2.2.2.2.2 (by rfl) hm.1) hm hF hl.1 rfl (Nat.le_of_ble_eq_true rfl) d_Model_bytes_174 ⟨by decide, by decide⟩ (qi (fun rz1 H1 locs hq hF => ?_))
              obtain ⟨hbrz1, hq, fd_1, hm, hS9⟩ := hq
              have hS := hS.tr (hS9.mono (fun t h => by show 32 ≤ t; omega))
              have hfr := hfr.tr hq
              refine lv_if_eq (tgt := 184) hx hb d_Model_bytes_177 (by decide) (fun _ => ?_) (fun _ => ?_)
              · skip
                refine lv_iconst (v := nI 4) hx hb d_Model_bytes_184 (by decide) ?_
                refine lv_iadd hx hb d_Model_bytes_185 ?_
                refine lv_topi (fun t9 e9 => ?_)
                obtain rfl : t9 = nI (0 + 4) := e9.trans (nI_add _ _)
                refine lv_istore (lv' := [(5, .int (nI (0 + 4))), (4, .int x4), (0, .ref mo), (2, .int sh)]) hx hb d_Model_bytes_186 hl (by decide) rfl (fun ls hl => ?_)
                have hl : lv_has ls 6 [(5, .int (nI (0 + 4))), (0, .ref mo)] := lv_sub hl [0, 2] rfl
                exact tail NN _ _ ls _ _ hm hS (hh.imp (fun f h => AI.off hfr (show ¬ MR mo (mo + 7) by unfold MR; omega) h)) hN (hfx.tr (hfr.mono (fun q h => Or.inl h))) hF hl
              · skip
                refine lv_iconst (v := nI 5) hx hb d_Model_bytes_180 (by decide) ?_
                refine lv_goto (tgt := 185) hx hb d_Model_bytes_181 (by decide) ?_
                refine lv_iadd hx hb d_Model_bytes_185 ?_
                refine lv_topi (fun t9 e9 => ?_)
                obtain rfl : t9 = nI (0 + 5) := e9.trans (nI_add _ _)
                refine lv_istore (lv' := [(5, .int (nI (0 + 5))), (4, .int x4), (0, .ref mo), (2, .int sh)]) hx hb d_Model_bytes_186 hl (by decide) rfl (fun ls hl => ?_)
                have hl : lv_has ls 6 [(5, .int (nI (0 + 5))), (0, .ref mo)] := lv_sub hl [0, 2] rfl
                exact tail NN _ _ ls _ _ hm hS (hh.imp (fun f h => AI.off hfr (show ¬ MR mo (mo + 7) by unfold MR; omega) h)) hN (hfx.tr (hfr.mono (fun q h => Or.inl h))) hF hl
            · skip
              refine lv_iconst (v := nI 4) hx hb d_Model_bytes_166 (by decide) ?_
              refine lv_goto (tgt := 185) hx hb d_Model_bytes_167 (by decide) ?_
              refine lv_iadd hx hb d_Model_bytes_185 ?_
              refine lv_topi (fun t9 e9 => ?_)
              obtain rfl : t9 = nI (0 + 4) := e9.trans (nI_add _ _)
              refine lv_istore (lv' := [(5, .int (nI (0 + 4))), (4, .int x4), (0, .ref mo), (2, .int sh)]) hx hb d_Model_bytes_186 hl (by decide) rfl (fun ls hl => ?_)
              have hl : lv_has ls 6 [(5, .int (nI (0 + 4))), (0, .ref mo)] := lv_sub hl [0, 2] rfl
              exact tail NN _ _ ls _ _ hm hS (hh.imp (fun f h => AI.off hfr (show ¬ MR mo (mo + 7) by unfold MR; omega) h)) hN (hfx.tr (hfr.mono (fun q h => Or.inl h))) hF hl
        · skip
          refine lv_iconst (v := nI 2) hx hb d_Model_bytes_148 (by decide) ?_
          refine lv_goto (tgt := 153) hx hb d_Model_bytes_149 (by decide) ?_
          refine lv_istore (lv' := [(5, .int (nI 2)), (4, .int x4), (0, .ref mo), (2, .int sh)]) hx hb d_Model_bytes_153 hl (by decide) rfl (fun ls hl => ?_)
          refine lv_iload_n hx hb d_Model_bytes_155 rfl (lv_at hl 3 rfl) ?_
          refine lv_if_eq (tgt := 188) hx hb d_Model_bytes_156 (by decide) (fun _ => ?_) (fun _ => ?_)
          · skip
            have hl : lv_has ls 6 [(5, .int (nI 2)), (0, .ref mo)] := lv_sub hl [0, 2] rfl
            exact tail NN _ _ ls _ _ hm hS (hh.imp (fun f h => AI.off hfr (show ¬ MR mo (mo + 7) by unfold MR; omega) h)) hN (hfx.tr (hfr.mono (fun q h => Or.inl h))) hF hl
          · skip
            refine lv_iload hx hb d_Model_bytes_159 (lv_at hl 0 rfl) ?_
            refine lv_iload hx hb d_Model_bytes_161 (lv_at hl 1 rfl) ?_
            refine lv_if_eq (tgt := 170) hx hb d_Model_bytes_163 (by decide) (fun _ => ?_) (fun _ => ?_)
            · skip
              refine lv_aload_n hx hb d_Model_bytes_170 rfl (lv_at hl 2 rfl) ?_
              refine lv_sipush (v := nI 149) hx hb d_Model_bytes_171 (by decide) ?_
              refine q_cV (rest := [.int (nI 2)]) E (S_Model_isGreat l g n0 mo 149 0 (nI pn) (nI tn) (nI NN) 0 14 hw0 fd1 (by omega)) w_1159 w_15 w_1156 w_1158 (bw_s 38 rfl) hd_Model_isGreat rfl ⟨by decide, by decide⟩ (OB.recv E.2.2.2.2.2 (by rfl) hm.1) hm hF hl.1 rfl (Nat.le_of_ble_eq_true rfl) d_Model_bytes_174 ⟨by decide, by decide⟩ (qi (fun rz1 H1 locs hq hF => ?_))
              obtain ⟨hbrz1, hq, fd_2, hm, hS9⟩ := hq
              have hS := hS.tr (hS9.mono (fun t h => by show 32 ≤ t; omega))
              have hfr := hfr.tr hq
              refine lv_if_eq (tgt := 184) hx hb d_Model_bytes_177 (by decide) (fun _ => ?_) (fun _ => ?_)
              · skip
                refine lv_iconst (v := nI 4) hx hb d_Model_bytes_184 (by decide) ?_
                refine lv_iadd hx hb d_Model_bytes_185 ?_
                refine lv_topi (fun t9 e9 => ?_)
                obtain rfl : t9 = nI (2 + 4) := e9.trans (nI_add _ _)
                refine lv_istore (lv' := [(5, .int (nI (2 + 4))), (4, .int x4), (0, .ref mo), (2, .int sh)]) hx hb d_Model_bytes_186 hl (by decide) rfl (fun ls hl => ?_)
                have hl : lv_has ls 6 [(5, .int (nI (2 + 4))), (0, .ref mo)] := lv_sub hl [0, 2] rfl
                exact tail NN _ _ ls _ _ hm hS (hh.imp (fun f h => AI.off hfr (show ¬ MR mo (mo + 7) by unfold MR; omega) h)) hN (hfx.tr (hfr.mono (fun q h => Or.inl h))) hF hl
              · skip
                refine lv_iconst (v := nI 5) hx hb d_Model_bytes_180 (by decide) ?_
                refine lv_goto (tgt := 185) hx hb d_Model_bytes_181 (by decide) ?_
                refine lv_iadd hx hb d_Model_bytes_185 ?_
                refine lv_topi (fun t9 e9 => ?_)
                obtain rfl : t9 = nI (2 + 5) := e9.trans (nI_add _ _)
                refine lv_istore (lv' := [(5, .int (nI (2 + 5))), (4, .int x4), (0, .ref mo), (2, .int sh)]) hx hb d_Model_bytes_186 hl (by decide) rfl (fun ls hl => ?_)
                have hl : lv_has ls 6 [(5, .int (nI (2 + 5))), (0, .ref mo)] := lv_sub hl [0, 2] rfl
                exact tail NN _ _ ls _ _ hm hS (hh.imp (fun f h => AI.off hfr (show ¬ MR mo (mo + 7) by unfold MR; omega) h)) hN (hfx.tr (hfr.mono (fun q h => Or.inl h))) hF hl
            · skip
              refine lv_iconst (v := nI 4) hx hb d_Model_bytes_166 (by decide) ?_
              refine lv_goto (tgt := 185) hx hb d_Model_bytes_167 (by decide) ?_
              refine lv_iadd hx hb d_Model_bytes_185 ?_
              refine lv_topi (fun t9 e9 => ?_)
              obtain rfl : t9 = nI (2 + 4) := e9.trans (nI_add _ _)
              refine lv_istore (lv' := [(5, .int (nI (2 + 4))), (4, .int x4), (0, .ref mo), (2, .int sh)]) hx hb d_Model_bytes_186 hl (by decide) rfl (fun ls hl => ?_)
              have hl : lv_has ls 6 [(5, .int (nI (2 + 4))), (0, .ref mo)] := lv_sub hl [0, 2] rfl
              exact tail NN _ _ ls _ _ hm hS (hh.imp (fun f h => AI.off hfr (show ¬ MR mo (mo + 7) by unfold MR; omega) h)) hN (hfx.tr (hfr.mono (fun q h => Or.inl h))) hF hl
      | succ k ih =>
        intro  i NN   H   locs   ls   fd1   x4 hi hm hS hh hN hfx hF hl
        have hfr : FRM (MR mo) H H := FRM.rf
        refine lv_iload hx hb d_Model_bytes_84 (lv_at hl 0 rfl) ?_
        refine lv_aload_n hx hb d_Model_bytes_86 rfl (lv_at hl 2 rfl) ?_
        refine q_get (C := "KateDeskModel") (T := T_Model) (N := 14) (ci := 8) E hm.1 in_Model rfl 12 (by decide) w_1013 rfl rfl d_Model_bytes_87 ?_
        refine lv_icmp_ge (tgt := 143) hx hb d_Model_bytes_90 (by decide) (fun h9 => absurd h9 (nI_ge (by omega) (by omega))) (fun _ => ?_)
        refine lv_aload_n hx hb d_Model_bytes_93 rfl (lv_at hl 2 rfl) ?_
        refine q_get (C := "KateDeskModel") (T := T_Model) (N := 14) (ci := 8) E hm.1 in_Model rfl 11 (by decide) w_1012 rfl rfl d_Model_bytes_94 ?_
        refine lv_iload hx hb d_Model_bytes_97 (lv_at hl 0 rfl) ?_
        refine lv_iload hx hb d_Model_bytes_99 (lv_at hl 1 rfl) ?_
        refine lv_if_eq (tgt := 108) hx hb d_Model_bytes_101 (by decide) (fun _ => ?_) (fun _ => ?_)
        · skip
          refine lv_aload_n hx hb d_Model_bytes_108 rfl (lv_at hl 2 rfl) ?_
          refine lv_iload hx hb d_Model_bytes_109 (lv_at hl 0 rfl) ?_
          refine lv_bipush (v := nI 48) hx hb d_Model_bytes_111 (by decide) ?_
          refine lv_icmp_ge (tgt := 122) hx hb d_Model_bytes_113 (by decide) (fun _ => ?_) (fun _ => ?_)
          · skip
            refine lv_sipush (v := nI 149) hx hb d_Model_bytes_122 (by decide) ?_
            refine lv_bipush (v := nI 47) hx hb d_Model_bytes_125 (by decide) ?_
            refine lv_iload hx hb d_Model_bytes_127 (lv_at hl 0 rfl) ?_
            refine lv_bipush (v := nI 48) hx hb d_Model_bytes_129 (by decide) ?_
            refine lv_irem hx hb d_Model_bytes_131 (by decide) ?_
            refine lv_topi (fun t9 e9 => ?_)
            obtain rfl : t9 = nI (i - i / 48 * 48) := e9.trans (rem48 (by omega))
            refine lv_isub hx hb d_Model_bytes_132 ?_
            refine lv_topi (fun t9 e9 => ?_)
            obtain rfl : t9 = nI (47 - (i - i / 48 * 48)) := e9.trans (pk_sub (by omega))
            refine q_cV (rest := [.int (nI i), .ref (mo + 7)]) E (c_Model_byteOf l g n0 mo 149 (47 - (i - i / 48 * 48)) 0 (nI pn) (nI tn) (nI NN) 0 14 hw0 fd1 (by omega) (by omega)) w_1187 w_15 w_1184 w_1186 (bw_s 44 rfl) hd_Model_byteOf rfl ⟨by decide, by decide⟩ (OB.recv E.2.2.2.2.2 (by rfl) hm.1) hm hF hl.1 rfl (Nat.le_of_ble_eq_true rfl) d_Model_bytes_133 ⟨by decide, by decide⟩ (qi (fun rz1 H1 locs hq hF => ?_))
            subst hq
            obtain ⟨ft, hft⟩ := hh
            refine q_iast E hft hn7 hF i rfl (by omega) (by decide) d_Model_bytes_136 (fun H2 locs hq hft2 hF => ?_)
            have hm := hm.frm hq (by omega) (by omega) (by omega) (by omega) (OB.off hq (by omega) hm.1)
            have hfx := (hfx.tr (hfr.mono (fun q h => (Or.inl h : MR mo q ∨ q = mo + 7)))).tr (hq.mono (fun q h => Or.inr h))
            refine lv_iinc (k := 0) (v := nI (i + 1)) (lv' := [(5, .int (nI (i + 1))), (4, .int x4), (0, .ref mo), (2, .int sh)]) hx hb d_Model_bytes_137 hl rfl (i_inc i) (by decide) rfl (fun ls hl => ?_)
            refine lv_goto (tgt := 84) hx hb d_Model_bytes_140 (by decide) ?_
            have hl : lv_has ls 6 [(5, .int (nI (i + 1))), (4, .int x4), (0, .ref mo), (2, .int sh)] := lv_sub hl [0, 1, 2, 3] rfl
            exact ih (i + 1) NN _ _ ls _ _ (by omega) hm hS ⟨_, hft2⟩ hN hfx hF hl
          · skip
            refine lv_sipush (v := nI 148) hx hb d_Model_bytes_116 (by decide) ?_
            refine lv_goto (tgt := 125) hx hb d_Model_bytes_119 (by decide) ?_
            refine lv_bipush (v := nI 47) hx hb d_Model_bytes_125 (by decide) ?_
            refine lv_iload hx hb d_Model_bytes_127 (lv_at hl 0 rfl) ?_
            refine lv_bipush (v := nI 48) hx hb d_Model_bytes_129 (by decide) ?_
            refine lv_irem hx hb d_Model_bytes_131 (by decide) ?_
            refine lv_topi (fun t9 e9 => ?_)
            obtain rfl : t9 = nI (i - i / 48 * 48) := e9.trans (rem48 (by omega))
            refine lv_isub hx hb d_Model_bytes_132 ?_
            refine lv_topi (fun t9 e9 => ?_)
            obtain rfl : t9 = nI (47 - (i - i / 48 * 48)) := e9.trans (pk_sub (by omega))
            refine q_cV (rest := [.int (nI i), .ref (mo + 7)]) E (c_Model_byteOf l g n0 mo 148 (47 - (i - i / 48 * 48)) 0 (nI pn) (nI tn) (nI NN) 0 14 hw0 fd1 (by omega) (by omega)) w_1187 w_15 w_1184 w_1186 (bw_s 44 rfl) hd_Model_byteOf rfl ⟨by decide, by decide⟩ (OB.recv E.2.2.2.2.2 (by rfl) hm.1) hm hF hl.1 rfl (Nat.le_of_ble_eq_true rfl) d_Model_bytes_133 ⟨by decide, by decide⟩ (qi (fun rz1 H1 locs hq hF => ?_))
            subst hq
            obtain ⟨ft, hft⟩ := hh
            refine q_iast E hft hn7 hF i rfl (by omega) (by decide) d_Model_bytes_136 (fun H2 locs hq hft2 hF => ?_)
            have hm := hm.frm hq (by omega) (by omega) (by omega) (by omega) (OB.off hq (by omega) hm.1)
            have hfx := (hfx.tr (hfr.mono (fun q h => (Or.inl h : MR mo q ∨ q = mo + 7)))).tr (hq.mono (fun q h => Or.inr h))
            refine lv_iinc (k := 0) (v := nI (i + 1)) (lv' := [(5, .int (nI (i + 1))), (4, .int x4), (0, .ref mo), (2, .int sh)]) hx hb d_Model_bytes_137 hl rfl (i_inc i) (by decide) rfl (fun ls hl => ?_)
            refine lv_goto (tgt := 84) hx hb d_Model_bytes_140 (by decide) ?_
            have hl : lv_has ls 6 [(5, .int (nI (i + 1))), (4, .int x4), (0, .ref mo), (2, .int sh)] := lv_sub hl [0, 1, 2, 3] rfl
            exact ih (i + 1) NN _ _ ls _ _ (by omega) hm hS ⟨_, hft2⟩ hN hfx hF hl
        · skip
          refine lv_iconst (v := nI 0) hx hb d_Model_bytes_104 (by decide) ?_
          refine lv_goto (tgt := 136) hx hb d_Model_bytes_105 (by decide) ?_
          obtain ⟨ft, hft⟩ := hh
          refine q_iast E hft hn7 hF i rfl (by omega) (by decide) d_Model_bytes_136 (fun H1 locs hq hft2 hF => ?_)
          have hm := hm.frm hq (by omega) (by omega) (by omega) (by omega) (OB.off hq (by omega) hm.1)
          have hfx := (hfx.tr (hfr.mono (fun q h => (Or.inl h : MR mo q ∨ q = mo + 7)))).tr (hq.mono (fun q h => Or.inr h))
          refine lv_iinc (k := 0) (v := nI (i + 1)) (lv' := [(5, .int (nI (i + 1))), (4, .int x4), (0, .ref mo), (2, .int sh)]) hx hb d_Model_bytes_137 hl rfl (i_inc i) (by decide) rfl (fun ls hl => ?_)
          refine lv_goto (tgt := 84) hx hb d_Model_bytes_140 (by decide) ?_
          have hl : lv_has ls 6 [(5, .int (nI (i + 1))), (4, .int x4), (0, .ref mo), (2, .int sh)] := lv_sub hl [0, 1, 2, 3] rfl
          exact ih (i + 1) NN _ _ ls _ _ (by omega) hm hS ⟨_, hft2⟩ hN hfx hF hl
    refine lv_istore (lv' := [(4, .int rz1), (3, .int (nI (32 + 3 * k1))), (0, .ref mo), (1, .int (nI k1)), (2, .int sh)]) hx hb d_Model_bytes_30 hl (by decide) rfl (fun ls hl => ?_)
    refine lv_aload_n hx hb d_Model_bytes_32 rfl (lv_at hl 2 rfl) ?_
    refine lv_sipush (v := nI 148) hx hb d_Model_bytes_33 (by decide) ?_
    refine lv_iload_n hx hb d_Model_bytes_36 rfl (lv_at hl 1 rfl) ?_
    refine lv_iconst (v := nI 2) hx hb d_Model_bytes_37 (by decide) ?_
    refine lv_iadd hx hb d_Model_bytes_38 ?_
    refine lv_topi (fun t9 e9 => ?_)
    obtain rfl : t9 = nI ((32 + 3 * k1) + 2) := e9.trans (nI_add _ _)
    refine q_cV (rest := []) E (S_Model_inverse l g n0 mo 148 ((32 + 3 * k1) + 2) 0 (nI pn) (nI tn) (nI wn) 0 14 hw0  fd (by omega) (by omega) ) w_1117 w_15 w_1114 w_1116 (bw_s 33 rfl) hd_Model_inverse rfl ⟨by decide, by decide⟩ (OB.recv E.2.2.2.2.2 (by rfl) hm.1) hm hF hl.1 rfl (Nat.le_of_ble_eq_true rfl) d_Model_bytes_39 ⟨by decide, by decide⟩ (qv (fun H5 locs hq hF => ?_))
    obtain ⟨hq, fd_3, hm, hS9⟩ := hq
    have hS := hS.tr (hS9.mono (fun t h => by show 32 ≤ t; omega))
    have hfr := hfr.tr hq
    refine lv_aload_n hx hb d_Model_bytes_42 rfl (lv_at hl 2 rfl) ?_
    refine lv_sipush (v := nI 149) hx hb d_Model_bytes_43 (by decide) ?_
    refine lv_iload_n hx hb d_Model_bytes_46 rfl (lv_at hl 1 rfl) ?_
    refine lv_iconst (v := nI 1) hx hb d_Model_bytes_47 (by decide) ?_
    refine lv_iadd hx hb d_Model_bytes_48 ?_
    refine lv_topi (fun t9 e9 => ?_)
    obtain rfl : t9 = nI ((32 + 3 * k1) + 1) := e9.trans (nI_add _ _)
    refine lv_sipush (v := nI 148) hx hb d_Model_bytes_49 (by decide) ?_
    refine q_cV (rest := []) E (c_Model_product l g n0 mo 149 ((32 + 3 * k1) + 1) 148 0 (nI pn) (nI tn) (nI wn) 0 14 hw0  fd_3 (by omega) (by omega) (by omega) ) w_1113 w_15 w_1110 w_1112 (bw_s 32 rfl) hd_Model_product rfl ⟨by decide, by decide⟩ (OB.recv E.2.2.2.2.2 (by rfl) hm.1) hm hF hl.1 rfl (Nat.le_of_ble_eq_true rfl) d_Model_bytes_52 ⟨by decide, by decide⟩ (qv (fun H6 locs hq hF => ?_))
    obtain ⟨hq, fd_4, hm, hpv, hv⟩ := hq
    have hS := hS.put hpv.1 (by show 32 ≤ _; omega)
    have hfr := hfr.tr (kjR hq)
    refine lv_aload_n hx hb d_Model_bytes_55 rfl (lv_at hl 2 rfl) ?_
    refine lv_sipush (v := nI 148) hx hb d_Model_bytes_56 (by decide) ?_
    refine lv_iload_n hx hb d_Model_bytes_59 rfl (lv_at hl 1 rfl) ?_
    refine lv_sipush (v := nI 148) hx hb d_Model_bytes_60 (by decide) ?_
    refine q_cV (rest := []) E (c_Model_product l g n0 mo 148 (32 + 3 * k1) 148 0 (nI pn) (nI tn) (nI wn) 0 14 hw0  fd_4 (by omega) (by omega) (by omega) ) w_1113 w_15 w_1110 w_1112 (bw_s 32 rfl) hd_Model_product rfl ⟨by decide, by decide⟩ (OB.recv E.2.2.2.2.2 (by rfl) hm.1) hm hF hl.1 rfl (Nat.le_of_ble_eq_true rfl) d_Model_bytes_63 ⟨by decide, by decide⟩ (qv (fun H7 locs hq hF => ?_))
    obtain ⟨hq, fd_5, hm, hpv, hv⟩ := hq
    have hS := hS.put hpv.1 (by show 32 ≤ _; omega)
    have hfr := hfr.tr (kjR hq)
    refine lv_aload_n hx hb d_Model_bytes_66 rfl (lv_at hl 2 rfl) ?_
    refine lv_iload_n hx hb d_Model_bytes_67 rfl (lv_at hl 4 rfl) ?_
    refine lv_if_eq (tgt := 76) hx hb d_Model_bytes_68 (by decide) (fun hs => ?_) (fun hs => ?_)
    rotate_left
    · skip
      refine lv_bipush (v := nI 48) hx hb d_Model_bytes_71 (by decide) ?_
      refine lv_goto (tgt := 78) hx hb d_Model_bytes_73 (by decide) ?_
      refine q_put (C := "KateDeskModel") (T := T_Model) (N := 14) (ci := 8) (ty := .int) E hm.1 in_Model ty_Model tyok_Model nm_Model rfl 12 (by decide) w_1013 rfl rfl (by decide +kernel) rfl rfl (Nat.le_of_ble_eq_true rfl) hmn hF d_Model_bytes_78 (fun H8 locs hq ho2 hF => ?_)
      have hfr := hfr.tr (hq.mono (fun q h => Or.inl h))
      have hm : MS g n0 H8 mo 0 (nI pn) (nI tn) (nI 48) 0 14 fd_5 := hm.frm hq (by omega) (by omega) (by omega) (by omega) ho2
      refine lv_iconst (v := nI 0) hx hb d_Model_bytes_81 (by decide) ?_
      refine lv_istore (lv' := [(5, .int (nI 0)), (4, .int rz1), (3, .int (nI (32 + 3 * k1))), (0, .ref mo), (1, .int (nI k1)), (2, .int sh)]) hx hb d_Model_bytes_82 hl (by decide) rfl (fun ls hl => ?_)
      have hl : lv_has ls 6 [(5, .int (nI 0)), (4, .int rz1), (0, .ref mo), (2, .int sh)] := lv_sub hl [0, 1, 3, 5] rfl
      exact loop 48 0 48 _ _ ls _ _ (by omega) hm hS (hP.2.2.2.2.1.imp (fun f hf => AI.off hfr (show ¬ MR mo (mo + 7) by unfold MR; omega) hf)) (by decide) (hfr.mono (fun q h => Or.inl h)) hF hl
    refine lv_bipush (v := nI 96) hx hb d_Model_bytes_76 (by decide) ?_
    refine q_put (C := "KateDeskModel") (T := T_Model) (N := 14) (ci := 8) (ty := .int) E hm.1 in_Model ty_Model tyok_Model nm_Model rfl 12 (by decide) w_1013 rfl rfl (by decide +kernel) rfl rfl (Nat.le_of_ble_eq_true rfl) hmn hF d_Model_bytes_78 (fun H8 locs hq ho2 hF => ?_)
    have hfr := hfr.tr (hq.mono (fun q h => Or.inl h))
    have hm : MS g n0 H8 mo 0 (nI pn) (nI tn) (nI 96) 0 14 fd_5 := hm.frm hq (by omega) (by omega) (by omega) (by omega) ho2
    refine lv_iconst (v := nI 0) hx hb d_Model_bytes_81 (by decide) ?_
    refine lv_istore (lv' := [(5, .int (nI 0)), (4, .int rz1), (3, .int (nI (32 + 3 * k1))), (0, .ref mo), (1, .int (nI k1)), (2, .int sh)]) hx hb d_Model_bytes_82 hl (by decide) rfl (fun ls hl => ?_)
    have hl : lv_has ls 6 [(5, .int (nI 0)), (4, .int rz1), (0, .ref mo), (2, .int sh)] := lv_sub hl [0, 1, 3, 5] rfl
    exact loop 96 0 96 _ _ ls _ _ (by omega) hm hS (hP.2.2.2.2.1.imp (fun f hf => AI.off hfr (show ¬ MR mo (mo + 7) by unfold MR; omega) hf)) (by decide) (hfr.mono (fun q h => Or.inl h)) hF hl
  refine lv_aload_n hx hb d_Model_bytes_0 rfl (lv_at hl 0 rfl) ?_
  refine lv_iload_n hx hb d_Model_bytes_1 rfl (lv_at hl 1 rfl) ?_
  refine q_cS (rest := [.ref mo]) E (c_Model_noPoint l g n0 a ) w_1151 w_15 w_1149 w_1150 hd_Model_noPoint rfl ⟨by decide, by decide⟩ trivial hF hl.1 rfl (Nat.le_of_ble_eq_true rfl) d_Model_bytes_2 ⟨by decide, by decide⟩ (qi (fun r_0 H1 locs hq hF => ?_))
  obtain ⟨h_0, hq⟩ := hq
  subst hq
  rcases h_0 with ⟨rfl, f_0⟩ | ⟨rfl, f_0⟩
  · skip
    have hl : lv_has ls 6 [(0, .ref mo), (1, .int a), (2, .int sh)] := lv_sub hl [0, 1, 2] rfl
    exact bad _ ls (fun h => (f_0) h) hF hl
  · skip
    have hl : lv_has ls 6 [(0, .ref mo), (1, .int a), (2, .int sh)] := lv_sub hl [0, 1, 2] rfl
    exact good _ ls f_0 hF hl
set_option maxHeartbeats 4000000 in
set_option maxRecDepth 100000 in
theorem Z_Model_feed (l : Launch) (g : WG) (n0 : Nat → Prop) (mo : Nat) (th : Int32) (pn tn wn : Nat) (B : Nat → Int) (n : Int32) (v : Int64) (m9 : Nat → Int32) (hn6 : n0 (mo + 6)) : Ctr l y_Model_feed (.code y_Model_feed prog_11_method_37_code 5 (some FieldType.int)) 1 22 0 0 n0 g [.ref mo, .int n, .long v] (fun H => MV g n0 H mo th pn tn wn B ∧ AI g H (mo + 6) 96 m9) (QI (fun r H H' => ((okC n (nI 1) (nI 8)) ∧ ((∃ k9, n = nI k9 ∧ tn + k9 ≤ 96 ∧ r = nI (tn + k9) ∧ MV g n0 H' mo 0 pn (tn + k9) wn B ∧ ∃ c', AI g H' (mo + 6) 96 c' ∧ fdM m9 v tn k9 c') ∨ (¬ nI tn + n ≤ nI 96 ∧ MV g n0 H' mo (nI 2) pn tn wn B ∧ AI g H' (mo + 6) 96 m9))) ∨ (¬ (okC n (nI 1) (nI 8)) ∧ MV g n0 H' mo 1 pn tn wn B ∧ AI g H' (mo + 6) 96 m9))) := by
  refine ctr_mk l (lv0 := [(0, .ref mo), (1, .int n), (2, .long v)]) (by decide) (Nat.le_of_ble_eq_true rfl) rfl ?_
  intro p e s m below meth c ls E hr hlk hnm hl hP
  obtain ⟨hP, hT⟩ := hP
  have hx := E.1
  have hb := E.2.1
  have hK := E.2.2.2.2.2
  have hF : ∀ q ∈ ([] : List Loc), n0 q.base := fun q hq => absurd hq List.not_mem_nil
  obtain ⟨⟨w9, n9, fd, hw9, hm, hB⟩, -⟩ := id hP
  have hS : SAME fd fd (fun t => 32 ≤ t) := SAME.rf
  have hmn := hP.mn
  have hbd := hP.2.2.2.2.2.1
  have hfr : FRM (MR mo) s.heap s.heap := FRM.rf
  have bad : ∀ (locs : List Loc) (ls : Array Slot), ¬ (okC n (nI 1) (nI 8)) → (∀ q ∈ locs, n0 q.base) → lv_has ls 5 [(0, .ref mo), (1, .int n), (2, .long v)] → W p l e { frames := 1, cells := 0, slots := 0, locals := 22 } s m [.ref mo, .int n, .long v].toArray below meth c s.heap locs 0 0 (MQ below (QcP (QI (fun r H H' => ((okC n (nI 1) (nI 8)) ∧ ((∃ k9, n = nI k9 ∧ tn + k9 ≤ 96 ∧ r = nI (tn + k9) ∧ MV g n0 H' mo 0 pn (tn + k9) wn B ∧ ∃ c', AI g H' (mo + 6) 96 c' ∧ fdM m9 v tn k9 c') ∨ (¬ nI tn + n ≤ nI 96 ∧ MV g n0 H' mo (nI 2) pn tn wn B ∧ AI g H' (mo + 6) 96 m9))) ∨ (¬ (okC n (nI 1) (nI 8)) ∧ MV g n0 H' mo 1 pn tn wn B ∧ AI g H' (mo + 6) 96 m9)))) [.ref mo, .int n, .long v].toArray s 0 0 (fun q => n0 q)) (F0 m 17 ls [.int (nI 1), .ref mo]) := by
    intro  locs   ls hno hF hl
    refine lv_iconst (v := nI 1) hx hb d_Model_feed_17 (by decide) ?_
    refine q_cV (rest := []) E (c_Model_fails l g n0 mo th (nI pn) (nI tn) (nI wn) w9 n9 hw9 (nI 1) (nI 1) fd hmn (Or.inl rfl)) w_1056 w_15 w_1053 w_1055 (bw_s 24 rfl) hd_Model_fails rfl ⟨by decide, by decide⟩ (OB.recv E.2.2.2.2.2 (by rfl) hm.1) hm hF hl.1 rfl (Nat.le_of_ble_eq_true rfl) d_Model_feed_18 ⟨by decide, by decide⟩ (qi (fun rf H1 locs hq hF => ?_))
    obtain ⟨hrf, hq, hm⟩ := hq
    subst hrf
    have hfr := hfr.tr hq
    rw [if_neg (by decide)] at hm
    refine lv_if_ne (tgt := 48) hx hb d_Model_feed_21 (by decide) (fun _ => ?_) (fun h9 => absurd h9 (by decide))
    refine lv_iconst (v := nI 0) hx hb d_Model_feed_48 (by decide) ?_
    exact q_iret E hr hlk (⟨_, rfl, Or.inr ⟨hno, hP.zkeep hfr hw9 hm hS hB, (AI.off hfr (show ¬ MR mo (mo + 6) by unfold MR; omega) hT)⟩⟩) hF d_Model_feed_49
  have good : ∀ (locs : List Loc) (ls : Array Slot), okC n (nI 1) (nI 8) → (∀ q ∈ locs, n0 q.base) → lv_has ls 5 [(0, .ref mo), (1, .int n), (2, .long v)] → W p l e { frames := 1, cells := 0, slots := 0, locals := 22 } s m [.ref mo, .int n, .long v].toArray below meth c s.heap locs 0 0 (MQ below (QcP (QI (fun r H H' => ((okC n (nI 1) (nI 8)) ∧ ((∃ k9, n = nI k9 ∧ tn + k9 ≤ 96 ∧ r = nI (tn + k9) ∧ MV g n0 H' mo 0 pn (tn + k9) wn B ∧ ∃ c', AI g H' (mo + 6) 96 c' ∧ fdM m9 v tn k9 c') ∨ (¬ nI tn + n ≤ nI 96 ∧ MV g n0 H' mo (nI 2) pn tn wn B ∧ AI g H' (mo + 6) 96 m9))) ∨ (¬ (okC n (nI 1) (nI 8)) ∧ MV g n0 H' mo 1 pn tn wn B ∧ AI g H' (mo + 6) 96 m9)))) [.ref mo, .int n, .long v].toArray s 0 0 (fun q => n0 q)) (F0 m 17 ls [.int (nI 0), .ref mo]) := by
    intro  locs   ls hok hF hl
    refine lv_iconst (v := nI 1) hx hb d_Model_feed_17 (by decide) ?_
    refine q_cV (rest := []) E (c_Model_fails l g n0 mo th (nI pn) (nI tn) (nI wn) w9 n9 hw9 (nI 0) (nI 1) fd hmn (Or.inr rfl)) w_1056 w_15 w_1053 w_1055 (bw_s 24 rfl) hd_Model_fails rfl ⟨by decide, by decide⟩ (OB.recv E.2.2.2.2.2 (by rfl) hm.1) hm hF hl.1 rfl (Nat.le_of_ble_eq_true rfl) d_Model_feed_18 ⟨by decide, by decide⟩ (qi (fun rf H1 locs hq hF => ?_))
    obtain ⟨hrf, hq, hm⟩ := hq
    subst hrf
    have hfr := hfr.tr hq
    rw [if_pos nI_0] at hm
    refine lv_if_ne (tgt := 48) hx hb d_Model_feed_21 (by decide) (fun h9 => absurd (by decide) h9) (fun _ => ?_)
    obtain ⟨k1, e_k1, h_k1, h2_k1⟩ := okC_nat (by decide) (by decide) hok
    rw [e_k1] at hl
    refine lv_aload_n hx hb d_Model_feed_24 rfl (lv_at hl 0 rfl) ?_
    refine lv_aload_n hx hb d_Model_feed_25 rfl (lv_at hl 0 rfl) ?_
    refine q_get (C := "KateDeskModel") (T := T_Model) (N := 14) (ci := 8) E hm.1 in_Model rfl 10 (by decide) w_1011 rfl rfl d_Model_feed_26 ?_
    refine lv_iload_n hx hb d_Model_feed_29 rfl (lv_at hl 1 rfl) ?_
    refine lv_iadd hx hb d_Model_feed_30 ?_
    refine lv_bipush (v := nI 96) hx hb d_Model_feed_31 (by decide) ?_
    refine lv_icmp_le (tgt := 40) hx hb d_Model_feed_33 (by decide) (fun hc => ?_) (fun hc => ?_)
    rotate_left
    · skip
      refine lv_iconst (v := nI 1) hx hb d_Model_feed_36 (by decide) ?_
      refine lv_goto (tgt := 41) hx hb d_Model_feed_37 (by decide) ?_
      refine lv_iconst (v := nI 2) hx hb d_Model_feed_41 (by decide) ?_
      refine q_cV (rest := []) E (c_Model_fails l g n0 mo 0 (nI pn) (nI tn) (nI wn) w9 n9 hw9 (nI 1) (nI 2) fd hmn (Or.inl rfl)) w_1056 w_15 w_1053 w_1055 (bw_s 24 rfl) hd_Model_fails rfl ⟨by decide, by decide⟩ (OB.recv E.2.2.2.2.2 (by rfl) hm.1) hm hF hl.1 rfl (Nat.le_of_ble_eq_true rfl) d_Model_feed_42 ⟨by decide, by decide⟩ (qi (fun rf H2 locs hq hF => ?_))
      obtain ⟨hrf, hq, hm⟩ := hq
      subst hrf
      have hfr := hfr.tr hq
      rw [if_neg (by decide)] at hm
      refine lv_if_eq (tgt := 50) hx hb d_Model_feed_45 (by decide) (fun h9 => absurd h9 (by decide)) (fun _ => ?_)
      refine lv_iconst (v := nI 0) hx hb d_Model_feed_48 (by decide) ?_
      exact q_iret E hr hlk (⟨_, rfl, Or.inl ⟨hok, Or.inr ⟨by rw [e_k1]; exact hc, hP.zkeep hfr hw9 hm hS hB, (AI.off hfr (show ¬ MR mo (mo + 6) by unfold MR; omega) hT)⟩⟩⟩) hF d_Model_feed_49
    have hfit : tn + k1 ≤ 96 := by rw [nI_add] at hc; exact (nI_leI (by omega) (by decide)).mp hc
    refine lv_iconst (v := nI 0) hx hb d_Model_feed_40 (by decide) ?_
    refine lv_iconst (v := nI 2) hx hb d_Model_feed_41 (by decide) ?_
    refine q_cV (rest := []) E (c_Model_fails l g n0 mo 0 (nI pn) (nI tn) (nI wn) w9 n9 hw9 (nI 0) (nI 2) fd hmn (Or.inr rfl)) w_1056 w_15 w_1053 w_1055 (bw_s 24 rfl) hd_Model_fails rfl ⟨by decide, by decide⟩ (OB.recv E.2.2.2.2.2 (by rfl) hm.1) hm hF hl.1 rfl (Nat.le_of_ble_eq_true rfl) d_Model_feed_42 ⟨by decide, by decide⟩ (qi (fun rf H2 locs hq hF => ?_))
    obtain ⟨hrf, hq, hm⟩ := hq
    subst hrf
    have hfr := hfr.tr hq
    rw [if_pos nI_0] at hm
    refine lv_if_eq (tgt := 50) hx hb d_Model_feed_45 (by decide) (fun _ => ?_) (fun h9 => absurd (by decide) h9)
    refine lv_iconst (v := nI 0) hx hb d_Model_feed_50 (by decide) ?_
    refine lv_istore (lv' := [(4, .int (nI 0)), (0, .ref mo), (1, .int (nI k1)), (2, .long v)]) hx hb d_Model_feed_51 hl (by decide) rfl (fun ls hl => ?_)
    have hl : lv_has ls 5 [(4, .int (nI 0)), (0, .ref mo), (1, .int (nI k1)), (2, .long v)] := lv_sub hl [0, 1, 2, 3] rfl
    have hh := (AI.off hfr (show ¬ MR mo (mo + 6) by unfold MR; omega) hT)
    have hfr6 := hfr.mono (fun q h => (Or.inl h : MR mo q ∨ q = mo + 6))
    have loop : ∀ (k : Nat) (i : Nat) (H : Heap) (locs : List Loc) (ls : Array Slot) (c1 : Nat → Int32), i + k = k1 → MS g n0 H mo 0 (nI pn) (nI tn) (nI wn) w9 n9 fd → AI g H (mo + 6) 96 c1 → fdM m9 v tn i c1 → FRM (fun q => MR mo q ∨ q = mo + 6) s.heap H → (∀ q ∈ locs, n0 q.base) → lv_has ls 5 [(4, .int (nI i)), (0, .ref mo), (1, .int (nI k1)), (2, .long v)] → W p l e { frames := 1, cells := 0, slots := 0, locals := 22 } s m [.ref mo, .int n, .long v].toArray below meth c H locs 0 0 (MQ below (QcP (QI (fun r H H' => ((okC n (nI 1) (nI 8)) ∧ ((∃ k9, n = nI k9 ∧ tn + k9 ≤ 96 ∧ r = nI (tn + k9) ∧ MV g n0 H' mo 0 pn (tn + k9) wn B ∧ ∃ c', AI g H' (mo + 6) 96 c' ∧ fdM m9 v tn k9 c') ∨ (¬ nI tn + n ≤ nI 96 ∧ MV g n0 H' mo (nI 2) pn tn wn B ∧ AI g H' (mo + 6) 96 m9))) ∨ (¬ (okC n (nI 1) (nI 8)) ∧ MV g n0 H' mo 1 pn tn wn B ∧ AI g H' (mo + 6) 96 m9)))) [.ref mo, .int n, .long v].toArray s 0 0 (fun q => n0 q)) (F0 m 53 ls []) := by
      intro k
      induction k with
      | zero =>
        intro  i   H   locs   ls   c1 hi hm hh hcv hfr6 hF hl
        obtain rfl : i = k1 := by omega
        refine lv_iload hx hb d_Model_feed_53 (lv_at hl 0 rfl) ?_
        refine lv_iload_n hx hb d_Model_feed_55 rfl (lv_at hl 2 rfl) ?_
        refine lv_icmp_ge (tgt := 89) hx hb d_Model_feed_56 (by decide) (fun _ => ?_) (fun h9 => absurd (nI_le (Nat.le_refl _) (by omega)) h9)
        refine lv_aload_n hx hb d_Model_feed_89 rfl (lv_at hl 1 rfl) ?_
        refine lv_dup hx hb d_Model_feed_90 rfl ?_
        refine q_get (C := "KateDeskModel") (T := T_Model) (N := 14) (ci := 8) E hm.1 in_Model rfl 10 (by decide) w_1011 rfl rfl d_Model_feed_91 ?_
        refine lv_iload_n hx hb d_Model_feed_94 rfl (lv_at hl 2 rfl) ?_
        refine lv_iadd hx hb d_Model_feed_95 ?_
        refine lv_topi (fun t9 e9 => ?_)
        obtain rfl : t9 = nI (tn + i) := e9.trans (nI_add _ _)
        refine q_put (C := "KateDeskModel") (T := T_Model) (N := 14) (ci := 8) (ty := .int) E hm.1 in_Model ty_Model tyok_Model nm_Model rfl 10 (by decide) w_1011 rfl rfl (by decide +kernel) rfl rfl (Nat.le_of_ble_eq_true rfl) hmn hF d_Model_feed_96 (fun H1 locs hq ho2 hF => ?_)
        have hm : MS g n0 H1 mo 0 (nI pn) (nI (tn + i)) (nI wn) w9 n9 fd := hm.frm hq (by omega) (by omega) (by omega) (by omega) ho2
        have hh := AI.off hq (by omega) hh
        have hfr6 := hfr6.tr (hq.mono (fun q h => Or.inl (Or.inl h)))
        refine lv_aload_n hx hb d_Model_feed_99 rfl (lv_at hl 1 rfl) ?_
        refine q_get (C := "KateDeskModel") (T := T_Model) (N := 14) (ci := 8) E hm.1 in_Model rfl 10 (by decide) w_1011 rfl rfl d_Model_feed_100 ?_
        exact q_iret E hr hlk (⟨_, rfl, Or.inl ⟨hok, Or.inl ⟨_, e_k1, hfit, rfl, hP.zfin6 hfr6 ⟨_, hh⟩ hw9 hm hS hB ⟨hbd.1, hfit, hbd.2.2⟩, _, hh, hcv⟩⟩⟩) hF d_Model_feed_103
      | succ k ih =>
        intro  i   H   locs   ls   c1 hi hm hh hcv hfr6 hF hl
        refine lv_iload hx hb d_Model_feed_53 (lv_at hl 0 rfl) ?_
        refine lv_iload_n hx hb d_Model_feed_55 rfl (lv_at hl 2 rfl) ?_
        refine lv_icmp_ge (tgt := 89) hx hb d_Model_feed_56 (by decide) (fun h9 => absurd h9 (nI_ge (by omega) (by omega))) (fun _ => ?_)
        refine lv_aload_n hx hb d_Model_feed_59 rfl (lv_at hl 1 rfl) ?_
        refine q_get (C := "KateDeskModel") (T := T_Model) (N := 14) (ci := 8) E hm.1 in_Model rfl 9 (by decide) w_1010 rfl rfl d_Model_feed_60 ?_
        refine lv_aload_n hx hb d_Model_feed_63 rfl (lv_at hl 1 rfl) ?_
        refine q_get (C := "KateDeskModel") (T := T_Model) (N := 14) (ci := 8) E hm.1 in_Model rfl 10 (by decide) w_1011 rfl rfl d_Model_feed_64 ?_
        refine lv_iload hx hb d_Model_feed_67 (lv_at hl 0 rfl) ?_
        refine lv_iadd hx hb d_Model_feed_69 ?_
        refine lv_topi (fun t9 e9 => ?_)
        obtain rfl : t9 = nI (tn + i) := e9.trans (nI_add _ _)
        refine lv_lload_n hx hb d_Model_feed_70 rfl (lv_at hl 3 rfl) ?_
        refine lv_bipush (v := nI 8) hx hb d_Model_feed_71 (by decide) ?_
        refine lv_iload hx hb d_Model_feed_73 (lv_at hl 0 rfl) ?_
        refine lv_imul hx hb d_Model_feed_75 ?_
        refine lv_lshr (v := v >>> (((nI 8) * (nI i)).toInt64 &&& 63)) hx hb d_Model_feed_76 rfl ?_
        refine lv_ldc2 (v := 255) hx hb E.2.2.2.1 (E.2.2.2.2.1 _ w_1057) d_Model_feed_77 ?_
        refine lv_land hx hb d_Model_feed_80 ?_
        refine lv_l2i (v := ((v >>> (((nI 8) * (nI i)).toInt64 &&& 63)) &&& 255).toInt32) hx hb d_Model_feed_81 rfl ?_
        refine q_iast E hh hn6 hF (tn + i) rfl (by omega) (by decide) d_Model_feed_82 (fun H1 locs hq hft2 hF => ?_)
        have hm := hm.frm hq (by omega) (by omega) (by omega) (by omega) (OB.off hq (by omega) hm.1)
        refine lv_iinc (k := 0) (v := nI (i + 1)) (lv' := [(4, .int (nI (i + 1))), (0, .ref mo), (1, .int (nI k1)), (2, .long v)]) hx hb d_Model_feed_83 hl rfl (i_inc i) (by decide) rfl (fun ls hl => ?_)
        refine lv_goto (tgt := 53) hx hb d_Model_feed_86 (by decide) ?_
        have hl : lv_has ls 5 [(4, .int (nI (i + 1))), (0, .ref mo), (1, .int (nI k1)), (2, .long v)] := lv_sub hl [0, 1, 2, 3] rfl
        exact ih (i + 1) _ _ ls _ (by omega) hm hft2 hcv.nx (hfr6.tr (hq.mono (fun q h => Or.inr h))) hF hl
    exact loop k1 0 _ _ ls _ (by omega) hm hh ⟨fun _ _ => rfl, fun j hj => absurd hj (Nat.not_lt_zero _)⟩ hfr6 hF hl
  refine lv_aload_n hx hb d_Model_feed_0 rfl (lv_at hl 0 rfl) ?_
  refine lv_iload_n hx hb d_Model_feed_1 rfl (lv_at hl 1 rfl) ?_
  refine lv_iconst (v := nI 1) hx hb d_Model_feed_2 (by decide) ?_
  refine lv_icmp_lt (tgt := 12) hx hb d_Model_feed_3 (by decide) (fun g_3 => ?_) (fun g_3 => ?_)
  rotate_left
  · skip
    refine lv_iload_n hx hb d_Model_feed_6 rfl (lv_at hl 1 rfl) ?_
    refine lv_bipush (v := nI 8) hx hb d_Model_feed_7 (by decide) ?_
    refine lv_icmp_le (tgt := 16) hx hb d_Model_feed_9 (by decide) (fun g_9 => ?_) (fun g_9 => ?_)
    rotate_left
    · skip
      refine lv_iconst (v := nI 1) hx hb d_Model_feed_12 (by decide) ?_
      refine lv_goto (tgt := 17) hx hb d_Model_feed_13 (by decide) ?_
      have hl : lv_has ls 5 [(0, .ref mo), (1, .int n), (2, .long v)] := lv_sub hl [0, 1, 2] rfl
      exact bad _ ls (fun h => (fun q => g_9 q.2) h) hF hl
    refine lv_iconst (v := nI 0) hx hb d_Model_feed_16 (by decide) ?_
    have hl : lv_has ls 5 [(0, .ref mo), (1, .int n), (2, .long v)] := lv_sub hl [0, 1, 2] rfl
    exact good _ ls (⟨g_3, g_9⟩) hF hl
  refine lv_iconst (v := nI 1) hx hb d_Model_feed_12 (by decide) ?_
  refine lv_goto (tgt := 17) hx hb d_Model_feed_13 (by decide) ?_
  have hl : lv_has ls 5 [(0, .ref mo), (1, .int n), (2, .long v)] := lv_sub hl [0, 1, 2] rfl
  exact bad _ ls (fun h => (fun q => q.1 g_3) h) hF hl
