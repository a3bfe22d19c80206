theorem nj_c {b c : Nat} (h : c ≤ 500 ∧ ¬ (148 ≤ c ∧ c ≤ 151) ∧ ¬ (445 ≤ c ∧ c ≤ 460)) : nJ b (b + c) := by unfold nJ nD; omega
theorem nj_Fr {b k : Nat} (hk : k < 6) : nJ b (kFr b k) := by unfold nJ nD kFr; split <;> omega
theorem nj_Fq {b k : Nat} (hk : k < 6) : nJ b (kFq b k) := by unfold nJ nD kFq; split <;> omega
theorem nj_X {b k : Nat} (hk : k < 9) : nJ b (kX b k) := by unfold nJ nD kX; omega
theorem nj_Y {b k : Nat} (hk : k < 7) : nJ b (kY b k) := by unfold nJ nD kY; omega
theorem nj_V {b k : Nat} (hk : k < 16) : nJ b (kV b k) := by unfold nJ nD kV; omega
theorem nj_Sc {b k : Nat} (hk : k < 32) : nJ b (kSc b k) := by unfold nJ nD kSc; omega
theorem nj_O {b k : Nat} (hk : k < 64) : nJ b (kO1 b k) ∧ nJ b (kO2 b k) ∧ nJ b (kO3 b k) := by unfold nJ nD kO1 kO2 kO3; omega
theorem nj_PA {b k : Nat} (hk : k < 12) : nJ b (kPA1 b k) ∧ nJ b (kPA2 b k) ∧ nJ b (kPA3 b k) := by unfold nJ nD kPA1 kPA2 kPA3; omega
theorem nj_PW {b k : Nat} (hk : k < 16) : nJ b (kPW1 b k) ∧ nJ b (kPW2 b k) ∧ nJ b (kPW3 b k) := by unfold nJ nD kPW1 kPW2 kPW3; omega
theorem ds_start {g : WG} {n0 : Nat → Prop} {H : Heap} {b : Nat} {mr mq : Int64} (h : DK g n0 H b 0 0 0 mr mq) (hdi : ∀ j, j < 16 → AB g H (b + 444 + 1 + j) 257 (fun _ => 0)) (hfj : ∀ k, k < 4 → J14 g n0 H (b + 465 + 1 + k)) : DS g H H b 0 0 0 mr mq := by
  have fq := h.su.2.1.2.1.toA (n1 := nJ b) (fun k hk => nj_Fq hk)
  have fr := h.fr.toA (n1 := nJ b) (fun k hk => nj_Fr hk)
  have cv : CV g (nJ b) H (b + 176) (b + 169) (kFq b) mq (kX b) := ⟨h.su.2.1.1, fq, fun k hk => ⟨nj_X hk, (h.su.2.1.2.2 k hk).2⟩⟩
  exact ⟨FRM.rf, ⟨h.ob, fr, ⟨h.su.1, cv, h.su.2.2.1.toA (nj_c (by decide)) (nj_c (by decide)) (nj_c (by decide)), h.su.2.2.2.1, fun k hk => (h.su.2.2.2.2.1 k hk).toA (nj_O hk).1 (nj_O hk).2.1 (nj_O hk).2.2⟩, h.su.2.2.2.2.2.1, fun k hk => ⟨_, hdi k hk, fun _ _ => sd_0⟩, ⟨h.po.1, fr, fun k hk => ⟨nj_Y hk, (h.po.2.2.1 k hk).2⟩, h.po.2.2.2.1, fun k hk => ⟨nj_V hk, (h.po.2.2.2.2 k hk).2⟩⟩, ⟨h.rs.1, fun k hk => ⟨nj_Sc hk, (h.rs.2 k hk).2⟩⟩, h.pa, fun k hk => (h.pt k hk).toA (nj_PA hk).1 (nj_PA hk).2.1 (nj_PA hk).2.2, h.pw, fun k hk => (h.pq k hk).toA (nj_PW hk).1 (nj_PW hk).2.1 (nj_PW hk).2.2, h.hp.toA (nj_c (by decide)) (nj_c (by decide)) (nj_c (by decide)), h.mu.toA (nj_c (by decide)) (nj_c (by decide)) (nj_c (by decide)), ⟨nj_c (by decide), h.hs.2⟩, ⟨nj_c (by decide), h.fa.2⟩, ⟨h.fm, cv, ⟨nj_c (by decide), (hfj 0 (by decide)).2⟩, ⟨nj_c (by decide), (hfj 1 (by decide)).2⟩, ⟨nj_c (by decide), (hfj 2 (by decide)).2⟩, ⟨nj_c (by decide), (hfj 3 (by decide)).2⟩⟩, h.ge.toA (nj_c (by decide)) (nj_c (by decide)) (nj_c (by decide))⟩, ⟨h.tp, h.tc⟩, ⟨h.wr, h.wc⟩, by decide, by decide, by decide⟩
theorem DS.onD {g : WG} {H0 H H' : Heap} {b p t w : Nat} {mr mq : Int64} (d : DS g H0 H b p t w mr mq) (he : ∀ q, nD b q → H'[q]? = H[q]?) : DS g H' H' b p t w mr mq :=
  ⟨FRM.rf, d.x.on (fun q h => he q h.1), ⟨d.tp.1.eq (he _ (nd_148 (by decide))), d.tp.2.imp (fun f hf => hf.eq (he _ (nd_148 (by decide))))⟩, ⟨d.wr.1.eq (he _ (nd_148 (by decide))), d.wr.2.imp (fun f hf => hf.eq (he _ (nd_148 (by decide))))⟩, d.2.2.2.2⟩
/-- the law's world but for the model: the desk, and the row of one answer -/
def LG (g : WG) (s0 : State) (H : Heap) (b pn tn wn : Nat) (mr mq : Int64) : Prop := OLD s0 H ∧ b + 511 ≤ H.size ∧ DS g H H b pn tn wn mr mq ∧ ∃ f, AJ g H (b + 510) 1 f
section LGR
variable {g : WG} {s0 : State} {H H' : Heap} {b pn tn wn pn2 tn2 wn2 : Nat} {mr mq : Int64}
theorem LG.d (h : LG g s0 H b pn tn wn mr mq) : DS g H H b pn tn wn mr mq := h.2.2.1
theorem LG.hx (h : LG g s0 H b pn tn wn mr mq) (hb0 : s0.heap.size ≤ b) : HXA s0 H.size := Nat.le_trans hb0 (Nat.le_trans (Nat.le_add_right _ _) h.2.1)
theorem old_nd {b q : Nat} (h : q < b) : ¬ nD b q := fun k => Nat.lt_irrefl _ (Nat.lt_of_lt_of_le h k.1)
theorem nd_lt {b q n : Nat} (h : nD b q) (hn : b + 511 ≤ n) : q < n := by unfold nD at h; omega
theorem km_lt {b q n : Nat} (h : kM b q) (hn : b + 511 ≤ n) : q < n := by unfold kM at h; omega
theorem nd_n510 {b q : Nat} (h : nD b q) : ¬ q = b + 510 := by unfold nD at h; omega
theorem LG.call (h : LG g s0 H b pn tn wn mr mq) (hb0 : s0.heap.size ≤ b) (d : DS g H H' b pn2 tn2 wn2 mr mq) : LG g s0 H' b pn2 tn2 wn2 mr mq ∧ ∀ q, kM b q → H'[q]? = H[q]? :=
  ⟨⟨fun q hq => (d.1.2 q (old_nd (Nat.lt_of_lt_of_le hq hb0))).trans (h.1 q hq), by rw [d.1.1]; exact h.2.1, ⟨FRM.rf, d.2⟩, h.2.2.2.imp (fun f hf => AJ.off d.1 nD_510 hf)⟩, fun q hq => d.1.2 q (nD_m hq)⟩
theorem LG.store {f : Nat → Int64} (h : LG g s0 H b pn tn wn mr mq) (hb0 : s0.heap.size ≤ b) (hk : KJ g (fun q => q = b + 510) H H') (hA : AJ g H' (b + 510) 1 f) : LG g s0 H' b pn tn wn mr mq ∧ ∀ q, kM b q → H'[q]? = H[q]? :=
  ⟨⟨fun q hq => (hk.off (show ¬ q = b + 510 by omega)).trans (h.1 q hq), by rw [hk.1]; exact h.2.1, h.d.onD (fun q hq => hk.off (nd_n510 hq)), f, hA⟩, fun q hq => hk.off (n_510 hq)⟩
theorem LG.grow (h : LG g s0 H b pn tn wn mr mq) (hb0 : s0.heap.size ≤ b) (hs : H.size ≤ H'.size) (he : ∀ q, q < H.size → H'[q]? = H[q]?) : LG g s0 H' b pn tn wn mr mq ∧ ∀ q, kM b q → H'[q]? = H[q]? :=
  ⟨⟨fun q hq => (he q (Nat.lt_of_lt_of_le hq (h.hx hb0))).trans (h.1 q hq), Nat.le_trans h.2.1 hs, h.d.onD (fun q hq => he q (nd_lt hq h.2.1)), h.2.2.2.imp (fun f hf => hf.eq (he _ (Nat.lt_of_lt_of_le (Nat.add_lt_add_left (by decide) b) h.2.1)))⟩, fun q hq => he q (km_lt hq h.2.1)⟩
end LGR
theorem feed_k {tn : Nat} {k : Nat} (ht : tn ≤ 96) (hk : k ≤ 8) (h : nI tn + nI k ≤ nI 96) : tn + k ≤ 96 := by
  rw [nI_add] at h
  exact (nI_leI (by omega) (by decide)).mp h
theorem comb_S16 {x : Int32} {n : Nat} (hn : n ≤ 16) (h : okS x (nI n)) : ∃ k, x = nI k ∧ (0 < n → k + n ≤ 32) := by
  by_cases h0 : 0 < n
  · obtain ⟨k, e, q⟩ := okS_nat h0 (by omega) h
    exact ⟨k, e, fun _ => q⟩
  · obtain ⟨k, e⟩ := nI_sur x
    exact ⟨k, e, fun h => absurd h h0⟩
set_option maxHeartbeats 4000000 in
set_option maxRecDepth 100000 in
theorem H_feed (l : Launch) (g : WG) (s0 : State) (hxs : XS l s0) (b pn tn wn : Nat) (mr mq : Int64) (hb0 : s0.heap.size ≤ b) (x1 : Int32) (v : Int64) (hno : va_Nc "java/lang/IllegalStateException" "java/lang/IllegalArgumentException" s0) : CtrH l y_Law_feed (.codeWith y_Law_feed method_3_code 6 (some FieldType.int) [(0, 11, 14, 13), (0, 11, 18, 15)]) 8 128 1 6 (HXA s0) g s0 [.ref b, .int x1, .long v, .ref (b + 510)] (fun H => LG g s0 H b pn tn wn mr mq) (QI (fun r H H' => ((((okC x1 (nI 1) (nI 8)) ∧ ((∃ k9, x1 = nI k9 ∧ tn + k9 ≤ 96 ∧ r = nI 0 ∧ AJ g H' (b + 510) 1 (fun _ => (nI (tn + k9)).toInt64) ∧ LG g s0 H' b pn (tn + k9) wn mr mq) ∨ (¬ nI tn + x1 ≤ nI 96 ∧ r = nI 2 ∧ LG g s0 H' b pn tn wn mr mq)))) ∨ (¬ (okC x1 (nI 1) (nI 8)) ∧ r = nI 1 ∧ LG g s0 H' b pn tn wn mr mq)) ∧ ∀ q, kM b q → H'[q]? = H[q]?)) := by
  refine ctrH_mk l (lv0 := [(0, .ref b), (1, .int x1), (2, .long v), (4, .ref (b + 510))]) (by decide) (Nat.le_of_ble_eq_true rfl) rfl ?_
  intro p e s m below meth c ls E hw0 hr hlk hex hl hP
  have hx := E.1
  have hb := E.2.1
  have hK := E.2.2.2.2.2
  have hF : ∀ q ∈ ([] : List Loc), HXA s0 q.base := fun q hq => absurd hq List.not_mem_nil
  have hold := hP.1
  have hd := hP.d
  have hbd := hd.2.2.2.2
  obtain ⟨f0, hA⟩ := hP.2.2.2
  by_cases hok : okC x1 (nI 1) (nI 8)
  · skip
    obtain ⟨k1, rfl, l1, q1⟩ := okC_nat (by decide) (by decide) hok
    by_cases hfit : nI tn + nI k1 ≤ nI 96
    · skip
      have hfit := feed_k hbd.2.1 q1 hfit
      refine lv_aload hx hb d_Law_feed_0 (lv_at hl 3 rfl) ?_
      refine lv_iconst (v := nI 0) hx hb d_Law_feed_2 (by decide) ?_
      refine lv_aload_n hx hb d_Law_feed_3 rfl (lv_at hl 0 rfl) ?_
      refine lv_iload_n hx hb d_Law_feed_4 rfl (lv_at hl 1 rfl) ?_
      refine lv_lload_n hx hb d_Law_feed_5 rfl (lv_at hl 2 rfl) ?_
      refine q_cV (rest := [.int (nI 0), .ref (b + 510)]) E ((G_Desk_feed l g b pn tn wn mr mq k1 v l1 q1 hfit).up (nD_up hb0)) w_396 w_1 w_393 w_394 w_395 hd_Desk_feed rfl ⟨by decide, by decide⟩ (OB.recv E.2.2.2.2.2 (by rfl) hd.x.ob) hd hF hl.1 rfl (Nat.le_of_ble_eq_true rfl) d_Law_feed_6 ⟨by decide, by decide⟩ (qi (fun r0 H1 locs hq hF => ?_))
      obtain ⟨hr0, hq⟩ := hq
      subst hr0
      have hg := hP.call hb0 hq
      refine lv_i2l (v := (nI (tn + k1)).toInt64) hx hb d_Law_feed_9 rfl ?_
      refine q_last (N := 1) E (AJ.off hq.1 nD_510 hA) (Nat.le_trans hb0 (Nat.le_add_right _ _)) hF 0 rfl (by decide) (by decide) d_Law_feed_10 (fun H2 locs hq2 hA2 hF => ?_)
      have hg2 := hg.1.store hb0 hq2 hA2
      refine lv_goto (tgt := 22) hx hb d_Law_feed_11 (by decide) ?_
      refine lv_iconst (v := nI 0) hx hb d_Law_feed_22 (by decide) ?_
      refine W.widen (k := 1) (n := 6) (by decide) (by decide) ?_
      exact q_iret E hr hlk (⟨_, rfl, Or.inl ⟨hok, Or.inl ⟨_, rfl, hfit, rfl, hA2.one, hg2.1⟩⟩, fun q h9 => (hg2.2 q h9).trans (hg.2 q h9)⟩) hF d_Law_feed_23
    · skip
      refine lv_aload hx hb d_Law_feed_0 (lv_at hl 3 rfl) ?_
      refine lv_iconst (v := nI 0) hx hb d_Law_feed_2 (by decide) ?_
      refine lv_aload_n hx hb d_Law_feed_3 rfl (lv_at hl 0 rfl) ?_
      refine lv_iload_n hx hb d_Law_feed_4 rfl (lv_at hl 1 rfl) ?_
      refine lv_lload_n hx hb d_Law_feed_5 rfl (lv_at hl 2 rfl) ?_
      refine q_catch2 E hw0 (q_runVT (rest := [.int (nI 0), .ref (b + 510)]) E hw0 (t_Desk_feedG l g (HXA s0) s0 hxs b pn tn wn mr mq (nI k1) v hok.1 hok.2 hfit) w_396 w_1 w_393 w_394 w_395 hd_Desk_feed rfl ⟨by decide, by decide⟩ (OB.recv E.2.2.2.2.2 (by rfl) hd.x.ob) (⟨hold, hP.hx hb0, hd⟩) hl.1 rfl (Nat.le_of_ble_eq_true rfl) d_Law_feed_6 ⟨by decide, by decide⟩) hF hex (by decide) w_391 hno ⟨by decide, by decide⟩ (by decide) w_392 (fun xx H1 locs htq hF => ?_)
      have hg := hP.grow hb0 htq.1 htq.2.1
      refine lv_astore (lv' := [(5, .ref xx), (0, .ref b), (1, .int (nI k1)), (2, .long v), (4, .ref (b + 510))]) hx hb d_Law_feed_18 hl (by decide) rfl (fun ls hl => ?_)
      refine lv_iconst (v := nI 2) hx hb d_Law_feed_20 (by decide) ?_
      exact q_iret E hr hlk (⟨_, rfl, Or.inl ⟨hok, Or.inr ⟨hfit, rfl, hg.1⟩⟩, hg.2⟩) hF d_Law_feed_21
  · skip
    refine lv_aload hx hb d_Law_feed_0 (lv_at hl 3 rfl) ?_
    refine lv_iconst (v := nI 0) hx hb d_Law_feed_2 (by decide) ?_
    refine lv_aload_n hx hb d_Law_feed_3 rfl (lv_at hl 0 rfl) ?_
    refine lv_iload_n hx hb d_Law_feed_4 rfl (lv_at hl 1 rfl) ?_
    refine lv_lload_n hx hb d_Law_feed_5 rfl (lv_at hl 2 rfl) ?_
    refine q_catch E hw0 (q_runVT (rest := [.int (nI 0), .ref (b + 510)]) E hw0 (t_Desk_feed l g (HXA s0) s0 hxs b x1 v (okC_bad hok)) w_396 w_1 w_393 w_394 w_395 hd_Desk_feed rfl ⟨by decide, by decide⟩ (OB.recv E.2.2.2.2.2 (by rfl) hd.x.ob) (⟨hold, hP.hx hb0⟩) hl.1 rfl (Nat.le_of_ble_eq_true rfl) d_Law_feed_6 ⟨by decide, by decide⟩) hF hex ⟨by decide, by decide⟩ (by decide) w_391 (fun xx H1 locs htq hF => ?_)
    have hg := hP.grow hb0 htq.1 htq.2.1
    refine lv_astore (lv' := [(5, .ref xx), (0, .ref b), (1, .int x1), (2, .long v), (4, .ref (b + 510))]) hx hb d_Law_feed_14 hl (by decide) rfl (fun ls hl => ?_)
    refine lv_iconst (v := nI 1) hx hb d_Law_feed_16 (by decide) ?_
    exact q_iret E hr hlk (⟨_, rfl, Or.inr ⟨hok, rfl, hg.1⟩, hg.2⟩) hF d_Law_feed_17
set_option maxHeartbeats 4000000 in
set_option maxRecDepth 100000 in
theorem H_number (l : Launch) (g : WG) (s0 : State) (hxs : XS l s0) (b pn tn wn : Nat) (mr mq : Int64) (hb0 : s0.heap.size ≤ b) (x1 : Int32) : CtrH l y_Law_number (.codeWith y_Law_number method_4_code 4 (some FieldType.int) [(0, 16, 19, 13)]) 8 126 1 6 (HXA s0) g s0 [.ref b, .int x1, .ref (b + 510)] (fun H => LG g s0 H b pn tn wn mr mq) (QI (fun r H H' => (((okS x1 (nI 1)) ∧ r = nI 0 ∧ LG g s0 H' b pn 0 wn mr mq) ∨ (¬ (okS x1 (nI 1)) ∧ r = nI 1 ∧ LG g s0 H' b pn tn wn mr mq)) ∧ ∀ q, kM b q → H'[q]? = H[q]?)) := by
  refine ctrH_mk l (lv0 := [(0, .ref b), (1, .int x1), (2, .ref (b + 510))]) (by decide) (Nat.le_of_ble_eq_true rfl) rfl ?_
  intro p e s m below meth c ls E hw0 hr hlk hex hl hP
  have hx := E.1
  have hb := E.2.1
  have hK := E.2.2.2.2.2
  have hF : ∀ q ∈ ([] : List Loc), HXA s0 q.base := fun q hq => absurd hq List.not_mem_nil
  have hold := hP.1
  have hd := hP.d
  have hbd := hd.2.2.2.2
  obtain ⟨f0, hA⟩ := hP.2.2.2
  by_cases hok : okS x1 (nI 1)
  · skip
    obtain ⟨k1, rfl, q1⟩ := okS_nat (by decide) (by decide) hok
    refine lv_aload_n hx hb d_Law_number_0 rfl (lv_at hl 2 rfl) ?_
    refine lv_iconst (v := nI 0) hx hb d_Law_number_1 (by decide) ?_
    refine lv_aload_n hx hb d_Law_number_2 rfl (lv_at hl 0 rfl) ?_
    refine lv_iload_n hx hb d_Law_number_3 rfl (lv_at hl 1 rfl) ?_
    refine q_cV (rest := [.int (nI 0), .ref (b + 510)]) E ((G_Desk_number l g b pn tn wn mr mq k1 q1 hbd.2.1).up (nD_up hb0)) w_491 w_1 w_488 w_489 w_490 hd_Desk_number rfl ⟨by decide, by decide⟩ (OB.recv E.2.2.2.2.2 (by rfl) hd.x.ob) hd hF hl.1 rfl (Nat.le_of_ble_eq_true rfl) d_Law_number_4 ⟨by decide, by decide⟩ (qi (fun r0 H1 locs hq hF => ?_))
    obtain ⟨-, hq⟩ := hq
    have hg := hP.call hb0 hq
    refine lv_if_eq (tgt := 14) hx hb d_Law_number_7 (by decide) (fun _ => ?_) (fun _ => ?_)
    · skip
      refine lv_lconst (v := 0) hx hb d_Law_number_14 (by decide) ?_
      refine q_last (N := 1) E (AJ.off hq.1 nD_510 hA) (Nat.le_trans hb0 (Nat.le_add_right _ _)) hF 0 rfl (by decide) (by decide) d_Law_number_15 (fun H2 locs hq2 hA2 hF => ?_)
      have hg2 := hg.1.store hb0 hq2 hA2
      refine lv_goto (tgt := 22) hx hb d_Law_number_16 (by decide) ?_
      refine lv_iconst (v := nI 0) hx hb d_Law_number_22 (by decide) ?_
      refine W.widen (k := 1) (n := 6) (by decide) (by decide) ?_
      exact q_iret E hr hlk (⟨_, rfl, Or.inl ⟨hok, rfl, hg2.1⟩, fun q h9 => (hg2.2 q h9).trans (hg.2 q h9)⟩) hF d_Law_number_23
    · skip
      refine lv_lconst (v := 1) hx hb d_Law_number_10 (by decide) ?_
      refine lv_goto (tgt := 15) hx hb d_Law_number_11 (by decide) ?_
      refine q_last (N := 1) E (AJ.off hq.1 nD_510 hA) (Nat.le_trans hb0 (Nat.le_add_right _ _)) hF 0 rfl (by decide) (by decide) d_Law_number_15 (fun H2 locs hq2 hA2 hF => ?_)
      have hg2 := hg.1.store hb0 hq2 hA2
      refine lv_goto (tgt := 22) hx hb d_Law_number_16 (by decide) ?_
      refine lv_iconst (v := nI 0) hx hb d_Law_number_22 (by decide) ?_
      refine W.widen (k := 1) (n := 6) (by decide) (by decide) ?_
      exact q_iret E hr hlk (⟨_, rfl, Or.inl ⟨hok, rfl, hg2.1⟩, fun q h9 => (hg2.2 q h9).trans (hg.2 q h9)⟩) hF d_Law_number_23
  · skip
    refine lv_aload_n hx hb d_Law_number_0 rfl (lv_at hl 2 rfl) ?_
    refine lv_iconst (v := nI 0) hx hb d_Law_number_1 (by decide) ?_
    refine lv_aload_n hx hb d_Law_number_2 rfl (lv_at hl 0 rfl) ?_
    refine lv_iload_n hx hb d_Law_number_3 rfl (lv_at hl 1 rfl) ?_
    refine q_catch E hw0 (q_runVT (rest := [.int (nI 0), .ref (b + 510)]) E hw0 (t_Desk_number l g (HXA s0) s0 hxs b x1 (hok)) w_491 w_1 w_488 w_489 w_490 hd_Desk_number rfl ⟨by decide, by decide⟩ (OB.recv E.2.2.2.2.2 (by rfl) hd.x.ob) (⟨hold, hP.hx hb0⟩) hl.1 rfl (Nat.le_of_ble_eq_true rfl) d_Law_number_4 ⟨by decide, by decide⟩) hF hex ⟨by decide, by decide⟩ (by decide) w_391 (fun xx H1 locs htq hF => ?_)
    have hg := hP.grow hb0 htq.1 htq.2.1
    refine lv_astore_n (lv' := [(3, .ref xx), (0, .ref b), (1, .int x1), (2, .ref (b + 510))]) hx hb d_Law_number_19 rfl hl (by decide) rfl (fun ls hl => ?_)
    refine lv_iconst (v := nI 1) hx hb d_Law_number_20 (by decide) ?_
    exact q_iret E hr hlk (⟨_, rfl, Or.inr ⟨hok, rfl, hg.1⟩, hg.2⟩) hF d_Law_number_21
set_option maxHeartbeats 4000000 in
set_option maxRecDepth 100000 in
theorem H_set (l : Launch) (g : WG) (s0 : State) (hxs : XS l s0) (b pn tn wn : Nat) (mr mq : Int64) (hb0 : s0.heap.size ≤ b) (x1 : Int32) (v : Int64) : CtrH l y_Law_set (.codeWith y_Law_set method_5_code 5 (some FieldType.int) [(0, 6, 9, 13)]) 8 127 1 6 (HXA s0) g s0 [.ref b, .int x1, .long v] (fun H => LG g s0 H b pn tn wn mr mq) (QI (fun r H H' => (((okS x1 (nI 1) ∧ ¬ v < 0) ∧ r = nI 0 ∧ LG g s0 H' b pn tn wn mr mq) ∨ (¬ (okS x1 (nI 1) ∧ ¬ v < 0) ∧ r = nI 1 ∧ LG g s0 H' b pn tn wn mr mq)) ∧ ∀ q, kM b q → H'[q]? = H[q]?)) := by
  refine ctrH_mk l (lv0 := [(0, .ref b), (1, .int x1), (2, .long v)]) (by decide) (Nat.le_of_ble_eq_true rfl) rfl ?_
  intro p e s m below meth c ls E hw0 hr hlk hex hl hP
  have hx := E.1
  have hb := E.2.1
  have hK := E.2.2.2.2.2
  have hF : ∀ q ∈ ([] : List Loc), HXA s0 q.base := fun q hq => absurd hq List.not_mem_nil
  have hold := hP.1
  have hd := hP.d
  have hbd := hd.2.2.2.2
  obtain ⟨f0, hA⟩ := hP.2.2.2
  by_cases hok : okS x1 (nI 1) ∧ ¬ v < 0
  · skip
    obtain ⟨k1, rfl, q1⟩ := okS_nat (by decide) (by decide) hok.1
    refine lv_aload_n hx hb d_Law_set_0 rfl (lv_at hl 0 rfl) ?_
    refine lv_iload_n hx hb d_Law_set_1 rfl (lv_at hl 1 rfl) ?_
    refine lv_lload_n hx hb d_Law_set_2 rfl (lv_at hl 2 rfl) ?_
    refine q_cV (rest := []) E ((G_Desk_set l g b pn tn wn mr mq k1 v q1 hok.2).up (nD_up hb0)) w_519 w_1 w_516 w_517 w_518 hd_Desk_set rfl ⟨by decide, by decide⟩ (OB.recv E.2.2.2.2.2 (by rfl) hd.x.ob) hd hF hl.1 rfl (Nat.le_of_ble_eq_true rfl) d_Law_set_3 ⟨by decide, by decide⟩ (qv (fun H1 locs hq hF => ?_))
    have hg := hP.call hb0 hq
    refine lv_goto (tgt := 13) hx hb d_Law_set_6 (by decide) ?_
    refine lv_iconst (v := nI 0) hx hb d_Law_set_13 (by decide) ?_
    refine W.widen (k := 1) (n := 6) (by decide) (by decide) ?_
    exact q_iret E hr hlk (⟨_, rfl, Or.inl ⟨hok, rfl, hg.1⟩, hg.2⟩) hF d_Law_set_14
  · skip
    refine lv_aload_n hx hb d_Law_set_0 rfl (lv_at hl 0 rfl) ?_
    refine lv_iload_n hx hb d_Law_set_1 rfl (lv_at hl 1 rfl) ?_
    refine lv_lload_n hx hb d_Law_set_2 rfl (lv_at hl 2 rfl) ?_
    refine q_catch E hw0 (q_runVT (rest := []) E hw0 (t_Desk_set l g (HXA s0) s0 hxs b x1 v (nbn hok)) w_519 w_1 w_516 w_517 w_518 hd_Desk_set rfl ⟨by decide, by decide⟩ (OB.recv E.2.2.2.2.2 (by rfl) hd.x.ob) (⟨hold, hP.hx hb0⟩) hl.1 rfl (Nat.le_of_ble_eq_true rfl) d_Law_set_3 ⟨by decide, by decide⟩) hF hex ⟨by decide, by decide⟩ (by decide) w_391 (fun xx H1 locs htq hF => ?_)
    have hg := hP.grow hb0 htq.1 htq.2.1
    refine lv_astore (lv' := [(4, .ref xx), (0, .ref b), (1, .int x1), (2, .long v)]) hx hb d_Law_set_9 hl (by decide) rfl (fun ls hl => ?_)
    refine lv_iconst (v := nI 1) hx hb d_Law_set_11 (by decide) ?_
    exact q_iret E hr hlk (⟨_, rfl, Or.inr ⟨hok, rfl, hg.1⟩, hg.2⟩) hF d_Law_set_12
set_option maxHeartbeats 4000000 in
set_option maxRecDepth 100000 in
theorem H_word (l : Launch) (g : WG) (s0 : State) (hxs : XS l s0) (b pn tn wn : Nat) (mr mq : Int64) (hb0 : s0.heap.size ≤ b) (x1 : Int32) (x2 : Int32) : CtrH l y_Law_word (.codeWith y_Law_word method_6_code 5 (some FieldType.int) [(0, 9, 12, 13)]) 8 130 1 6 (HXA s0) g s0 [.ref b, .int x1, .int x2, .ref (b + 510)] (fun H => LG g s0 H b pn tn wn mr mq) (QI (fun r H H' => (((okS x1 (nI 1) ∧ okC x2 (nI 0) (nI 7)) ∧ r = nI 0 ∧ LG g s0 H' b pn tn wn mr mq) ∨ (¬ (okS x1 (nI 1) ∧ okC x2 (nI 0) (nI 7)) ∧ r = nI 1 ∧ LG g s0 H' b pn tn wn mr mq)) ∧ ∀ q, kM b q → H'[q]? = H[q]?)) := by
  refine ctrH_mk l (lv0 := [(0, .ref b), (1, .int x1), (2, .int x2), (3, .ref (b + 510))]) (by decide) (Nat.le_of_ble_eq_true rfl) rfl ?_
  intro p e s m below meth c ls E hw0 hr hlk hex hl hP
  have hx := E.1
  have hb := E.2.1
  have hK := E.2.2.2.2.2
  have hF : ∀ q ∈ ([] : List Loc), HXA s0 q.base := fun q hq => absurd hq List.not_mem_nil
  have hold := hP.1
  have hd := hP.d
  have hbd := hd.2.2.2.2
  obtain ⟨f0, hA⟩ := hP.2.2.2
  by_cases hok : okS x1 (nI 1) ∧ okC x2 (nI 0) (nI 7)
  · skip
    obtain ⟨k1, rfl, q1⟩ := okS_nat (by decide) (by decide) hok.1
    obtain ⟨k2, rfl, l2, q2⟩ := okC_nat (by decide) (by decide) hok.2
    refine lv_aload_n hx hb d_Law_word_0 rfl (lv_at hl 3 rfl) ?_
    refine lv_iconst (v := nI 0) hx hb d_Law_word_1 (by decide) ?_
    refine lv_aload_n hx hb d_Law_word_2 rfl (lv_at hl 0 rfl) ?_
    refine lv_iload_n hx hb d_Law_word_3 rfl (lv_at hl 1 rfl) ?_
    refine lv_iload_n hx hb d_Law_word_4 rfl (lv_at hl 2 rfl) ?_
    refine q_cV (rest := [.int (nI 0), .ref (b + 510)]) E ((G_Desk_word l g b pn tn wn mr mq k1 k2 q1 (by omega)).up (nD_up hb0)) w_531 w_1 w_528 w_529 w_530 hd_Desk_word rfl ⟨by decide, by decide⟩ (OB.recv E.2.2.2.2.2 (by rfl) hd.x.ob) hd hF hl.1 rfl (Nat.le_of_ble_eq_true rfl) d_Law_word_5 ⟨by decide, by decide⟩ (ql (fun r0 H1 locs hq hF => ?_))
    have hg := hP.call hb0 hq
    refine q_last (N := 1) E (AJ.off hq.1 nD_510 hA) (Nat.le_trans hb0 (Nat.le_add_right _ _)) hF 0 rfl (by decide) (by decide) d_Law_word_8 (fun H2 locs hq2 hA2 hF => ?_)
    have hg2 := hg.1.store hb0 hq2 hA2
    refine lv_goto (tgt := 16) hx hb d_Law_word_9 (by decide) ?_
    refine lv_iconst (v := nI 0) hx hb d_Law_word_16 (by decide) ?_
    refine W.widen (k := 1) (n := 6) (by decide) (by decide) ?_
    exact q_iret E hr hlk (⟨_, rfl, Or.inl ⟨hok, rfl, hg2.1⟩, fun q h9 => (hg2.2 q h9).trans (hg.2 q h9)⟩) hF d_Law_word_17
  · skip
    refine lv_aload_n hx hb d_Law_word_0 rfl (lv_at hl 3 rfl) ?_
    refine lv_iconst (v := nI 0) hx hb d_Law_word_1 (by decide) ?_
    refine lv_aload_n hx hb d_Law_word_2 rfl (lv_at hl 0 rfl) ?_
    refine lv_iload_n hx hb d_Law_word_3 rfl (lv_at hl 1 rfl) ?_
    refine lv_iload_n hx hb d_Law_word_4 rfl (lv_at hl 2 rfl) ?_
    refine q_catch E hw0 (q_runVT (rest := [.int (nI 0), .ref (b + 510)]) E hw0 (t_Desk_word l g (HXA s0) s0 hxs b x1 x2 ((nb hok).imp id bad_w)) w_531 w_1 w_528 w_529 w_530 hd_Desk_word rfl ⟨by decide, by decide⟩ (OB.recv E.2.2.2.2.2 (by rfl) hd.x.ob) (⟨hold, hP.hx hb0⟩) hl.1 rfl (Nat.le_of_ble_eq_true rfl) d_Law_word_5 ⟨by decide, by decide⟩) hF hex ⟨by decide, by decide⟩ (by decide) w_391 (fun xx H1 locs htq hF => ?_)
    have hg := hP.grow hb0 htq.1 htq.2.1
    refine lv_astore (lv' := [(4, .ref xx), (0, .ref b), (1, .int x1), (2, .int x2), (3, .ref (b + 510))]) hx hb d_Law_word_12 hl (by decide) rfl (fun ls hl => ?_)
    refine lv_iconst (v := nI 1) hx hb d_Law_word_14 (by decide) ?_
    exact q_iret E hr hlk (⟨_, rfl, Or.inr ⟨hok, rfl, hg.1⟩, hg.2⟩) hF d_Law_word_15
set_option maxHeartbeats 4000000 in
set_option maxRecDepth 100000 in
theorem H_reckon (l : Launch) (g : WG) (s0 : State) (hxs : XS l s0) (b pn tn wn : Nat) (mr mq : Int64) (hb0 : s0.heap.size ≤ b) (x1 x2 x3 x4 : Int32) (hno : va_Nc "java/lang/ArithmeticException" "java/lang/IllegalArgumentException" s0) : CtrH l y_Law_reckon (.codeWith y_Law_reckon method_7_code 6 (some FieldType.int) [(0, 9, 12, 13), (0, 9, 16, 33)]) 8 206 1 6 (HXA s0) g s0 [.ref b, .int x1, .int x2, .int x3, .int x4] (fun H => LG g s0 H b pn tn wn mr mq) (QI (fun r H H' => (((okC x1 (nI 0) (nI 3) ∧ okS x2 (nI 1) ∧ okS x3 (nI 1) ∧ okS x4 (nI 1)) ∧ ((r = nI 0 ∨ r = nI 2) ∧ LG g s0 H' b pn tn wn mr mq)) ∨ (¬ (okC x1 (nI 0) (nI 3) ∧ okS x2 (nI 1) ∧ okS x3 (nI 1) ∧ okS x4 (nI 1)) ∧ r = nI 1 ∧ LG g s0 H' b pn tn wn mr mq)) ∧ ∀ q, kM b q → H'[q]? = H[q]?)) := by
  refine ctrH_mk l (lv0 := [(0, .ref b), (1, .int x1), (2, .int x2), (3, .int x3), (4, .int x4)]) (by decide) (Nat.le_of_ble_eq_true rfl) rfl ?_
  intro p e s m below meth c ls E hw0 hr hlk hex hl hP
  have hx := E.1
  have hb := E.2.1
  have hK := E.2.2.2.2.2
  have hF : ∀ q ∈ ([] : List Loc), HXA s0 q.base := fun q hq => absurd hq List.not_mem_nil
  have hold := hP.1
  have hd := hP.d
  have hbd := hd.2.2.2.2
  obtain ⟨f0, hA⟩ := hP.2.2.2
  by_cases hok : okC x1 (nI 0) (nI 3) ∧ okS x2 (nI 1) ∧ okS x3 (nI 1) ∧ okS x4 (nI 1)
  · skip
    by_cases h3 : x1 = nI 3
    · skip
      subst h3
      obtain ⟨k2, rfl, q2⟩ := okS_nat (by decide) (by decide) hok.2.1
      obtain ⟨k3, rfl, q3⟩ := okS_nat (by decide) (by decide) hok.2.2.1
      obtain ⟨k4, rfl, q4⟩ := okS_nat (by decide) (by decide) hok.2.2.2
      by_cases hz9 : AJ g s.heap (kSc b k4) 14 (fun _ => 0)
      · skip
        refine lv_aload_n hx hb d_Law_reckon_0 rfl (lv_at hl 0 rfl) ?_
        refine lv_iload_n hx hb d_Law_reckon_1 rfl (lv_at hl 1 rfl) ?_
        refine lv_iload_n hx hb d_Law_reckon_2 rfl (lv_at hl 2 rfl) ?_
        refine lv_iload_n hx hb d_Law_reckon_3 rfl (lv_at hl 3 rfl) ?_
        refine lv_iload hx hb d_Law_reckon_4 (lv_at hl 4 rfl) ?_
        refine q_catch2 E hw0 (q_runVT (rest := []) E hw0 (t_Desk_reckonG l g (HXA s0) s0 hxs b pn tn wn mr mq k2 k3 k4 q2 q3 q4) w_541 w_1 w_538 w_539 w_540 hd_Desk_reckon rfl ⟨by decide, by decide⟩ (OB.recv E.2.2.2.2.2 (by rfl) hd.x.ob) (⟨hold, hP.hx hb0, hd, hz9⟩) hl.1 rfl (Nat.le_of_ble_eq_true rfl) d_Law_reckon_6 ⟨by decide, by decide⟩) hF hex (by decide) w_391 hno ⟨by decide, by decide⟩ (by decide) w_537 (fun xx H1 locs htq hF => ?_)
        have hg := hP.grow hb0 htq.1 htq.2.1
        refine lv_astore (lv' := [(5, .ref xx), (0, .ref b), (1, .int (nI 3)), (2, .int (nI k2)), (3, .int (nI k3)), (4, .int (nI k4))]) hx hb d_Law_reckon_16 hl (by decide) rfl (fun ls hl => ?_)
        refine lv_iconst (v := nI 2) hx hb d_Law_reckon_18 (by decide) ?_
        exact q_iret E hr hlk (⟨_, rfl, Or.inl ⟨hok, Or.inr rfl, hg.1⟩, hg.2⟩) hF d_Law_reckon_19
      · skip
        refine lv_aload_n hx hb d_Law_reckon_0 rfl (lv_at hl 0 rfl) ?_
        refine lv_iload_n hx hb d_Law_reckon_1 rfl (lv_at hl 1 rfl) ?_
        refine lv_iload_n hx hb d_Law_reckon_2 rfl (lv_at hl 2 rfl) ?_
        refine lv_iload_n hx hb d_Law_reckon_3 rfl (lv_at hl 3 rfl) ?_
        refine lv_iload hx hb d_Law_reckon_4 (lv_at hl 4 rfl) ?_
        refine q_cV (rest := []) E ((G_Desk_reckon3 l g b pn tn wn mr mq k2 k3 k4 q2 q3 q4).up (nD_up hb0)) w_541 w_1 w_538 w_539 w_540 hd_Desk_reckon rfl ⟨by decide, by decide⟩ (OB.recv E.2.2.2.2.2 (by rfl) hd.x.ob) (⟨hd, hz9⟩) hF hl.1 rfl (Nat.le_of_ble_eq_true rfl) d_Law_reckon_6 ⟨by decide, by decide⟩ (qv (fun H1 locs hq hF => ?_))
        have hg := hP.call hb0 hq
        refine lv_goto (tgt := 20) hx hb d_Law_reckon_9 (by decide) ?_
        refine lv_iconst (v := nI 0) hx hb d_Law_reckon_20 (by decide) ?_
        refine W.widen (k := 1) (n := 6) (by decide) (by decide) ?_
        exact q_iret E hr hlk (⟨_, rfl, Or.inl ⟨hok, Or.inl rfl, hg.1⟩, hg.2⟩) hF d_Law_reckon_21
    · skip
      obtain ⟨k1, rfl, l1, q1⟩ := okC_nat (by decide) (by decide) hok.1
      obtain ⟨k2, rfl, q2⟩ := okS_nat (by decide) (by decide) hok.2.1
      obtain ⟨k3, rfl, q3⟩ := okS_nat (by decide) (by decide) hok.2.2.1
      obtain ⟨k4, rfl, q4⟩ := okS_nat (by decide) (by decide) hok.2.2.2
      have l3 : k1 < 3 := by
        rcases Nat.lt_or_ge k1 3 with h9 | h9
        · exact h9
        · exact absurd (show nI k1 = nI 3 by rw [Nat.le_antisymm q1 h9]) h3
      refine lv_aload_n hx hb d_Law_reckon_0 rfl (lv_at hl 0 rfl) ?_
      refine lv_iload_n hx hb d_Law_reckon_1 rfl (lv_at hl 1 rfl) ?_
      refine lv_iload_n hx hb d_Law_reckon_2 rfl (lv_at hl 2 rfl) ?_
      refine lv_iload_n hx hb d_Law_reckon_3 rfl (lv_at hl 3 rfl) ?_
      refine lv_iload hx hb d_Law_reckon_4 (lv_at hl 4 rfl) ?_
      refine q_cV (rest := []) E ((G_Desk_reckon l g b pn tn wn mr mq k1 k2 k3 k4 l3 q2 q3 q4).up (nD_up hb0)) w_541 w_1 w_538 w_539 w_540 hd_Desk_reckon rfl ⟨by decide, by decide⟩ (OB.recv E.2.2.2.2.2 (by rfl) hd.x.ob) hd hF hl.1 rfl (Nat.le_of_ble_eq_true rfl) d_Law_reckon_6 ⟨by decide, by decide⟩ (qv (fun H1 locs hq hF => ?_))
      have hg := hP.call hb0 hq
      refine lv_goto (tgt := 20) hx hb d_Law_reckon_9 (by decide) ?_
      refine lv_iconst (v := nI 0) hx hb d_Law_reckon_20 (by decide) ?_
      refine W.widen (k := 1) (n := 6) (by decide) (by decide) ?_
      exact q_iret E hr hlk (⟨_, rfl, Or.inl ⟨hok, Or.inl rfl, hg.1⟩, hg.2⟩) hF d_Law_reckon_21
  · skip
    refine lv_aload_n hx hb d_Law_reckon_0 rfl (lv_at hl 0 rfl) ?_
    refine lv_iload_n hx hb d_Law_reckon_1 rfl (lv_at hl 1 rfl) ?_
    refine lv_iload_n hx hb d_Law_reckon_2 rfl (lv_at hl 2 rfl) ?_
    refine lv_iload_n hx hb d_Law_reckon_3 rfl (lv_at hl 3 rfl) ?_
    refine lv_iload hx hb d_Law_reckon_4 (lv_at hl 4 rfl) ?_
    refine q_catch E hw0 (q_runVT (rest := []) E hw0 (t_Desk_reckon l g (HXA s0) s0 hxs b x1 x2 x3 x4 ((nb hok).imp id (fun h => (nb h).imp id nb))) w_541 w_1 w_538 w_539 w_540 hd_Desk_reckon rfl ⟨by decide, by decide⟩ (OB.recv E.2.2.2.2.2 (by rfl) hd.x.ob) (⟨hold, hP.hx hb0⟩) hl.1 rfl (Nat.le_of_ble_eq_true rfl) d_Law_reckon_6 ⟨by decide, by decide⟩) hF hex ⟨by decide, by decide⟩ (by decide) w_391 (fun xx H1 locs htq hF => ?_)
    have hg := hP.grow hb0 htq.1 htq.2.1
    refine lv_astore (lv' := [(5, .ref xx), (0, .ref b), (1, .int x1), (2, .int x2), (3, .int x3), (4, .int x4)]) hx hb d_Law_reckon_12 hl (by decide) rfl (fun ls hl => ?_)
    refine lv_iconst (v := nI 1) hx hb d_Law_reckon_14 (by decide) ?_
    exact q_iret E hr hlk (⟨_, rfl, Or.inr ⟨hok, rfl, hg.1⟩, hg.2⟩) hF d_Law_reckon_15
set_option maxHeartbeats 4000000 in
set_option maxRecDepth 100000 in
theorem H_power (l : Launch) (g : WG) (s0 : State) (hxs : XS l s0) (b pn tn wn : Nat) (mr mq : Int64) (hb0 : s0.heap.size ≤ b) (x1 : Int32) (x2 : Int32) (v : Int64) : CtrH l y_Law_power (.codeWith y_Law_power method_8_code 6 (some FieldType.int) [(0, 7, 10, 13)]) 8 184 1 6 (HXA s0) g s0 [.ref b, .int x1, .int x2, .long v] (fun H => LG g s0 H b pn tn wn mr mq) (QI (fun r H H' => (((okS x1 (nI 1) ∧ okS x2 (nI 1) ∧ ¬ v < 0) ∧ r = nI 0 ∧ LG g s0 H' b pn tn wn mr mq) ∨ (¬ (okS x1 (nI 1) ∧ okS x2 (nI 1) ∧ ¬ v < 0) ∧ r = nI 1 ∧ LG g s0 H' b pn tn wn mr mq)) ∧ ∀ q, kM b q → H'[q]? = H[q]?)) := by
  refine ctrH_mk l (lv0 := [(0, .ref b), (1, .int x1), (2, .int x2), (3, .long v)]) (by decide) (Nat.le_of_ble_eq_true rfl) rfl ?_
  intro p e s m below meth c ls E hw0 hr hlk hex hl hP
  have hx := E.1
  have hb := E.2.1
  have hK := E.2.2.2.2.2
  have hF : ∀ q ∈ ([] : List Loc), HXA s0 q.base := fun q hq => absurd hq List.not_mem_nil
  have hold := hP.1
  have hd := hP.d
  have hbd := hd.2.2.2.2
  obtain ⟨f0, hA⟩ := hP.2.2.2
  by_cases hok : okS x1 (nI 1) ∧ okS x2 (nI 1) ∧ ¬ v < 0
  · skip
    obtain ⟨k1, rfl, q1⟩ := okS_nat (by decide) (by decide) hok.1
    obtain ⟨k2, rfl, q2⟩ := okS_nat (by decide) (by decide) hok.2.1
    refine lv_aload_n hx hb d_Law_power_0 rfl (lv_at hl 0 rfl) ?_
    refine lv_iload_n hx hb d_Law_power_1 rfl (lv_at hl 1 rfl) ?_
    refine lv_iload_n hx hb d_Law_power_2 rfl (lv_at hl 2 rfl) ?_
    refine lv_lload_n hx hb d_Law_power_3 rfl (lv_at hl 3 rfl) ?_
    refine q_cV (rest := []) E ((G_Desk_power l g b pn tn wn mr mq k1 k2 v q1 q2 hok.2.2).up (nD_up hb0)) w_583 w_1 w_580 w_581 w_582 hd_Desk_power rfl ⟨by decide, by decide⟩ (OB.recv E.2.2.2.2.2 (by rfl) hd.x.ob) hd hF hl.1 rfl (Nat.le_of_ble_eq_true rfl) d_Law_power_4 ⟨by decide, by decide⟩ (qv (fun H1 locs hq hF => ?_))
    have hg := hP.call hb0 hq
    refine lv_goto (tgt := 14) hx hb d_Law_power_7 (by decide) ?_
    refine lv_iconst (v := nI 0) hx hb d_Law_power_14 (by decide) ?_
    refine W.widen (k := 1) (n := 6) (by decide) (by decide) ?_
    exact q_iret E hr hlk (⟨_, rfl, Or.inl ⟨hok, rfl, hg.1⟩, hg.2⟩) hF d_Law_power_15
  · skip
    refine lv_aload_n hx hb d_Law_power_0 rfl (lv_at hl 0 rfl) ?_
    refine lv_iload_n hx hb d_Law_power_1 rfl (lv_at hl 1 rfl) ?_
    refine lv_iload_n hx hb d_Law_power_2 rfl (lv_at hl 2 rfl) ?_
    refine lv_lload_n hx hb d_Law_power_3 rfl (lv_at hl 3 rfl) ?_
    refine q_catch E hw0 (q_runVT (rest := []) E hw0 (t_Desk_power l g (HXA s0) s0 hxs b x1 x2 v ((nb hok).imp id nbn)) w_583 w_1 w_580 w_581 w_582 hd_Desk_power rfl ⟨by decide, by decide⟩ (OB.recv E.2.2.2.2.2 (by rfl) hd.x.ob) (⟨hold, hP.hx hb0⟩) hl.1 rfl (Nat.le_of_ble_eq_true rfl) d_Law_power_4 ⟨by decide, by decide⟩) hF hex ⟨by decide, by decide⟩ (by decide) w_391 (fun xx H1 locs htq hF => ?_)
    have hg := hP.grow hb0 htq.1 htq.2.1
    refine lv_astore (lv' := [(5, .ref xx), (0, .ref b), (1, .int x1), (2, .int x2), (3, .long v)]) hx hb d_Law_power_10 hl (by decide) rfl (fun ls hl => ?_)
    refine lv_iconst (v := nI 1) hx hb d_Law_power_12 (by decide) ?_
    exact q_iret E hr hlk (⟨_, rfl, Or.inr ⟨hok, rfl, hg.1⟩, hg.2⟩) hF d_Law_power_13
set_option maxHeartbeats 4000000 in
set_option maxRecDepth 100000 in
theorem H_unity (l : Launch) (g : WG) (s0 : State) (hxs : XS l s0) (b pn tn wn : Nat) (mr mq : Int64) (hb0 : s0.heap.size ≤ b) (x1 : Int32) (x2 : Int32) : CtrH l y_Law_unity (.codeWith y_Law_unity method_9_code 4 (some FieldType.int) [(0, 6, 9, 13)]) 8 204 1 6 (HXA s0) g s0 [.ref b, .int x1, .int x2] (fun H => LG g s0 H b pn tn wn mr mq) (QI (fun r H H' => (((okS x1 (nI 1) ∧ okC x2 (nI 0) (nI 32)) ∧ r = nI 0 ∧ LG g s0 H' b pn tn wn mr mq) ∨ (¬ (okS x1 (nI 1) ∧ okC x2 (nI 0) (nI 32)) ∧ r = nI 1 ∧ LG g s0 H' b pn tn wn mr mq)) ∧ ∀ q, kM b q → H'[q]? = H[q]?)) := by
  refine ctrH_mk l (lv0 := [(0, .ref b), (1, .int x1), (2, .int x2)]) (by decide) (Nat.le_of_ble_eq_true rfl) rfl ?_
  intro p e s m below meth c ls E hw0 hr hlk hex hl hP
  have hx := E.1
  have hb := E.2.1
  have hK := E.2.2.2.2.2
  have hF : ∀ q ∈ ([] : List Loc), HXA s0 q.base := fun q hq => absurd hq List.not_mem_nil
  have hold := hP.1
  have hd := hP.d
  have hbd := hd.2.2.2.2
  obtain ⟨f0, hA⟩ := hP.2.2.2
  by_cases hok : okS x1 (nI 1) ∧ okC x2 (nI 0) (nI 32)
  · skip
    obtain ⟨k1, rfl, q1⟩ := okS_nat (by decide) (by decide) hok.1
    obtain ⟨k2, rfl, l2, q2⟩ := okC_nat (by decide) (by decide) hok.2
    refine lv_aload_n hx hb d_Law_unity_0 rfl (lv_at hl 0 rfl) ?_
    refine lv_iload_n hx hb d_Law_unity_1 rfl (lv_at hl 1 rfl) ?_
    refine lv_iload_n hx hb d_Law_unity_2 rfl (lv_at hl 2 rfl) ?_
    refine q_cV (rest := []) E ((G_Desk_unity l g b pn tn wn mr mq k1 k2 q1 q2).up (nD_up hb0)) w_596 w_1 w_593 w_594 w_595 hd_Desk_unity rfl ⟨by decide, by decide⟩ (OB.recv E.2.2.2.2.2 (by rfl) hd.x.ob) hd hF hl.1 rfl (Nat.le_of_ble_eq_true rfl) d_Law_unity_3 ⟨by decide, by decide⟩ (qv (fun H1 locs hq hF => ?_))
    have hg := hP.call hb0 hq
    refine lv_goto (tgt := 12) hx hb d_Law_unity_6 (by decide) ?_
    refine lv_iconst (v := nI 0) hx hb d_Law_unity_12 (by decide) ?_
    refine W.widen (k := 1) (n := 6) (by decide) (by decide) ?_
    exact q_iret E hr hlk (⟨_, rfl, Or.inl ⟨hok, rfl, hg.1⟩, hg.2⟩) hF d_Law_unity_13
  · skip
    refine lv_aload_n hx hb d_Law_unity_0 rfl (lv_at hl 0 rfl) ?_
    refine lv_iload_n hx hb d_Law_unity_1 rfl (lv_at hl 1 rfl) ?_
    refine lv_iload_n hx hb d_Law_unity_2 rfl (lv_at hl 2 rfl) ?_
    refine q_catch E hw0 (q_runVT (rest := []) E hw0 (t_Desk_unity l g (HXA s0) s0 hxs b x1 x2 ((nb hok).imp id okC_bad)) w_596 w_1 w_593 w_594 w_595 hd_Desk_unity rfl ⟨by decide, by decide⟩ (OB.recv E.2.2.2.2.2 (by rfl) hd.x.ob) (⟨hold, hP.hx hb0⟩) hl.1 rfl (Nat.le_of_ble_eq_true rfl) d_Law_unity_3 ⟨by decide, by decide⟩) hF hex ⟨by decide, by decide⟩ (by decide) w_391 (fun xx H1 locs htq hF => ?_)
    have hg := hP.grow hb0 htq.1 htq.2.1
    refine lv_astore_n (lv' := [(3, .ref xx), (0, .ref b), (1, .int x1), (2, .int x2)]) hx hb d_Law_unity_9 rfl hl (by decide) rfl (fun ls hl => ?_)
    refine lv_iconst (v := nI 1) hx hb d_Law_unity_10 (by decide) ?_
    exact q_iret E hr hlk (⟨_, rfl, Or.inr ⟨hok, rfl, hg.1⟩, hg.2⟩) hF d_Law_unity_11
set_option maxHeartbeats 4000000 in
set_option maxRecDepth 100000 in
theorem H_point (l : Launch) (g : WG) (s0 : State) (hxs : XS l s0) (b pn tn wn : Nat) (mr mq : Int64) (hb0 : s0.heap.size ≤ b) (x1 : Int32) : CtrH l y_Law_point (.codeWith y_Law_point method_10_code 4 (some FieldType.int) [(0, 9, 12, 13)]) 8 277 1 6 (HXA s0) g s0 [.ref b, .int x1, .ref (b + 510)] (fun H => LG g s0 H b pn tn wn mr mq) (QI (fun r H H' => (((okP x1 (nI 1)) ∧ r = nI 0 ∧ LG g s0 H' b pn 0 wn mr mq) ∨ (¬ (okP x1 (nI 1)) ∧ r = nI 1 ∧ LG g s0 H' b pn tn wn mr mq)) ∧ ∀ q, kM b q → H'[q]? = H[q]?)) := by
  refine ctrH_mk l (lv0 := [(0, .ref b), (1, .int x1), (2, .ref (b + 510))]) (by decide) (Nat.le_of_ble_eq_true rfl) rfl ?_
  intro p e s m below meth c ls E hw0 hr hlk hex hl hP
  have hx := E.1
  have hb := E.2.1
  have hK := E.2.2.2.2.2
  have hF : ∀ q ∈ ([] : List Loc), HXA s0 q.base := fun q hq => absurd hq List.not_mem_nil
  have hold := hP.1
  have hd := hP.d
  have hbd := hd.2.2.2.2
  obtain ⟨f0, hA⟩ := hP.2.2.2
  by_cases hok : okP x1 (nI 1)
  · skip
    obtain ⟨k1, rfl, q1⟩ := okP_nat (by decide) (by decide) hok
    refine lv_aload_n hx hb d_Law_point_0 rfl (lv_at hl 2 rfl) ?_
    refine lv_iconst (v := nI 0) hx hb d_Law_point_1 (by decide) ?_
    refine lv_aload_n hx hb d_Law_point_2 rfl (lv_at hl 0 rfl) ?_
    refine lv_iload_n hx hb d_Law_point_3 rfl (lv_at hl 1 rfl) ?_
    refine q_cV (rest := [.int (nI 0), .ref (b + 510)]) E ((G_Desk_point l g b pn tn wn mr mq k1 q1 hbd.2.1).up (nD_up hb0)) w_619 w_1 w_616 w_617 w_618 hd_Desk_point rfl ⟨by decide, by decide⟩ (OB.recv E.2.2.2.2.2 (by rfl) hd.x.ob) hd hF hl.1 rfl (Nat.le_of_ble_eq_true rfl) d_Law_point_4 ⟨by decide, by decide⟩ (qi (fun r0 H1 locs hq hF => ?_))
    have hg := hP.call hb0 hq
    refine lv_i2l (v := r0.toInt64) hx hb d_Law_point_7 rfl ?_
    refine q_last (N := 1) E (AJ.off hq.1 nD_510 hA) (Nat.le_trans hb0 (Nat.le_add_right _ _)) hF 0 rfl (by decide) (by decide) d_Law_point_8 (fun H2 locs hq2 hA2 hF => ?_)
    have hg2 := hg.1.store hb0 hq2 hA2
    refine lv_goto (tgt := 15) hx hb d_Law_point_9 (by decide) ?_
    refine lv_iconst (v := nI 0) hx hb d_Law_point_15 (by decide) ?_
    refine W.widen (k := 1) (n := 6) (by decide) (by decide) ?_
    exact q_iret E hr hlk (⟨_, rfl, Or.inl ⟨hok, rfl, hg2.1⟩, fun q h9 => (hg2.2 q h9).trans (hg.2 q h9)⟩) hF d_Law_point_16
  · skip
    refine lv_aload_n hx hb d_Law_point_0 rfl (lv_at hl 2 rfl) ?_
    refine lv_iconst (v := nI 0) hx hb d_Law_point_1 (by decide) ?_
    refine lv_aload_n hx hb d_Law_point_2 rfl (lv_at hl 0 rfl) ?_
    refine lv_iload_n hx hb d_Law_point_3 rfl (lv_at hl 1 rfl) ?_
    refine q_catch E hw0 (q_runVT (rest := [.int (nI 0), .ref (b + 510)]) E hw0 (t_Desk_point l g (HXA s0) s0 hxs b x1 (hok)) w_619 w_1 w_616 w_617 w_618 hd_Desk_point rfl ⟨by decide, by decide⟩ (OB.recv E.2.2.2.2.2 (by rfl) hd.x.ob) (⟨hold, hP.hx hb0⟩) hl.1 rfl (Nat.le_of_ble_eq_true rfl) d_Law_point_4 ⟨by decide, by decide⟩) hF hex ⟨by decide, by decide⟩ (by decide) w_391 (fun xx H1 locs htq hF => ?_)
    have hg := hP.grow hb0 htq.1 htq.2.1
    refine lv_astore_n (lv' := [(3, .ref xx), (0, .ref b), (1, .int x1), (2, .ref (b + 510))]) hx hb d_Law_point_12 rfl hl (by decide) rfl (fun ls hl => ?_)
    refine lv_iconst (v := nI 1) hx hb d_Law_point_13 (by decide) ?_
    exact q_iret E hr hlk (⟨_, rfl, Or.inr ⟨hok, rfl, hg.1⟩, hg.2⟩) hF d_Law_point_14
set_option maxHeartbeats 4000000 in
set_option maxRecDepth 100000 in
theorem H_bytes (l : Launch) (g : WG) (s0 : State) (hxs : XS l s0) (b pn tn wn : Nat) (mr mq : Int64) (hb0 : s0.heap.size ≤ b) (x1 : Int32) (x2 : Int32) : CtrH l y_Law_bytes (.codeWith y_Law_bytes method_11_code 4 (some FieldType.int) [(0, 6, 9, 13)]) 8 229 1 6 (HXA s0) g s0 [.ref b, .int x1, .int x2] (fun H => LG g s0 H b pn tn wn mr mq) (QI (fun r H H' => (((okP x1 (nI 1)) ∧ r = nI 0 ∧ (∃ w8, LG g s0 H' b pn tn w8 mr mq)) ∨ (¬ (okP x1 (nI 1)) ∧ r = nI 1 ∧ LG g s0 H' b pn tn wn mr mq)) ∧ ∀ q, kM b q → H'[q]? = H[q]?)) := by
  refine ctrH_mk l (lv0 := [(0, .ref b), (1, .int x1), (2, .int x2)]) (by decide) (Nat.le_of_ble_eq_true rfl) rfl ?_
  intro p e s m below meth c ls E hw0 hr hlk hex hl hP
  have hx := E.1
  have hb := E.2.1
  have hK := E.2.2.2.2.2
  have hF : ∀ q ∈ ([] : List Loc), HXA s0 q.base := fun q hq => absurd hq List.not_mem_nil
  have hold := hP.1
  have hd := hP.d
  have hbd := hd.2.2.2.2
  obtain ⟨f0, hA⟩ := hP.2.2.2
  by_cases hok : okP x1 (nI 1)
  · skip
    obtain ⟨k1, rfl, q1⟩ := okP_nat (by decide) (by decide) hok
    refine lv_aload_n hx hb d_Law_bytes_0 rfl (lv_at hl 0 rfl) ?_
    refine lv_iload_n hx hb d_Law_bytes_1 rfl (lv_at hl 1 rfl) ?_
    refine lv_iload_n hx hb d_Law_bytes_2 rfl (lv_at hl 2 rfl) ?_
    refine q_cV (rest := []) E ((G_Desk_bytes l g b pn tn wn mr mq k1 x2 q1).up (nD_up hb0)) w_737 w_1 w_734 w_735 w_736 hd_Desk_bytes rfl ⟨by decide, by decide⟩ (OB.recv E.2.2.2.2.2 (by rfl) hd.x.ob) hd hF hl.1 rfl (Nat.le_of_ble_eq_true rfl) d_Law_bytes_3 ⟨by decide, by decide⟩ (qv (fun H1 locs hq hF => ?_))
    obtain ⟨w8, hq⟩ := hq
    have hg := hP.call hb0 hq
    refine lv_goto (tgt := 12) hx hb d_Law_bytes_6 (by decide) ?_
    refine lv_iconst (v := nI 0) hx hb d_Law_bytes_12 (by decide) ?_
    refine W.widen (k := 1) (n := 6) (by decide) (by decide) ?_
    exact q_iret E hr hlk (⟨_, rfl, Or.inl ⟨hok, rfl, _, hg.1⟩, hg.2⟩) hF d_Law_bytes_13
  · skip
    refine lv_aload_n hx hb d_Law_bytes_0 rfl (lv_at hl 0 rfl) ?_
    refine lv_iload_n hx hb d_Law_bytes_1 rfl (lv_at hl 1 rfl) ?_
    refine lv_iload_n hx hb d_Law_bytes_2 rfl (lv_at hl 2 rfl) ?_
    refine q_catch E hw0 (q_runVT (rest := []) E hw0 (t_Desk_bytes l g (HXA s0) s0 hxs b x1 x2 (hok)) w_737 w_1 w_734 w_735 w_736 hd_Desk_bytes rfl ⟨by decide, by decide⟩ (OB.recv E.2.2.2.2.2 (by rfl) hd.x.ob) (⟨hold, hP.hx hb0⟩) hl.1 rfl (Nat.le_of_ble_eq_true rfl) d_Law_bytes_3 ⟨by decide, by decide⟩) hF hex ⟨by decide, by decide⟩ (by decide) w_391 (fun xx H1 locs htq hF => ?_)
    have hg := hP.grow hb0 htq.1 htq.2.1
    refine lv_astore_n (lv' := [(3, .ref xx), (0, .ref b), (1, .int x1), (2, .int x2)]) hx hb d_Law_bytes_9 rfl hl (by decide) rfl (fun ls hl => ?_)
    refine lv_iconst (v := nI 1) hx hb d_Law_bytes_10 (by decide) ?_
    exact q_iret E hr hlk (⟨_, rfl, Or.inr ⟨hok, rfl, hg.1⟩, hg.2⟩) hF d_Law_bytes_11
set_option maxHeartbeats 4000000 in
set_option maxRecDepth 100000 in
theorem H_out (l : Launch) (g : WG) (s0 : State) (hxs : XS l s0) (b pn tn wn : Nat) (mr mq : Int64) (hb0 : s0.heap.size ≤ b) (x1 : Int32) : CtrH l y_Law_out (.codeWith y_Law_out method_12_code 4 (some FieldType.int) [(0, 8, 11, 55)]) 8 128 1 6 (HXA s0) g s0 [.ref b, .int x1, .ref (b + 510)] (fun H => LG g s0 H b pn tn wn mr mq) (QI (fun r H H' => (((¬ x1 < 0 ∧ x1 < nI wn) ∧ r = nI 0 ∧ LG g s0 H' b pn tn wn mr mq) ∨ (¬ (¬ x1 < 0 ∧ x1 < nI wn) ∧ r = nI 1 ∧ LG g s0 H' b pn tn wn mr mq)) ∧ ∀ q, kM b q → H'[q]? = H[q]?)) := by
  refine ctrH_mk l (lv0 := [(0, .ref b), (1, .int x1), (2, .ref (b + 510))]) (by decide) (Nat.le_of_ble_eq_true rfl) rfl ?_
  intro p e s m below meth c ls E hw0 hr hlk hex hl hP
  have hx := E.1
  have hb := E.2.1
  have hK := E.2.2.2.2.2
  have hF : ∀ q ∈ ([] : List Loc), HXA s0 q.base := fun q hq => absurd hq List.not_mem_nil
  have hold := hP.1
  have hd := hP.d
  have hbd := hd.2.2.2.2
  obtain ⟨f0, hA⟩ := hP.2.2.2
  by_cases hok : ¬ x1 < 0 ∧ x1 < nI wn
  · skip
    obtain ⟨k1, hk1, rfl⟩ := nI_of hok.1
    have hk2 : k1 < wn := (nI_ltI hk1 (by omega)).mp hok.2
    refine lv_aload_n hx hb d_Law_out_0 rfl (lv_at hl 2 rfl) ?_
    refine lv_iconst (v := nI 0) hx hb d_Law_out_1 (by decide) ?_
    refine lv_aload_n hx hb d_Law_out_2 rfl (lv_at hl 0 rfl) ?_
    refine lv_iload_n hx hb d_Law_out_3 rfl (lv_at hl 1 rfl) ?_
    refine q_cV (rest := [.int (nI 0), .ref (b + 510)]) E ((G_Desk_out l g b pn tn wn mr mq k1 hk2 hbd.2.2).up (nD_up hb0)) w_756 w_1 w_753 w_754 w_755 hd_Desk_out rfl ⟨by decide, by decide⟩ (OB.recv E.2.2.2.2.2 (by rfl) hd.x.ob) hd hF hl.1 rfl (Nat.le_of_ble_eq_true rfl) d_Law_out_4 ⟨by decide, by decide⟩ (ql (fun r0 H1 locs hq hF => ?_))
    have hg := hP.call hb0 hq
    refine q_last (N := 1) E (AJ.off hq.1 nD_510 hA) (Nat.le_trans hb0 (Nat.le_add_right _ _)) hF 0 rfl (by decide) (by decide) d_Law_out_7 (fun H2 locs hq2 hA2 hF => ?_)
    have hg2 := hg.1.store hb0 hq2 hA2
    refine lv_goto (tgt := 14) hx hb d_Law_out_8 (by decide) ?_
    refine lv_iconst (v := nI 0) hx hb d_Law_out_14 (by decide) ?_
    refine W.widen (k := 1) (n := 6) (by decide) (by decide) ?_
    exact q_iret E hr hlk (⟨_, rfl, Or.inl ⟨hok, rfl, hg2.1⟩, fun q h9 => (hg2.2 q h9).trans (hg.2 q h9)⟩) hF d_Law_out_15
  · skip
    refine lv_aload_n hx hb d_Law_out_0 rfl (lv_at hl 2 rfl) ?_
    refine lv_iconst (v := nI 0) hx hb d_Law_out_1 (by decide) ?_
    refine lv_aload_n hx hb d_Law_out_2 rfl (lv_at hl 0 rfl) ?_
    refine lv_iload_n hx hb d_Law_out_3 rfl (lv_at hl 1 rfl) ?_
    refine q_catch E hw0 (q_runVT (rest := [.int (nI 0), .ref (b + 510)]) E hw0 (t_Desk_outG l g (HXA s0) s0 hxs b pn tn wn mr mq x1 (fun h1 h2 => hok ⟨h1, h2⟩)) w_756 w_1 w_753 w_754 w_755 hd_Desk_out rfl ⟨by decide, by decide⟩ (OB.recv E.2.2.2.2.2 (by rfl) hd.x.ob) (⟨hold, hP.hx hb0, hd⟩) hl.1 rfl (Nat.le_of_ble_eq_true rfl) d_Law_out_4 ⟨by decide, by decide⟩) hF hex ⟨by decide, by decide⟩ (by decide) w_752 (fun xx H1 locs htq hF => ?_)
    have hg := hP.grow hb0 htq.1 htq.2.1
    refine lv_astore_n (lv' := [(3, .ref xx), (0, .ref b), (1, .int x1), (2, .ref (b + 510))]) hx hb d_Law_out_11 rfl hl (by decide) rfl (fun ls hl => ?_)
    refine lv_iconst (v := nI 1) hx hb d_Law_out_12 (by decide) ?_
    exact q_iret E hr hlk (⟨_, rfl, Or.inr ⟨hok, rfl, hg.1⟩, hg.2⟩) hF d_Law_out_13
set_option maxHeartbeats 4000000 in
set_option maxRecDepth 100000 in
theorem H_join (l : Launch) (g : WG) (s0 : State) (hxs : XS l s0) (b pn tn wn : Nat) (mr mq : Int64) (hb0 : s0.heap.size ≤ b) (x1 : Int32) (x2 : Int32) (x3 : Int32) (x4 : Int32) : CtrH l y_Law_join (.codeWith y_Law_join method_13_code 6 (some FieldType.int) [(0, 9, 12, 13)]) 8 211 1 6 (HXA s0) g s0 [.ref b, .int x1, .int x2, .int x3, .int x4] (fun H => LG g s0 H b pn tn wn mr mq) (QI (fun r H H' => (((okC x1 (nI 0) (nI 3) ∧ okP x2 (nI 1) ∧ okP x3 (nI 1) ∧ okP x4 (nI 1)) ∧ r = nI 0 ∧ LG g s0 H' b pn tn wn mr mq) ∨ (¬ (okC x1 (nI 0) (nI 3) ∧ okP x2 (nI 1) ∧ okP x3 (nI 1) ∧ okP x4 (nI 1)) ∧ r = nI 1 ∧ LG g s0 H' b pn tn wn mr mq)) ∧ ∀ q, kM b q → H'[q]? = H[q]?)) := by
  refine ctrH_mk l (lv0 := [(0, .ref b), (1, .int x1), (2, .int x2), (3, .int x3), (4, .int x4)]) (by decide) (Nat.le_of_ble_eq_true rfl) rfl ?_
  intro p e s m below meth c ls E hw0 hr hlk hex hl hP
  have hx := E.1
  have hb := E.2.1
  have hK := E.2.2.2.2.2
  have hF : ∀ q ∈ ([] : List Loc), HXA s0 q.base := fun q hq => absurd hq List.not_mem_nil
  have hold := hP.1
  have hd := hP.d
  have hbd := hd.2.2.2.2
  obtain ⟨f0, hA⟩ := hP.2.2.2
  by_cases hok : okC x1 (nI 0) (nI 3) ∧ okP x2 (nI 1) ∧ okP x3 (nI 1) ∧ okP x4 (nI 1)
  · skip
    obtain ⟨k1, rfl, l1, q1⟩ := okC_nat (by decide) (by decide) hok.1
    obtain ⟨k2, rfl, q2⟩ := okP_nat (by decide) (by decide) hok.2.1
    obtain ⟨k3, rfl, q3⟩ := okP_nat (by decide) (by decide) hok.2.2.1
    obtain ⟨k4, rfl, q4⟩ := okP_nat (by decide) (by decide) hok.2.2.2
    refine lv_aload_n hx hb d_Law_join_0 rfl (lv_at hl 0 rfl) ?_
    refine lv_iload_n hx hb d_Law_join_1 rfl (lv_at hl 1 rfl) ?_
    refine lv_iload_n hx hb d_Law_join_2 rfl (lv_at hl 2 rfl) ?_
    refine lv_iload_n hx hb d_Law_join_3 rfl (lv_at hl 3 rfl) ?_
    refine lv_iload hx hb d_Law_join_4 (lv_at hl 4 rfl) ?_
    refine q_cV (rest := []) E ((G_Desk_join l g b pn tn wn mr mq k1 k2 k3 k4 (by omega) q2 q3 q4).up (nD_up hb0)) w_779 w_1 w_776 w_777 w_778 hd_Desk_join rfl ⟨by decide, by decide⟩ (OB.recv E.2.2.2.2.2 (by rfl) hd.x.ob) hd hF hl.1 rfl (Nat.le_of_ble_eq_true rfl) d_Law_join_6 ⟨by decide, by decide⟩ (qv (fun H1 locs hq hF => ?_))
    have hg := hP.call hb0 hq
    refine lv_goto (tgt := 16) hx hb d_Law_join_9 (by decide) ?_
    refine lv_iconst (v := nI 0) hx hb d_Law_join_16 (by decide) ?_
    refine W.widen (k := 1) (n := 6) (by decide) (by decide) ?_
    exact q_iret E hr hlk (⟨_, rfl, Or.inl ⟨hok, rfl, hg.1⟩, hg.2⟩) hF d_Law_join_17
  · skip
    refine lv_aload_n hx hb d_Law_join_0 rfl (lv_at hl 0 rfl) ?_
    refine lv_iload_n hx hb d_Law_join_1 rfl (lv_at hl 1 rfl) ?_
    refine lv_iload_n hx hb d_Law_join_2 rfl (lv_at hl 2 rfl) ?_
    refine lv_iload_n hx hb d_Law_join_3 rfl (lv_at hl 3 rfl) ?_
    refine lv_iload hx hb d_Law_join_4 (lv_at hl 4 rfl) ?_
    refine q_catch E hw0 (q_runVT (rest := []) E hw0 (t_Desk_join l g (HXA s0) s0 hxs b x1 x2 x3 x4 ((nb hok).imp id (fun h => (nb h).imp id nb))) w_779 w_1 w_776 w_777 w_778 hd_Desk_join rfl ⟨by decide, by decide⟩ (OB.recv E.2.2.2.2.2 (by rfl) hd.x.ob) (⟨hold, hP.hx hb0⟩) hl.1 rfl (Nat.le_of_ble_eq_true rfl) d_Law_join_6 ⟨by decide, by decide⟩) hF hex ⟨by decide, by decide⟩ (by decide) w_391 (fun xx H1 locs htq hF => ?_)
    have hg := hP.grow hb0 htq.1 htq.2.1
    refine lv_astore (lv' := [(5, .ref xx), (0, .ref b), (1, .int x1), (2, .int x2), (3, .int x3), (4, .int x4)]) hx hb d_Law_join_12 hl (by decide) rfl (fun ls hl => ?_)
    refine lv_iconst (v := nI 1) hx hb d_Law_join_14 (by decide) ?_
    exact q_iret E hr hlk (⟨_, rfl, Or.inr ⟨hok, rfl, hg.1⟩, hg.2⟩) hF d_Law_join_15
set_option maxHeartbeats 4000000 in
set_option maxRecDepth 100000 in
theorem H_times (l : Launch) (g : WG) (s0 : State) (hxs : XS l s0) (b pn tn wn : Nat) (mr mq : Int64) (hb0 : s0.heap.size ≤ b) (x1 : Int32) (x2 : Int32) (x3 : Int32) : CtrH l y_Law_times (.codeWith y_Law_times method_14_code 5 (some FieldType.int) [(0, 7, 10, 13)]) 8 257 1 6 (HXA s0) g s0 [.ref b, .int x1, .int x2, .int x3] (fun H => LG g s0 H b pn tn wn mr mq) (QI (fun r H H' => (((okP x1 (nI 1) ∧ okS x2 (nI 1) ∧ okP x3 (nI 1)) ∧ r = nI 0 ∧ LG g s0 H' b pn tn wn mr mq) ∨ (¬ (okP x1 (nI 1) ∧ okS x2 (nI 1) ∧ okP x3 (nI 1)) ∧ r = nI 1 ∧ LG g s0 H' b pn tn wn mr mq)) ∧ ∀ q, kM b q → H'[q]? = H[q]?)) := by
  refine ctrH_mk l (lv0 := [(0, .ref b), (1, .int x1), (2, .int x2), (3, .int x3)]) (by decide) (Nat.le_of_ble_eq_true rfl) rfl ?_
  intro p e s m below meth c ls E hw0 hr hlk hex hl hP
  have hx := E.1
  have hb := E.2.1
  have hK := E.2.2.2.2.2
  have hF : ∀ q ∈ ([] : List Loc), HXA s0 q.base := fun q hq => absurd hq List.not_mem_nil
  have hold := hP.1
  have hd := hP.d
  have hbd := hd.2.2.2.2
  obtain ⟨f0, hA⟩ := hP.2.2.2
  by_cases hok : okP x1 (nI 1) ∧ okS x2 (nI 1) ∧ okP x3 (nI 1)
  · skip
    obtain ⟨k1, rfl, q1⟩ := okP_nat (by decide) (by decide) hok.1
    obtain ⟨k2, rfl, q2⟩ := okS_nat (by decide) (by decide) hok.2.1
    obtain ⟨k3, rfl, q3⟩ := okP_nat (by decide) (by decide) hok.2.2
    refine lv_aload_n hx hb d_Law_times_0 rfl (lv_at hl 0 rfl) ?_
    refine lv_iload_n hx hb d_Law_times_1 rfl (lv_at hl 1 rfl) ?_
    refine lv_iload_n hx hb d_Law_times_2 rfl (lv_at hl 2 rfl) ?_
    refine lv_iload_n hx hb d_Law_times_3 rfl (lv_at hl 3 rfl) ?_
    refine q_cV (rest := []) E ((G_Desk_times l g b pn tn wn mr mq k1 k2 k3 q1 q2 q3).up (nD_up hb0)) w_788 w_1 w_785 w_786 w_787 hd_Desk_times rfl ⟨by decide, by decide⟩ (OB.recv E.2.2.2.2.2 (by rfl) hd.x.ob) hd hF hl.1 rfl (Nat.le_of_ble_eq_true rfl) d_Law_times_4 ⟨by decide, by decide⟩ (qv (fun H1 locs hq hF => ?_))
    have hg := hP.call hb0 hq
    refine lv_goto (tgt := 14) hx hb d_Law_times_7 (by decide) ?_
    refine lv_iconst (v := nI 0) hx hb d_Law_times_14 (by decide) ?_
    refine W.widen (k := 1) (n := 6) (by decide) (by decide) ?_
    exact q_iret E hr hlk (⟨_, rfl, Or.inl ⟨hok, rfl, hg.1⟩, hg.2⟩) hF d_Law_times_15
  · skip
    refine lv_aload_n hx hb d_Law_times_0 rfl (lv_at hl 0 rfl) ?_
    refine lv_iload_n hx hb d_Law_times_1 rfl (lv_at hl 1 rfl) ?_
    refine lv_iload_n hx hb d_Law_times_2 rfl (lv_at hl 2 rfl) ?_
    refine lv_iload_n hx hb d_Law_times_3 rfl (lv_at hl 3 rfl) ?_
    refine q_catch E hw0 (q_runVT (rest := []) E hw0 (t_Desk_times l g (HXA s0) s0 hxs b x1 x2 x3 ((nb hok).imp id nb)) w_788 w_1 w_785 w_786 w_787 hd_Desk_times rfl ⟨by decide, by decide⟩ (OB.recv E.2.2.2.2.2 (by rfl) hd.x.ob) (⟨hold, hP.hx hb0⟩) hl.1 rfl (Nat.le_of_ble_eq_true rfl) d_Law_times_4 ⟨by decide, by decide⟩) hF hex ⟨by decide, by decide⟩ (by decide) w_391 (fun xx H1 locs htq hF => ?_)
    have hg := hP.grow hb0 htq.1 htq.2.1
    refine lv_astore (lv' := [(4, .ref xx), (0, .ref b), (1, .int x1), (2, .int x2), (3, .int x3)]) hx hb d_Law_times_10 hl (by decide) rfl (fun ls hl => ?_)
    refine lv_iconst (v := nI 1) hx hb d_Law_times_12 (by decide) ?_
    exact q_iret E hr hlk (⟨_, rfl, Or.inr ⟨hok, rfl, hg.1⟩, hg.2⟩) hF d_Law_times_13
set_option maxHeartbeats 4000000 in
set_option maxRecDepth 100000 in
theorem H_combine (l : Launch) (g : WG) (s0 : State) (hxs : XS l s0) (b pn tn wn : Nat) (mr mq : Int64) (hb0 : s0.heap.size ≤ b) (x1 : Int32) (x2 : Int32) (x3 : Int32) (x4 : Int32) : CtrH l y_Law_combine (.codeWith y_Law_combine method_15_code 6 (some FieldType.int) [(0, 9, 12, 13)]) 8 259 1 6 (HXA s0) g s0 [.ref b, .int x1, .int x2, .int x3, .int x4] (fun H => LG g s0 H b pn tn wn mr mq) (QI (fun r H H' => (((okP x1 (nI 1) ∧ okC x4 (nI 0) (nI 12) ∧ okS x2 x4 ∧ okP x3 x4) ∧ r = nI 0 ∧ LG g s0 H' b pn tn wn mr mq) ∨ (¬ (okP x1 (nI 1) ∧ okC x4 (nI 0) (nI 12) ∧ okS x2 x4 ∧ okP x3 x4) ∧ r = nI 1 ∧ LG g s0 H' b pn tn wn mr mq)) ∧ ∀ q, kM b q → H'[q]? = H[q]?)) := by
  refine ctrH_mk l (lv0 := [(0, .ref b), (1, .int x1), (2, .int x2), (3, .int x3), (4, .int x4)]) (by decide) (Nat.le_of_ble_eq_true rfl) rfl ?_
  intro p e s m below meth c ls E hw0 hr hlk hex hl hP
  have hx := E.1
  have hb := E.2.1
  have hK := E.2.2.2.2.2
  have hF : ∀ q ∈ ([] : List Loc), HXA s0 q.base := fun q hq => absurd hq List.not_mem_nil
  have hold := hP.1
  have hd := hP.d
  have hbd := hd.2.2.2.2
  obtain ⟨f0, hA⟩ := hP.2.2.2
  by_cases hok : okP x1 (nI 1) ∧ okC x4 (nI 0) (nI 12) ∧ okS x2 x4 ∧ okP x3 x4
  · skip
    obtain ⟨k1, rfl, q1⟩ := okP_nat (by decide) (by decide) hok.1
    obtain ⟨k4, rfl, l4, q4⟩ := okC_nat (by decide) (by decide) hok.2.1
    obtain ⟨k2, rfl, q2⟩ := comb_S q4 hok.2.2.1
    obtain ⟨k3, rfl, q3⟩ := comb_P q4 hok.2.2.2
    refine lv_aload_n hx hb d_Law_combine_0 rfl (lv_at hl 0 rfl) ?_
    refine lv_iload_n hx hb d_Law_combine_1 rfl (lv_at hl 1 rfl) ?_
    refine lv_iload_n hx hb d_Law_combine_2 rfl (lv_at hl 2 rfl) ?_
    refine lv_iload_n hx hb d_Law_combine_3 rfl (lv_at hl 3 rfl) ?_
    refine lv_iload hx hb d_Law_combine_4 (lv_at hl 4 rfl) ?_
    refine q_cV (rest := []) E ((G_Desk_combine l g b pn tn wn mr mq k1 k2 k3 k4 q1 q4 q2 q3).up (nD_up hb0)) w_795 w_1 w_792 w_793 w_794 hd_Desk_combine rfl ⟨by decide, by decide⟩ (OB.recv E.2.2.2.2.2 (by rfl) hd.x.ob) hd hF hl.1 rfl (Nat.le_of_ble_eq_true rfl) d_Law_combine_6 ⟨by decide, by decide⟩ (qv (fun H1 locs hq hF => ?_))
    have hg := hP.call hb0 hq
    refine lv_goto (tgt := 16) hx hb d_Law_combine_9 (by decide) ?_
    refine lv_iconst (v := nI 0) hx hb d_Law_combine_16 (by decide) ?_
    refine W.widen (k := 1) (n := 6) (by decide) (by decide) ?_
    exact q_iret E hr hlk (⟨_, rfl, Or.inl ⟨hok, rfl, hg.1⟩, hg.2⟩) hF d_Law_combine_17
  · skip
    refine lv_aload_n hx hb d_Law_combine_0 rfl (lv_at hl 0 rfl) ?_
    refine lv_iload_n hx hb d_Law_combine_1 rfl (lv_at hl 1 rfl) ?_
    refine lv_iload_n hx hb d_Law_combine_2 rfl (lv_at hl 2 rfl) ?_
    refine lv_iload_n hx hb d_Law_combine_3 rfl (lv_at hl 3 rfl) ?_
    refine lv_iload hx hb d_Law_combine_4 (lv_at hl 4 rfl) ?_
    refine q_catch E hw0 (q_runVT (rest := []) E hw0 (t_Desk_combine l g (HXA s0) s0 hxs b x1 x2 x3 x4 ((nb hok).imp id (fun h => (nb h).imp id nb))) w_795 w_1 w_792 w_793 w_794 hd_Desk_combine rfl ⟨by decide, by decide⟩ (OB.recv E.2.2.2.2.2 (by rfl) hd.x.ob) (⟨hold, hP.hx hb0⟩) hl.1 rfl (Nat.le_of_ble_eq_true rfl) d_Law_combine_6 ⟨by decide, by decide⟩) hF hex ⟨by decide, by decide⟩ (by decide) w_391 (fun xx H1 locs htq hF => ?_)
    have hg := hP.grow hb0 htq.1 htq.2.1
    refine lv_astore (lv' := [(5, .ref xx), (0, .ref b), (1, .int x1), (2, .int x2), (3, .int x3), (4, .int x4)]) hx hb d_Law_combine_12 hl (by decide) rfl (fun ls hl => ?_)
    refine lv_iconst (v := nI 1) hx hb d_Law_combine_14 (by decide) ?_
    exact q_iret E hr hlk (⟨_, rfl, Or.inr ⟨hok, rfl, hg.1⟩, hg.2⟩) hF d_Law_combine_15
set_option maxHeartbeats 4000000 in
set_option maxRecDepth 100000 in
theorem H_same (l : Launch) (g : WG) (s0 : State) (hxs : XS l s0) (b pn tn wn : Nat) (mr mq : Int64) (hb0 : s0.heap.size ≤ b) (x1 : Int32) (x2 : Int32) : CtrH l y_Law_same (.codeWith y_Law_same method_16_code 5 (some FieldType.int) [(0, 17, 20, 13)]) 8 203 1 6 (HXA s0) g s0 [.ref b, .int x1, .int x2, .ref (b + 510)] (fun H => LG g s0 H b pn tn wn mr mq) (QI (fun r H H' => (((okP x1 (nI 1) ∧ okP x2 (nI 1)) ∧ r = nI 0 ∧ LG g s0 H' b pn tn wn mr mq) ∨ (¬ (okP x1 (nI 1) ∧ okP x2 (nI 1)) ∧ r = nI 1 ∧ LG g s0 H' b pn tn wn mr mq)) ∧ ∀ q, kM b q → H'[q]? = H[q]?)) := by
  refine ctrH_mk l (lv0 := [(0, .ref b), (1, .int x1), (2, .int x2), (3, .ref (b + 510))]) (by decide) (Nat.le_of_ble_eq_true rfl) rfl ?_
  intro p e s m below meth c ls E hw0 hr hlk hex hl hP
  have hx := E.1
  have hb := E.2.1
  have hK := E.2.2.2.2.2
  have hF : ∀ q ∈ ([] : List Loc), HXA s0 q.base := fun q hq => absurd hq List.not_mem_nil
  have hold := hP.1
  have hd := hP.d
  have hbd := hd.2.2.2.2
  obtain ⟨f0, hA⟩ := hP.2.2.2
  by_cases hok : okP x1 (nI 1) ∧ okP x2 (nI 1)
  · skip
    obtain ⟨k1, rfl, q1⟩ := okP_nat (by decide) (by decide) hok.1
    obtain ⟨k2, rfl, q2⟩ := okP_nat (by decide) (by decide) hok.2
    refine lv_aload_n hx hb d_Law_same_0 rfl (lv_at hl 3 rfl) ?_
    refine lv_iconst (v := nI 0) hx hb d_Law_same_1 (by decide) ?_
    refine lv_aload_n hx hb d_Law_same_2 rfl (lv_at hl 0 rfl) ?_
    refine lv_iload_n hx hb d_Law_same_3 rfl (lv_at hl 1 rfl) ?_
    refine lv_iload_n hx hb d_Law_same_4 rfl (lv_at hl 2 rfl) ?_
    refine q_cV (rest := [.int (nI 0), .ref (b + 510)]) E ((G_Desk_same l g b pn tn wn mr mq k1 k2 q1 q2).up (nD_up hb0)) w_806 w_1 w_803 w_804 w_805 hd_Desk_same rfl ⟨by decide, by decide⟩ (OB.recv E.2.2.2.2.2 (by rfl) hd.x.ob) hd hF hl.1 rfl (Nat.le_of_ble_eq_true rfl) d_Law_same_5 ⟨by decide, by decide⟩ (qi (fun r0 H1 locs hq hF => ?_))
    obtain ⟨-, hq⟩ := hq
    have hg := hP.call hb0 hq
    refine lv_if_eq (tgt := 15) hx hb d_Law_same_8 (by decide) (fun _ => ?_) (fun _ => ?_)
    · skip
      refine lv_lconst (v := 0) hx hb d_Law_same_15 (by decide) ?_
      refine q_last (N := 1) E (AJ.off hq.1 nD_510 hA) (Nat.le_trans hb0 (Nat.le_add_right _ _)) hF 0 rfl (by decide) (by decide) d_Law_same_16 (fun H2 locs hq2 hA2 hF => ?_)
      have hg2 := hg.1.store hb0 hq2 hA2
      refine lv_goto (tgt := 24) hx hb d_Law_same_17 (by decide) ?_
      refine lv_iconst (v := nI 0) hx hb d_Law_same_24 (by decide) ?_
      refine W.widen (k := 1) (n := 6) (by decide) (by decide) ?_
      exact q_iret E hr hlk (⟨_, rfl, Or.inl ⟨hok, rfl, hg2.1⟩, fun q h9 => (hg2.2 q h9).trans (hg.2 q h9)⟩) hF d_Law_same_25
    · skip
      refine lv_lconst (v := 1) hx hb d_Law_same_11 (by decide) ?_
      refine lv_goto (tgt := 16) hx hb d_Law_same_12 (by decide) ?_
      refine q_last (N := 1) E (AJ.off hq.1 nD_510 hA) (Nat.le_trans hb0 (Nat.le_add_right _ _)) hF 0 rfl (by decide) (by decide) d_Law_same_16 (fun H2 locs hq2 hA2 hF => ?_)
      have hg2 := hg.1.store hb0 hq2 hA2
      refine lv_goto (tgt := 24) hx hb d_Law_same_17 (by decide) ?_
      refine lv_iconst (v := nI 0) hx hb d_Law_same_24 (by decide) ?_
      refine W.widen (k := 1) (n := 6) (by decide) (by decide) ?_
      exact q_iret E hr hlk (⟨_, rfl, Or.inl ⟨hok, rfl, hg2.1⟩, fun q h9 => (hg2.2 q h9).trans (hg.2 q h9)⟩) hF d_Law_same_25
  · skip
    refine lv_aload_n hx hb d_Law_same_0 rfl (lv_at hl 3 rfl) ?_
    refine lv_iconst (v := nI 0) hx hb d_Law_same_1 (by decide) ?_
    refine lv_aload_n hx hb d_Law_same_2 rfl (lv_at hl 0 rfl) ?_
    refine lv_iload_n hx hb d_Law_same_3 rfl (lv_at hl 1 rfl) ?_
    refine lv_iload_n hx hb d_Law_same_4 rfl (lv_at hl 2 rfl) ?_
    refine q_catch E hw0 (q_runVT (rest := [.int (nI 0), .ref (b + 510)]) E hw0 (t_Desk_same l g (HXA s0) s0 hxs b x1 x2 (nb hok)) w_806 w_1 w_803 w_804 w_805 hd_Desk_same rfl ⟨by decide, by decide⟩ (OB.recv E.2.2.2.2.2 (by rfl) hd.x.ob) (⟨hold, hP.hx hb0⟩) hl.1 rfl (Nat.le_of_ble_eq_true rfl) d_Law_same_5 ⟨by decide, by decide⟩) hF hex ⟨by decide, by decide⟩ (by decide) w_391 (fun xx H1 locs htq hF => ?_)
    have hg := hP.grow hb0 htq.1 htq.2.1
    refine lv_astore (lv' := [(4, .ref xx), (0, .ref b), (1, .int x1), (2, .int x2), (3, .ref (b + 510))]) hx hb d_Law_same_20 hl (by decide) rfl (fun ls hl => ?_)
    refine lv_iconst (v := nI 1) hx hb d_Law_same_22 (by decide) ?_
    exact q_iret E hr hlk (⟨_, rfl, Or.inr ⟨hok, rfl, hg.1⟩, hg.2⟩) hF d_Law_same_23
set_option maxHeartbeats 4000000 in
set_option maxRecDepth 100000 in
theorem H_setup (l : Launch) (g : WG) (s0 : State) (hxs : XS l s0) (b pn tn wn : Nat) (mr mq : Int64) (hb0 : s0.heap.size ≤ b) (x1 : Int32) (x2 : Int32) : CtrH l y_Law_setup (.codeWith y_Law_setup method_17_code 4 (some FieldType.int) [(0, 6, 9, 13)]) 8 259 1 6 (HXA s0) g s0 [.ref b, .int x1, .int x2] (fun H => LG g s0 H b pn tn wn mr mq) (QI (fun r H H' => (((okS x1 (nI 1) ∧ okC x2 (nI 1) (nI 16)) ∧ r = nI 0 ∧ (∃ k9, x2 = nI k9 ∧ LG g s0 H' b k9 tn wn mr mq)) ∨ (¬ (okS x1 (nI 1) ∧ okC x2 (nI 1) (nI 16)) ∧ r = nI 1 ∧ LG g s0 H' b pn tn wn mr mq)) ∧ ∀ q, kM b q → H'[q]? = H[q]?)) := by
  refine ctrH_mk l (lv0 := [(0, .ref b), (1, .int x1), (2, .int x2)]) (by decide) (Nat.le_of_ble_eq_true rfl) rfl ?_
  intro p e s m below meth c ls E hw0 hr hlk hex hl hP
  have hx := E.1
  have hb := E.2.1
  have hK := E.2.2.2.2.2
  have hF : ∀ q ∈ ([] : List Loc), HXA s0 q.base := fun q hq => absurd hq List.not_mem_nil
  have hold := hP.1
  have hd := hP.d
  have hbd := hd.2.2.2.2
  obtain ⟨f0, hA⟩ := hP.2.2.2
  by_cases hok : okS x1 (nI 1) ∧ okC x2 (nI 1) (nI 16)
  · skip
    obtain ⟨k1, rfl, q1⟩ := okS_nat (by decide) (by decide) hok.1
    obtain ⟨k2, rfl, l2, q2⟩ := okC_nat (by decide) (by decide) hok.2
    refine lv_aload_n hx hb d_Law_setup_0 rfl (lv_at hl 0 rfl) ?_
    refine lv_iload_n hx hb d_Law_setup_1 rfl (lv_at hl 1 rfl) ?_
    refine lv_iload_n hx hb d_Law_setup_2 rfl (lv_at hl 2 rfl) ?_
    refine q_cV (rest := []) E ((G_Desk_setup l g b pn tn wn mr mq k1 k2 q1 l2 q2).up (nD_up hb0)) w_822 w_1 w_819 w_820 w_821 hd_Desk_setup rfl ⟨by decide, by decide⟩ (OB.recv E.2.2.2.2.2 (by rfl) hd.x.ob) hd hF hl.1 rfl (Nat.le_of_ble_eq_true rfl) d_Law_setup_3 ⟨by decide, by decide⟩ (qv (fun H1 locs hq hF => ?_))
    have hg := hP.call hb0 hq
    refine lv_goto (tgt := 12) hx hb d_Law_setup_6 (by decide) ?_
    refine lv_iconst (v := nI 0) hx hb d_Law_setup_12 (by decide) ?_
    refine W.widen (k := 1) (n := 6) (by decide) (by decide) ?_
    exact q_iret E hr hlk (⟨_, rfl, Or.inl ⟨hok, rfl, _, rfl, hg.1⟩, hg.2⟩) hF d_Law_setup_13
  · skip
    refine lv_aload_n hx hb d_Law_setup_0 rfl (lv_at hl 0 rfl) ?_
    refine lv_iload_n hx hb d_Law_setup_1 rfl (lv_at hl 1 rfl) ?_
    refine lv_iload_n hx hb d_Law_setup_2 rfl (lv_at hl 2 rfl) ?_
    refine q_catch E hw0 (q_runVT (rest := []) E hw0 (t_Desk_setup l g (HXA s0) s0 hxs b x1 x2 (nb hok)) w_822 w_1 w_819 w_820 w_821 hd_Desk_setup rfl ⟨by decide, by decide⟩ (OB.recv E.2.2.2.2.2 (by rfl) hd.x.ob) (⟨hold, hP.hx hb0⟩) hl.1 rfl (Nat.le_of_ble_eq_true rfl) d_Law_setup_3 ⟨by decide, by decide⟩) hF hex ⟨by decide, by decide⟩ (by decide) w_391 (fun xx H1 locs htq hF => ?_)
    have hg := hP.grow hb0 htq.1 htq.2.1
    refine lv_astore_n (lv' := [(3, .ref xx), (0, .ref b), (1, .int x1), (2, .int x2)]) hx hb d_Law_setup_9 rfl hl (by decide) rfl (fun ls hl => ?_)
    refine lv_iconst (v := nI 1) hx hb d_Law_setup_10 (by decide) ?_
    exact q_iret E hr hlk (⟨_, rfl, Or.inr ⟨hok, rfl, hg.1⟩, hg.2⟩) hF d_Law_setup_11
set_option maxHeartbeats 4000000 in
set_option maxRecDepth 100000 in
theorem H_commit (l : Launch) (g : WG) (s0 : State) (hxs : XS l s0) (b pn tn wn : Nat) (mr mq : Int64) (hb0 : s0.heap.size ≤ b) (x1 x2 x3 : Int32) (hno : va_Nc "java/lang/IllegalStateException" "java/lang/IllegalArgumentException" s0) : CtrH l y_Law_commit (.codeWith y_Law_commit method_18_code 5 (some FieldType.int) [(0, 7, 10, 13), (0, 7, 14, 15)]) 8 258 1 6 (HXA s0) g s0 [.ref b, .int x1, .int x2, .int x3] (fun H => LG g s0 H b pn tn wn mr mq) (QI (fun r H H' => (((okP x1 (nI 1) ∧ okC x3 (nI 0) (nI 16) ∧ okS x2 x3) ∧ ((x3 ≤ nI pn ∧ r = nI 0 ∧ LG g s0 H' b pn tn wn mr mq) ∨ (¬ x3 ≤ nI pn ∧ r = nI 2 ∧ LG g s0 H' b pn tn wn mr mq))) ∨ (¬ (okP x1 (nI 1) ∧ okC x3 (nI 0) (nI 16) ∧ okS x2 x3) ∧ r = nI 1 ∧ LG g s0 H' b pn tn wn mr mq)) ∧ ∀ q, kM b q → H'[q]? = H[q]?)) := by
  refine ctrH_mk l (lv0 := [(0, .ref b), (1, .int x1), (2, .int x2), (3, .int x3)]) (by decide) (Nat.le_of_ble_eq_true rfl) rfl ?_
  intro p e s m below meth c ls E hw0 hr hlk hex hl hP
  have hx := E.1
  have hb := E.2.1
  have hK := E.2.2.2.2.2
  have hF : ∀ q ∈ ([] : List Loc), HXA s0 q.base := fun q hq => absurd hq List.not_mem_nil
  have hold := hP.1
  have hd := hP.d
  have hbd := hd.2.2.2.2
  obtain ⟨f0, hA⟩ := hP.2.2.2
  by_cases hok : okP x1 (nI 1) ∧ okC x3 (nI 0) (nI 16) ∧ okS x2 x3
  · skip
    by_cases h3 : x3 ≤ nI pn
    · skip
      obtain ⟨k1, rfl, q1⟩ := okP_nat (by decide) (by decide) hok.1
      obtain ⟨k3, rfl, l3, q3⟩ := okC_nat (by decide) (by decide) hok.2.1
      have hkp : k3 ≤ pn := (nI_leI (by omega) (by omega)).mp h3
      obtain ⟨k2, rfl, q2⟩ := comb_S16 q3 hok.2.2
      refine lv_aload_n hx hb d_Law_commit_0 rfl (lv_at hl 0 rfl) ?_
      refine lv_iload_n hx hb d_Law_commit_1 rfl (lv_at hl 1 rfl) ?_
      refine lv_iload_n hx hb d_Law_commit_2 rfl (lv_at hl 2 rfl) ?_
      refine lv_iload_n hx hb d_Law_commit_3 rfl (lv_at hl 3 rfl) ?_
      refine q_cV (rest := []) E ((G_Desk_commit l g b pn tn wn mr mq k1 k2 k3 q1 q3 q2 hkp hbd.1).up (nD_up hb0)) w_840 w_1 w_837 w_838 w_839 hd_Desk_commit rfl ⟨by decide, by decide⟩ (OB.recv E.2.2.2.2.2 (by rfl) hd.x.ob) hd hF hl.1 rfl (Nat.le_of_ble_eq_true rfl) d_Law_commit_4 ⟨by decide, by decide⟩ (qv (fun H1 locs hq hF => ?_))
      have hg := hP.call hb0 hq
      refine lv_goto (tgt := 18) hx hb d_Law_commit_7 (by decide) ?_
      refine lv_iconst (v := nI 0) hx hb d_Law_commit_18 (by decide) ?_
      refine W.widen (k := 1) (n := 6) (by decide) (by decide) ?_
      exact q_iret E hr hlk (⟨_, rfl, Or.inl ⟨hok, Or.inl ⟨h3, rfl, hg.1⟩⟩, hg.2⟩) hF d_Law_commit_19
    · skip
      refine lv_aload_n hx hb d_Law_commit_0 rfl (lv_at hl 0 rfl) ?_
      refine lv_iload_n hx hb d_Law_commit_1 rfl (lv_at hl 1 rfl) ?_
      refine lv_iload_n hx hb d_Law_commit_2 rfl (lv_at hl 2 rfl) ?_
      refine lv_iload_n hx hb d_Law_commit_3 rfl (lv_at hl 3 rfl) ?_
      refine q_catch2 E hw0 (q_runVT (rest := []) E hw0 (t_Desk_commitG l g (HXA s0) s0 hxs b pn tn wn mr mq x1 x2 x3 hok.1 hok.2.1 hok.2.2 h3) w_840 w_1 w_837 w_838 w_839 hd_Desk_commit rfl ⟨by decide, by decide⟩ (OB.recv E.2.2.2.2.2 (by rfl) hd.x.ob) (⟨hold, hP.hx hb0, hd⟩) hl.1 rfl (Nat.le_of_ble_eq_true rfl) d_Law_commit_4 ⟨by decide, by decide⟩) hF hex (by decide) w_391 hno ⟨by decide, by decide⟩ (by decide) w_392 (fun xx H1 locs htq hF => ?_)
      have hg := hP.grow hb0 htq.1 htq.2.1
      refine lv_astore (lv' := [(4, .ref xx), (0, .ref b), (1, .int x1), (2, .int x2), (3, .int x3)]) hx hb d_Law_commit_14 hl (by decide) rfl (fun ls hl => ?_)
      refine lv_iconst (v := nI 2) hx hb d_Law_commit_16 (by decide) ?_
      exact q_iret E hr hlk (⟨_, rfl, Or.inl ⟨hok, Or.inr ⟨h3, rfl, hg.1⟩⟩, hg.2⟩) hF d_Law_commit_17
  · skip
    refine lv_aload_n hx hb d_Law_commit_0 rfl (lv_at hl 0 rfl) ?_
    refine lv_iload_n hx hb d_Law_commit_1 rfl (lv_at hl 1 rfl) ?_
    refine lv_iload_n hx hb d_Law_commit_2 rfl (lv_at hl 2 rfl) ?_
    refine lv_iload_n hx hb d_Law_commit_3 rfl (lv_at hl 3 rfl) ?_
    refine q_catch E hw0 (q_runVT (rest := []) E hw0 (t_Desk_commit l g (HXA s0) s0 hxs b x1 x2 x3 ((nb hok).imp id nb)) w_840 w_1 w_837 w_838 w_839 hd_Desk_commit rfl ⟨by decide, by decide⟩ (OB.recv E.2.2.2.2.2 (by rfl) hd.x.ob) (⟨hold, hP.hx hb0⟩) hl.1 rfl (Nat.le_of_ble_eq_true rfl) d_Law_commit_4 ⟨by decide, by decide⟩) hF hex ⟨by decide, by decide⟩ (by decide) w_391 (fun xx H1 locs htq hF => ?_)
    have hg := hP.grow hb0 htq.1 htq.2.1
    refine lv_astore (lv' := [(4, .ref xx), (0, .ref b), (1, .int x1), (2, .int x2), (3, .int x3)]) hx hb d_Law_commit_10 hl (by decide) rfl (fun ls hl => ?_)
    refine lv_iconst (v := nI 1) hx hb d_Law_commit_12 (by decide) ?_
    exact q_iret E hr hlk (⟨_, rfl, Or.inr ⟨hok, rfl, hg.1⟩, hg.2⟩) hF d_Law_commit_13
set_option maxHeartbeats 4000000 in
set_option maxRecDepth 100000 in
theorem H_open (l : Launch) (g : WG) (s0 : State) (hxs : XS l s0) (b pn tn wn : Nat) (mr mq : Int64) (hb0 : s0.heap.size ≤ b) (x1 : Int32) (x2 : Int32) (x3 : Int32) (x4 : Int32) : CtrH l y_Law_open (.codeWith y_Law_open method_19_code 6 (some FieldType.int) [(0, 9, 12, 13)]) 8 185 1 6 (HXA s0) g s0 [.ref b, .int x1, .int x2, .int x3, .int x4] (fun H => LG g s0 H b pn tn wn mr mq) (QI (fun r H H' => (((okC x2 (nI 1) (nI 16) ∧ okS x1 x2 ∧ okS x3 (nI 1) ∧ okS x4 (nI 1)) ∧ r = nI 0 ∧ LG g s0 H' b pn tn wn mr mq) ∨ (¬ (okC x2 (nI 1) (nI 16) ∧ okS x1 x2 ∧ okS x3 (nI 1) ∧ okS x4 (nI 1)) ∧ r = nI 1 ∧ LG g s0 H' b pn tn wn mr mq)) ∧ ∀ q, kM b q → H'[q]? = H[q]?)) := by
  refine ctrH_mk l (lv0 := [(0, .ref b), (1, .int x1), (2, .int x2), (3, .int x3), (4, .int x4)]) (by decide) (Nat.le_of_ble_eq_true rfl) rfl ?_
  intro p e s m below meth c ls E hw0 hr hlk hex hl hP
  have hx := E.1
  have hb := E.2.1
  have hK := E.2.2.2.2.2
  have hF : ∀ q ∈ ([] : List Loc), HXA s0 q.base := fun q hq => absurd hq List.not_mem_nil
  have hold := hP.1
  have hd := hP.d
  have hbd := hd.2.2.2.2
  obtain ⟨f0, hA⟩ := hP.2.2.2
  by_cases hok : okC x2 (nI 1) (nI 16) ∧ okS x1 x2 ∧ okS x3 (nI 1) ∧ okS x4 (nI 1)
  · skip
    obtain ⟨k2, rfl, l2, q2⟩ := okC_nat (by decide) (by decide) hok.1
    obtain ⟨k1, rfl, q1⟩ := okS_nat (by omega) (by omega) hok.2.1
    obtain ⟨k3, rfl, q3⟩ := okS_nat (by decide) (by decide) hok.2.2.1
    obtain ⟨k4, rfl, q4⟩ := okS_nat (by decide) (by decide) hok.2.2.2
    refine lv_aload_n hx hb d_Law_open_0 rfl (lv_at hl 0 rfl) ?_
    refine lv_iload_n hx hb d_Law_open_1 rfl (lv_at hl 1 rfl) ?_
    refine lv_iload_n hx hb d_Law_open_2 rfl (lv_at hl 2 rfl) ?_
    refine lv_iload_n hx hb d_Law_open_3 rfl (lv_at hl 3 rfl) ?_
    refine lv_iload hx hb d_Law_open_4 (lv_at hl 4 rfl) ?_
    refine q_cV (rest := []) E ((G_Desk_open l g b pn tn wn mr mq k1 k2 k3 k4 l2 q2 q1 q3 q4).up (nD_up hb0)) w_848 w_1 w_845 w_846 w_847 hd_Desk_open rfl ⟨by decide, by decide⟩ (OB.recv E.2.2.2.2.2 (by rfl) hd.x.ob) hd hF hl.1 rfl (Nat.le_of_ble_eq_true rfl) d_Law_open_6 ⟨by decide, by decide⟩ (qv (fun H1 locs hq hF => ?_))
    have hg := hP.call hb0 hq
    refine lv_goto (tgt := 16) hx hb d_Law_open_9 (by decide) ?_
    refine lv_iconst (v := nI 0) hx hb d_Law_open_16 (by decide) ?_
    refine W.widen (k := 1) (n := 6) (by decide) (by decide) ?_
    exact q_iret E hr hlk (⟨_, rfl, Or.inl ⟨hok, rfl, hg.1⟩, hg.2⟩) hF d_Law_open_17
  · skip
    refine lv_aload_n hx hb d_Law_open_0 rfl (lv_at hl 0 rfl) ?_
    refine lv_iload_n hx hb d_Law_open_1 rfl (lv_at hl 1 rfl) ?_
    refine lv_iload_n hx hb d_Law_open_2 rfl (lv_at hl 2 rfl) ?_
    refine lv_iload_n hx hb d_Law_open_3 rfl (lv_at hl 3 rfl) ?_
    refine lv_iload hx hb d_Law_open_4 (lv_at hl 4 rfl) ?_
    refine q_catch E hw0 (q_runVT (rest := []) E hw0 (t_Desk_open l g (HXA s0) s0 hxs b x1 x2 x3 x4 ((nb hok).imp id (fun h => (nb h).imp id nb))) w_848 w_1 w_845 w_846 w_847 hd_Desk_open rfl ⟨by decide, by decide⟩ (OB.recv E.2.2.2.2.2 (by rfl) hd.x.ob) (⟨hold, hP.hx hb0⟩) hl.1 rfl (Nat.le_of_ble_eq_true rfl) d_Law_open_6 ⟨by decide, by decide⟩) hF hex ⟨by decide, by decide⟩ (by decide) w_391 (fun xx H1 locs htq hF => ?_)
    have hg := hP.grow hb0 htq.1 htq.2.1
    refine lv_astore (lv' := [(5, .ref xx), (0, .ref b), (1, .int x1), (2, .int x2), (3, .int x3), (4, .int x4)]) hx hb d_Law_open_12 hl (by decide) rfl (fun ls hl => ?_)
    refine lv_iconst (v := nI 1) hx hb d_Law_open_14 (by decide) ?_
    exact q_iret E hr hlk (⟨_, rfl, Or.inr ⟨hok, rfl, hg.1⟩, hg.2⟩) hF d_Law_open_15
set_option maxHeartbeats 4000000 in
set_option maxRecDepth 100000 in
theorem H_checks (l : Launch) (g : WG) (s0 : State) (hxs : XS l s0) (b pn tn wn : Nat) (mr mq : Int64) (hb0 : s0.heap.size ≤ b) (x1 : Int32) (x2 : Int32) (x3 : Int32) (x4 : Int32) (x5 : Int32) : CtrH l y_Law_checks (.codeWith y_Law_checks method_20_code 8 (some FieldType.int) [(0, 23, 26, 13)]) 8 259 1 6 (HXA s0) g s0 [.ref b, .int x1, .int x2, .int x3, .int x4, .int x5, .ref (b + 510)] (fun H => LG g s0 H b pn tn wn mr mq) (QI (fun r H H' => (((okP x1 (nI 1) ∧ okP x2 (nI 1) ∧ okS x3 (nI 1) ∧ okS x4 (nI 1) ∧ okS x5 (nI 1)) ∧ r = nI 0 ∧ LG g s0 H' b pn tn wn mr mq) ∨ (¬ (okP x1 (nI 1) ∧ okP x2 (nI 1) ∧ okS x3 (nI 1) ∧ okS x4 (nI 1) ∧ okS x5 (nI 1)) ∧ r = nI 1 ∧ LG g s0 H' b pn tn wn mr mq)) ∧ ∀ q, kM b q → H'[q]? = H[q]?)) := by
  refine ctrH_mk l (lv0 := [(0, .ref b), (1, .int x1), (2, .int x2), (3, .int x3), (4, .int x4), (5, .int x5), (6, .ref (b + 510))]) (by decide) (Nat.le_of_ble_eq_true rfl) rfl ?_
  intro p e s m below meth c ls E hw0 hr hlk hex hl hP
  have hx := E.1
  have hb := E.2.1
  have hK := E.2.2.2.2.2
  have hF : ∀ q ∈ ([] : List Loc), HXA s0 q.base := fun q hq => absurd hq List.not_mem_nil
  have hold := hP.1
  have hd := hP.d
  have hbd := hd.2.2.2.2
  obtain ⟨f0, hA⟩ := hP.2.2.2
  by_cases hok : okP x1 (nI 1) ∧ okP x2 (nI 1) ∧ okS x3 (nI 1) ∧ okS x4 (nI 1) ∧ okS x5 (nI 1)
  · skip
    obtain ⟨k1, rfl, q1⟩ := okP_nat (by decide) (by decide) hok.1
    obtain ⟨k2, rfl, q2⟩ := okP_nat (by decide) (by decide) hok.2.1
    obtain ⟨k3, rfl, q3⟩ := okS_nat (by decide) (by decide) hok.2.2.1
    obtain ⟨k4, rfl, q4⟩ := okS_nat (by decide) (by decide) hok.2.2.2.1
    obtain ⟨k5, rfl, q5⟩ := okS_nat (by decide) (by decide) hok.2.2.2.2
    refine lv_aload hx hb d_Law_checks_0 (lv_at hl 6 rfl) ?_
    refine lv_iconst (v := nI 0) hx hb d_Law_checks_2 (by decide) ?_
    refine lv_aload_n hx hb d_Law_checks_3 rfl (lv_at hl 0 rfl) ?_
    refine lv_iload_n hx hb d_Law_checks_4 rfl (lv_at hl 1 rfl) ?_
    refine lv_iload_n hx hb d_Law_checks_5 rfl (lv_at hl 2 rfl) ?_
    refine lv_iload_n hx hb d_Law_checks_6 rfl (lv_at hl 3 rfl) ?_
    refine lv_iload hx hb d_Law_checks_7 (lv_at hl 4 rfl) ?_
    refine lv_iload hx hb d_Law_checks_9 (lv_at hl 5 rfl) ?_
    refine q_cV (rest := [.int (nI 0), .ref (b + 510)]) E ((G_Desk_checks l g b pn tn wn mr mq k1 k2 k3 k4 k5 q1 q2 q3 q4 q5).up (nD_up hb0)) w_863 w_1 w_860 w_861 w_862 hd_Desk_checks rfl ⟨by decide, by decide⟩ (OB.recv E.2.2.2.2.2 (by rfl) hd.x.ob) hd hF hl.1 rfl (Nat.le_of_ble_eq_true rfl) d_Law_checks_11 ⟨by decide, by decide⟩ (qi (fun r0 H1 locs hq hF => ?_))
    obtain ⟨-, hq⟩ := hq
    have hg := hP.call hb0 hq
    refine lv_if_eq (tgt := 21) hx hb d_Law_checks_14 (by decide) (fun _ => ?_) (fun _ => ?_)
    · skip
      refine lv_lconst (v := 0) hx hb d_Law_checks_21 (by decide) ?_
      refine q_last (N := 1) E (AJ.off hq.1 nD_510 hA) (Nat.le_trans hb0 (Nat.le_add_right _ _)) hF 0 rfl (by decide) (by decide) d_Law_checks_22 (fun H2 locs hq2 hA2 hF => ?_)
      have hg2 := hg.1.store hb0 hq2 hA2
      refine lv_goto (tgt := 30) hx hb d_Law_checks_23 (by decide) ?_
      refine lv_iconst (v := nI 0) hx hb d_Law_checks_30 (by decide) ?_
      refine W.widen (k := 1) (n := 6) (by decide) (by decide) ?_
      exact q_iret E hr hlk (⟨_, rfl, Or.inl ⟨hok, rfl, hg2.1⟩, fun q h9 => (hg2.2 q h9).trans (hg.2 q h9)⟩) hF d_Law_checks_31
    · skip
      refine lv_lconst (v := 1) hx hb d_Law_checks_17 (by decide) ?_
      refine lv_goto (tgt := 22) hx hb d_Law_checks_18 (by decide) ?_
      refine q_last (N := 1) E (AJ.off hq.1 nD_510 hA) (Nat.le_trans hb0 (Nat.le_add_right _ _)) hF 0 rfl (by decide) (by decide) d_Law_checks_22 (fun H2 locs hq2 hA2 hF => ?_)
      have hg2 := hg.1.store hb0 hq2 hA2
      refine lv_goto (tgt := 30) hx hb d_Law_checks_23 (by decide) ?_
      refine lv_iconst (v := nI 0) hx hb d_Law_checks_30 (by decide) ?_
      refine W.widen (k := 1) (n := 6) (by decide) (by decide) ?_
      exact q_iret E hr hlk (⟨_, rfl, Or.inl ⟨hok, rfl, hg2.1⟩, fun q h9 => (hg2.2 q h9).trans (hg.2 q h9)⟩) hF d_Law_checks_31
  · skip
    refine lv_aload hx hb d_Law_checks_0 (lv_at hl 6 rfl) ?_
    refine lv_iconst (v := nI 0) hx hb d_Law_checks_2 (by decide) ?_
    refine lv_aload_n hx hb d_Law_checks_3 rfl (lv_at hl 0 rfl) ?_
    refine lv_iload_n hx hb d_Law_checks_4 rfl (lv_at hl 1 rfl) ?_
    refine lv_iload_n hx hb d_Law_checks_5 rfl (lv_at hl 2 rfl) ?_
    refine lv_iload_n hx hb d_Law_checks_6 rfl (lv_at hl 3 rfl) ?_
    refine lv_iload hx hb d_Law_checks_7 (lv_at hl 4 rfl) ?_
    refine lv_iload hx hb d_Law_checks_9 (lv_at hl 5 rfl) ?_
    refine q_catch E hw0 (q_runVT (rest := [.int (nI 0), .ref (b + 510)]) E hw0 (t_Desk_checks l g (HXA s0) s0 hxs b x1 x2 x3 x4 x5 ((nb hok).imp id (fun h => (nb h).imp id (fun h => (nb h).imp id nb)))) w_863 w_1 w_860 w_861 w_862 hd_Desk_checks rfl ⟨by decide, by decide⟩ (OB.recv E.2.2.2.2.2 (by rfl) hd.x.ob) (⟨hold, hP.hx hb0⟩) hl.1 rfl (Nat.le_of_ble_eq_true rfl) d_Law_checks_11 ⟨by decide, by decide⟩) hF hex ⟨by decide, by decide⟩ (by decide) w_391 (fun xx H1 locs htq hF => ?_)
    have hg := hP.grow hb0 htq.1 htq.2.1
    refine lv_astore (lv' := [(7, .ref xx), (0, .ref b), (1, .int x1), (2, .int x2), (3, .int x3), (4, .int x4), (5, .int x5), (6, .ref (b + 510))]) hx hb d_Law_checks_26 hl (by decide) rfl (fun ls hl => ?_)
    refine lv_iconst (v := nI 1) hx hb d_Law_checks_28 (by decide) ?_
    exact q_iret E hr hlk (⟨_, rfl, Or.inr ⟨hok, rfl, hg.1⟩, hg.2⟩) hF d_Law_checks_29
set_option maxHeartbeats 4000000 in
set_option maxRecDepth 100000 in
theorem H_transform (l : Launch) (g : WG) (s0 : State) (hxs : XS l s0) (b pn tn wn : Nat) (mr mq : Int64) (hb0 : s0.heap.size ≤ b) (x1 : Int32) (x2 : Int32) (x3 : Int32) : CtrH l y_Law_transform (.codeWith y_Law_transform method_21_code 5 (some FieldType.int) [(0, 7, 10, 13)]) 8 256 1 6 (HXA s0) g s0 [.ref b, .int x1, .int x2, .int x3] (fun H => LG g s0 H b pn tn wn mr mq) (QI (fun r H H' => (((okC x2 (nI 0) (nI 4) ∧ okS x1 (nI 1 <<< ((x2 &&& nI 7) &&& 31))) ∧ r = nI 0 ∧ LG g s0 H' b pn tn wn mr mq) ∨ (¬ (okC x2 (nI 0) (nI 4) ∧ okS x1 (nI 1 <<< ((x2 &&& nI 7) &&& 31))) ∧ r = nI 1 ∧ LG g s0 H' b pn tn wn mr mq)) ∧ ∀ q, kM b q → H'[q]? = H[q]?)) := by
  refine ctrH_mk l (lv0 := [(0, .ref b), (1, .int x1), (2, .int x2), (3, .int x3)]) (by decide) (Nat.le_of_ble_eq_true rfl) rfl ?_
  intro p e s m below meth c ls E hw0 hr hlk hex hl hP
  have hx := E.1
  have hb := E.2.1
  have hK := E.2.2.2.2.2
  have hF : ∀ q ∈ ([] : List Loc), HXA s0 q.base := fun q hq => absurd hq List.not_mem_nil
  have hold := hP.1
  have hd := hP.d
  have hbd := hd.2.2.2.2
  obtain ⟨f0, hA⟩ := hP.2.2.2
  by_cases hok : okC x2 (nI 0) (nI 4) ∧ okS x1 (nI 1 <<< ((x2 &&& nI 7) &&& 31))
  · skip
    obtain ⟨k2, rfl, l2, q2⟩ := okC_nat (by decide) (by decide) hok.1
    have hs9 := hok.2
    rw [sh7 k2 (by omega)] at hs9
    obtain ⟨k1, rfl, q1⟩ := okS_nat (pw16 (by omega)).1 (Nat.le_trans (pw16 (by omega)).2 (by decide)) hs9
    refine lv_aload_n hx hb d_Law_transform_0 rfl (lv_at hl 0 rfl) ?_
    refine lv_iload_n hx hb d_Law_transform_1 rfl (lv_at hl 1 rfl) ?_
    refine lv_iload_n hx hb d_Law_transform_2 rfl (lv_at hl 2 rfl) ?_
    refine lv_iload_n hx hb d_Law_transform_3 rfl (lv_at hl 3 rfl) ?_
    refine q_cV (rest := []) E ((G_Desk_transform l g b pn tn wn mr mq k1 k2 x3 (by omega) q1).up (nD_up hb0)) w_870 w_1 w_867 w_868 w_869 hd_Desk_transform rfl ⟨by decide, by decide⟩ (OB.recv E.2.2.2.2.2 (by rfl) hd.x.ob) hd hF hl.1 rfl (Nat.le_of_ble_eq_true rfl) d_Law_transform_4 ⟨by decide, by decide⟩ (qv (fun H1 locs hq hF => ?_))
    have hg := hP.call hb0 hq
    refine lv_goto (tgt := 14) hx hb d_Law_transform_7 (by decide) ?_
    refine lv_iconst (v := nI 0) hx hb d_Law_transform_14 (by decide) ?_
    refine W.widen (k := 1) (n := 6) (by decide) (by decide) ?_
    exact q_iret E hr hlk (⟨_, rfl, Or.inl ⟨hok, rfl, hg.1⟩, hg.2⟩) hF d_Law_transform_15
  · skip
    refine lv_aload_n hx hb d_Law_transform_0 rfl (lv_at hl 0 rfl) ?_
    refine lv_iload_n hx hb d_Law_transform_1 rfl (lv_at hl 1 rfl) ?_
    refine lv_iload_n hx hb d_Law_transform_2 rfl (lv_at hl 2 rfl) ?_
    refine lv_iload_n hx hb d_Law_transform_3 rfl (lv_at hl 3 rfl) ?_
    refine q_catch E hw0 (q_runVT (rest := []) E hw0 (t_Desk_transform l g (HXA s0) s0 hxs b x1 x2 x3 (bad_t hok)) w_870 w_1 w_867 w_868 w_869 hd_Desk_transform rfl ⟨by decide, by decide⟩ (OB.recv E.2.2.2.2.2 (by rfl) hd.x.ob) (⟨hold, hP.hx hb0⟩) hl.1 rfl (Nat.le_of_ble_eq_true rfl) d_Law_transform_4 ⟨by decide, by decide⟩) hF hex ⟨by decide, by decide⟩ (by decide) w_391 (fun xx H1 locs htq hF => ?_)
    have hg := hP.grow hb0 htq.1 htq.2.1
    refine lv_astore (lv' := [(4, .ref xx), (0, .ref b), (1, .int x1), (2, .int x2), (3, .int x3)]) hx hb d_Law_transform_10 hl (by decide) rfl (fun ls hl => ?_)
    refine lv_iconst (v := nI 1) hx hb d_Law_transform_12 (by decide) ?_
    exact q_iret E hr hlk (⟨_, rfl, Or.inr ⟨hok, rfl, hg.1⟩, hg.2⟩) hF d_Law_transform_13
set_option maxHeartbeats 4000000 in
set_option maxRecDepth 100000 in
theorem H_lagrange (l : Launch) (g : WG) (s0 : State) (hxs : XS l s0) (b pn tn wn : Nat) (mr mq : Int64) (hb0 : s0.heap.size ≤ b) (x1 : Int32) (x2 : Int32) (x3 : Int32) (x4 : Int32) : CtrH l y_Law_lagrange (.codeWith y_Law_lagrange method_22_code 6 (some FieldType.int) [(0, 9, 12, 13)]) 8 232 1 6 (HXA s0) g s0 [.ref b, .int x1, .int x2, .int x3, .int x4] (fun H => LG g s0 H b pn tn wn mr mq) (QI (fun r H H' => (((okS x1 (nI 1) ∧ okC x2 (nI 0) (nI 4) ∧ ((0 : Int64).toInt ≤ x3.toInt64.toInt ∧ x3.toInt64.toInt ≤ ((nI 1 <<< ((x2 &&& nI 7) &&& 31)) - nI 1).toInt64.toInt) ∧ okS x4 (nI 1)) ∧ r = nI 0 ∧ LG g s0 H' b pn tn wn mr mq) ∨ (¬ (okS x1 (nI 1) ∧ okC x2 (nI 0) (nI 4) ∧ ((0 : Int64).toInt ≤ x3.toInt64.toInt ∧ x3.toInt64.toInt ≤ ((nI 1 <<< ((x2 &&& nI 7) &&& 31)) - nI 1).toInt64.toInt) ∧ okS x4 (nI 1)) ∧ r = nI 1 ∧ LG g s0 H' b pn tn wn mr mq)) ∧ ∀ q, kM b q → H'[q]? = H[q]?)) := by
  refine ctrH_mk l (lv0 := [(0, .ref b), (1, .int x1), (2, .int x2), (3, .int x3), (4, .int x4)]) (by decide) (Nat.le_of_ble_eq_true rfl) rfl ?_
  intro p e s m below meth c ls E hw0 hr hlk hex hl hP
  have hx := E.1
  have hb := E.2.1
  have hK := E.2.2.2.2.2
  have hF : ∀ q ∈ ([] : List Loc), HXA s0 q.base := fun q hq => absurd hq List.not_mem_nil
  have hold := hP.1
  have hd := hP.d
  have hbd := hd.2.2.2.2
  obtain ⟨f0, hA⟩ := hP.2.2.2
  by_cases hok : okS x1 (nI 1) ∧ okC x2 (nI 0) (nI 4) ∧ ((0 : Int64).toInt ≤ x3.toInt64.toInt ∧ x3.toInt64.toInt ≤ ((nI 1 <<< ((x2 &&& nI 7) &&& 31)) - nI 1).toInt64.toInt) ∧ okS x4 (nI 1)
  · skip
    obtain ⟨k1, rfl, q1⟩ := okS_nat (by decide) (by decide) hok.1
    obtain ⟨k2, rfl, l2, q2⟩ := okC_nat (by decide) (by decide) hok.2.1
    obtain ⟨k3, rfl, l3, q3⟩ := okC_nat (by decide) (Nat.lt_of_le_of_lt (Nat.sub_le _ _) (Nat.lt_of_le_of_lt (pw16 (show k2 < 5 by omega)).2 (by decide))) ((lag_C (show k2 < 5 by omega)).mp hok.2.2.1)
    obtain ⟨k4, rfl, q4⟩ := okS_nat (by decide) (by decide) hok.2.2.2
    refine lv_aload_n hx hb d_Law_lagrange_0 rfl (lv_at hl 0 rfl) ?_
    refine lv_iload_n hx hb d_Law_lagrange_1 rfl (lv_at hl 1 rfl) ?_
    refine lv_iload_n hx hb d_Law_lagrange_2 rfl (lv_at hl 2 rfl) ?_
    refine lv_iload_n hx hb d_Law_lagrange_3 rfl (lv_at hl 3 rfl) ?_
    refine lv_iload hx hb d_Law_lagrange_4 (lv_at hl 4 rfl) ?_
    refine q_cV (rest := []) E ((G_Desk_lagrange l g b pn tn wn mr mq k1 k2 k3 k4 (by omega) (lag_i (by omega) q3) q1 q4).up (nD_up hb0)) w_894 w_1 w_891 w_892 w_893 hd_Desk_lagrange rfl ⟨by decide, by decide⟩ (OB.recv E.2.2.2.2.2 (by rfl) hd.x.ob) hd hF hl.1 rfl (Nat.le_of_ble_eq_true rfl) d_Law_lagrange_6 ⟨by decide, by decide⟩ (qv (fun H1 locs hq hF => ?_))
    have hg := hP.call hb0 hq
    refine lv_goto (tgt := 16) hx hb d_Law_lagrange_9 (by decide) ?_
    refine lv_iconst (v := nI 0) hx hb d_Law_lagrange_16 (by decide) ?_
    refine W.widen (k := 1) (n := 6) (by decide) (by decide) ?_
    exact q_iret E hr hlk (⟨_, rfl, Or.inl ⟨hok, rfl, hg.1⟩, hg.2⟩) hF d_Law_lagrange_17
  · skip
    refine lv_aload_n hx hb d_Law_lagrange_0 rfl (lv_at hl 0 rfl) ?_
    refine lv_iload_n hx hb d_Law_lagrange_1 rfl (lv_at hl 1 rfl) ?_
    refine lv_iload_n hx hb d_Law_lagrange_2 rfl (lv_at hl 2 rfl) ?_
    refine lv_iload_n hx hb d_Law_lagrange_3 rfl (lv_at hl 3 rfl) ?_
    refine lv_iload hx hb d_Law_lagrange_4 (lv_at hl 4 rfl) ?_
    refine q_catch E hw0 (q_runVT (rest := []) E hw0 (t_Desk_lagrange l g (HXA s0) s0 hxs b x1 x2 x3 x4 (bad_l hok)) w_894 w_1 w_891 w_892 w_893 hd_Desk_lagrange rfl ⟨by decide, by decide⟩ (OB.recv E.2.2.2.2.2 (by rfl) hd.x.ob) (⟨hold, hP.hx hb0⟩) hl.1 rfl (Nat.le_of_ble_eq_true rfl) d_Law_lagrange_6 ⟨by decide, by decide⟩) hF hex ⟨by decide, by decide⟩ (by decide) w_391 (fun xx H1 locs htq hF => ?_)
    have hg := hP.grow hb0 htq.1 htq.2.1
    refine lv_astore (lv' := [(5, .ref xx), (0, .ref b), (1, .int x1), (2, .int x2), (3, .int x3), (4, .int x4)]) hx hb d_Law_lagrange_12 hl (by decide) rfl (fun ls hl => ?_)
    refine lv_iconst (v := nI 1) hx hb d_Law_lagrange_14 (by decide) ?_
    exact q_iret E hr hlk (⟨_, rfl, Or.inr ⟨hok, rfl, hg.1⟩, hg.2⟩) hF d_Law_lagrange_15
set_option maxHeartbeats 4000000 in
set_option maxRecDepth 100000 in
theorem H_look (l : Launch) (g : WG) (s0 : State) (hxs : XS l s0) (b pn tn wn : Nat) (mr mq : Int64) (hb0 : s0.heap.size ≤ b) (x1 : Int32) : CtrH l y_Law_look (.codeWith y_Law_look method_23_code 4 (some FieldType.int) [(0, 9, 12, 13)]) 8 125 1 6 (HXA s0) g s0 [.ref b, .int x1, .ref (b + 510)] (fun H => LG g s0 H b pn tn wn mr mq) (QI (fun r H H' => (((okC x1 (nI 0) (nI 2)) ∧ r = nI 0 ∧ LG g s0 H' b pn tn wn mr mq) ∨ (¬ (okC x1 (nI 0) (nI 2)) ∧ r = nI 1 ∧ LG g s0 H' b pn tn wn mr mq)) ∧ ∀ q, kM b q → H'[q]? = H[q]?)) := by
  refine ctrH_mk l (lv0 := [(0, .ref b), (1, .int x1), (2, .ref (b + 510))]) (by decide) (Nat.le_of_ble_eq_true rfl) rfl ?_
  intro p e s m below meth c ls E hw0 hr hlk hex hl hP
  have hx := E.1
  have hb := E.2.1
  have hK := E.2.2.2.2.2
  have hF : ∀ q ∈ ([] : List Loc), HXA s0 q.base := fun q hq => absurd hq List.not_mem_nil
  have hold := hP.1
  have hd := hP.d
  have hbd := hd.2.2.2.2
  obtain ⟨f0, hA⟩ := hP.2.2.2
  by_cases hok : okC x1 (nI 0) (nI 2)
  · skip
    obtain ⟨k1, rfl, l1, q1⟩ := okC_nat (by decide) (by decide) hok
    refine lv_aload_n hx hb d_Law_look_0 rfl (lv_at hl 2 rfl) ?_
    refine lv_iconst (v := nI 0) hx hb d_Law_look_1 (by decide) ?_
    refine lv_aload_n hx hb d_Law_look_2 rfl (lv_at hl 0 rfl) ?_
    refine lv_iload_n hx hb d_Law_look_3 rfl (lv_at hl 1 rfl) ?_
    refine q_cV (rest := [.int (nI 0), .ref (b + 510)]) E ((G_Desk_look l g b pn tn wn mr mq k1 (by omega)).up (nD_up hb0)) w_905 w_1 w_902 w_903 w_904 hd_Desk_look rfl ⟨by decide, by decide⟩ (OB.recv E.2.2.2.2.2 (by rfl) hd.x.ob) hd hF hl.1 rfl (Nat.le_of_ble_eq_true rfl) d_Law_look_4 ⟨by decide, by decide⟩ (qi (fun r0 H1 locs hq hF => ?_))
    obtain ⟨-, -, -, hq⟩ := hq
    have hg := hP.call hb0 hq
    refine lv_i2l (v := r0.toInt64) hx hb d_Law_look_7 rfl ?_
    refine q_last (N := 1) E (AJ.off hq.1 nD_510 hA) (Nat.le_trans hb0 (Nat.le_add_right _ _)) hF 0 rfl (by decide) (by decide) d_Law_look_8 (fun H2 locs hq2 hA2 hF => ?_)
    have hg2 := hg.1.store hb0 hq2 hA2
    refine lv_goto (tgt := 15) hx hb d_Law_look_9 (by decide) ?_
    refine lv_iconst (v := nI 0) hx hb d_Law_look_15 (by decide) ?_
    refine W.widen (k := 1) (n := 6) (by decide) (by decide) ?_
    exact q_iret E hr hlk (⟨_, rfl, Or.inl ⟨hok, rfl, hg2.1⟩, fun q h9 => (hg2.2 q h9).trans (hg.2 q h9)⟩) hF d_Law_look_16
  · skip
    refine lv_aload_n hx hb d_Law_look_0 rfl (lv_at hl 2 rfl) ?_
    refine lv_iconst (v := nI 0) hx hb d_Law_look_1 (by decide) ?_
    refine lv_aload_n hx hb d_Law_look_2 rfl (lv_at hl 0 rfl) ?_
    refine lv_iload_n hx hb d_Law_look_3 rfl (lv_at hl 1 rfl) ?_
    refine q_catch E hw0 (q_runVT (rest := [.int (nI 0), .ref (b + 510)]) E hw0 (t_Desk_look l g (HXA s0) s0 hxs b x1 (⟨fun e9 => hok (by rw [e9]; exact okC_of (k := 0) (by decide) (by decide) (by decide)), fun e9 => hok (by rw [e9]; exact okC_of (k := 1) (by decide) (by decide) (by decide)), fun e9 => hok (by rw [e9]; exact okC_of (k := 2) (by decide) (by decide) (by decide))⟩)) w_905 w_1 w_902 w_903 w_904 hd_Desk_look rfl ⟨by decide, by decide⟩ (OB.recv E.2.2.2.2.2 (by rfl) hd.x.ob) (⟨hold, hP.hx hb0⟩) hl.1 rfl (Nat.le_of_ble_eq_true rfl) d_Law_look_4 ⟨by decide, by decide⟩) hF hex ⟨by decide, by decide⟩ (by decide) w_391 (fun xx H1 locs htq hF => ?_)
    have hg := hP.grow hb0 htq.1 htq.2.1
    refine lv_astore_n (lv' := [(3, .ref xx), (0, .ref b), (1, .int x1), (2, .ref (b + 510))]) hx hb d_Law_look_12 rfl hl (by decide) rfl (fun ls hl => ?_)
    refine lv_iconst (v := nI 1) hx hb d_Law_look_13 (by decide) ?_
    exact q_iret E hr hlk (⟨_, rfl, Or.inr ⟨hok, rfl, hg.1⟩, hg.2⟩) hF d_Law_look_14
