def kU (b q : Nat) : Prop := q < b ∨ ((b + 501 ≤ q ∧ q ≤ b + 509) ∨ kE b q)
theorem kU_T {b q : Nat} (h : kU b q) : kT b q := by unfold kU kE at h; unfold kT kE; omega
theorem kT_149 {b : Nat} : kT b (b + 149) := Or.inr (Or.inr (Or.inl rfl))
theorem kT_E {b q : Nat} (h : kE b q) : kT b q := Or.inr (Or.inr (Or.inr h))
theorem kU_E {b q : Nat} (h : kE b q) : kU b q := Or.inr (Or.inr h)
theorem kT_168 {b : Nat} : kT b (b + 168) := kT_E (Or.inl rfl)
theorem LG.callF {g : WG} {s0 : State} {H H' : Heap} {b pn tn wn pn2 tn2 wn2 : Nat} {mr mq : Int64} (h : LG g s0 H b pn tn wn mr mq) (hb0 : s0.heap.size ≤ b) (d : DSF g H H' b pn2 tn2 wn2 mr mq) : LG g s0 H' b pn2 tn2 wn2 mr mq ∧ ∀ q, kU b q → H'[q]? = H[q]? :=
  ⟨⟨fun q hq => (d.1.2 q (by omega)).trans (h.1 q hq), by rw [d.1.1]; exact h.2.1, ⟨FRM.rf, d.2⟩, h.2.2.2.imp (fun f hf => AJ.off d.1 (by omega) hf)⟩, fun q hq => d.1.2 q (by unfold kU kE at hq; omega)⟩
/-- an answer of number, as the law keeps it -/
def bL (r : Int32) : Int64 := if r = 0 then 0 else 1
/-- a byte of a long, as the two tapes hold it -/
def byN (v : Int64) (i : Nat) : Nat := (v >>> (((nI 8) * (nI i)).toInt64 &&& 63)).toBitVec.toNat % 256
theorem and255 (x : BitVec 32) : (x &&& 255#32).toNat = x.toNat % 256 := by
  rw [BitVec.toNat_and]
  exact Nat.and_two_pow_sub_one_eq_mod x.toNat 8
theorem nI_bv (k : Nat) : (nI k).toBitVec = BitVec.ofNat 32 k := rfl
theorem by_M (x : Int64) : (x &&& 255).toInt32 = nI (x.toBitVec.toNat % 256) := by
  apply Int32.toBitVec_inj.mp
  rw [nI_bv]
  show ((x &&& 255).toBitVec).signExtend 32 = _
  rw [BitVec.signExtend_eq_setWidth_of_le _ (by decide)]
  apply BitVec.eq_of_toNat_eq
  rw [BitVec.toNat_setWidth, BitVec.toNat_ofNat]
  congr 1
  show (x.toBitVec &&& 255#64).toNat = _
  rw [BitVec.toNat_and]
  exact Nat.and_two_pow_sub_one_eq_mod x.toBitVec.toNat 8
theorem s8a : ∀ b : BitVec 8, (b.signExtend 32).signExtend 8 = b := by decide +kernel
theorem s8b : ∀ b : BitVec 8, (b.signExtend 32).toNat % 256 = b.toNat := by decide +kernel
theorem by_C (x : Int64) : (vp_nar .byte x.toInt32.toInt8.toInt32) &&& 255 = nI (x.toBitVec.toNat % 256) := by
  apply Int32.toBitVec_inj.mp
  rw [nI_bv]
  apply BitVec.eq_of_toNat_eq
  show ((((((x.toBitVec.signExtend 32).signExtend 8).signExtend 32).signExtend 8).signExtend 32) &&& 255#32).toNat = _
  rw [and255, s8a, s8b, BitVec.toNat_ofNat, BitVec.signExtend_eq_setWidth_of_le _ (by decide), BitVec.signExtend_eq_setWidth_of_le _ (by decide), BitVec.toNat_setWidth, BitVec.toNat_setWidth]
  omega
/-- the row of R, and the two tapes, which hold the same bytes -/
def TR (g : WG) (H : Heap) (b tn : Nat) : Prop := AJ g H (b + 168) 14 kR ∧ ∃ (c m : Nat → Int32) (t : Nat → Nat), AB g H (b + 149) 96 c ∧ AI g H (b + 501 + 6) 96 m ∧ (∀ j, t j < 256) ∧ ∀ j, j < tn → c j &&& 255 = nI (t j) ∧ m j = nI (t j)
theorem TR.keep {g : WG} {H H' : Heap} {b tn : Nat} (h : TR g H b tn) (h1 : H'[b + 149]? = H[b + 149]?) (h2 : H'[b + 168]? = H[b + 168]?) (h3 : H'[b + 501 + 6]? = H[b + 501 + 6]?) : TR g H' b tn := by
  obtain ⟨hR, c, m, t, hc, hm, ht⟩ := h
  exact ⟨hR.eq h2, c, m, t, hc.eq h1, AI.eq hm h3, ht⟩
theorem TR.less {g : WG} {H : Heap} {b tn k : Nat} (h : TR g H b tn) (hk : k ≤ tn) : TR g H b k := by
  obtain ⟨hR, c, m, t, hc, hm, ht, hj⟩ := h
  exact ⟨hR, c, m, t, hc, hm, ht, fun j h => hj j (Nat.lt_of_lt_of_le h hk)⟩
theorem tr_feed {g : WG} {H : Heap} {b tn k : Nat} {c c' m m' : Nat → Int32} {t : Nat → Nat} {v : Int64} (hR : AJ g H (b + 168) 14 kR) (hc : AB g H (b + 149) 96 c') (hm : AI g H (b + 501 + 6) 96 m') (ht : ∀ j, t j < 256) (h : ∀ j, j < tn → c j &&& 255 = nI (t j) ∧ m j = nI (t j)) (hfc : fdC c v tn k c') (hfm : fdM m v tn k m') : TR g H b (tn + k) := by
  refine ⟨hR, c', m', fun j => if j < tn then t j else byN v (j - tn), hc, hm, fun j => ?_, fun j hj => ?_⟩
  · show (if j < tn then t j else byN v (j - tn)) < 256
    split
    · exact ht j
    · exact Nat.mod_lt _ (by decide)
  · show c' j &&& 255 = nI (if j < tn then t j else byN v (j - tn)) ∧ m' j = nI (if j < tn then t j else byN v (j - tn))
    by_cases e : j < tn
    · rw [if_pos e, hfc.1 j e, hfm.1 j e]
      exact h j e
    · obtain ⟨i, rfl⟩ : ∃ i, j = tn + i := ⟨j - tn, by omega⟩
      rw [if_neg e, hfc.2 i (by omega), hfm.2 i (by omega), show tn + i - tn = i by omega]
      exact ⟨by_C _, by_M _⟩
/-- what a call that sets scalars leaves, beside CR and SCA -/
def kS (b q : Nat) : Prop := q < b ∨ (b + 501 ≤ q ∧ q ≤ b + 509) ∨ q = b + 149
theorem kS_T {b q : Nat} (h : kS b q) : kT b q := by unfold kS at h; unfold kT; omega
theorem nfs_510 {b : Nat} : ¬ nFS b (b + 510) := fun h => by have := h.1; unfold nD at this; omega
theorem nfs_kS {b q : Nat} (h : kS b q) : ¬ nFS b q := fun k => by have h1 := k.1; have h2 := k.2.1; unfold nD at h1; unfold kS at h; omega
theorem LG.callS {g : WG} {s0 : State} {H H' : Heap} {b pn tn wn pn2 tn2 wn2 : Nat} {mr mq : Int64} (h : LG g s0 H b pn tn wn mr mq) (hb0 : s0.heap.size ≤ b) (d : DSS g H H' b pn2 tn2 wn2 mr mq) : LG g s0 H' b pn2 tn2 wn2 mr mq ∧ ∀ q, kS b q → H'[q]? = H[q]? :=
  ⟨⟨fun q hq => (d.1.2 q (nfs_kS (Or.inl (Nat.lt_of_lt_of_le hq hb0)))).trans (h.1 q hq), by rw [d.1.1]; exact h.2.1, ⟨FRM.rf, d.2⟩, h.2.2.2.imp (fun f hf => AJ.off d.1 nfs_510 hf)⟩, fun q hq => d.1.2 q (nfs_kS hq)⟩
set_option maxHeartbeats 4000000 in
set_option maxRecDepth 100000 in
theorem XH_feed (l : Launch) (g : WG) (s0 : State) (hxs : XS l s0) (b pn tn wn : Nat) (mr mq : Int64) (hb0 : s0.heap.size ≤ b) (x1 : Int32) (v : Int64) (c9 : Nat → Int32) (hno : va_Nc "java/lang/IllegalStateException" "java/lang/IllegalArgumentException" s0) : CtrH l y_Law_feed (.codeWith y_Law_feed method_3_code 6 (some FieldType.int) [(0, 11, 14, 13), (0, 11, 18, 15)]) 8 128 1 6 (HXA s0) g s0 [.ref b, .int x1, .long v, .ref (b + 510)] (fun H => LG g s0 H b pn tn wn mr mq ∧ AB g H (b + 149) 96 c9) (QI (fun r H H' => ((((okC x1 (nI 1) (nI 8)) ∧ ((∃ k9, x1 = nI k9 ∧ tn + k9 ≤ 96 ∧ r = nI 0 ∧ LG g s0 H' b pn (tn + k9) wn mr mq ∧ ∃ c', AB g H' (b + 149) 96 c' ∧ fdC c9 v tn k9 c') ∨ (¬ nI tn + x1 ≤ nI 96 ∧ r = nI 2 ∧ LG g s0 H' b pn tn wn mr mq ∧ AB g H' (b + 149) 96 c9)))) ∨ (¬ (okC x1 (nI 1) (nI 8)) ∧ r = nI 1 ∧ LG g s0 H' b pn tn wn mr mq ∧ AB g H' (b + 149) 96 c9)) ∧ ∀ q, kU b q → H'[q]? = H[q]?)) := by
  refine ctrH_mk l (lv0 := [(0, .ref b), (1, .int x1), (2, .long v), (4, .ref (b + 510))]) (by decide) (Nat.le_of_ble_eq_true rfl) rfl ?_
  intro p e s m below meth c ls E hw0 hr hlk hex hl hP
  obtain ⟨hP, hT⟩ := hP
  have hx := E.1
  have hb := E.2.1
  have hK := E.2.2.2.2.2
  have hF : ∀ q ∈ ([] : List Loc), HXA s0 q.base := fun q hq => absurd hq List.not_mem_nil
  have hold := hP.1
  have hd := hP.d
  have hbd := hd.2.2.2.2
  obtain ⟨f0, hA⟩ := hP.2.2.2
  by_cases hok : okC x1 (nI 1) (nI 8)
  · skip
    obtain ⟨k1, rfl, l1, q1⟩ := okC_nat (by decide) (by decide) hok
    by_cases hfit : nI tn + nI k1 ≤ nI 96
    · skip
      have hfit := feed_k hbd.2.1 q1 hfit
      refine lv_aload hx hb d_Law_feed_0 (lv_at hl 3 rfl) ?_
      refine lv_iconst (v := nI 0) hx hb d_Law_feed_2 (by decide) ?_
      refine lv_aload_n hx hb d_Law_feed_3 rfl (lv_at hl 0 rfl) ?_
      refine lv_iload_n hx hb d_Law_feed_4 rfl (lv_at hl 1 rfl) ?_
      refine lv_lload_n hx hb d_Law_feed_5 rfl (lv_at hl 2 rfl) ?_
      refine q_cV (rest := [.int (nI 0), .ref (b + 510)]) E ((X_Desk_feed l g b pn tn wn mr mq k1 v c9 l1 q1 hfit).up (nD_up hb0)) w_396 w_1 w_393 w_394 w_395 hd_Desk_feed rfl ⟨by decide, by decide⟩ (OB.recv E.2.2.2.2.2 (by rfl) hd.x.ob) (⟨⟨FRM.rf, hd.2⟩, hT⟩) hF hl.1 rfl (Nat.le_of_ble_eq_true rfl) d_Law_feed_6 ⟨by decide, by decide⟩ (qi (fun r0 H1 locs hq hF => ?_))
      obtain ⟨hr0, hq, c1, hc1, hcv⟩ := hq
      subst hr0
      have hg := hP.callF hb0 hq
      refine lv_i2l (v := (nI (tn + k1)).toInt64) hx hb d_Law_feed_9 rfl ?_
      refine q_last (N := 1) E (AJ.off hq.1 (by omega) hA) (Nat.le_trans hb0 (Nat.le_add_right _ _)) hF 0 rfl (by decide) (by decide) d_Law_feed_10 (fun H2 locs hq2 hA2 hF => ?_)
      have hg2 := hg.1.store hb0 hq2 hA2
      refine lv_goto (tgt := 22) hx hb d_Law_feed_11 (by decide) ?_
      refine lv_iconst (v := nI 0) hx hb d_Law_feed_22 (by decide) ?_
      refine W.widen (k := 1) (n := 6) (by decide) (by decide) ?_
      exact q_iret E hr hlk (⟨_, rfl, Or.inl ⟨hok, Or.inl ⟨_, rfl, hfit, rfl, hg2.1, _, hc1.eq (hg2.2 _ kT_149), hcv⟩⟩, fun q h9 => (hg2.2 q (kU_T h9)).trans (hg.2 q h9)⟩) hF d_Law_feed_23
    · skip
      refine lv_aload hx hb d_Law_feed_0 (lv_at hl 3 rfl) ?_
      refine lv_iconst (v := nI 0) hx hb d_Law_feed_2 (by decide) ?_
      refine lv_aload_n hx hb d_Law_feed_3 rfl (lv_at hl 0 rfl) ?_
      refine lv_iload_n hx hb d_Law_feed_4 rfl (lv_at hl 1 rfl) ?_
      refine lv_lload_n hx hb d_Law_feed_5 rfl (lv_at hl 2 rfl) ?_
      refine q_catch2 E hw0 (q_runVT (rest := [.int (nI 0), .ref (b + 510)]) E hw0 (t_Desk_feedG l g (HXA s0) s0 hxs b pn tn wn mr mq (nI k1) v hok.1 hok.2 hfit) w_396 w_1 w_393 w_394 w_395 hd_Desk_feed rfl ⟨by decide, by decide⟩ (OB.recv E.2.2.2.2.2 (by rfl) hd.x.ob) (⟨hold, hP.hx hb0, hd⟩) hl.1 rfl (Nat.le_of_ble_eq_true rfl) d_Law_feed_6 ⟨by decide, by decide⟩) hF hex (by decide) w_391 hno ⟨by decide, by decide⟩ (by decide) w_392 (fun xx H1 locs htq hF => ?_)
      have hg := hP.grow hb0 htq.1 htq.2.1
      refine lv_astore (lv' := [(5, .ref xx), (0, .ref b), (1, .int (nI k1)), (2, .long v), (4, .ref (b + 510))]) hx hb d_Law_feed_18 hl (by decide) rfl (fun ls hl => ?_)
      refine lv_iconst (v := nI 2) hx hb d_Law_feed_20 (by decide) ?_
      exact q_iret E hr hlk (⟨_, rfl, Or.inl ⟨hok, Or.inr ⟨hfit, rfl, hg.1, hT.eq (hg.2 _ kT_149)⟩⟩, fun q h9 => hg.2 q (kU_T h9)⟩) hF d_Law_feed_21
  · skip
    refine lv_aload hx hb d_Law_feed_0 (lv_at hl 3 rfl) ?_
    refine lv_iconst (v := nI 0) hx hb d_Law_feed_2 (by decide) ?_
    refine lv_aload_n hx hb d_Law_feed_3 rfl (lv_at hl 0 rfl) ?_
    refine lv_iload_n hx hb d_Law_feed_4 rfl (lv_at hl 1 rfl) ?_
    refine lv_lload_n hx hb d_Law_feed_5 rfl (lv_at hl 2 rfl) ?_
    refine q_catch E hw0 (q_runVT (rest := [.int (nI 0), .ref (b + 510)]) E hw0 (t_Desk_feed l g (HXA s0) s0 hxs b x1 v (okC_bad hok)) w_396 w_1 w_393 w_394 w_395 hd_Desk_feed rfl ⟨by decide, by decide⟩ (OB.recv E.2.2.2.2.2 (by rfl) hd.x.ob) (⟨hold, hP.hx hb0⟩) hl.1 rfl (Nat.le_of_ble_eq_true rfl) d_Law_feed_6 ⟨by decide, by decide⟩) hF hex ⟨by decide, by decide⟩ (by decide) w_391 (fun xx H1 locs htq hF => ?_)
    have hg := hP.grow hb0 htq.1 htq.2.1
    refine lv_astore (lv' := [(5, .ref xx), (0, .ref b), (1, .int x1), (2, .long v), (4, .ref (b + 510))]) hx hb d_Law_feed_14 hl (by decide) rfl (fun ls hl => ?_)
    refine lv_iconst (v := nI 1) hx hb d_Law_feed_16 (by decide) ?_
    exact q_iret E hr hlk (⟨_, rfl, Or.inr ⟨hok, rfl, hg.1, hT.eq (hg.2 _ kT_149)⟩, fun q h9 => hg.2 q (kU_T h9)⟩) hF d_Law_feed_17
set_option maxHeartbeats 4000000 in
set_option maxRecDepth 100000 in
theorem XH_number (l : Launch) (g : WG) (s0 : State) (hxs : XS l s0) (b pn tn wn : Nat) (mr mq : Int64) (hb0 : s0.heap.size ≤ b) (x1 : Int32) (A : Nat → Int) (c9 : Nat → Int32) (t : Nat → Nat) (ht : ∀ j, t j < 256) (hct : ∀ j, j < tn → c9 j &&& 255 = nI (t j)) : CtrH l y_Law_number (.codeWith y_Law_number method_4_code 4 (some FieldType.int) [(0, 16, 19, 13)]) 8 126 1 6 (HXA s0) g s0 [.ref b, .int x1, .ref (b + 510)] (fun H => LG g s0 H b pn tn wn mr mq ∧ (CR g H b ∧ SCA g H b A) ∧ AB g H (b + 149) 96 c9) (QI (fun r H H' => (((okS x1 (nI 1)) ∧ r = nI 0 ∧ LG g s0 H' b pn 0 wn mr mq ∧ CR g H' b ∧ ∃ rb A', SCA g H' b A' ∧ NC rb t tn (nt x1) A A' ∧ AJ g H' (b + 510) 1 (fun _ => bL rb)) ∨ (¬ (okS x1 (nI 1)) ∧ r = nI 1 ∧ LG g s0 H' b pn tn wn mr mq ∧ CR g H' b ∧ SCA g H' b A)) ∧ ∀ q, kS b q → H'[q]? = H[q]?)) := by
  refine ctrH_mk l (lv0 := [(0, .ref b), (1, .int x1), (2, .ref (b + 510))]) (by decide) (Nat.le_of_ble_eq_true rfl) rfl ?_
  intro p e s m below meth c ls E hw0 hr hlk hex hl hP
  obtain ⟨hP, hT0⟩ := hP
  obtain ⟨hT, hc9⟩ := hT0
  have hx := E.1
  have hb := E.2.1
  have hK := E.2.2.2.2.2
  have hF : ∀ q ∈ ([] : List Loc), HXA s0 q.base := fun q hq => absurd hq List.not_mem_nil
  have hold := hP.1
  have hd := hP.d
  have hbd := hd.2.2.2.2
  obtain ⟨f0, hA⟩ := hP.2.2.2
  by_cases hok : okS x1 (nI 1)
  · skip
    obtain ⟨k1, rfl, q1⟩ := okS_nat (by decide) (by decide) hok
    rcases Nat.lt_or_ge 32 tn with h32 | h32
    · skip
      refine lv_aload_n hx hb d_Law_number_0 rfl (lv_at hl 2 rfl) ?_
      refine lv_iconst (v := nI 0) hx hb d_Law_number_1 (by decide) ?_
      refine lv_aload_n hx hb d_Law_number_2 rfl (lv_at hl 0 rfl) ?_
      refine lv_iload_n hx hb d_Law_number_3 rfl (lv_at hl 1 rfl) ?_
      refine q_cV (rest := [.int (nI 0), .ref (b + 510)]) E ((Y_Desk_number l g b pn tn wn mr mq k1 q1 hbd.2.1 h32).up (nD_up hb0)) w_491 w_1 w_488 w_489 w_490 hd_Desk_number rfl ⟨by decide, by decide⟩ (OB.recv E.2.2.2.2.2 (by rfl) hd.x.ob) hd hF hl.1 rfl (Nat.le_of_ble_eq_true rfl) d_Law_number_4 ⟨by decide, by decide⟩ (qi (fun r0 H1 locs hq hF => ?_))
      obtain ⟨hr0, hq⟩ := hq
      have hcr := hT.1.eqE hq.kE
      obtain ⟨A1, hsa, hnb⟩ : ∃ A1, SCA g H1 b A1 ∧ NC r0 t tn (nt (nI k1)) A A1 := ⟨A, hT.2.eqE hq.kE, Or.inr ⟨h32, hr0, rfl⟩⟩
      have hq := DSS.dn hq
      have hg := hP.callS hb0 hq
      refine lv_if_eq (tgt := 14) hx hb d_Law_number_7 (by decide) (fun hz => ?_) (fun hz => ?_)
      · skip
        refine lv_lconst (v := 0) hx hb d_Law_number_14 (by decide) ?_
        refine q_last (N := 1) E (AJ.off hq.1 nfs_510 hA) (Nat.le_trans hb0 (Nat.le_add_right _ _)) hF 0 rfl (by decide) (by decide) d_Law_number_15 (fun H2 locs hq2 hA2 hF => ?_)
        have hg2 := hg.1.store hb0 hq2 hA2
        have hA3 : AJ g H2 (b + 510) 1 (fun _ => bL r0) := by
          rw [show bL r0 = 0 from if_pos hz]
          exact hA2.one
        refine lv_goto (tgt := 22) hx hb d_Law_number_16 (by decide) ?_
        refine lv_iconst (v := nI 0) hx hb d_Law_number_22 (by decide) ?_
        refine W.widen (k := 1) (n := 6) (by decide) (by decide) ?_
        exact q_iret E hr hlk (⟨_, rfl, Or.inl ⟨hok, rfl, hg2.1, hcr.eqE (fun q h => hg2.2 q (kT_E h)), r0, A1, hsa.eqE (fun q h => hg2.2 q (kT_E h)), hnb, hA3⟩, fun q h9 => (hg2.2 q (kS_T h9)).trans (hg.2 q h9)⟩) hF d_Law_number_23
      · skip
        refine lv_lconst (v := 1) hx hb d_Law_number_10 (by decide) ?_
        refine lv_goto (tgt := 15) hx hb d_Law_number_11 (by decide) ?_
        refine q_last (N := 1) E (AJ.off hq.1 nfs_510 hA) (Nat.le_trans hb0 (Nat.le_add_right _ _)) hF 0 rfl (by decide) (by decide) d_Law_number_15 (fun H2 locs hq2 hA2 hF => ?_)
        have hg2 := hg.1.store hb0 hq2 hA2
        have hA3 : AJ g H2 (b + 510) 1 (fun _ => bL r0) := by
          rw [show bL r0 = 1 from if_neg hz]
          exact hA2.one
        refine lv_goto (tgt := 22) hx hb d_Law_number_16 (by decide) ?_
        refine lv_iconst (v := nI 0) hx hb d_Law_number_22 (by decide) ?_
        refine W.widen (k := 1) (n := 6) (by decide) (by decide) ?_
        exact q_iret E hr hlk (⟨_, rfl, Or.inl ⟨hok, rfl, hg2.1, hcr.eqE (fun q h => hg2.2 q (kT_E h)), r0, A1, hsa.eqE (fun q h => hg2.2 q (kT_E h)), hnb, hA3⟩, fun q h9 => (hg2.2 q (kS_T h9)).trans (hg.2 q h9)⟩) hF d_Law_number_23
    · skip
      refine lv_aload_n hx hb d_Law_number_0 rfl (lv_at hl 2 rfl) ?_
      refine lv_iconst (v := nI 0) hx hb d_Law_number_1 (by decide) ?_
      refine lv_aload_n hx hb d_Law_number_2 rfl (lv_at hl 0 rfl) ?_
      refine lv_iload_n hx hb d_Law_number_3 rfl (lv_at hl 1 rfl) ?_
      refine q_cV (rest := [.int (nI 0), .ref (b + 510)]) E ((R_Desk_number l g b pn tn wn mr mq A k1 c9 t ht hct q1 h32).up (nD_up hb0)) w_491 w_1 w_488 w_489 w_490 hd_Desk_number rfl ⟨by decide, by decide⟩ (OB.recv E.2.2.2.2.2 (by rfl) hd.x.ob) (⟨hd, hc9, hT⟩) hF hl.1 rfl (Nat.le_of_ble_eq_true rfl) d_Law_number_4 ⟨by decide, by decide⟩ (qi (fun r0 H1 locs hq hF => ?_))
      obtain ⟨hr0, hq, hcr⟩ := hq
      obtain ⟨A1, hsa, hnb⟩ : ∃ A1, SCA g H1 b A1 ∧ NC r0 t tn (nt (nI k1)) A A1 := by
        rw [nt_nI (by omega)]
        rcases hr0 with ⟨e, h1, h2⟩ | ⟨e, h1, h2⟩
        · exact ⟨_, h2, Or.inl ⟨h32, Or.inl ⟨e, h1, rfl⟩⟩⟩
        · exact ⟨_, h2, Or.inl ⟨h32, Or.inr ⟨e, h1, rfl⟩⟩⟩
      have hg := hP.callS hb0 hq
      refine lv_if_eq (tgt := 14) hx hb d_Law_number_7 (by decide) (fun hz => ?_) (fun hz => ?_)
      · skip
        refine lv_lconst (v := 0) hx hb d_Law_number_14 (by decide) ?_
        refine q_last (N := 1) E (AJ.off hq.1 nfs_510 hA) (Nat.le_trans hb0 (Nat.le_add_right _ _)) hF 0 rfl (by decide) (by decide) d_Law_number_15 (fun H2 locs hq2 hA2 hF => ?_)
        have hg2 := hg.1.store hb0 hq2 hA2
        have hA3 : AJ g H2 (b + 510) 1 (fun _ => bL r0) := by
          rw [show bL r0 = 0 from if_pos hz]
          exact hA2.one
        refine lv_goto (tgt := 22) hx hb d_Law_number_16 (by decide) ?_
        refine lv_iconst (v := nI 0) hx hb d_Law_number_22 (by decide) ?_
        refine W.widen (k := 1) (n := 6) (by decide) (by decide) ?_
        exact q_iret E hr hlk (⟨_, rfl, Or.inl ⟨hok, rfl, hg2.1, hcr.eqE (fun q h => hg2.2 q (kT_E h)), r0, A1, hsa.eqE (fun q h => hg2.2 q (kT_E h)), hnb, hA3⟩, fun q h9 => (hg2.2 q (kS_T h9)).trans (hg.2 q h9)⟩) hF d_Law_number_23
      · skip
        refine lv_lconst (v := 1) hx hb d_Law_number_10 (by decide) ?_
        refine lv_goto (tgt := 15) hx hb d_Law_number_11 (by decide) ?_
        refine q_last (N := 1) E (AJ.off hq.1 nfs_510 hA) (Nat.le_trans hb0 (Nat.le_add_right _ _)) hF 0 rfl (by decide) (by decide) d_Law_number_15 (fun H2 locs hq2 hA2 hF => ?_)
        have hg2 := hg.1.store hb0 hq2 hA2
        have hA3 : AJ g H2 (b + 510) 1 (fun _ => bL r0) := by
          rw [show bL r0 = 1 from if_neg hz]
          exact hA2.one
        refine lv_goto (tgt := 22) hx hb d_Law_number_16 (by decide) ?_
        refine lv_iconst (v := nI 0) hx hb d_Law_number_22 (by decide) ?_
        refine W.widen (k := 1) (n := 6) (by decide) (by decide) ?_
        exact q_iret E hr hlk (⟨_, rfl, Or.inl ⟨hok, rfl, hg2.1, hcr.eqE (fun q h => hg2.2 q (kT_E h)), r0, A1, hsa.eqE (fun q h => hg2.2 q (kT_E h)), hnb, hA3⟩, fun q h9 => (hg2.2 q (kS_T h9)).trans (hg.2 q h9)⟩) hF d_Law_number_23
  · skip
    refine lv_aload_n hx hb d_Law_number_0 rfl (lv_at hl 2 rfl) ?_
    refine lv_iconst (v := nI 0) hx hb d_Law_number_1 (by decide) ?_
    refine lv_aload_n hx hb d_Law_number_2 rfl (lv_at hl 0 rfl) ?_
    refine lv_iload_n hx hb d_Law_number_3 rfl (lv_at hl 1 rfl) ?_
    refine q_catch E hw0 (q_runVT (rest := [.int (nI 0), .ref (b + 510)]) E hw0 (t_Desk_number l g (HXA s0) s0 hxs b x1 (hok)) w_491 w_1 w_488 w_489 w_490 hd_Desk_number rfl ⟨by decide, by decide⟩ (OB.recv E.2.2.2.2.2 (by rfl) hd.x.ob) (⟨hold, hP.hx hb0⟩) hl.1 rfl (Nat.le_of_ble_eq_true rfl) d_Law_number_4 ⟨by decide, by decide⟩) hF hex ⟨by decide, by decide⟩ (by decide) w_391 (fun xx H1 locs htq hF => ?_)
    have hg := hP.grow hb0 htq.1 htq.2.1
    refine lv_astore_n (lv' := [(3, .ref xx), (0, .ref b), (1, .int x1), (2, .ref (b + 510))]) hx hb d_Law_number_19 rfl hl (by decide) rfl (fun ls hl => ?_)
    refine lv_iconst (v := nI 1) hx hb d_Law_number_20 (by decide) ?_
    exact q_iret E hr hlk (⟨_, rfl, Or.inr ⟨hok, rfl, hg.1, hT.1.eqE (fun q h => hg.2 q (kT_E h)), hT.2.eqE (fun q h => hg.2 q (kT_E h))⟩, fun q h9 => hg.2 q (kS_T h9)⟩) hF d_Law_number_21
set_option maxHeartbeats 4000000 in
set_option maxRecDepth 100000 in
theorem XH_set (l : Launch) (g : WG) (s0 : State) (hxs : XS l s0) (b pn tn wn : Nat) (mr mq : Int64) (hb0 : s0.heap.size ≤ b) (x1 : Int32) (v : Int64) (hmr : mr = 268435455) (A : Nat → Int) : CtrH l y_Law_set (.codeWith y_Law_set method_5_code 5 (some FieldType.int) [(0, 6, 9, 13)]) 8 127 1 6 (HXA s0) g s0 [.ref b, .int x1, .long v] (fun H => LG g s0 H b pn tn wn mr mq ∧ CR g H b ∧ SCA g H b A) (QI (fun r H H' => (((okS x1 (nI 1) ∧ ¬ v < 0) ∧ r = nI 0 ∧ LG g s0 H' b pn tn wn mr mq ∧ CR g H' b ∧ SCA g H' b (fSet x1 v A)) ∨ (¬ (okS x1 (nI 1) ∧ ¬ v < 0) ∧ r = nI 1 ∧ LG g s0 H' b pn tn wn mr mq ∧ CR g H' b ∧ SCA g H' b A)) ∧ ∀ q, kS b q → H'[q]? = H[q]?)) := by
  refine ctrH_mk l (lv0 := [(0, .ref b), (1, .int x1), (2, .long v)]) (by decide) (Nat.le_of_ble_eq_true rfl) rfl ?_
  intro p e s m below meth c ls E hw0 hr hlk hex hl hP
  obtain ⟨hP, hT⟩ := hP
  have hx := E.1
  have hb := E.2.1
  have hK := E.2.2.2.2.2
  have hF : ∀ q ∈ ([] : List Loc), HXA s0 q.base := fun q hq => absurd hq List.not_mem_nil
  have hold := hP.1
  have hd := hP.d
  have hbd := hd.2.2.2.2
  obtain ⟨f0, hA⟩ := hP.2.2.2
  by_cases hok : okS x1 (nI 1) ∧ ¬ v < 0
  · skip
    obtain ⟨k1, rfl, q1⟩ := okS_nat (by decide) (by decide) hok.1
    refine lv_aload_n hx hb d_Law_set_0 rfl (lv_at hl 0 rfl) ?_
    refine lv_iload_n hx hb d_Law_set_1 rfl (lv_at hl 1 rfl) ?_
    refine lv_lload_n hx hb d_Law_set_2 rfl (lv_at hl 2 rfl) ?_
    refine q_cV (rest := []) E ((R_Desk_set l g b pn tn wn mr mq hmr A k1 v q1 hok.2).up (nD_up hb0)) w_519 w_1 w_516 w_517 w_518 hd_Desk_set rfl ⟨by decide, by decide⟩ (OB.recv E.2.2.2.2.2 (by rfl) hd.x.ob) (⟨hd, hT⟩) hF hl.1 rfl (Nat.le_of_ble_eq_true rfl) d_Law_set_3 ⟨by decide, by decide⟩ (qv (fun H1 locs hq hF => ?_))
    obtain ⟨hq, hcr, hsa⟩ := hq
    have hg := hP.callS hb0 hq
    refine lv_goto (tgt := 13) hx hb d_Law_set_6 (by decide) ?_
    refine lv_iconst (v := nI 0) hx hb d_Law_set_13 (by decide) ?_
    refine W.widen (k := 1) (n := 6) (by decide) (by decide) ?_
    exact q_iret E hr hlk (⟨_, rfl, Or.inl ⟨hok, rfl, hg.1, hcr, by unfold fSet; rw [nt_nI (by omega)]; exact hsa⟩, hg.2⟩) hF d_Law_set_14
  · skip
    refine lv_aload_n hx hb d_Law_set_0 rfl (lv_at hl 0 rfl) ?_
    refine lv_iload_n hx hb d_Law_set_1 rfl (lv_at hl 1 rfl) ?_
    refine lv_lload_n hx hb d_Law_set_2 rfl (lv_at hl 2 rfl) ?_
    refine q_catch E hw0 (q_runVT (rest := []) E hw0 (t_Desk_set l g (HXA s0) s0 hxs b x1 v (nbn hok)) w_519 w_1 w_516 w_517 w_518 hd_Desk_set rfl ⟨by decide, by decide⟩ (OB.recv E.2.2.2.2.2 (by rfl) hd.x.ob) (⟨hold, hP.hx hb0⟩) hl.1 rfl (Nat.le_of_ble_eq_true rfl) d_Law_set_3 ⟨by decide, by decide⟩) hF hex ⟨by decide, by decide⟩ (by decide) w_391 (fun xx H1 locs htq hF => ?_)
    have hg := hP.grow hb0 htq.1 htq.2.1
    refine lv_astore (lv' := [(4, .ref xx), (0, .ref b), (1, .int x1), (2, .long v)]) hx hb d_Law_set_9 hl (by decide) rfl (fun ls hl => ?_)
    refine lv_iconst (v := nI 1) hx hb d_Law_set_11 (by decide) ?_
    exact q_iret E hr hlk (⟨_, rfl, Or.inr ⟨hok, rfl, hg.1, hT.1.eqE (fun q h => hg.2 q (kT_E h)), hT.2.eqE (fun q h => hg.2 q (kT_E h))⟩, fun q h9 => hg.2 q (kS_T h9)⟩) hF d_Law_set_12
set_option maxHeartbeats 4000000 in
set_option maxRecDepth 100000 in
theorem XH_power (l : Launch) (g : WG) (s0 : State) (hxs : XS l s0) (b pn tn wn : Nat) (mr mq : Int64) (hb0 : s0.heap.size ≤ b) (x1 : Int32) (x2 : Int32) (v : Int64) (hmr : mr = 268435455) (A : Nat → Int) : CtrH l y_Law_power (.codeWith y_Law_power method_8_code 6 (some FieldType.int) [(0, 7, 10, 13)]) 8 184 1 6 (HXA s0) g s0 [.ref b, .int x1, .int x2, .long v] (fun H => LG g s0 H b pn tn wn mr mq ∧ CR g H b ∧ SCA g H b A) (QI (fun r H H' => (((okS x1 (nI 1) ∧ okS x2 (nI 1) ∧ ¬ v < 0) ∧ r = nI 0 ∧ LG g s0 H' b pn tn wn mr mq ∧ CR g H' b ∧ SCA g H' b (fPow x1 x2 v A)) ∨ (¬ (okS x1 (nI 1) ∧ okS x2 (nI 1) ∧ ¬ v < 0) ∧ r = nI 1 ∧ LG g s0 H' b pn tn wn mr mq ∧ CR g H' b ∧ SCA g H' b A)) ∧ ∀ q, kS b q → H'[q]? = H[q]?)) := by
  refine ctrH_mk l (lv0 := [(0, .ref b), (1, .int x1), (2, .int x2), (3, .long v)]) (by decide) (Nat.le_of_ble_eq_true rfl) rfl ?_
  intro p e s m below meth c ls E hw0 hr hlk hex hl hP
  obtain ⟨hP, hT⟩ := hP
  have hx := E.1
  have hb := E.2.1
  have hK := E.2.2.2.2.2
  have hF : ∀ q ∈ ([] : List Loc), HXA s0 q.base := fun q hq => absurd hq List.not_mem_nil
  have hold := hP.1
  have hd := hP.d
  have hbd := hd.2.2.2.2
  obtain ⟨f0, hA⟩ := hP.2.2.2
  by_cases hok : okS x1 (nI 1) ∧ okS x2 (nI 1) ∧ ¬ v < 0
  · skip
    obtain ⟨k1, rfl, q1⟩ := okS_nat (by decide) (by decide) hok.1
    obtain ⟨k2, rfl, q2⟩ := okS_nat (by decide) (by decide) hok.2.1
    refine lv_aload_n hx hb d_Law_power_0 rfl (lv_at hl 0 rfl) ?_
    refine lv_iload_n hx hb d_Law_power_1 rfl (lv_at hl 1 rfl) ?_
    refine lv_iload_n hx hb d_Law_power_2 rfl (lv_at hl 2 rfl) ?_
    refine lv_lload_n hx hb d_Law_power_3 rfl (lv_at hl 3 rfl) ?_
    refine q_cV (rest := []) E ((R_Desk_power l g b pn tn wn mr mq hmr A k1 k2 v q1 q2 hok.2.2).up (nD_up hb0)) w_583 w_1 w_580 w_581 w_582 hd_Desk_power rfl ⟨by decide, by decide⟩ (OB.recv E.2.2.2.2.2 (by rfl) hd.x.ob) (⟨hd, hT⟩) hF hl.1 rfl (Nat.le_of_ble_eq_true rfl) d_Law_power_4 ⟨by decide, by decide⟩ (qv (fun H1 locs hq hF => ?_))
    obtain ⟨hq, hcr, hsa⟩ := hq
    have hg := hP.callS hb0 hq
    refine lv_goto (tgt := 14) hx hb d_Law_power_7 (by decide) ?_
    refine lv_iconst (v := nI 0) hx hb d_Law_power_14 (by decide) ?_
    refine W.widen (k := 1) (n := 6) (by decide) (by decide) ?_
    exact q_iret E hr hlk (⟨_, rfl, Or.inl ⟨hok, rfl, hg.1, hcr, by unfold fPow; rw [nt_nI (by omega), nt_nI (by omega)]; exact hsa⟩, hg.2⟩) hF d_Law_power_15
  · skip
    refine lv_aload_n hx hb d_Law_power_0 rfl (lv_at hl 0 rfl) ?_
    refine lv_iload_n hx hb d_Law_power_1 rfl (lv_at hl 1 rfl) ?_
    refine lv_iload_n hx hb d_Law_power_2 rfl (lv_at hl 2 rfl) ?_
    refine lv_lload_n hx hb d_Law_power_3 rfl (lv_at hl 3 rfl) ?_
    refine q_catch E hw0 (q_runVT (rest := []) E hw0 (t_Desk_power l g (HXA s0) s0 hxs b x1 x2 v ((nb hok).imp id nbn)) w_583 w_1 w_580 w_581 w_582 hd_Desk_power rfl ⟨by decide, by decide⟩ (OB.recv E.2.2.2.2.2 (by rfl) hd.x.ob) (⟨hold, hP.hx hb0⟩) hl.1 rfl (Nat.le_of_ble_eq_true rfl) d_Law_power_4 ⟨by decide, by decide⟩) hF hex ⟨by decide, by decide⟩ (by decide) w_391 (fun xx H1 locs htq hF => ?_)
    have hg := hP.grow hb0 htq.1 htq.2.1
    refine lv_astore (lv' := [(5, .ref xx), (0, .ref b), (1, .int x1), (2, .int x2), (3, .long v)]) hx hb d_Law_power_10 hl (by decide) rfl (fun ls hl => ?_)
    refine lv_iconst (v := nI 1) hx hb d_Law_power_12 (by decide) ?_
    exact q_iret E hr hlk (⟨_, rfl, Or.inr ⟨hok, rfl, hg.1, hT.1.eqE (fun q h => hg.2 q (kT_E h)), hT.2.eqE (fun q h => hg.2 q (kT_E h))⟩, fun q h9 => hg.2 q (kS_T h9)⟩) hF d_Law_power_13
set_option maxHeartbeats 4000000 in
set_option maxRecDepth 100000 in
theorem XH_unity (l : Launch) (g : WG) (s0 : State) (hxs : XS l s0) (b pn tn wn : Nat) (mr mq : Int64) (hb0 : s0.heap.size ≤ b) (x1 : Int32) (x2 : Int32) (hmr : mr = 268435455) (A : Nat → Int) : CtrH l y_Law_unity (.codeWith y_Law_unity method_9_code 4 (some FieldType.int) [(0, 6, 9, 13)]) 8 204 1 6 (HXA s0) g s0 [.ref b, .int x1, .int x2] (fun H => LG g s0 H b pn tn wn mr mq ∧ CR g H b ∧ SCA g H b A) (QI (fun r H H' => (((okS x1 (nI 1) ∧ okC x2 (nI 0) (nI 32)) ∧ r = nI 0 ∧ LG g s0 H' b pn tn wn mr mq ∧ CR g H' b ∧ SCA g H' b (fUni x1 x2 A)) ∨ (¬ (okS x1 (nI 1) ∧ okC x2 (nI 0) (nI 32)) ∧ r = nI 1 ∧ LG g s0 H' b pn tn wn mr mq ∧ CR g H' b ∧ SCA g H' b A)) ∧ ∀ q, kS b q → H'[q]? = H[q]?)) := by
  refine ctrH_mk l (lv0 := [(0, .ref b), (1, .int x1), (2, .int x2)]) (by decide) (Nat.le_of_ble_eq_true rfl) rfl ?_
  intro p e s m below meth c ls E hw0 hr hlk hex hl hP
  obtain ⟨hP, hT⟩ := hP
  have hx := E.1
  have hb := E.2.1
  have hK := E.2.2.2.2.2
  have hF : ∀ q ∈ ([] : List Loc), HXA s0 q.base := fun q hq => absurd hq List.not_mem_nil
  have hold := hP.1
  have hd := hP.d
  have hbd := hd.2.2.2.2
  obtain ⟨f0, hA⟩ := hP.2.2.2
  by_cases hok : okS x1 (nI 1) ∧ okC x2 (nI 0) (nI 32)
  · skip
    obtain ⟨k1, rfl, q1⟩ := okS_nat (by decide) (by decide) hok.1
    obtain ⟨k2, rfl, l2, q2⟩ := okC_nat (by decide) (by decide) hok.2
    refine lv_aload_n hx hb d_Law_unity_0 rfl (lv_at hl 0 rfl) ?_
    refine lv_iload_n hx hb d_Law_unity_1 rfl (lv_at hl 1 rfl) ?_
    refine lv_iload_n hx hb d_Law_unity_2 rfl (lv_at hl 2 rfl) ?_
    refine q_cV (rest := []) E ((R_Desk_unity l g b pn tn wn mr mq hmr A k1 k2 q1 q2).up (nD_up hb0)) w_596 w_1 w_593 w_594 w_595 hd_Desk_unity rfl ⟨by decide, by decide⟩ (OB.recv E.2.2.2.2.2 (by rfl) hd.x.ob) (⟨hd, hT⟩) hF hl.1 rfl (Nat.le_of_ble_eq_true rfl) d_Law_unity_3 ⟨by decide, by decide⟩ (qv (fun H1 locs hq hF => ?_))
    obtain ⟨hq, hcr, hsa⟩ := hq
    have hg := hP.callS hb0 hq
    refine lv_goto (tgt := 12) hx hb d_Law_unity_6 (by decide) ?_
    refine lv_iconst (v := nI 0) hx hb d_Law_unity_12 (by decide) ?_
    refine W.widen (k := 1) (n := 6) (by decide) (by decide) ?_
    exact q_iret E hr hlk (⟨_, rfl, Or.inl ⟨hok, rfl, hg.1, hcr, by unfold fUni; rw [nt_nI (by omega), nt_nI (by omega)]; exact hsa⟩, hg.2⟩) hF d_Law_unity_13
  · skip
    refine lv_aload_n hx hb d_Law_unity_0 rfl (lv_at hl 0 rfl) ?_
    refine lv_iload_n hx hb d_Law_unity_1 rfl (lv_at hl 1 rfl) ?_
    refine lv_iload_n hx hb d_Law_unity_2 rfl (lv_at hl 2 rfl) ?_
    refine q_catch E hw0 (q_runVT (rest := []) E hw0 (t_Desk_unity l g (HXA s0) s0 hxs b x1 x2 ((nb hok).imp id okC_bad)) w_596 w_1 w_593 w_594 w_595 hd_Desk_unity rfl ⟨by decide, by decide⟩ (OB.recv E.2.2.2.2.2 (by rfl) hd.x.ob) (⟨hold, hP.hx hb0⟩) hl.1 rfl (Nat.le_of_ble_eq_true rfl) d_Law_unity_3 ⟨by decide, by decide⟩) hF hex ⟨by decide, by decide⟩ (by decide) w_391 (fun xx H1 locs htq hF => ?_)
    have hg := hP.grow hb0 htq.1 htq.2.1
    refine lv_astore_n (lv' := [(3, .ref xx), (0, .ref b), (1, .int x1), (2, .int x2)]) hx hb d_Law_unity_9 rfl hl (by decide) rfl (fun ls hl => ?_)
    refine lv_iconst (v := nI 1) hx hb d_Law_unity_10 (by decide) ?_
    exact q_iret E hr hlk (⟨_, rfl, Or.inr ⟨hok, rfl, hg.1, hT.1.eqE (fun q h => hg.2 q (kT_E h)), hT.2.eqE (fun q h => hg.2 q (kT_E h))⟩, fun q h9 => hg.2 q (kS_T h9)⟩) hF d_Law_unity_11
set_option maxHeartbeats 4000000 in
set_option maxRecDepth 100000 in
theorem XH_open (l : Launch) (g : WG) (s0 : State) (hxs : XS l s0) (b pn tn wn : Nat) (mr mq : Int64) (hb0 : s0.heap.size ≤ b) (x1 : Int32) (x2 : Int32) (x3 : Int32) (x4 : Int32) (hmr : mr = 268435455) (A : Nat → Int) : CtrH l y_Law_open (.codeWith y_Law_open method_19_code 6 (some FieldType.int) [(0, 9, 12, 13)]) 8 185 1 6 (HXA s0) g s0 [.ref b, .int x1, .int x2, .int x3, .int x4] (fun H => LG g s0 H b pn tn wn mr mq ∧ CR g H b ∧ SCA g H b A) (QI (fun r H H' => (((okC x2 (nI 1) (nI 16) ∧ okS x1 x2 ∧ okS x3 (nI 1) ∧ okS x4 (nI 1)) ∧ r = nI 0 ∧ LG g s0 H' b pn tn wn mr mq ∧ CR g H' b ∧ SCA g H' b (fOpen x1 x2 x3 x4 A)) ∨ (¬ (okC x2 (nI 1) (nI 16) ∧ okS x1 x2 ∧ okS x3 (nI 1) ∧ okS x4 (nI 1)) ∧ r = nI 1 ∧ LG g s0 H' b pn tn wn mr mq ∧ CR g H' b ∧ SCA g H' b A)) ∧ ∀ q, kS b q → H'[q]? = H[q]?)) := by
  refine ctrH_mk l (lv0 := [(0, .ref b), (1, .int x1), (2, .int x2), (3, .int x3), (4, .int x4)]) (by decide) (Nat.le_of_ble_eq_true rfl) rfl ?_
  intro p e s m below meth c ls E hw0 hr hlk hex hl hP
  obtain ⟨hP, hT⟩ := hP
  have hx := E.1
  have hb := E.2.1
  have hK := E.2.2.2.2.2
  have hF : ∀ q ∈ ([] : List Loc), HXA s0 q.base := fun q hq => absurd hq List.not_mem_nil
  have hold := hP.1
  have hd := hP.d
  have hbd := hd.2.2.2.2
  obtain ⟨f0, hA⟩ := hP.2.2.2
  by_cases hok : okC x2 (nI 1) (nI 16) ∧ okS x1 x2 ∧ okS x3 (nI 1) ∧ okS x4 (nI 1)
  · skip
    obtain ⟨k2, rfl, l2, q2⟩ := okC_nat (by decide) (by decide) hok.1
    obtain ⟨k1, rfl, q1⟩ := okS_nat (by omega) (by omega) hok.2.1
    obtain ⟨k3, rfl, q3⟩ := okS_nat (by decide) (by decide) hok.2.2.1
    obtain ⟨k4, rfl, q4⟩ := okS_nat (by decide) (by decide) hok.2.2.2
    have hp9 : (2 : Nat) ^ 31 = 2147483648 := by decide
    refine lv_aload_n hx hb d_Law_open_0 rfl (lv_at hl 0 rfl) ?_
    refine lv_iload_n hx hb d_Law_open_1 rfl (lv_at hl 1 rfl) ?_
    refine lv_iload_n hx hb d_Law_open_2 rfl (lv_at hl 2 rfl) ?_
    refine lv_iload_n hx hb d_Law_open_3 rfl (lv_at hl 3 rfl) ?_
    refine lv_iload hx hb d_Law_open_4 (lv_at hl 4 rfl) ?_
    refine q_cV (rest := []) E ((R_Desk_open l g b pn tn wn mr mq hmr A k1 k2 k3 k4 l2 q2 q1 q3 q4).up (nD_up hb0)) w_848 w_1 w_845 w_846 w_847 hd_Desk_open rfl ⟨by decide, by decide⟩ (OB.recv E.2.2.2.2.2 (by rfl) hd.x.ob) (⟨hd, hT⟩) hF hl.1 rfl (Nat.le_of_ble_eq_true rfl) d_Law_open_6 ⟨by decide, by decide⟩ (qv (fun H1 locs hq hF => ?_))
    obtain ⟨hq, hcr, hsa⟩ := hq
    have hg := hP.callS hb0 hq
    refine lv_goto (tgt := 16) hx hb d_Law_open_9 (by decide) ?_
    refine lv_iconst (v := nI 0) hx hb d_Law_open_16 (by decide) ?_
    refine W.widen (k := 1) (n := 6) (by decide) (by decide) ?_
    exact q_iret E hr hlk (⟨_, rfl, Or.inl ⟨hok, rfl, hg.1, hcr, by unfold fOpen; rw [nt_nI (by omega), nt_nI (by omega), nt_nI (by omega), nt_nI (by omega)]; exact hsa⟩, hg.2⟩) hF d_Law_open_17
  · skip
    refine lv_aload_n hx hb d_Law_open_0 rfl (lv_at hl 0 rfl) ?_
    refine lv_iload_n hx hb d_Law_open_1 rfl (lv_at hl 1 rfl) ?_
    refine lv_iload_n hx hb d_Law_open_2 rfl (lv_at hl 2 rfl) ?_
    refine lv_iload_n hx hb d_Law_open_3 rfl (lv_at hl 3 rfl) ?_
    refine lv_iload hx hb d_Law_open_4 (lv_at hl 4 rfl) ?_
    refine q_catch E hw0 (q_runVT (rest := []) E hw0 (t_Desk_open l g (HXA s0) s0 hxs b x1 x2 x3 x4 ((nb hok).imp id (fun h => (nb h).imp id nb))) w_848 w_1 w_845 w_846 w_847 hd_Desk_open rfl ⟨by decide, by decide⟩ (OB.recv E.2.2.2.2.2 (by rfl) hd.x.ob) (⟨hold, hP.hx hb0⟩) hl.1 rfl (Nat.le_of_ble_eq_true rfl) d_Law_open_6 ⟨by decide, by decide⟩) hF hex ⟨by decide, by decide⟩ (by decide) w_391 (fun xx H1 locs htq hF => ?_)
    have hg := hP.grow hb0 htq.1 htq.2.1
    refine lv_astore (lv' := [(5, .ref xx), (0, .ref b), (1, .int x1), (2, .int x2), (3, .int x3), (4, .int x4)]) hx hb d_Law_open_12 hl (by decide) rfl (fun ls hl => ?_)
    refine lv_iconst (v := nI 1) hx hb d_Law_open_14 (by decide) ?_
    exact q_iret E hr hlk (⟨_, rfl, Or.inr ⟨hok, rfl, hg.1, hT.1.eqE (fun q h => hg.2 q (kT_E h)), hT.2.eqE (fun q h => hg.2 q (kT_E h))⟩, fun q h9 => hg.2 q (kS_T h9)⟩) hF d_Law_open_15
set_option maxHeartbeats 4000000 in
set_option maxRecDepth 100000 in
theorem XH_transform (l : Launch) (g : WG) (s0 : State) (hxs : XS l s0) (b pn tn wn : Nat) (mr mq : Int64) (hb0 : s0.heap.size ≤ b) (x1 : Int32) (x2 : Int32) (x3 : Int32) (hmr : mr = 268435455) (A : Nat → Int) : CtrH l y_Law_transform (.codeWith y_Law_transform method_21_code 5 (some FieldType.int) [(0, 7, 10, 13)]) 8 256 1 6 (HXA s0) g s0 [.ref b, .int x1, .int x2, .int x3] (fun H => LG g s0 H b pn tn wn mr mq ∧ CR g H b ∧ SCA g H b A) (QI (fun r H H' => (((okC x2 (nI 0) (nI 4) ∧ okS x1 (nI 1 <<< ((x2 &&& nI 7) &&& 31))) ∧ r = nI 0 ∧ LG g s0 H' b pn tn wn mr mq ∧ CR g H' b ∧ SCA g H' b (fTr x1 x2 x3 A)) ∨ (¬ (okC x2 (nI 0) (nI 4) ∧ okS x1 (nI 1 <<< ((x2 &&& nI 7) &&& 31))) ∧ r = nI 1 ∧ LG g s0 H' b pn tn wn mr mq ∧ CR g H' b ∧ SCA g H' b A)) ∧ ∀ q, kS b q → H'[q]? = H[q]?)) := by
  refine ctrH_mk l (lv0 := [(0, .ref b), (1, .int x1), (2, .int x2), (3, .int x3)]) (by decide) (Nat.le_of_ble_eq_true rfl) rfl ?_
  intro p e s m below meth c ls E hw0 hr hlk hex hl hP
  obtain ⟨hP, hT⟩ := hP
  have hx := E.1
  have hb := E.2.1
  have hK := E.2.2.2.2.2
  have hF : ∀ q ∈ ([] : List Loc), HXA s0 q.base := fun q hq => absurd hq List.not_mem_nil
  have hold := hP.1
  have hd := hP.d
  have hbd := hd.2.2.2.2
  obtain ⟨f0, hA⟩ := hP.2.2.2
  by_cases hok : okC x2 (nI 0) (nI 4) ∧ okS x1 (nI 1 <<< ((x2 &&& nI 7) &&& 31))
  · skip
    obtain ⟨k2, rfl, l2, q2⟩ := okC_nat (by decide) (by decide) hok.1
    have hs9 := hok.2
    rw [sh7 k2 (by omega)] at hs9
    obtain ⟨k1, rfl, q1⟩ := okS_nat (pw16 (by omega)).1 (Nat.le_trans (pw16 (by omega)).2 (by decide)) hs9
    have hp9 : (2 : Nat) ^ 31 = 2147483648 := by decide
    have hpk := Nat.two_pow_pos k2
    by_cases hb9 : x3 = 0
    · skip
      refine lv_aload_n hx hb d_Law_transform_0 rfl (lv_at hl 0 rfl) ?_
      refine lv_iload_n hx hb d_Law_transform_1 rfl (lv_at hl 1 rfl) ?_
      refine lv_iload_n hx hb d_Law_transform_2 rfl (lv_at hl 2 rfl) ?_
      refine lv_iload_n hx hb d_Law_transform_3 rfl (lv_at hl 3 rfl) ?_
      refine q_cV (rest := []) E ((R_Desk_transform0 l g b pn tn wn mr mq hmr A k1 k2 x3 hb9 (by omega) q1).up (nD_up hb0)) w_870 w_1 w_867 w_868 w_869 hd_Desk_transform rfl ⟨by decide, by decide⟩ (OB.recv E.2.2.2.2.2 (by rfl) hd.x.ob) (⟨hd, hT⟩) hF hl.1 rfl (Nat.le_of_ble_eq_true rfl) d_Law_transform_4 ⟨by decide, by decide⟩ (qv (fun H1 locs hq hF => ?_))
      obtain ⟨hq, hcr, hsa⟩ := hq
      have hg := hP.callS hb0 hq
      refine lv_goto (tgt := 14) hx hb d_Law_transform_7 (by decide) ?_
      refine lv_iconst (v := nI 0) hx hb d_Law_transform_14 (by decide) ?_
      refine W.widen (k := 1) (n := 6) (by decide) (by decide) ?_
      exact q_iret E hr hlk (⟨_, rfl, Or.inl ⟨hok, rfl, hg.1, hcr, by unfold fTr; rw [if_pos hb9, nt_nI (by omega), nt_nI (by omega)]; exact hsa⟩, hg.2⟩) hF d_Law_transform_15
    · skip
      refine lv_aload_n hx hb d_Law_transform_0 rfl (lv_at hl 0 rfl) ?_
      refine lv_iload_n hx hb d_Law_transform_1 rfl (lv_at hl 1 rfl) ?_
      refine lv_iload_n hx hb d_Law_transform_2 rfl (lv_at hl 2 rfl) ?_
      refine lv_iload_n hx hb d_Law_transform_3 rfl (lv_at hl 3 rfl) ?_
      refine q_cV (rest := []) E ((R_Desk_transform1 l g b pn tn wn mr mq hmr A k1 k2 x3 hb9 (by omega) q1).up (nD_up hb0)) w_870 w_1 w_867 w_868 w_869 hd_Desk_transform rfl ⟨by decide, by decide⟩ (OB.recv E.2.2.2.2.2 (by rfl) hd.x.ob) (⟨hd, hT⟩) hF hl.1 rfl (Nat.le_of_ble_eq_true rfl) d_Law_transform_4 ⟨by decide, by decide⟩ (qv (fun H1 locs hq hF => ?_))
      obtain ⟨hq, hcr, hsa⟩ := hq
      have hg := hP.callS hb0 hq
      refine lv_goto (tgt := 14) hx hb d_Law_transform_7 (by decide) ?_
      refine lv_iconst (v := nI 0) hx hb d_Law_transform_14 (by decide) ?_
      refine W.widen (k := 1) (n := 6) (by decide) (by decide) ?_
      exact q_iret E hr hlk (⟨_, rfl, Or.inl ⟨hok, rfl, hg.1, hcr, by unfold fTr; rw [if_neg hb9, nt_nI (by omega), nt_nI (by omega)]; exact hsa⟩, hg.2⟩) hF d_Law_transform_15
  · skip
    refine lv_aload_n hx hb d_Law_transform_0 rfl (lv_at hl 0 rfl) ?_
    refine lv_iload_n hx hb d_Law_transform_1 rfl (lv_at hl 1 rfl) ?_
    refine lv_iload_n hx hb d_Law_transform_2 rfl (lv_at hl 2 rfl) ?_
    refine lv_iload_n hx hb d_Law_transform_3 rfl (lv_at hl 3 rfl) ?_
    refine q_catch E hw0 (q_runVT (rest := []) E hw0 (t_Desk_transform l g (HXA s0) s0 hxs b x1 x2 x3 (bad_t hok)) w_870 w_1 w_867 w_868 w_869 hd_Desk_transform rfl ⟨by decide, by decide⟩ (OB.recv E.2.2.2.2.2 (by rfl) hd.x.ob) (⟨hold, hP.hx hb0⟩) hl.1 rfl (Nat.le_of_ble_eq_true rfl) d_Law_transform_4 ⟨by decide, by decide⟩) hF hex ⟨by decide, by decide⟩ (by decide) w_391 (fun xx H1 locs htq hF => ?_)
    have hg := hP.grow hb0 htq.1 htq.2.1
    refine lv_astore (lv' := [(4, .ref xx), (0, .ref b), (1, .int x1), (2, .int x2), (3, .int x3)]) hx hb d_Law_transform_10 hl (by decide) rfl (fun ls hl => ?_)
    refine lv_iconst (v := nI 1) hx hb d_Law_transform_12 (by decide) ?_
    exact q_iret E hr hlk (⟨_, rfl, Or.inr ⟨hok, rfl, hg.1, hT.1.eqE (fun q h => hg.2 q (kT_E h)), hT.2.eqE (fun q h => hg.2 q (kT_E h))⟩, fun q h9 => hg.2 q (kS_T h9)⟩) hF d_Law_transform_13
set_option maxHeartbeats 4000000 in
set_option maxRecDepth 100000 in
theorem XH_lagrange (l : Launch) (g : WG) (s0 : State) (hxs : XS l s0) (b pn tn wn : Nat) (mr mq : Int64) (hb0 : s0.heap.size ≤ b) (x1 : Int32) (x2 : Int32) (x3 : Int32) (x4 : Int32) (hmr : mr = 268435455) (A : Nat → Int) : CtrH l y_Law_lagrange (.codeWith y_Law_lagrange method_22_code 6 (some FieldType.int) [(0, 9, 12, 13)]) 8 232 1 6 (HXA s0) g s0 [.ref b, .int x1, .int x2, .int x3, .int x4] (fun H => LG g s0 H b pn tn wn mr mq ∧ CR g H b ∧ SCA g H b A) (QI (fun r H H' => (((okS x1 (nI 1) ∧ okC x2 (nI 0) (nI 4) ∧ ((0 : Int64).toInt ≤ x3.toInt64.toInt ∧ x3.toInt64.toInt ≤ ((nI 1 <<< ((x2 &&& nI 7) &&& 31)) - nI 1).toInt64.toInt) ∧ okS x4 (nI 1)) ∧ r = nI 0 ∧ LG g s0 H' b pn tn wn mr mq ∧ CR g H' b ∧ SCA g H' b (fLag x1 x2 x3 x4 A)) ∨ (¬ (okS x1 (nI 1) ∧ okC x2 (nI 0) (nI 4) ∧ ((0 : Int64).toInt ≤ x3.toInt64.toInt ∧ x3.toInt64.toInt ≤ ((nI 1 <<< ((x2 &&& nI 7) &&& 31)) - nI 1).toInt64.toInt) ∧ okS x4 (nI 1)) ∧ r = nI 1 ∧ LG g s0 H' b pn tn wn mr mq ∧ CR g H' b ∧ SCA g H' b A)) ∧ ∀ q, kS b q → H'[q]? = H[q]?)) := by
  refine ctrH_mk l (lv0 := [(0, .ref b), (1, .int x1), (2, .int x2), (3, .int x3), (4, .int x4)]) (by decide) (Nat.le_of_ble_eq_true rfl) rfl ?_
  intro p e s m below meth c ls E hw0 hr hlk hex hl hP
  obtain ⟨hP, hT⟩ := hP
  have hx := E.1
  have hb := E.2.1
  have hK := E.2.2.2.2.2
  have hF : ∀ q ∈ ([] : List Loc), HXA s0 q.base := fun q hq => absurd hq List.not_mem_nil
  have hold := hP.1
  have hd := hP.d
  have hbd := hd.2.2.2.2
  obtain ⟨f0, hA⟩ := hP.2.2.2
  by_cases hok : okS x1 (nI 1) ∧ okC x2 (nI 0) (nI 4) ∧ ((0 : Int64).toInt ≤ x3.toInt64.toInt ∧ x3.toInt64.toInt ≤ ((nI 1 <<< ((x2 &&& nI 7) &&& 31)) - nI 1).toInt64.toInt) ∧ okS x4 (nI 1)
  · skip
    obtain ⟨k1, rfl, q1⟩ := okS_nat (by decide) (by decide) hok.1
    obtain ⟨k2, rfl, l2, q2⟩ := okC_nat (by decide) (by decide) hok.2.1
    obtain ⟨k3, rfl, l3, q3⟩ := okC_nat (by decide) (Nat.lt_of_le_of_lt (Nat.sub_le _ _) (Nat.lt_of_le_of_lt (pw16 (show k2 < 5 by omega)).2 (by decide))) ((lag_C (show k2 < 5 by omega)).mp hok.2.2.1)
    obtain ⟨k4, rfl, q4⟩ := okS_nat (by decide) (by decide) hok.2.2.2
    have hp9 : (2 : Nat) ^ 31 = 2147483648 := by decide
    have hi9 := lag_i (show k2 < 5 by omega) q3
    have hp5 := (pw16 (show k2 < 5 by omega)).2
    refine lv_aload_n hx hb d_Law_lagrange_0 rfl (lv_at hl 0 rfl) ?_
    refine lv_iload_n hx hb d_Law_lagrange_1 rfl (lv_at hl 1 rfl) ?_
    refine lv_iload_n hx hb d_Law_lagrange_2 rfl (lv_at hl 2 rfl) ?_
    refine lv_iload_n hx hb d_Law_lagrange_3 rfl (lv_at hl 3 rfl) ?_
    refine lv_iload hx hb d_Law_lagrange_4 (lv_at hl 4 rfl) ?_
    refine q_cV (rest := []) E ((R_Desk_lagrange l g b pn tn wn mr mq hmr A k1 k2 k3 k4 (by omega) (lag_i (by omega) q3) q1 q4).up (nD_up hb0)) w_894 w_1 w_891 w_892 w_893 hd_Desk_lagrange rfl ⟨by decide, by decide⟩ (OB.recv E.2.2.2.2.2 (by rfl) hd.x.ob) (⟨hd, hT⟩) hF hl.1 rfl (Nat.le_of_ble_eq_true rfl) d_Law_lagrange_6 ⟨by decide, by decide⟩ (qv (fun H1 locs hq hF => ?_))
    obtain ⟨hq, hcr, hsa⟩ := hq
    have hg := hP.callS hb0 hq
    refine lv_goto (tgt := 16) hx hb d_Law_lagrange_9 (by decide) ?_
    refine lv_iconst (v := nI 0) hx hb d_Law_lagrange_16 (by decide) ?_
    refine W.widen (k := 1) (n := 6) (by decide) (by decide) ?_
    exact q_iret E hr hlk (⟨_, rfl, Or.inl ⟨hok, rfl, hg.1, hcr, by unfold fLag; rw [nt_nI (by omega), nt_nI (by omega), nt_nI (by omega), nt_nI (by omega)]; exact hsa⟩, hg.2⟩) hF d_Law_lagrange_17
  · skip
    refine lv_aload_n hx hb d_Law_lagrange_0 rfl (lv_at hl 0 rfl) ?_
    refine lv_iload_n hx hb d_Law_lagrange_1 rfl (lv_at hl 1 rfl) ?_
    refine lv_iload_n hx hb d_Law_lagrange_2 rfl (lv_at hl 2 rfl) ?_
    refine lv_iload_n hx hb d_Law_lagrange_3 rfl (lv_at hl 3 rfl) ?_
    refine lv_iload hx hb d_Law_lagrange_4 (lv_at hl 4 rfl) ?_
    refine q_catch E hw0 (q_runVT (rest := []) E hw0 (t_Desk_lagrange l g (HXA s0) s0 hxs b x1 x2 x3 x4 (bad_l hok)) w_894 w_1 w_891 w_892 w_893 hd_Desk_lagrange rfl ⟨by decide, by decide⟩ (OB.recv E.2.2.2.2.2 (by rfl) hd.x.ob) (⟨hold, hP.hx hb0⟩) hl.1 rfl (Nat.le_of_ble_eq_true rfl) d_Law_lagrange_6 ⟨by decide, by decide⟩) hF hex ⟨by decide, by decide⟩ (by decide) w_391 (fun xx H1 locs htq hF => ?_)
    have hg := hP.grow hb0 htq.1 htq.2.1
    refine lv_astore (lv' := [(5, .ref xx), (0, .ref b), (1, .int x1), (2, .int x2), (3, .int x3), (4, .int x4)]) hx hb d_Law_lagrange_12 hl (by decide) rfl (fun ls hl => ?_)
    refine lv_iconst (v := nI 1) hx hb d_Law_lagrange_14 (by decide) ?_
    exact q_iret E hr hlk (⟨_, rfl, Or.inr ⟨hok, rfl, hg.1, hT.1.eqE (fun q h => hg.2 q (kT_E h)), hT.2.eqE (fun q h => hg.2 q (kT_E h))⟩, fun q h9 => hg.2 q (kS_T h9)⟩) hF d_Law_lagrange_15
set_option maxHeartbeats 4000000 in
set_option maxRecDepth 100000 in
theorem XH_reckon (l : Launch) (g : WG) (s0 : State) (hxs : XS l s0) (b pn tn wn : Nat) (mr mq : Int64) (hb0 : s0.heap.size ≤ b) (x1 x2 x3 x4 : Int32) (hmr : mr = 268435455) (A : Nat → Int) (hno : va_Nc "java/lang/ArithmeticException" "java/lang/IllegalArgumentException" s0) : CtrH l y_Law_reckon (.codeWith y_Law_reckon method_7_code 6 (some FieldType.int) [(0, 9, 12, 13), (0, 9, 16, 33)]) 8 206 1 6 (HXA s0) g s0 [.ref b, .int x1, .int x2, .int x3, .int x4] (fun H => LG g s0 H b pn tn wn mr mq ∧ CR g H b ∧ SCA g H b A) (QI (fun r H H' => (((okC x1 (nI 0) (nI 3) ∧ okS x2 (nI 1) ∧ okS x3 (nI 1) ∧ okS x4 (nI 1)) ∧ ((¬ (nt x1 = 3 ∧ A (nt x4) = 0) ∧ r = nI 0 ∧ LG g s0 H' b pn tn wn mr mq ∧ CR g H' b ∧ SCA g H' b (fRec x1 x2 x3 x4 A)) ∨ ((nt x1 = 3 ∧ A (nt x4) = 0) ∧ r = nI 2 ∧ LG g s0 H' b pn tn wn mr mq ∧ CR g H' b ∧ SCA g H' b A))) ∨ (¬ (okC x1 (nI 0) (nI 3) ∧ okS x2 (nI 1) ∧ okS x3 (nI 1) ∧ okS x4 (nI 1)) ∧ r = nI 1 ∧ LG g s0 H' b pn tn wn mr mq ∧ CR g H' b ∧ SCA g H' b A)) ∧ ∀ q, kS b q → H'[q]? = H[q]?)) := by
  refine ctrH_mk l (lv0 := [(0, .ref b), (1, .int x1), (2, .int x2), (3, .int x3), (4, .int x4)]) (by decide) (Nat.le_of_ble_eq_true rfl) rfl ?_
  intro p e s m below meth c ls E hw0 hr hlk hex hl hP
  obtain ⟨hP, hT⟩ := hP
  have hx := E.1
  have hb := E.2.1
  have hK := E.2.2.2.2.2
  have hF : ∀ q ∈ ([] : List Loc), HXA s0 q.base := fun q hq => absurd hq List.not_mem_nil
  have hold := hP.1
  have hd := hP.d
  have hbd := hd.2.2.2.2
  obtain ⟨f0, hA⟩ := hP.2.2.2
  by_cases hok : okC x1 (nI 0) (nI 3) ∧ okS x2 (nI 1) ∧ okS x3 (nI 1) ∧ okS x4 (nI 1)
  · skip
    obtain ⟨k1, rfl, l1, q1⟩ := okC_nat (by decide) (by decide) hok.1
    obtain ⟨k2, rfl, q2⟩ := okS_nat (by decide) (by decide) hok.2.1
    obtain ⟨k3, rfl, q3⟩ := okS_nat (by decide) (by decide) hok.2.2.1
    obtain ⟨k4, rfl, q4⟩ := okS_nat (by decide) (by decide) hok.2.2.2
    obtain ⟨f4, a4, v4, r4⟩ := hT.2 k4 q4
    match k1, q1 with
    | 0, _ =>
      refine lv_aload_n hx hb d_Law_reckon_0 rfl (lv_at hl 0 rfl) ?_
      refine lv_iload_n hx hb d_Law_reckon_1 rfl (lv_at hl 1 rfl) ?_
      refine lv_iload_n hx hb d_Law_reckon_2 rfl (lv_at hl 2 rfl) ?_
      refine lv_iload_n hx hb d_Law_reckon_3 rfl (lv_at hl 3 rfl) ?_
      refine lv_iload hx hb d_Law_reckon_4 (lv_at hl 4 rfl) ?_
      refine q_cV (rest := []) E ((R_Desk_reckon0 l g b pn tn wn mr mq hmr A k2 k3 k4 q2 q3 q4).up (nD_up hb0)) w_541 w_1 w_538 w_539 w_540 hd_Desk_reckon rfl ⟨by decide, by decide⟩ (OB.recv E.2.2.2.2.2 (by rfl) hd.x.ob) (⟨hd, hT⟩) hF hl.1 rfl (Nat.le_of_ble_eq_true rfl) d_Law_reckon_6 ⟨by decide, by decide⟩ (qv (fun H1 locs hq hF => ?_))
      obtain ⟨hq, hcr, hsa⟩ := hq
      have hg := hP.callS hb0 hq
      refine lv_goto (tgt := 20) hx hb d_Law_reckon_9 (by decide) ?_
      refine lv_iconst (v := nI 0) hx hb d_Law_reckon_20 (by decide) ?_
      refine W.widen (k := 1) (n := 6) (by decide) (by decide) ?_
      exact q_iret E hr hlk (⟨_, rfl, Or.inl ⟨hok, Or.inl ⟨fun h => absurd h.1 (by rw [nt_nI (by decide)]; decide), rfl, hg.1, hcr, by unfold fRec; rw [nt_nI (by omega), nt_nI (by omega), nt_nI (by omega), nt_nI (by omega)]; exact hsa⟩⟩, hg.2⟩) hF d_Law_reckon_21
    | 1, _ =>
      refine lv_aload_n hx hb d_Law_reckon_0 rfl (lv_at hl 0 rfl) ?_
      refine lv_iload_n hx hb d_Law_reckon_1 rfl (lv_at hl 1 rfl) ?_
      refine lv_iload_n hx hb d_Law_reckon_2 rfl (lv_at hl 2 rfl) ?_
      refine lv_iload_n hx hb d_Law_reckon_3 rfl (lv_at hl 3 rfl) ?_
      refine lv_iload hx hb d_Law_reckon_4 (lv_at hl 4 rfl) ?_
      refine q_cV (rest := []) E ((R_Desk_reckon1 l g b pn tn wn mr mq hmr A k2 k3 k4 q2 q3 q4).up (nD_up hb0)) w_541 w_1 w_538 w_539 w_540 hd_Desk_reckon rfl ⟨by decide, by decide⟩ (OB.recv E.2.2.2.2.2 (by rfl) hd.x.ob) (⟨hd, hT⟩) hF hl.1 rfl (Nat.le_of_ble_eq_true rfl) d_Law_reckon_6 ⟨by decide, by decide⟩ (qv (fun H1 locs hq hF => ?_))
      obtain ⟨hq, hcr, hsa⟩ := hq
      have hg := hP.callS hb0 hq
      refine lv_goto (tgt := 20) hx hb d_Law_reckon_9 (by decide) ?_
      refine lv_iconst (v := nI 0) hx hb d_Law_reckon_20 (by decide) ?_
      refine W.widen (k := 1) (n := 6) (by decide) (by decide) ?_
      exact q_iret E hr hlk (⟨_, rfl, Or.inl ⟨hok, Or.inl ⟨fun h => absurd h.1 (by rw [nt_nI (by decide)]; decide), rfl, hg.1, hcr, by unfold fRec; rw [nt_nI (by omega), nt_nI (by omega), nt_nI (by omega), nt_nI (by omega)]; exact hsa⟩⟩, hg.2⟩) hF d_Law_reckon_21
    | 2, _ =>
      refine lv_aload_n hx hb d_Law_reckon_0 rfl (lv_at hl 0 rfl) ?_
      refine lv_iload_n hx hb d_Law_reckon_1 rfl (lv_at hl 1 rfl) ?_
      refine lv_iload_n hx hb d_Law_reckon_2 rfl (lv_at hl 2 rfl) ?_
      refine lv_iload_n hx hb d_Law_reckon_3 rfl (lv_at hl 3 rfl) ?_
      refine lv_iload hx hb d_Law_reckon_4 (lv_at hl 4 rfl) ?_
      refine q_cV (rest := []) E ((R_Desk_reckon2 l g b pn tn wn mr mq hmr A k2 k3 k4 q2 q3 q4).up (nD_up hb0)) w_541 w_1 w_538 w_539 w_540 hd_Desk_reckon rfl ⟨by decide, by decide⟩ (OB.recv E.2.2.2.2.2 (by rfl) hd.x.ob) (⟨hd, hT⟩) hF hl.1 rfl (Nat.le_of_ble_eq_true rfl) d_Law_reckon_6 ⟨by decide, by decide⟩ (qv (fun H1 locs hq hF => ?_))
      obtain ⟨hq, hcr, hsa⟩ := hq
      have hg := hP.callS hb0 hq
      refine lv_goto (tgt := 20) hx hb d_Law_reckon_9 (by decide) ?_
      refine lv_iconst (v := nI 0) hx hb d_Law_reckon_20 (by decide) ?_
      refine W.widen (k := 1) (n := 6) (by decide) (by decide) ?_
      exact q_iret E hr hlk (⟨_, rfl, Or.inl ⟨hok, Or.inl ⟨fun h => absurd h.1 (by rw [nt_nI (by decide)]; decide), rfl, hg.1, hcr, by unfold fRec; rw [nt_nI (by omega), nt_nI (by omega), nt_nI (by omega), nt_nI (by omega)]; exact hsa⟩⟩, hg.2⟩) hF d_Law_reckon_21
    | 3, _ =>
      by_cases hz9 : A k4 = 0
      · skip
        have hz0 : AJ g s.heap (kSc b k4) 14 (fun _ => 0) := a4.ext (fun k hk => VL_zinv v4.1 (v4.2.trans hz9) k hk)
        refine lv_aload_n hx hb d_Law_reckon_0 rfl (lv_at hl 0 rfl) ?_
        refine lv_iload_n hx hb d_Law_reckon_1 rfl (lv_at hl 1 rfl) ?_
        refine lv_iload_n hx hb d_Law_reckon_2 rfl (lv_at hl 2 rfl) ?_
        refine lv_iload_n hx hb d_Law_reckon_3 rfl (lv_at hl 3 rfl) ?_
        refine lv_iload hx hb d_Law_reckon_4 (lv_at hl 4 rfl) ?_
        refine q_catch2 E hw0 (q_runVT (rest := []) E hw0 (t_Desk_reckonG l g (HXA s0) s0 hxs b pn tn wn mr mq k2 k3 k4 q2 q3 q4) w_541 w_1 w_538 w_539 w_540 hd_Desk_reckon rfl ⟨by decide, by decide⟩ (OB.recv E.2.2.2.2.2 (by rfl) hd.x.ob) (⟨hold, hP.hx hb0, hd, hz0⟩) hl.1 rfl (Nat.le_of_ble_eq_true rfl) d_Law_reckon_6 ⟨by decide, by decide⟩) hF hex (by decide) w_391 hno ⟨by decide, by decide⟩ (by decide) w_537 (fun xx H1 locs htq hF => ?_)
        have hg := hP.grow hb0 htq.1 htq.2.1
        refine lv_astore (lv' := [(5, .ref xx), (0, .ref b), (1, .int (nI 3)), (2, .int (nI k2)), (3, .int (nI k3)), (4, .int (nI k4))]) hx hb d_Law_reckon_16 hl (by decide) rfl (fun ls hl => ?_)
        refine lv_iconst (v := nI 2) hx hb d_Law_reckon_18 (by decide) ?_
        exact q_iret E hr hlk (⟨_, rfl, Or.inl ⟨hok, Or.inr ⟨⟨nt_nI (by decide), by rw [nt_nI (by omega)]; exact hz9⟩, rfl, hg.1, hT.1.eqE (fun q h => hg.2 q (kT_E h)), hT.2.eqE (fun q h => hg.2 q (kT_E h))⟩⟩, fun q h9 => hg.2 q (kS_T h9)⟩) hF d_Law_reckon_19
      · skip
        refine lv_aload_n hx hb d_Law_reckon_0 rfl (lv_at hl 0 rfl) ?_
        refine lv_iload_n hx hb d_Law_reckon_1 rfl (lv_at hl 1 rfl) ?_
        refine lv_iload_n hx hb d_Law_reckon_2 rfl (lv_at hl 2 rfl) ?_
        refine lv_iload_n hx hb d_Law_reckon_3 rfl (lv_at hl 3 rfl) ?_
        refine lv_iload hx hb d_Law_reckon_4 (lv_at hl 4 rfl) ?_
        refine q_cV (rest := []) E ((R_Desk_reckon3 l g b pn tn wn mr mq hmr A k2 k3 k4 q2 q3 q4 hz9).up (nD_up hb0)) w_541 w_1 w_538 w_539 w_540 hd_Desk_reckon rfl ⟨by decide, by decide⟩ (OB.recv E.2.2.2.2.2 (by rfl) hd.x.ob) (⟨hd, hT⟩) hF hl.1 rfl (Nat.le_of_ble_eq_true rfl) d_Law_reckon_6 ⟨by decide, by decide⟩ (qv (fun H1 locs hq hF => ?_))
        obtain ⟨hq, hcr, hsa⟩ := hq
        have hg := hP.callS hb0 hq
        refine lv_goto (tgt := 20) hx hb d_Law_reckon_9 (by decide) ?_
        refine lv_iconst (v := nI 0) hx hb d_Law_reckon_20 (by decide) ?_
        refine W.widen (k := 1) (n := 6) (by decide) (by decide) ?_
        exact q_iret E hr hlk (⟨_, rfl, Or.inl ⟨hok, Or.inl ⟨fun h => hz9 (by have h9 := h.2; rw [nt_nI (by omega)] at h9; exact h9), rfl, hg.1, hcr, by unfold fRec; rw [nt_nI (by omega), nt_nI (by omega), nt_nI (by omega), nt_nI (by omega)]; exact hsa⟩⟩, hg.2⟩) hF d_Law_reckon_21
  · skip
    refine lv_aload_n hx hb d_Law_reckon_0 rfl (lv_at hl 0 rfl) ?_
    refine lv_iload_n hx hb d_Law_reckon_1 rfl (lv_at hl 1 rfl) ?_
    refine lv_iload_n hx hb d_Law_reckon_2 rfl (lv_at hl 2 rfl) ?_
    refine lv_iload_n hx hb d_Law_reckon_3 rfl (lv_at hl 3 rfl) ?_
    refine lv_iload hx hb d_Law_reckon_4 (lv_at hl 4 rfl) ?_
    refine q_catch E hw0 (q_runVT (rest := []) E hw0 (t_Desk_reckon l g (HXA s0) s0 hxs b x1 x2 x3 x4 ((nb hok).imp id (fun h => (nb h).imp id nb))) w_541 w_1 w_538 w_539 w_540 hd_Desk_reckon rfl ⟨by decide, by decide⟩ (OB.recv E.2.2.2.2.2 (by rfl) hd.x.ob) (⟨hold, hP.hx hb0⟩) hl.1 rfl (Nat.le_of_ble_eq_true rfl) d_Law_reckon_6 ⟨by decide, by decide⟩) hF hex ⟨by decide, by decide⟩ (by decide) w_391 (fun xx H1 locs htq hF => ?_)
    have hg := hP.grow hb0 htq.1 htq.2.1
    refine lv_astore (lv' := [(5, .ref xx), (0, .ref b), (1, .int x1), (2, .int x2), (3, .int x3), (4, .int x4)]) hx hb d_Law_reckon_12 hl (by decide) rfl (fun ls hl => ?_)
    refine lv_iconst (v := nI 1) hx hb d_Law_reckon_14 (by decide) ?_
    exact q_iret E hr hlk (⟨_, rfl, Or.inr ⟨hok, rfl, hg.1, hT.1.eqE (fun q h => hg.2 q (kT_E h)), hT.2.eqE (fun q h => hg.2 q (kT_E h))⟩, fun q h9 => hg.2 q (kS_T h9)⟩) hF d_Law_reckon_15
set_option maxHeartbeats 4000000 in
set_option maxRecDepth 100000 in
theorem XH_word (l : Launch) (g : WG) (s0 : State) (hxs : XS l s0) (b pn tn wn : Nat) (mr mq : Int64) (hb0 : s0.heap.size ≤ b) (x1 x2 : Int32) (hmr : mr = 268435455) (A : Nat → Int) : CtrH l y_Law_word (.codeWith y_Law_word method_6_code 5 (some FieldType.int) [(0, 9, 12, 13)]) 8 130 1 6 (HXA s0) g s0 [.ref b, .int x1, .int x2, .ref (b + 510)] (fun H => LG g s0 H b pn tn wn mr mq ∧ CR g H b ∧ SCA g H b A) (QI (fun r H H' => (((okS x1 (nI 1) ∧ okC x2 (nI 0) (nI 7)) ∧ r = nI 0 ∧ LG g s0 H' b pn tn wn mr mq ∧ CR g H' b ∧ SCA g H' b A ∧ (∃ (E : Nat) (rw9 : Int64), (E : Int) = A (nt x1) ∧ rw9.toInt = ((E / 2 ^ (32 * nt x2) % 2 ^ 32 : Nat) : Int) ∧ AJ g H' (b + 510) 1 (fun _ => rw9))) ∨ (¬ (okS x1 (nI 1) ∧ okC x2 (nI 0) (nI 7)) ∧ r = nI 1 ∧ LG g s0 H' b pn tn wn mr mq ∧ CR g H' b ∧ SCA g H' b A)) ∧ ∀ q, kS b q → H'[q]? = H[q]?)) := by
  refine ctrH_mk l (lv0 := [(0, .ref b), (1, .int x1), (2, .int x2), (3, .ref (b + 510))]) (by decide) (Nat.le_of_ble_eq_true rfl) rfl ?_
  intro p e s m below meth c ls E hw0 hr hlk hex hl hP
  obtain ⟨hP, hT⟩ := hP
  have hx := E.1
  have hb := E.2.1
  have hK := E.2.2.2.2.2
  have hF : ∀ q ∈ ([] : List Loc), HXA s0 q.base := fun q hq => absurd hq List.not_mem_nil
  have hold := hP.1
  have hd := hP.d
  have hbd := hd.2.2.2.2
  obtain ⟨f0, hA⟩ := hP.2.2.2
  by_cases hok : okS x1 (nI 1) ∧ okC x2 (nI 0) (nI 7)
  · skip
    obtain ⟨k1, rfl, q1⟩ := okS_nat (by decide) (by decide) hok.1
    obtain ⟨k2, rfl, l2, q2⟩ := okC_nat (by decide) (by decide) hok.2
    refine lv_aload_n hx hb d_Law_word_0 rfl (lv_at hl 3 rfl) ?_
    refine lv_iconst (v := nI 0) hx hb d_Law_word_1 (by decide) ?_
    refine lv_aload_n hx hb d_Law_word_2 rfl (lv_at hl 0 rfl) ?_
    refine lv_iload_n hx hb d_Law_word_3 rfl (lv_at hl 1 rfl) ?_
    refine lv_iload_n hx hb d_Law_word_4 rfl (lv_at hl 2 rfl) ?_
    refine q_cV (rest := [.int (nI 0), .ref (b + 510)]) E ((R_Desk_word l g b pn tn wn mr mq hmr A k1 k2 q1 (by omega)).up (nD_up hb0)) w_531 w_1 w_528 w_529 w_530 hd_Desk_word rfl ⟨by decide, by decide⟩ (OB.recv E.2.2.2.2.2 (by rfl) hd.x.ob) (⟨hd, hT⟩) hF hl.1 rfl (Nat.le_of_ble_eq_true rfl) d_Law_word_5 ⟨by decide, by decide⟩ (ql (fun rw9 H1 locs hq hF => ?_))
    obtain ⟨⟨E8, hE, hrw⟩, hq, hH⟩ := hq
    subst hH
    refine q_last (N := 1) E (hA) (Nat.le_trans hb0 (Nat.le_add_right _ _)) hF 0 rfl (by decide) (by decide) d_Law_word_8 (fun H2 locs hq2 hA2 hF => ?_)
    have hg2 := hP.store hb0 hq2 hA2
    refine lv_goto (tgt := 16) hx hb d_Law_word_9 (by decide) ?_
    refine lv_iconst (v := nI 0) hx hb d_Law_word_16 (by decide) ?_
    refine W.widen (k := 1) (n := 6) (by decide) (by decide) ?_
    exact q_iret E hr hlk (⟨_, rfl, Or.inl ⟨hok, rfl, hg2.1, hT.1.eqE (fun q h => hg2.2 q (kT_E h)), hT.2.eqE (fun q h => hg2.2 q (kT_E h)), E8, rw9, by rw [nt_nI (by omega)]; exact hE, by rw [nt_nI (by omega)]; exact hrw, hA2.one⟩, fun q h9 => hg2.2 q (kS_T h9)⟩) hF d_Law_word_17
  · skip
    refine lv_aload_n hx hb d_Law_word_0 rfl (lv_at hl 3 rfl) ?_
    refine lv_iconst (v := nI 0) hx hb d_Law_word_1 (by decide) ?_
    refine lv_aload_n hx hb d_Law_word_2 rfl (lv_at hl 0 rfl) ?_
    refine lv_iload_n hx hb d_Law_word_3 rfl (lv_at hl 1 rfl) ?_
    refine lv_iload_n hx hb d_Law_word_4 rfl (lv_at hl 2 rfl) ?_
    refine q_catch E hw0 (q_runVT (rest := [.int (nI 0), .ref (b + 510)]) E hw0 (t_Desk_word l g (HXA s0) s0 hxs b x1 x2 ((nb hok).imp id bad_w)) w_531 w_1 w_528 w_529 w_530 hd_Desk_word rfl ⟨by decide, by decide⟩ (OB.recv E.2.2.2.2.2 (by rfl) hd.x.ob) (⟨hold, hP.hx hb0⟩) hl.1 rfl (Nat.le_of_ble_eq_true rfl) d_Law_word_5 ⟨by decide, by decide⟩) hF hex ⟨by decide, by decide⟩ (by decide) w_391 (fun xx H1 locs htq hF => ?_)
    have hg := hP.grow hb0 htq.1 htq.2.1
    refine lv_astore (lv' := [(4, .ref xx), (0, .ref b), (1, .int x1), (2, .int x2), (3, .ref (b + 510))]) hx hb d_Law_word_12 hl (by decide) rfl (fun ls hl => ?_)
    refine lv_iconst (v := nI 1) hx hb d_Law_word_14 (by decide) ?_
    exact q_iret E hr hlk (⟨_, rfl, Or.inr ⟨hok, rfl, hg.1, hT.1.eqE (fun q h => hg.2 q (kT_E h)), hT.2.eqE (fun q h => hg.2 q (kT_E h))⟩, fun q h9 => hg.2 q (kS_T h9)⟩) hF d_Law_word_15
