def kU (b q : Nat) : Prop := q < b ∨ ((b + 501 ≤ q ∧ q ≤ b + 509) ∨ kE b q)
theorem kU_T {b q : Nat} (h : kU b q) : kT b q := by unfold kU kE at h; unfold kT kE; omega
theorem kT_149 {b : Nat} : kT b (b + 149) := Or.inr (Or.inr (Or.inl rfl))
theorem kT_168 {b : Nat} : kT b (b + 168) := Or.inr (Or.inr (Or.inr (Or.inl rfl)))
theorem LG.callF {g : WG} {s0 : State} {H H' : Heap} {b pn tn wn pn2 tn2 wn2 : Nat} {mr mq : Int64} (h : LG g s0 H b pn tn wn mr mq) (hb0 : s0.heap.size ≤ b) (d : DSF g H H' b pn2 tn2 wn2 mr mq) : LG g s0 H' b pn2 tn2 wn2 mr mq ∧ ∀ q, kU b q → H'[q]? = H[q]? :=
  ⟨⟨fun q hq => (d.1.2 q (by omega)).trans (h.1 q hq), by rw [d.1.1]; exact h.2.1, ⟨FRM.rf, d.2⟩, h.2.2.2.imp (fun f hf => AJ.off d.1 (by omega) hf)⟩, fun q hq => d.1.2 q (by unfold kU kE at hq; omega)⟩
/-- an answer of number, as the law keeps it -/
def bL (r : Int32) : Int64 := if r = 0 then 0 else 1
/-- a byte of a long, as the two tapes hold it -/
def byN (v : Int64) (i : Nat) : Nat := (v >>> (((nI 8) * (nI i)).toInt64 &&& 63)).toBitVec.toNat % 256
theorem and255 (x : BitVec 32) : (x &&& 255#32).toNat = x.toNat % 256 := by
  rw [BitVec.toNat_and]
  exact Nat.and_two_pow_sub_one_eq_mod x.toNat 8
theorem nI_bv (k : Nat) : (nI k).toBitVec = BitVec.ofNat 32 k := rfl
theorem by_M (x : Int64) : (x &&& 255).toInt32 = nI (x.toBitVec.toNat % 256) := by
  apply Int32.toBitVec_inj.mp
  rw [nI_bv]
  show ((x &&& 255).toBitVec).signExtend 32 = _
  rw [BitVec.signExtend_eq_setWidth_of_le _ (by decide)]
  apply BitVec.eq_of_toNat_eq
  rw [BitVec.toNat_setWidth, BitVec.toNat_ofNat]
  congr 1
  show (x.toBitVec &&& 255#64).toNat = _
  rw [BitVec.toNat_and]
  exact Nat.and_two_pow_sub_one_eq_mod x.toBitVec.toNat 8
theorem s8a : ∀ b : BitVec 8, (b.signExtend 32).signExtend 8 = b := by decide +kernel
theorem s8b : ∀ b : BitVec 8, (b.signExtend 32).toNat % 256 = b.toNat := by decide +kernel
theorem by_C (x : Int64) : (vp_nar .byte x.toInt32.toInt8.toInt32) &&& 255 = nI (x.toBitVec.toNat % 256) := by
  apply Int32.toBitVec_inj.mp
  rw [nI_bv]
  apply BitVec.eq_of_toNat_eq
  show ((((((x.toBitVec.signExtend 32).signExtend 8).signExtend 32).signExtend 8).signExtend 32) &&& 255#32).toNat = _
  rw [and255, s8a, s8b, BitVec.toNat_ofNat, BitVec.signExtend_eq_setWidth_of_le _ (by decide), BitVec.signExtend_eq_setWidth_of_le _ (by decide), BitVec.toNat_setWidth, BitVec.toNat_setWidth]
  omega
/-- the row of R, and the two tapes, which hold the same bytes -/
def TR (g : WG) (H : Heap) (b tn : Nat) : Prop := AJ g H (b + 168) 14 kR ∧ ∃ (c m : Nat → Int32) (t : Nat → Nat), AB g H (b + 149) 96 c ∧ AI g H (b + 501 + 6) 96 m ∧ (∀ j, t j < 256) ∧ ∀ j, j < tn → c j &&& 255 = nI (t j) ∧ m j = nI (t j)
theorem TR.keep {g : WG} {H H' : Heap} {b tn : Nat} (h : TR g H b tn) (h1 : H'[b + 149]? = H[b + 149]?) (h2 : H'[b + 168]? = H[b + 168]?) (h3 : H'[b + 501 + 6]? = H[b + 501 + 6]?) : TR g H' b tn := by
  obtain ⟨hR, c, m, t, hc, hm, ht⟩ := h
  exact ⟨hR.eq h2, c, m, t, hc.eq h1, AI.eq hm h3, ht⟩
theorem TR.less {g : WG} {H : Heap} {b tn k : Nat} (h : TR g H b tn) (hk : k ≤ tn) : TR g H b k := by
  obtain ⟨hR, c, m, t, hc, hm, ht, hj⟩ := h
  exact ⟨hR, c, m, t, hc, hm, ht, fun j h => hj j (Nat.lt_of_lt_of_le h hk)⟩
theorem tr_feed {g : WG} {H : Heap} {b tn k : Nat} {c c' m m' : Nat → Int32} {t : Nat → Nat} {v : Int64} (hR : AJ g H (b + 168) 14 kR) (hc : AB g H (b + 149) 96 c') (hm : AI g H (b + 501 + 6) 96 m') (ht : ∀ j, t j < 256) (h : ∀ j, j < tn → c j &&& 255 = nI (t j) ∧ m j = nI (t j)) (hfc : fdC c v tn k c') (hfm : fdM m v tn k m') : TR g H b (tn + k) := by
  refine ⟨hR, c', m', fun j => if j < tn then t j else byN v (j - tn), hc, hm, fun j => ?_, fun j hj => ?_⟩
  · show (if j < tn then t j else byN v (j - tn)) < 256
    split
    · exact ht j
    · exact Nat.mod_lt _ (by decide)
  · show c' j &&& 255 = nI (if j < tn then t j else byN v (j - tn)) ∧ m' j = nI (if j < tn then t j else byN v (j - tn))
    by_cases e : j < tn
    · rw [if_pos e, hfc.1 j e, hfm.1 j e]
      exact h j e
    · obtain ⟨i, rfl⟩ : ∃ i, j = tn + i := ⟨j - tn, by omega⟩
      rw [if_neg e, hfc.2 i (by omega), hfm.2 i (by omega), show tn + i - tn = i by omega]
      exact ⟨by_C _, by_M _⟩
theorem kT_E {b q : Nat} (h : kE b q) : kT b q := Or.inr (Or.inr (Or.inr h))
theorem kU_E {b q : Nat} (h : kE b q) : kU b q := Or.inr (Or.inr h)
/-- the model's table for Q -/
def MT9 (g : WG) (H : Heap) (mo : Nat) : Prop := ∃ fa, AJ g H (mo + 4) 420 fa ∧ (∀ j, j ≤ 14 → PP 0 14 ∣ VL (fun k => fa (210 * 0 + 14 * j + k)) 14 - 268435456 ^ (14 + j))
theorem MT9.eq {g : WG} {H H' : Heap} {mo : Nat} (h : MT9 g H mo) (he : H'[mo + 4]? = H[mo + 4]?) : MT9 g H' mo := h.imp (fun fa hf => ⟨hf.1.eq he, hf.2⟩)
/-- the tapes, the constants and the table -/
def TW9 (g : WG) (H : Heap) (b tn : Nat) (mq : Int64) : Prop := mq = 268238845 ∧ TR g H b tn ∧ CQ g H b ∧ MT9 g H (b + 501)
theorem TW9.less {g : WG} {H : Heap} {b tn k : Nat} {mq : Int64} (h : TW9 g H b tn mq) (hk : k ≤ tn) : TW9 g H b k mq := ⟨h.1, h.2.1.less hk, h.2.2⟩
theorem TW9.keep {g : WG} {H H' : Heap} {b tn : Nat} {mq : Int64} (h : TW9 g H b tn mq) (hf : ∀ q, kT b q → H'[q]? = H[q]?) : TW9 g H' b tn mq := ⟨h.1, h.2.1.keep (hf _ kT_149) (hf _ kT_168) (hf _ (Or.inr (Or.inl ⟨by omega, by omega⟩))), h.2.2.1.eqE (fun q hq => hf q (kT_E hq)), h.2.2.2.eq (hf _ (Or.inr (Or.inl ⟨by omega, by omega⟩)))⟩
set_option maxHeartbeats 4000000 in
set_option maxRecDepth 100000 in
theorem XH_feed (l : Launch) (g : WG) (s0 : State) (hxs : XS l s0) (b pn tn wn : Nat) (mr mq : Int64) (hb0 : s0.heap.size ≤ b) (x1 : Int32) (v : Int64) (c9 : Nat → Int32) (hno : va_Nc "java/lang/IllegalStateException" "java/lang/IllegalArgumentException" s0) : CtrH l y_Law_feed (.codeWith y_Law_feed method_3_code 6 (some FieldType.int) [(0, 11, 14, 13), (0, 11, 18, 15)]) 8 128 1 6 (HXA s0) g s0 [.ref b, .int x1, .long v, .ref (b + 510)] (fun H => LG g s0 H b pn tn wn mr mq ∧ AB g H (b + 149) 96 c9) (QI (fun r H H' => ((((okC x1 (nI 1) (nI 8)) ∧ ((∃ k9, x1 = nI k9 ∧ tn + k9 ≤ 96 ∧ r = nI 0 ∧ LG g s0 H' b pn (tn + k9) wn mr mq ∧ ∃ c', AB g H' (b + 149) 96 c' ∧ fdC c9 v tn k9 c') ∨ (¬ nI tn + x1 ≤ nI 96 ∧ r = nI 2 ∧ LG g s0 H' b pn tn wn mr mq ∧ AB g H' (b + 149) 96 c9)))) ∨ (¬ (okC x1 (nI 1) (nI 8)) ∧ r = nI 1 ∧ LG g s0 H' b pn tn wn mr mq ∧ AB g H' (b + 149) 96 c9)) ∧ ∀ q, kU b q → H'[q]? = H[q]?)) := by
  refine ctrH_mk l (lv0 := [(0, .ref b), (1, .int x1), (2, .long v), (4, .ref (b + 510))]) (by decide) (Nat.le_of_ble_eq_true rfl) rfl ?_
  intro p e s m below meth c ls E hw0 hr hlk hex hl hP
  obtain ⟨hP, hT⟩ := hP
  have hx := E.1
  have hb := E.2.1
  have hK := E.2.2.2.2.2
  have hF : ∀ q ∈ ([] : List Loc), HXA s0 q.base := fun q hq => absurd hq List.not_mem_nil
  have hold := hP.1
  have hd := hP.d
  have hbd := hd.2.2.2.2
  obtain ⟨f0, hA⟩ := hP.2.2.2
  by_cases hok : okC x1 (nI 1) (nI 8)
  · skip
    obtain ⟨k1, rfl, l1, q1⟩ := okC_nat (by decide) (by decide) hok
    by_cases hfit : nI tn + nI k1 ≤ nI 96
    · skip
      have hfit := feed_k hbd.2.1 q1 hfit
      refine lv_aload hx hb d_Law_feed_0 (lv_at hl 3 rfl) ?_
      refine lv_iconst (v := nI 0) hx hb d_Law_feed_2 (by decide) ?_
      refine lv_aload_n hx hb d_Law_feed_3 rfl (lv_at hl 0 rfl) ?_
      refine lv_iload_n hx hb d_Law_feed_4 rfl (lv_at hl 1 rfl) ?_
      refine lv_lload_n hx hb d_Law_feed_5 rfl (lv_at hl 2 rfl) ?_
      refine q_cV (rest := [.int (nI 0), .ref (b + 510)]) E ((X_Desk_feed l g b pn tn wn mr mq k1 v c9 l1 q1 hfit).up (nD_up hb0)) w_396 w_1 w_393 w_394 w_395 hd_Desk_feed rfl ⟨by decide, by decide⟩ (OB.recv E.2.2.2.2.2 (by rfl) hd.x.ob) (⟨⟨FRM.rf, hd.2⟩, hT⟩) hF hl.1 rfl (Nat.le_of_ble_eq_true rfl) d_Law_feed_6 ⟨by decide, by decide⟩ (qi (fun r0 H1 locs hq hF => ?_))
      obtain ⟨hr0, hq, c1, hc1, hcv⟩ := hq
      subst hr0
      have hg := hP.callF hb0 hq
      refine lv_i2l (v := (nI (tn + k1)).toInt64) hx hb d_Law_feed_9 rfl ?_
      refine q_last (N := 1) E (AJ.off hq.1 (by omega) hA) (Nat.le_trans hb0 (Nat.le_add_right _ _)) hF 0 rfl (by decide) (by decide) d_Law_feed_10 (fun H2 locs hq2 hA2 hF => ?_)
      have hg2 := hg.1.store hb0 hq2 hA2
      refine lv_goto (tgt := 22) hx hb d_Law_feed_11 (by decide) ?_
      refine lv_iconst (v := nI 0) hx hb d_Law_feed_22 (by decide) ?_
      refine W.widen (k := 1) (n := 6) (by decide) (by decide) ?_
      exact q_iret E hr hlk (⟨_, rfl, Or.inl ⟨hok, Or.inl ⟨_, rfl, hfit, rfl, hg2.1, _, hc1.eq (hg2.2 _ kT_149), hcv⟩⟩, fun q h9 => (hg2.2 q (kU_T h9)).trans (hg.2 q h9)⟩) hF d_Law_feed_23
    · skip
      refine lv_aload hx hb d_Law_feed_0 (lv_at hl 3 rfl) ?_
      refine lv_iconst (v := nI 0) hx hb d_Law_feed_2 (by decide) ?_
      refine lv_aload_n hx hb d_Law_feed_3 rfl (lv_at hl 0 rfl) ?_
      refine lv_iload_n hx hb d_Law_feed_4 rfl (lv_at hl 1 rfl) ?_
      refine lv_lload_n hx hb d_Law_feed_5 rfl (lv_at hl 2 rfl) ?_
      refine q_catch2 E hw0 (q_runVT (rest := [.int (nI 0), .ref (b + 510)]) E hw0 (t_Desk_feedG l g (HXA s0) s0 hxs b pn tn wn mr mq (nI k1) v hok.1 hok.2 hfit) w_396 w_1 w_393 w_394 w_395 hd_Desk_feed rfl ⟨by decide, by decide⟩ (OB.recv E.2.2.2.2.2 (by rfl) hd.x.ob) (⟨hold, hP.hx hb0, hd⟩) hl.1 rfl (Nat.le_of_ble_eq_true rfl) d_Law_feed_6 ⟨by decide, by decide⟩) hF hex (by decide) w_391 hno ⟨by decide, by decide⟩ (by decide) w_392 (fun xx H1 locs htq hF => ?_)
      have hg := hP.grow hb0 htq.1 htq.2.1
      refine lv_astore (lv' := [(5, .ref xx), (0, .ref b), (1, .int (nI k1)), (2, .long v), (4, .ref (b + 510))]) hx hb d_Law_feed_18 hl (by decide) rfl (fun ls hl => ?_)
      refine lv_iconst (v := nI 2) hx hb d_Law_feed_20 (by decide) ?_
      exact q_iret E hr hlk (⟨_, rfl, Or.inl ⟨hok, Or.inr ⟨hfit, rfl, hg.1, hT.eq (hg.2 _ kT_149)⟩⟩, fun q h9 => hg.2 q (kU_T h9)⟩) hF d_Law_feed_21
  · skip
    refine lv_aload hx hb d_Law_feed_0 (lv_at hl 3 rfl) ?_
    refine lv_iconst (v := nI 0) hx hb d_Law_feed_2 (by decide) ?_
    refine lv_aload_n hx hb d_Law_feed_3 rfl (lv_at hl 0 rfl) ?_
    refine lv_iload_n hx hb d_Law_feed_4 rfl (lv_at hl 1 rfl) ?_
    refine lv_lload_n hx hb d_Law_feed_5 rfl (lv_at hl 2 rfl) ?_
    refine q_catch E hw0 (q_runVT (rest := [.int (nI 0), .ref (b + 510)]) E hw0 (t_Desk_feed l g (HXA s0) s0 hxs b x1 v (okC_bad hok)) w_396 w_1 w_393 w_394 w_395 hd_Desk_feed rfl ⟨by decide, by decide⟩ (OB.recv E.2.2.2.2.2 (by rfl) hd.x.ob) (⟨hold, hP.hx hb0⟩) hl.1 rfl (Nat.le_of_ble_eq_true rfl) d_Law_feed_6 ⟨by decide, by decide⟩) hF hex ⟨by decide, by decide⟩ (by decide) w_391 (fun xx H1 locs htq hF => ?_)
    have hg := hP.grow hb0 htq.1 htq.2.1
    refine lv_astore (lv' := [(5, .ref xx), (0, .ref b), (1, .int x1), (2, .long v), (4, .ref (b + 510))]) hx hb d_Law_feed_14 hl (by decide) rfl (fun ls hl => ?_)
    refine lv_iconst (v := nI 1) hx hb d_Law_feed_16 (by decide) ?_
    exact q_iret E hr hlk (⟨_, rfl, Or.inr ⟨hok, rfl, hg.1, hT.eq (hg.2 _ kT_149)⟩, fun q h9 => hg.2 q (kU_T h9)⟩) hF d_Law_feed_17
set_option maxHeartbeats 4000000 in
set_option maxRecDepth 100000 in
theorem XH_point (l : Launch) (g : WG) (s0 : State) (hxs : XS l s0) (b pn tn wn : Nat) (mr mq : Int64) (hb0 : s0.heap.size ≤ b) (x1 : Int32) (c9 : Nat → Int32) (t : Nat → Nat) (ht : ∀ j, t j < 256) (hct : ∀ j, j < tn → c9 j &&& 255 = nI (t j)) (hmq : mq = 268238845) : CtrH l y_Law_point (.codeWith y_Law_point method_10_code 4 (some FieldType.int) [(0, 9, 12, 13)]) 8 277 1 6 (HXA s0) g s0 [.ref b, .int x1, .ref (b + 510)] (fun H => LG g s0 H b pn tn wn mr mq ∧ AB g H (b + 149) 96 c9 ∧ CQ g H b) (QI (fun r H H' => (((okP x1 (nI 1)) ∧ r = nI 0 ∧ LG g s0 H' b pn 0 wn mr mq ∧ ∃ n, PA9 t tn n ∧ AJ g H' (b + 510) 1 (fun _ => (nI n).toInt64)) ∨ (¬ (okP x1 (nI 1)) ∧ r = nI 1 ∧ LG g s0 H' b pn tn wn mr mq)) ∧ ∀ q, kT b q → H'[q]? = H[q]?)) := by
  refine ctrH_mk l (lv0 := [(0, .ref b), (1, .int x1), (2, .ref (b + 510))]) (by decide) (Nat.le_of_ble_eq_true rfl) rfl ?_
  intro p e s m below meth c ls E hw0 hr hlk hex hl hP
  obtain ⟨hP, hT⟩ := hP
  have hx := E.1
  have hb := E.2.1
  have hK := E.2.2.2.2.2
  have hF : ∀ q ∈ ([] : List Loc), HXA s0 q.base := fun q hq => absurd hq List.not_mem_nil
  have hold := hP.1
  have hd := hP.d
  have hbd := hd.2.2.2.2
  obtain ⟨f0, hA⟩ := hP.2.2.2
  by_cases hok : okP x1 (nI 1)
  · skip
    obtain ⟨k1, rfl, q1⟩ := okP_nat (by decide) (by decide) hok
    refine lv_aload_n hx hb d_Law_point_0 rfl (lv_at hl 2 rfl) ?_
    refine lv_iconst (v := nI 0) hx hb d_Law_point_1 (by decide) ?_
    refine lv_aload_n hx hb d_Law_point_2 rfl (lv_at hl 0 rfl) ?_
    refine lv_iload_n hx hb d_Law_point_3 rfl (lv_at hl 1 rfl) ?_
    refine q_cV (rest := [.int (nI 0), .ref (b + 510)]) E ((L_Desk_point l g b pn tn wn mr mq k1 c9 t ht hct hmq q1 hbd.2.1).up (nD_up hb0)) w_619 w_1 w_616 w_617 w_618 hd_Desk_point rfl ⟨by decide, by decide⟩ (OB.recv E.2.2.2.2.2 (by rfl) hd.x.ob) (⟨hd, hT⟩) hF hl.1 rfl (Nat.le_of_ble_eq_true rfl) d_Law_point_4 ⟨by decide, by decide⟩ (qi (fun r0 H1 locs hq hF => ?_))
    obtain ⟨⟨n0, hr0, hpa⟩, hq⟩ := hq
    subst hr0
    have hg := hP.call hb0 hq
    refine lv_i2l (v := (nI n0).toInt64) hx hb d_Law_point_7 rfl ?_
    refine q_last (N := 1) E (AJ.off hq.fr nD_510 hA) (Nat.le_trans hb0 (Nat.le_add_right _ _)) hF 0 rfl (by decide) (by decide) d_Law_point_8 (fun H2 locs hq2 hA2 hF => ?_)
    have hg2 := hg.1.store hb0 hq2 hA2
    have hA3 : AJ g H2 (b + 510) 1 (fun _ => (nI n0).toInt64) := hA2.one
    refine lv_goto (tgt := 15) hx hb d_Law_point_9 (by decide) ?_
    refine lv_iconst (v := nI 0) hx hb d_Law_point_15 (by decide) ?_
    refine W.widen (k := 1) (n := 6) (by decide) (by decide) ?_
    exact q_iret E hr hlk (⟨_, rfl, Or.inl ⟨hok, rfl, hg2.1, _, hpa, hA3⟩, fun q h9 => (hg2.2 q h9).trans (hg.2 q h9)⟩) hF d_Law_point_16
  · skip
    refine lv_aload_n hx hb d_Law_point_0 rfl (lv_at hl 2 rfl) ?_
    refine lv_iconst (v := nI 0) hx hb d_Law_point_1 (by decide) ?_
    refine lv_aload_n hx hb d_Law_point_2 rfl (lv_at hl 0 rfl) ?_
    refine lv_iload_n hx hb d_Law_point_3 rfl (lv_at hl 1 rfl) ?_
    refine q_catch E hw0 (q_runVT (rest := [.int (nI 0), .ref (b + 510)]) E hw0 (t_Desk_point l g (HXA s0) s0 hxs b x1 (hok)) w_619 w_1 w_616 w_617 w_618 hd_Desk_point rfl ⟨by decide, by decide⟩ (OB.recv E.2.2.2.2.2 (by rfl) hd.x.ob) (⟨hold, hP.hx hb0⟩) hl.1 rfl (Nat.le_of_ble_eq_true rfl) d_Law_point_4 ⟨by decide, by decide⟩) hF hex ⟨by decide, by decide⟩ (by decide) w_391 (fun xx H1 locs htq hF => ?_)
    have hg := hP.grow hb0 htq.1 htq.2.1
    refine lv_astore_n (lv' := [(3, .ref xx), (0, .ref b), (1, .int x1), (2, .ref (b + 510))]) hx hb d_Law_point_12 rfl hl (by decide) rfl (fun ls hl => ?_)
    refine lv_iconst (v := nI 1) hx hb d_Law_point_13 (by decide) ?_
    exact q_iret E hr hlk (⟨_, rfl, Or.inr ⟨hok, rfl, hg.1⟩, hg.2⟩) hF d_Law_point_14
