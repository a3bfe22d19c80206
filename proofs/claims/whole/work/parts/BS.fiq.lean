theorem qadd_m {x y : Int} (hx : 0 ≤ x ∧ x < QJ) (hy : 0 ≤ y ∧ y < QJ) : (if x + y < QJ then x + y else x + y - QJ) = (x + y) % QJ := by
  have hr := QJ_pos
  split
  · rw [Int.emod_eq_of_lt (by omega) (by assumption)]
  · rw [← Int.sub_emod_right, Int.emod_eq_of_lt (by omega) (by omega)]
theorem qdb_e (X : Int) (i : Nat) : ((X * 2 ^ i) % QJ + (X * 2 ^ i) % QJ) % QJ = (X * 2 ^ (i + 1)) % QJ := by
  rw [← Int.add_emod, Int.pow_succ, ← Int.mul_assoc]
  generalize X * 2 ^ i = a
  congr 1
  omega
/-- the steps of the lift's own lift -/
def LLq : Nat → Int
  | 0 => 2443861760969941577781728756716842931568110975537541599246607835440270812325875876979246629918323713719544732926247
  | 1 => 2421907410976328414351763123301107768131515398777669449341958534237876778294770525821008155615389021663235901091574
  | 2 => 1862327826811634738345205010288211795808221626149411598255726927044220106508246471855419287225868981693956272494084
  | _ => W2Q
theorem LLq_r : ∀ i, i < 4 → 0 ≤ LLq i ∧ LLq i < QJ := by decide +kernel
theorem LLq_s : ∀ i, i < 3 → (LLq i * LLq i * WIQ) % QJ = LLq (i + 1) := by decide +kernel
theorem LLq_0 : (WQ * 2 ^ 49) % QJ = LLq 0 := by decide +kernel
theorem LLq_1 : (1 * 2 ^ 392) % QJ = WQ := by decide +kernel
theorem qsub_a : (if (0 : Int) < 1 then 0 - 1 + QJ else 0 - 1) = QJ - 1 := by decide +kernel
theorem qsub_b : (if QJ - 1 < 1 then QJ - 1 - 1 + QJ else QJ - 1 - 1) = QJ - 2 := by decide +kernel
theorem kQ_0 : kQ 0 = 268413611 := by decide +kernel
/-- the rows of the field of R -/
def FQ4 (g : WG) (H : Heap) (o : Nat) : Prop := AJ g H (o + 6) 14 kQ ∧ (∃ f, AJ g H (o + 1) 14 f ∧ RV f WQ) ∧ (∃ f, AJ g H (o + 2) 14 f ∧ RV f 1) ∧ (∃ f, AJ g H (o + 3) 14 f ∧ RV f W2Q) ∧ ∃ f, AJ g H (o + 4) 14 f ∧ RV f (QJ - 2)
theorem FQ4.eq {g : WG} {H H' : Heap} {o : Nat} (h : FQ4 g H o) (he : ∀ q, o ≤ q → q ≤ o + 6 → H'[q]? = H[q]?) : FQ4 g H' o := ⟨h.1.eq (he _ (by omega) (by omega)), h.2.1.imp (fun f hf => ⟨hf.1.eq (he _ (by omega) (by omega)), hf.2⟩), h.2.2.1.imp (fun f hf => ⟨hf.1.eq (he _ (by omega) (by omega)), hf.2⟩), h.2.2.2.1.imp (fun f hf => ⟨hf.1.eq (he _ (by omega) (by omega)), hf.2⟩), h.2.2.2.2.imp (fun f hf => ⟨hf.1.eq (he _ (by omega) (by omega)), hf.2⟩)⟩
theorem FQ4.sb {g : WG} {b : Nat} {H H' : Heap} {o : Nat} (h : FQ4 g H o) (hs : SB b H H') (hb : b < o) : FQ4 g H' o := ⟨h.1.sb hs (by omega), h.2.1.imp (fun f hf => ⟨hf.1.sb hs (by omega), hf.2⟩), h.2.2.1.imp (fun f hf => ⟨hf.1.sb hs (by omega), hf.2⟩), h.2.2.2.1.imp (fun f hf => ⟨hf.1.sb hs (by omega), hf.2⟩), h.2.2.2.2.imp (fun f hf => ⟨hf.1.sb hs (by omega), hf.2⟩)⟩
theorem kQ_hx : ∀ k, k < 14 → hxF hb65 96 96 k = kQ k := by
  have h : ∀ k : Fin 14, hxF hb65 96 96 k.val = kQ k.val := by decide +kernel
  exact fun k hk => h ⟨k, hk⟩
def IQ9 : Nat → Int64
  | 0 => 1
  | 1 => (-268413609)
  | 2 => (-168159145013977389)
  | 3 => (-150951328088859389)
  | 4 => (-5121360646583091197)
  | _ => (-8447948610607054845)
theorem iq_s : ∀ i, i < 5 → (IQ9 i) * (2 - (268413611 * (IQ9 i))) = IQ9 (i + 1) := by decide +kernel
set_option maxHeartbeats 4000000 in
set_option maxRecDepth 100000 in
theorem Q_Field_minusInverseOf (l : Launch) (g : WG) (n0 : Nat → Prop)  : Ctr l y_Field_minusInverseOf (.code y_Field_minusInverseOf prog_3_method_2_code 5 (some FieldType.long)) 0 0 0 0 n0 g [.long 268413611] (fun H => True) (QL (fun r H H' => r = 268238845 ∧ H' = H)) := by
  refine ctr_mk l (lv0 := [(0, .long 268413611)]) (by decide) (Nat.le_of_ble_eq_true rfl) rfl ?_
  intro p e s m below meth c ls E hr hlk hnm hl hP
  have hx := E.1
  have hb := E.2.1
  have hK := E.2.2.2.2.2
  have hF : ∀ q ∈ ([] : List Loc), n0 q.base := fun q hq => absurd hq List.not_mem_nil
  have lp : ∀ (k : Nat) (i : Nat) (ls : Array Slot), i + k = 5 → lv_has ls 5 [(4, .int (nI i)), (2, .long (IQ9 i)), (0, .long 268413611)] → W p l e { frames := 0, cells := 0, slots := 0, locals := 0 } s m [.long 268413611].toArray below meth c s.heap [] 0 0 (MQ below (QcP (QL (fun r H H' => r = 268238845 ∧ H' = H))) [.long 268413611].toArray s 0 0 (fun q => n0 q)) (F0 m 5 ls []) := by
    intro k
    induction k with
    | zero =>
      intro  i   ls hi hl
      obtain rfl : i = 5 := by omega
      refine lv_iload hx hb d_Field_minusInverseOf_5 (lv_at hl 0 rfl) ?_
      refine lv_iconst (v := nI 5) hx hb d_Field_minusInverseOf_7 (by decide) ?_
      refine lv_icmp_ge (tgt := 27) hx hb d_Field_minusInverseOf_8 (by decide) (fun _ => ?_) (fun h9 => absurd (by decide) h9)
      refine lv_lload_n hx hb d_Field_minusInverseOf_27 rfl (lv_at hl 1 rfl) ?_
      refine lv_lneg hx hb d_Field_minusInverseOf_28 ?_
      refine lv_ldc2 (v := 268435455) hx hb E.2.2.2.1 (E.2.2.2.2.1 _ w_143) d_Field_minusInverseOf_29 ?_
      refine lv_land hx hb d_Field_minusInverseOf_32 ?_
      refine lv_topl (fun t9 e9 => ?_)
      obtain rfl : t9 = 268238845 := e9.trans (by decide +kernel)
      exact q_lret E hr hlk (⟨_, rfl, rfl, rfl⟩) hF d_Field_minusInverseOf_33
    | succ k ih =>
      intro  i   ls hi hl
      refine lv_iload hx hb d_Field_minusInverseOf_5 (lv_at hl 0 rfl) ?_
      refine lv_iconst (v := nI 5) hx hb d_Field_minusInverseOf_7 (by decide) ?_
      refine lv_icmp_ge (tgt := 27) hx hb d_Field_minusInverseOf_8 (by decide) (fun h9 => absurd h9 (nI_ge (by omega) (by decide))) (fun _ => ?_)
      refine lv_lload_n hx hb d_Field_minusInverseOf_11 rfl (lv_at hl 1 rfl) ?_
      refine lv_ldc2 (v := 2) hx hb E.2.2.2.1 (E.2.2.2.2.1 _ w_142) d_Field_minusInverseOf_12 ?_
      refine lv_lload_n hx hb d_Field_minusInverseOf_15 rfl (lv_at hl 2 rfl) ?_
      refine lv_lload_n hx hb d_Field_minusInverseOf_16 rfl (lv_at hl 1 rfl) ?_
      refine lv_lmul hx hb d_Field_minusInverseOf_17 ?_
      refine lv_lsub hx hb d_Field_minusInverseOf_18 ?_
      refine lv_lmul hx hb d_Field_minusInverseOf_19 ?_
      refine lv_topl (fun t9 e9 => ?_)
      obtain rfl : t9 = IQ9 (i + 1) := e9.trans (iq_s i (by omega))
      refine lv_lstore_n (lv' := [(2, .long (IQ9 (i + 1))), (4, .int (nI i)), (0, .long 268413611)]) hx hb d_Field_minusInverseOf_20 rfl hl (by decide) rfl (fun ls hl => ?_)
      refine lv_iinc (k := 1) (v := nI (i + 1)) (lv' := [(4, .int (nI (i + 1))), (2, .long (IQ9 (i + 1))), (0, .long 268413611)]) hx hb d_Field_minusInverseOf_21 hl rfl (i_inc i) (by decide) rfl (fun ls hl => ?_)
      refine lv_goto (tgt := 5) hx hb d_Field_minusInverseOf_24 (by decide) ?_
      have hl : lv_has ls 5 [(4, .int (nI (i + 1))), (2, .long (IQ9 (i + 1))), (0, .long 268413611)] := lv_sub hl [0, 1, 2] rfl
      exact ih (i + 1) ls (by omega) hl
  refine lv_lconst (v := 1) hx hb d_Field_minusInverseOf_0 (by decide) ?_
  refine lv_lstore_n (lv' := [(2, .long 1), (0, .long 268413611)]) hx hb d_Field_minusInverseOf_1 rfl hl (by decide) rfl (fun ls hl => ?_)
  refine lv_iconst (v := nI 0) hx hb d_Field_minusInverseOf_2 (by decide) ?_
  refine lv_istore (lv' := [(4, .int (nI 0)), (2, .long 1), (0, .long 268413611)]) hx hb d_Field_minusInverseOf_3 hl (by decide) rfl (fun ls hl => ?_)
  have hl : lv_has ls 5 [(4, .int (nI 0)), (2, .long 1), (0, .long 268413611)] := lv_sub hl [0, 1, 2] rfl
  exact lp 5 0 ls (by omega) hl
set_option maxHeartbeats 4000000 in
set_option maxRecDepth 100000 in
theorem Q_Field_doubled (l : Launch) (g : WG) (n0 : Nat → Prop) (o nn rr : Nat) (F : Nat → Nat) (mi : Int64) (hrr : rr < 2 ^ 31) (f0 : Nat → Int64) (X : Int) (hf0 : RV f0 X) (hX : X < QJ) (hnm9 : F 0 ≠ nn) : Ctr l y_Field_doubled (.code y_Field_doubled prog_3_method_3_code 4 none) 2 50 0 0 n0 g [.ref o, .ref nn, .int (nI rr)] (fun H => FD g n0 H o F mi ∧ n0 nn ∧ AJ g H nn 14 f0 ∧ AJ g H (F 0) 14 kQ) (QV (fun H H' => KJ g (fun q => q = nn) H H' ∧ ∃ f', AJ g H' nn 14 f' ∧ RV f' ((X * 2 ^ rr) % QJ))) := by
  refine ctr_mk l (lv0 := [(0, .ref o), (1, .ref nn), (2, .int (nI rr))]) (by decide) (Nat.le_of_ble_eq_true rfl) rfl ?_
  intro p e s m below meth c ls E hr hlk hnm hl hP
  have hx := E.1
  have hb := E.2.1
  have hK := E.2.2.2.2.2
  have hF : ∀ q ∈ ([] : List Loc), n0 q.base := fun q hq => absurd hq List.not_mem_nil
  obtain ⟨hfd, hnn, hA0, hM⟩ := hP
  have lp : ∀ (k : Nat) (i : Nat) (H : Heap) (locs : List Loc) (ls : Array Slot) (f1 : Nat → Int64), i + k = rr → KJ g (fun q => q = nn) s.heap H → AJ g H nn 14 f1 → RV f1 ((X * 2 ^ i) % QJ) → (∀ q ∈ locs, n0 q.base) → lv_has ls 4 [(3, .int (nI i)), (2, .int (nI rr)), (1, .ref nn), (0, .ref o)] → W p l e { frames := 2, cells := 0, slots := 0, locals := 50 } s m [.ref o, .ref nn, .int (nI rr)].toArray below meth c H locs 0 0 (MQ below (QcP (QV (fun H H' => KJ g (fun q => q = nn) H H' ∧ ∃ f', AJ g H' nn 14 f' ∧ RV f' ((X * 2 ^ rr) % QJ)))) [.ref o, .ref nn, .int (nI rr)].toArray s 0 0 (fun q => n0 q)) (F0 m 2 ls []) := by
    intro k
    induction k with
    | zero =>
      intro  i   H   locs   ls   f1 hi hk hA hv hF hl
      obtain rfl : i = rr := by omega
      refine lv_iload_n hx hb d_Field_doubled_2 rfl (lv_at hl 0 rfl) ?_
      refine lv_iload_n hx hb d_Field_doubled_3 rfl (lv_at hl 1 rfl) ?_
      refine lv_icmp_ge (tgt := 20) hx hb d_Field_doubled_4 (by decide) (fun _ => ?_) (fun h9 => absurd (nI_le (Nat.le_refl _) hrr) h9)
      exact q_vret E hr hlk (⟨rfl, hk, _, hA, hv⟩) hF d_Field_doubled_20
    | succ k ih =>
      intro  i   H   locs   ls   f1 hi hk hA hv hF hl
      refine lv_iload_n hx hb d_Field_doubled_2 rfl (lv_at hl 0 rfl) ?_
      refine lv_iload_n hx hb d_Field_doubled_3 rfl (lv_at hl 1 rfl) ?_
      refine lv_icmp_ge (tgt := 20) hx hb d_Field_doubled_4 (by decide) (fun h9 => absurd h9 (nI_ge (by omega) hrr)) (fun _ => ?_)
      refine lv_aload_n hx hb d_Field_doubled_7 rfl (lv_at hl 3 rfl) ?_
      refine lv_aload_n hx hb d_Field_doubled_8 rfl (lv_at hl 2 rfl) ?_
      refine lv_aload_n hx hb d_Field_doubled_9 rfl (lv_at hl 2 rfl) ?_
      refine lv_aload_n hx hb d_Field_doubled_10 rfl (lv_at hl 2 rfl) ?_
      refine q_cV (rest := []) E (V_Field_add l g n0 o nn nn nn F mi f1 f1 kQ ((X * 2 ^ i) % QJ) ((X * 2 ^ i) % QJ) QJ hv hv kQ_rv (qm_r _).2 (qm_r _).2 hnm9 QJ_2) w_157 w_4 w_154 w_155 w_156 hd_Field_add rfl ⟨by decide, by decide⟩ (OB.recv E.2.2.2.2.2 (by rfl) ((hk.fd hK hfd).1)) (⟨hk.fd hK hfd, ⟨hnn, _, hA⟩, hA, hA, hk.ajo hnm9 hM⟩) hF hl.1 rfl (Nat.le_of_ble_eq_true rfl) d_Field_doubled_11 ⟨by decide, by decide⟩ (qv (fun H1 locs hq hF => ?_))
      obtain ⟨hq, f2, hA2, hv2⟩ := hq
      rw [qadd_m (qm_r _) (qm_r _), qdb_e] at hv2
      refine lv_iinc (k := 0) (v := nI (i + 1)) (lv' := [(3, .int (nI (i + 1))), (2, .int (nI rr)), (1, .ref nn), (0, .ref o)]) hx hb d_Field_doubled_14 hl rfl (i_inc i) (by decide) rfl (fun ls hl => ?_)
      refine lv_goto (tgt := 2) hx hb d_Field_doubled_17 (by decide) ?_
      have hl : lv_has ls 4 [(3, .int (nI (i + 1))), (2, .int (nI rr)), (1, .ref nn), (0, .ref o)] := lv_sub hl [0, 1, 2, 3] rfl
      exact ih (i + 1) _ _ ls f2 (by omega) (hk.tr hq) hA2 hv2 hF hl
  refine lv_iconst (v := nI 0) hx hb d_Field_doubled_0 (by decide) ?_
  refine lv_istore_n (lv' := [(3, .int (nI 0)), (0, .ref o), (1, .ref nn), (2, .int (nI rr))]) hx hb d_Field_doubled_1 rfl hl (by decide) rfl (fun ls hl => ?_)
  have hl : lv_has ls 4 [(3, .int (nI 0)), (2, .int (nI rr)), (1, .ref nn), (0, .ref o)] := lv_sub hl [0, 3, 2, 1] rfl
  exact lp rr 0 _ _ ls f0 (by omega) KJ.rf hA0 (by rw [Int.pow_zero, Int.mul_one, Int.emod_eq_of_lt hf0.nn hX]; exact hf0) hF hl
set_option maxHeartbeats 4000000 in
set_option maxRecDepth 100000 in
theorem Q_Field_init (l : Launch) (g : WG) (n0 : Nat → Prop) (s0 : State) (hn0 : ∀ q, n0 q → s0.heap.size ≤ q) (a : Nat) (hks : KS s0) (hkt : KT s0 a 96 hb65) (o : Nat) (hna : ∀ q, o ≤ q → n0 q) : CtrW l y_Field_init (.code y_Field_init prog_3_method_1_code 3 none) 5 135 6 84 n0 g s0 [.ref o, .ref a] (fun H => OB g H o 1 [.null, .null, .null, .null, .null, .null, .long 0] ∧ H.size = o + 1 ∧ OLD s0 H) (QV (fun H H' => (FD g n0 H' o (kF o) 268238845 ∧ FQ4 g H' o) ∧ H'.size = o + 7 ∧ ∀ q, q < o → H'[q]? = H[q]?)) := by
  refine ctrW_mk l (lv0 := [(0, .ref o), (1, .ref a)]) (by decide) (Nat.le_of_ble_eq_true rfl) rfl ?_
  intro p e s m below meth c ls E hw0 hr hlk hnm hl hP
  have hx := E.1
  have hb := E.2.1
  have hK := E.2.2.2.2.2
  have hF : ∀ q ∈ ([] : List Loc), n0 q.base := fun q hq => absurd hq List.not_mem_nil
  obtain ⟨ho, hsz, hold⟩ := hP
  have hlow : ∀ q, q < o → s.heap[q]? = s.heap[q]? := fun _ _ => rfl
  have na0 : n0 (o + 0) := hna _ (by omega)
  have na1 : n0 (o + 1) := hna _ (by omega)
  have na2 : n0 (o + 2) := hna _ (by omega)
  have na3 : n0 (o + 3) := hna _ (by omega)
  have na4 : n0 (o + 4) := hna _ (by omega)
  have na5 : n0 (o + 5) := hna _ (by omega)
  refine lv_aload_n hx hb d_Field_init_0 rfl (lv_at hl 0 rfl) ?_
  refine W.objInit hx hb E.2.2.2.1 (E.2.2.2.2.1 _ w_87) (E.2.2.2.2.1 _ w_31) (E.2.2.2.2.1 _ w_32) rfl (by rw [E.2.2.1]; exact hl.1) rfl d_Field_init_1 (Nat.le_of_ble_eq_true rfl) (Nat.le_of_ble_eq_true rfl) ?_
  refine lv_aload_n hx hb d_Field_init_4 rfl (lv_at hl 0 rfl) ?_
  refine lv_bipush (v := nI 14) hx hb d_Field_init_5 (by decide) ?_
  refine q_newJ E 14 rfl (by decide) w_64 (by decide) (by decide) hsz d_Field_init_7 (fun H1 hsz2 hnw h_1 => ?_)
  have hsz : H1.size = o + 2 := hsz2
  clear hsz2
  have ho := ho.eq (hnw o (k_mo (by decide)))
  have hlow : ∀ q, q < o → H1[q]? = s.heap[q]? := fun q hq9 => (hnw q (k_lt hq9)).trans (hlow q hq9)
  clear hnw
  refine q_putF (C := "KateDesk$Field") (T := T_Field) (N := 7) (ci := 1) (ty := .array (.long)) E ho in_Field ty_Field tyok_Field nm_Field rfl 1 (by decide) w_173 rfl rfl hnm rfl (by decide +kernel) rfl rfl (Nat.le_of_ble_eq_true rfl) na0 hF d_Field_init_9 (fun H2 locs hq ho2 hF => ?_)
  have hsz := hq.1.trans hsz
  have ho := ho2
  have h_1 := AJ.off hq (show ¬ o + 1 = o from k_m (by decide)) h_1
  have hlow : ∀ q, q < o → H2[q]? = s.heap[q]? := fun q hq9 => (hq.2 q (show ¬ q = o from Nat.ne_of_lt hq9)).trans (hlow q hq9)
  clear hq ho2
  refine lv_aload_n hx hb d_Field_init_12 rfl (lv_at hl 0 rfl) ?_
  refine lv_bipush (v := nI 14) hx hb d_Field_init_13 (by decide) ?_
  refine q_newJ E 14 rfl (by decide) w_64 (by decide) (by decide) hsz d_Field_init_15 (fun H3 hsz2 hnw h_2 => ?_)
  have hsz : H3.size = o + 3 := hsz2
  clear hsz2
  have ho := ho.eq (hnw o (k_mo (by decide)))
  have h_1 := h_1.eq (hnw _ (Nat.add_lt_add_left (by decide) _))
  have hlow : ∀ q, q < o → H3[q]? = s.heap[q]? := fun q hq9 => (hnw q (k_lt hq9)).trans (hlow q hq9)
  clear hnw
  refine q_putF (C := "KateDesk$Field") (T := T_Field) (N := 7) (ci := 1) (ty := .array (.long)) E ho in_Field ty_Field tyok_Field nm_Field rfl 2 (by decide) w_178 rfl rfl hnm rfl (by decide +kernel) rfl rfl (Nat.le_of_ble_eq_true rfl) na0 hF d_Field_init_17 (fun H4 locs hq ho2 hF => ?_)
  have hsz := hq.1.trans hsz
  have ho := ho2
  have h_1 := AJ.off hq (show ¬ o + 1 = o from k_m (by decide)) h_1
  have h_2 := AJ.off hq (show ¬ o + 2 = o from k_m (by decide)) h_2
  have hlow : ∀ q, q < o → H4[q]? = s.heap[q]? := fun q hq9 => (hq.2 q (show ¬ q = o from Nat.ne_of_lt hq9)).trans (hlow q hq9)
  clear hq ho2
  refine lv_aload_n hx hb d_Field_init_20 rfl (lv_at hl 0 rfl) ?_
  refine lv_bipush (v := nI 14) hx hb d_Field_init_21 (by decide) ?_
  refine q_newJ E 14 rfl (by decide) w_64 (by decide) (by decide) hsz d_Field_init_23 (fun H5 hsz2 hnw h_3 => ?_)
  have hsz : H5.size = o + 4 := hsz2
  clear hsz2
  have ho := ho.eq (hnw o (k_mo (by decide)))
  have h_1 := h_1.eq (hnw _ (Nat.add_lt_add_left (by decide) _))
  have h_2 := h_2.eq (hnw _ (Nat.add_lt_add_left (by decide) _))
  have hlow : ∀ q, q < o → H5[q]? = s.heap[q]? := fun q hq9 => (hnw q (k_lt hq9)).trans (hlow q hq9)
  clear hnw
  refine q_putF (C := "KateDesk$Field") (T := T_Field) (N := 7) (ci := 1) (ty := .array (.long)) E ho in_Field ty_Field tyok_Field nm_Field rfl 3 (by decide) w_179 rfl rfl hnm rfl (by decide +kernel) rfl rfl (Nat.le_of_ble_eq_true rfl) na0 hF d_Field_init_25 (fun H6 locs hq ho2 hF => ?_)
  have hsz := hq.1.trans hsz
  have ho := ho2
  have h_1 := AJ.off hq (show ¬ o + 1 = o from k_m (by decide)) h_1
  have h_2 := AJ.off hq (show ¬ o + 2 = o from k_m (by decide)) h_2
  have h_3 := AJ.off hq (show ¬ o + 3 = o from k_m (by decide)) h_3
  have hlow : ∀ q, q < o → H6[q]? = s.heap[q]? := fun q hq9 => (hq.2 q (show ¬ q = o from Nat.ne_of_lt hq9)).trans (hlow q hq9)
  clear hq ho2
  refine lv_aload_n hx hb d_Field_init_28 rfl (lv_at hl 0 rfl) ?_
  refine lv_bipush (v := nI 14) hx hb d_Field_init_29 (by decide) ?_
  refine q_newJ E 14 rfl (by decide) w_64 (by decide) (by decide) hsz d_Field_init_31 (fun H7 hsz2 hnw h_4 => ?_)
  have hsz : H7.size = o + 5 := hsz2
  clear hsz2
  have ho := ho.eq (hnw o (k_mo (by decide)))
  have h_1 := h_1.eq (hnw _ (Nat.add_lt_add_left (by decide) _))
  have h_2 := h_2.eq (hnw _ (Nat.add_lt_add_left (by decide) _))
  have h_3 := h_3.eq (hnw _ (Nat.add_lt_add_left (by decide) _))
  have hlow : ∀ q, q < o → H7[q]? = s.heap[q]? := fun q hq9 => (hnw q (k_lt hq9)).trans (hlow q hq9)
  clear hnw
  refine q_putF (C := "KateDesk$Field") (T := T_Field) (N := 7) (ci := 1) (ty := .array (.long)) E ho in_Field ty_Field tyok_Field nm_Field rfl 4 (by decide) w_180 rfl rfl hnm rfl (by decide +kernel) rfl rfl (Nat.le_of_ble_eq_true rfl) na0 hF d_Field_init_33 (fun H8 locs hq ho2 hF => ?_)
  have hsz := hq.1.trans hsz
  have ho := ho2
  have h_1 := AJ.off hq (show ¬ o + 1 = o from k_m (by decide)) h_1
  have h_2 := AJ.off hq (show ¬ o + 2 = o from k_m (by decide)) h_2
  have h_3 := AJ.off hq (show ¬ o + 3 = o from k_m (by decide)) h_3
  have h_4 := AJ.off hq (show ¬ o + 4 = o from k_m (by decide)) h_4
  have hlow : ∀ q, q < o → H8[q]? = s.heap[q]? := fun q hq9 => (hq.2 q (show ¬ q = o from Nat.ne_of_lt hq9)).trans (hlow q hq9)
  clear hq ho2
  refine lv_aload_n hx hb d_Field_init_36 rfl (lv_at hl 0 rfl) ?_
  refine lv_bipush (v := nI 14) hx hb d_Field_init_37 (by decide) ?_
  refine q_newJ E 14 rfl (by decide) w_64 (by decide) (by decide) hsz d_Field_init_39 (fun H9 hsz2 hnw h_5 => ?_)
  have hsz : H9.size = o + 6 := hsz2
  clear hsz2
  have ho := ho.eq (hnw o (k_mo (by decide)))
  have h_1 := h_1.eq (hnw _ (Nat.add_lt_add_left (by decide) _))
  have h_2 := h_2.eq (hnw _ (Nat.add_lt_add_left (by decide) _))
  have h_3 := h_3.eq (hnw _ (Nat.add_lt_add_left (by decide) _))
  have h_4 := h_4.eq (hnw _ (Nat.add_lt_add_left (by decide) _))
  have hlow : ∀ q, q < o → H9[q]? = s.heap[q]? := fun q hq9 => (hnw q (k_lt hq9)).trans (hlow q hq9)
  clear hnw
  refine q_putF (C := "KateDesk$Field") (T := T_Field) (N := 7) (ci := 1) (ty := .array (.long)) E ho in_Field ty_Field tyok_Field nm_Field rfl 5 (by decide) w_181 rfl rfl hnm rfl (by decide +kernel) rfl rfl (Nat.le_of_ble_eq_true rfl) na0 hF d_Field_init_41 (fun H10 locs hq ho2 hF => ?_)
  have hsz := hq.1.trans hsz
  have ho := ho2
  have h_1 := AJ.off hq (show ¬ o + 1 = o from k_m (by decide)) h_1
  have h_2 := AJ.off hq (show ¬ o + 2 = o from k_m (by decide)) h_2
  have h_3 := AJ.off hq (show ¬ o + 3 = o from k_m (by decide)) h_3
  have h_4 := AJ.off hq (show ¬ o + 4 = o from k_m (by decide)) h_4
  have h_5 := AJ.off hq (show ¬ o + 5 = o from k_m (by decide)) h_5
  have hlow : ∀ q, q < o → H10[q]? = s.heap[q]? := fun q hq9 => (hq.2 q (show ¬ q = o from Nat.ne_of_lt hq9)).trans (hlow q hq9)
  clear hq ho2
  refine lv_aload_n hx hb d_Field_init_44 rfl (lv_at hl 0 rfl) ?_
  refine lv_aload_n hx hb d_Field_init_45 rfl (lv_at hl 1 rfl) ?_
  have na6 : n0 (o + 6) := hna _ (by omega)
  have ho1 : OLD s0 H10 := hold.lt (hn0 _ na0) hlow
  refine q_cSW (rest := [.ref o]) E hw0 (c_Limbs_fromHex l g n0 s0 hn0 a 96 hb65 hks hkt (o + 6) (by decide) na6) w_90 w_5 w_88 w_89 hd_Limbs_fromHex rfl ⟨by decide, by decide⟩ (⟨ho1, hsz⟩) hF hl.1 rfl (Nat.le_of_ble_eq_true rfl) d_Field_init_46 ⟨by decide, by decide⟩ (qr (fun r H11 locs hq hF => ?_))
  obtain ⟨hr9, hsz2, hnw, h_6⟩ := hq
  subst hr9
  have hsz : H11.size = o + 7 := hsz2
  clear hsz2
  have ho := ho.eq (hnw o (k_mo (by decide)))
  have h_1 := h_1.eq (hnw _ (Nat.add_lt_add_left (by decide) _))
  have h_2 := h_2.eq (hnw _ (Nat.add_lt_add_left (by decide) _))
  have h_3 := h_3.eq (hnw _ (Nat.add_lt_add_left (by decide) _))
  have h_4 := h_4.eq (hnw _ (Nat.add_lt_add_left (by decide) _))
  have h_5 := h_5.eq (hnw _ (Nat.add_lt_add_left (by decide) _))
  have hlow : ∀ q, q < o → H11[q]? = s.heap[q]? := fun q hq9 => (hnw q (k_lt hq9)).trans (hlow q hq9)
  clear hnw ho1
  have h_6 := h_6.ext kQ_hx
  refine q_putF (C := "KateDesk$Field") (T := T_Field) (N := 7) (ci := 1) (ty := .array (.long)) E ho in_Field ty_Field tyok_Field nm_Field rfl 0 (by decide) w_170 rfl rfl hnm rfl (by decide +kernel) rfl rfl (Nat.le_of_ble_eq_true rfl) na0 hF d_Field_init_49 (fun H12 locs hq ho2 hF => ?_)
  have hsz := hq.1.trans hsz
  have ho := ho2
  have h_1 := AJ.off hq (show ¬ o + 1 = o from k_m (by decide)) h_1
  have h_2 := AJ.off hq (show ¬ o + 2 = o from k_m (by decide)) h_2
  have h_3 := AJ.off hq (show ¬ o + 3 = o from k_m (by decide)) h_3
  have h_4 := AJ.off hq (show ¬ o + 4 = o from k_m (by decide)) h_4
  have h_5 := AJ.off hq (show ¬ o + 5 = o from k_m (by decide)) h_5
  have h_6 := AJ.off hq (show ¬ o + 6 = o from k_m (by decide)) h_6
  have hlow : ∀ q, q < o → H12[q]? = s.heap[q]? := fun q hq9 => (hq.2 q (show ¬ q = o from Nat.ne_of_lt hq9)).trans (hlow q hq9)
  clear hq ho2
  refine lv_aload_n hx hb d_Field_init_52 rfl (lv_at hl 0 rfl) ?_
  refine lv_aload_n hx hb d_Field_init_53 rfl (lv_at hl 0 rfl) ?_
  refine q_get (C := "KateDesk$Field") (T := T_Field) (N := 7) (ci := 1) E ho in_Field rfl 0 (by decide) w_170 rfl rfl d_Field_init_54 ?_
  refine lv_iconst (v := nI 0) hx hb d_Field_init_57 (by decide) ?_
  refine q_lald (N := 14) (f := kQ) E h_6 0 rfl (by decide) (by decide) d_Field_init_58 ?_
  refine lv_topl (fun t9 e9 => ?_)
  obtain rfl : t9 = 268413611 := e9.trans (kQ_0)
  refine q_cS (rest := [.ref o]) E (Q_Field_minusInverseOf l g n0) w_141 w_4 w_139 w_140 hd_Field_minusInverseOf rfl ⟨by decide, by decide⟩ trivial hF hl.1 rfl (Nat.le_of_ble_eq_true rfl) d_Field_init_59 ⟨by decide, by decide⟩ (ql (fun mi H13 locs hq hF => ?_))
  obtain ⟨rfl, hq⟩ := hq
  have hq := hq.symm
  subst hq
  refine q_putF (C := "KateDesk$Field") (T := T_Field) (N := 7) (ci := 1) (ty := .long) E ho in_Field ty_Field tyok_Field nm_Field rfl 6 (by decide) w_182 rfl rfl hnm rfl (by decide +kernel) rfl rfl (Nat.le_of_ble_eq_true rfl) na0 hF d_Field_init_62 (fun H14 locs hq ho2 hF => ?_)
  have hsz := hq.1.trans hsz
  have ho := ho2
  have h_1 := AJ.off hq (show ¬ o + 1 = o from k_m (by decide)) h_1
  have h_2 := AJ.off hq (show ¬ o + 2 = o from k_m (by decide)) h_2
  have h_3 := AJ.off hq (show ¬ o + 3 = o from k_m (by decide)) h_3
  have h_4 := AJ.off hq (show ¬ o + 4 = o from k_m (by decide)) h_4
  have h_5 := AJ.off hq (show ¬ o + 5 = o from k_m (by decide)) h_5
  have h_6 := AJ.off hq (show ¬ o + 6 = o from k_m (by decide)) h_6
  have hlow : ∀ q, q < o → H14[q]? = s.heap[q]? := fun q hq9 => (hq.2 q (show ¬ q = o from Nat.ne_of_lt hq9)).trans (hlow q hq9)
  clear hq ho2
  have hfd : FD g n0 H14 o (kF o) 268238845 := fd_mk ho hna h_1 h_2 h_3 h_4 h_5 h_6
  have hk : KJ g (fun q => o + 1 ≤ q ∧ q ≤ o + 5) H14 H14 := KJ.rf
  clear ho
  refine lv_aload_n hx hb d_Field_init_65 rfl (lv_at hl 0 rfl) ?_
  refine q_get (C := "KateDesk$Field") (T := T_Field) (N := 7) (ci := 1) E ((hk.fd hK hfd).1) in_Field rfl 2 (by decide) w_178 rfl rfl d_Field_init_66 ?_
  refine lv_iconst (v := nI 0) hx hb d_Field_init_69 (by decide) ?_
  refine lv_lconst (v := 1) hx hb d_Field_init_70 (by decide) ?_
  refine q_last E (show AJ g H14 (kF o 2) 14 (fun _ => 0) from h_2) (show n0 (kF o 2) from na2) hF 0 rfl (by decide) (by decide) d_Field_init_71 (fun H15 locs hq h_2 hF => ?_)
  have h_1 := hq.ajo (show ¬ o + 1 = o + 2 from k_ne (by decide)) h_1
  have h_3 := hq.ajo (show ¬ o + 3 = o + 2 from k_ne (by decide)) h_3
  have h_4 := hq.ajo (show ¬ o + 4 = o + 2 from k_ne (by decide)) h_4
  have h_6 := hq.ajo (show ¬ o + 6 = o + 2 from k_ne (by decide)) h_6
  have hk := hk.tr (hq.mono (fun q e => kf_S (i := 2) (by decide) (by decide) e))
  refine lv_aload_n hx hb d_Field_init_72 rfl (lv_at hl 0 rfl) ?_
  refine q_get (C := "KateDesk$Field") (T := T_Field) (N := 7) (ci := 1) E ((hk.fd hK hfd).1) in_Field rfl 1 (by decide) w_173 rfl rfl d_Field_init_73 ?_
  refine lv_aload_n hx hb d_Field_init_76 rfl (lv_at hl 0 rfl) ?_
  refine q_get (C := "KateDesk$Field") (T := T_Field) (N := 7) (ci := 1) E ((hk.fd hK hfd).1) in_Field rfl 2 (by decide) w_178 rfl rfl d_Field_init_77 ?_
  refine q_cS (rest := []) E (c_Limbs_copy l g n0 (kF o 1) (kF o 2) _) w_146 w_5 w_144 w_145 hd_Limbs_copy rfl ⟨by decide, by decide⟩ (⟨⟨na1, _, h_1⟩, h_2⟩) hF hl.1 rfl (Nat.le_of_ble_eq_true rfl) d_Field_init_80 ⟨by decide, by decide⟩ (qv (fun H16 locs hq hF => ?_))
  obtain ⟨hq, h_1⟩ := hq
  have h_2 := hq.ajo (show ¬ o + 2 = o + 1 from k_ne (by decide)) h_2
  have h_3 := hq.ajo (show ¬ o + 3 = o + 1 from k_ne (by decide)) h_3
  have h_4 := hq.ajo (show ¬ o + 4 = o + 1 from k_ne (by decide)) h_4
  have h_6 := hq.ajo (show ¬ o + 6 = o + 1 from k_ne (by decide)) h_6
  have hk := hk.tr (hq.mono (fun q e => kf_S (i := 1) (by decide) (by decide) e))
  refine lv_aload_n hx hb d_Field_init_83 rfl (lv_at hl 0 rfl) ?_
  refine lv_aload_n hx hb d_Field_init_84 rfl (lv_at hl 0 rfl) ?_
  refine q_get (C := "KateDesk$Field") (T := T_Field) (N := 7) (ci := 1) E ((hk.fd hK hfd).1) in_Field rfl 1 (by decide) w_173 rfl rfl d_Field_init_85 ?_
  refine lv_sipush (v := nI 392) hx hb d_Field_init_88 (by decide) ?_
  refine q_cV (rest := []) E (Q_Field_doubled l g n0 o (kF o 1) 392 (kF o) 268238845 (by decide) _ 1 RV_1 (by decide) (show o + 6 ≠ o + 1 from k_ne (by decide))) w_153 w_4 w_150 w_152 (bw_s 0 rfl) hd_Field_doubled rfl ⟨by decide, by decide⟩ (OB.recv E.2.2.2.2.2 (by rfl) ((hk.fd hK hfd).1)) (⟨(hk.fd hK hfd), na1, h_1, h_6⟩) hF hl.1 rfl (Nat.le_of_ble_eq_true rfl) d_Field_init_91 ⟨by decide, by decide⟩ (qv (fun H17 locs hq hF => ?_))
  obtain ⟨hq, g1, h_1, v_1⟩ := hq
  rw [LLq_1] at v_1
  have h_2 := hq.ajo (show ¬ o + 2 = o + 1 from k_ne (by decide)) h_2
  have h_3 := hq.ajo (show ¬ o + 3 = o + 1 from k_ne (by decide)) h_3
  have h_4 := hq.ajo (show ¬ o + 4 = o + 1 from k_ne (by decide)) h_4
  have h_6 := hq.ajo (show ¬ o + 6 = o + 1 from k_ne (by decide)) h_6
  have hk := hk.tr (hq.mono (fun q e => kf_S (i := 1) (by decide) (by decide) e))
  refine lv_aload_n hx hb d_Field_init_94 rfl (lv_at hl 0 rfl) ?_
  refine q_get (C := "KateDesk$Field") (T := T_Field) (N := 7) (ci := 1) E ((hk.fd hK hfd).1) in_Field rfl 3 (by decide) w_179 rfl rfl d_Field_init_95 ?_
  refine lv_aload_n hx hb d_Field_init_98 rfl (lv_at hl 0 rfl) ?_
  refine q_get (C := "KateDesk$Field") (T := T_Field) (N := 7) (ci := 1) E ((hk.fd hK hfd).1) in_Field rfl 1 (by decide) w_173 rfl rfl d_Field_init_99 ?_
  refine q_cS (rest := []) E (c_Limbs_copy l g n0 (kF o 3) (kF o 1) g1) w_146 w_5 w_144 w_145 hd_Limbs_copy rfl ⟨by decide, by decide⟩ (⟨⟨na3, _, h_3⟩, h_1⟩) hF hl.1 rfl (Nat.le_of_ble_eq_true rfl) d_Field_init_102 ⟨by decide, by decide⟩ (qv (fun H18 locs hq hF => ?_))
  obtain ⟨hq, h_3⟩ := hq
  have h_1 := hq.ajo (show ¬ o + 1 = o + 3 from k_ne (by decide)) h_1
  have h_2 := hq.ajo (show ¬ o + 2 = o + 3 from k_ne (by decide)) h_2
  have h_4 := hq.ajo (show ¬ o + 4 = o + 3 from k_ne (by decide)) h_4
  have h_6 := hq.ajo (show ¬ o + 6 = o + 3 from k_ne (by decide)) h_6
  have hk := hk.tr (hq.mono (fun q e => kf_S (i := 3) (by decide) (by decide) e))
  refine lv_aload_n hx hb d_Field_init_105 rfl (lv_at hl 0 rfl) ?_
  refine lv_aload_n hx hb d_Field_init_106 rfl (lv_at hl 0 rfl) ?_
  refine q_get (C := "KateDesk$Field") (T := T_Field) (N := 7) (ci := 1) E ((hk.fd hK hfd).1) in_Field rfl 3 (by decide) w_179 rfl rfl d_Field_init_107 ?_
  refine lv_bipush (v := nI 49) hx hb d_Field_init_110 (by decide) ?_
  refine q_cV (rest := []) E (Q_Field_doubled l g n0 o (kF o 3) 49 (kF o) 268238845 (by decide) g1 WQ v_1 WQ_r.2 (show o + 6 ≠ o + 3 from k_ne (by decide))) w_153 w_4 w_150 w_152 (bw_s 0 rfl) hd_Field_doubled rfl ⟨by decide, by decide⟩ (OB.recv E.2.2.2.2.2 (by rfl) ((hk.fd hK hfd).1)) (⟨(hk.fd hK hfd), na3, h_3, h_6⟩) hF hl.1 rfl (Nat.le_of_ble_eq_true rfl) d_Field_init_112 ⟨by decide, by decide⟩ (qv (fun H19 locs hq hF => ?_))
  obtain ⟨hq, g3, h_3, v_3⟩ := hq
  rw [LLq_0] at v_3
  have h_1 := hq.ajo (show ¬ o + 1 = o + 3 from k_ne (by decide)) h_1
  have h_2 := hq.ajo (show ¬ o + 2 = o + 3 from k_ne (by decide)) h_2
  have h_4 := hq.ajo (show ¬ o + 4 = o + 3 from k_ne (by decide)) h_4
  have h_6 := hq.ajo (show ¬ o + 6 = o + 3 from k_ne (by decide)) h_6
  have hk := hk.tr (hq.mono (fun q e => kf_S (i := 3) (by decide) (by decide) e))
  have lp : ∀ (k : Nat) (i : Nat) (H : Heap) (locs : List Loc) (ls : Array Slot) (g3 : Nat → Int64), i + k = 3 → KJ g (fun q => o + 1 ≤ q ∧ q ≤ o + 5) H14 H → AJ g H (o + 1) 14 g1 → AJ g H (o + 2) 14 (vp_updL (fun _ => 0) 0 1) → AJ g H (o + 3) 14 g3 → RV g3 (LLq i) → AJ g H (o + 4) 14 (fun _ => 0) → AJ g H (o + 6) 14 kQ → (∀ q ∈ locs, n0 q.base) → lv_has ls 3 [(2, .int (nI i)), (1, .ref a), (0, .ref o)] → W p l e { frames := 5, cells := 6, slots := 84, locals := 135 } s m [.ref o, .ref a].toArray below meth c H locs 6 84 (MQ below (QcP (QV (fun H H' => (FD g n0 H' o (kF o) 268238845 ∧ FQ4 g H' o) ∧ H'.size = o + 7 ∧ ∀ q, q < o → H'[q]? = H[q]?))) [.ref o, .ref a].toArray s 6 84 (fun q => n0 q)) (F0 m 117 ls []) := by
    intro k
    induction k with
    | zero =>
      intro  i   H   locs   ls   g3 hi hk h_1 h_2 h_3 v_3 h_4 h_6 hF hl
      obtain rfl : i = 3 := by omega
      refine lv_iload_n hx hb d_Field_init_117 rfl (lv_at hl 0 rfl) ?_
      refine lv_iconst (v := nI 3) hx hb d_Field_init_118 (by decide) ?_
      refine lv_icmp_ge (tgt := 144) hx hb d_Field_init_119 (by decide) (fun _ => ?_) (fun h9 => absurd (by decide) h9)
      refine lv_aload_n hx hb d_Field_init_144 rfl (lv_at hl 2 rfl) ?_
      refine lv_aload_n hx hb d_Field_init_145 rfl (lv_at hl 2 rfl) ?_
      refine q_get (C := "KateDesk$Field") (T := T_Field) (N := 7) (ci := 1) E ((hk.fd hK hfd).1) in_Field rfl 4 (by decide) w_180 rfl rfl d_Field_init_146 ?_
      refine lv_aload_n hx hb d_Field_init_149 rfl (lv_at hl 2 rfl) ?_
      refine q_get (C := "KateDesk$Field") (T := T_Field) (N := 7) (ci := 1) E ((hk.fd hK hfd).1) in_Field rfl 4 (by decide) w_180 rfl rfl d_Field_init_150 ?_
      refine lv_aload_n hx hb d_Field_init_153 rfl (lv_at hl 2 rfl) ?_
      refine q_get (C := "KateDesk$Field") (T := T_Field) (N := 7) (ci := 1) E ((hk.fd hK hfd).1) in_Field rfl 2 (by decide) w_178 rfl rfl d_Field_init_154 ?_
      refine q_cV (rest := []) E (V_Field_subtract l g n0 o (kF o 4) (kF o 4) (kF o 2) (kF o) 268238845 (fun _ => 0) (vp_updL (fun _ => 0) 0 1) kQ 0 1 QJ RV_z RV_1 kQ_rv QJ_pos (by decide) (show o + 6 ≠ o + 4 from k_ne (by decide))) w_169 w_4 w_166 w_167 w_168 hd_Field_subtract rfl ⟨by decide, by decide⟩ (OB.recv E.2.2.2.2.2 (by rfl) ((hk.fd hK hfd).1)) (⟨(hk.fd hK hfd), ⟨na4, _, h_4⟩, h_4, h_2, h_6⟩) hF hl.1 rfl (Nat.le_of_ble_eq_true rfl) d_Field_init_157 ⟨by decide, by decide⟩ (qv (fun H1 locs hq hF => ?_))
      obtain ⟨hq, g4, h_4, v_4⟩ := hq
      rw [qsub_a] at v_4
      have h_1 := hq.ajo (show ¬ o + 1 = o + 4 from k_ne (by decide)) h_1
      have h_2 := hq.ajo (show ¬ o + 2 = o + 4 from k_ne (by decide)) h_2
      have h_3 := hq.ajo (show ¬ o + 3 = o + 4 from k_ne (by decide)) h_3
      have h_6 := hq.ajo (show ¬ o + 6 = o + 4 from k_ne (by decide)) h_6
      have hk := hk.tr (hq.mono (fun q e => kf_S (i := 4) (by decide) (by decide) e))
      refine lv_aload_n hx hb d_Field_init_160 rfl (lv_at hl 2 rfl) ?_
      refine lv_aload_n hx hb d_Field_init_161 rfl (lv_at hl 2 rfl) ?_
      refine q_get (C := "KateDesk$Field") (T := T_Field) (N := 7) (ci := 1) E ((hk.fd hK hfd).1) in_Field rfl 4 (by decide) w_180 rfl rfl d_Field_init_162 ?_
      refine lv_aload_n hx hb d_Field_init_165 rfl (lv_at hl 2 rfl) ?_
      refine q_get (C := "KateDesk$Field") (T := T_Field) (N := 7) (ci := 1) E ((hk.fd hK hfd).1) in_Field rfl 4 (by decide) w_180 rfl rfl d_Field_init_166 ?_
      refine lv_aload_n hx hb d_Field_init_169 rfl (lv_at hl 2 rfl) ?_
      refine q_get (C := "KateDesk$Field") (T := T_Field) (N := 7) (ci := 1) E ((hk.fd hK hfd).1) in_Field rfl 2 (by decide) w_178 rfl rfl d_Field_init_170 ?_
      refine q_cV (rest := []) E (V_Field_subtract l g n0 o (kF o 4) (kF o 4) (kF o 2) (kF o) 268238845 g4 (vp_updL (fun _ => 0) 0 1) kQ (QJ - 1) 1 QJ v_4 RV_1 kQ_rv (by decide) (by decide) (show o + 6 ≠ o + 4 from k_ne (by decide))) w_169 w_4 w_166 w_167 w_168 hd_Field_subtract rfl ⟨by decide, by decide⟩ (OB.recv E.2.2.2.2.2 (by rfl) ((hk.fd hK hfd).1)) (⟨(hk.fd hK hfd), ⟨na4, _, h_4⟩, h_4, h_2, h_6⟩) hF hl.1 rfl (Nat.le_of_ble_eq_true rfl) d_Field_init_173 ⟨by decide, by decide⟩ (qv (fun H2 locs hq hF => ?_))
      obtain ⟨hq, g5, h_4, v_4⟩ := hq
      rw [qsub_b] at v_4
      have h_1 := hq.ajo (show ¬ o + 1 = o + 4 from k_ne (by decide)) h_1
      have h_2 := hq.ajo (show ¬ o + 2 = o + 4 from k_ne (by decide)) h_2
      have h_3 := hq.ajo (show ¬ o + 3 = o + 4 from k_ne (by decide)) h_3
      have h_6 := hq.ajo (show ¬ o + 6 = o + 4 from k_ne (by decide)) h_6
      have hk := hk.tr (hq.mono (fun q e => kf_S (i := 4) (by decide) (by decide) e))
      exact q_vret E hr hlk (⟨rfl, ⟨(hk.fd hK hfd), h_6, ⟨_, h_1, v_1⟩, ⟨_, h_2, RV_1⟩, ⟨_, h_3, v_3⟩, _, h_4, v_4⟩, hk.1.trans hsz, fun q hq9 => (hk.off (kf_q hq9)).trans (hlow q hq9)⟩) hF d_Field_init_176
    | succ k ih =>
      intro  i   H   locs   ls   g3 hi hk h_1 h_2 h_3 v_3 h_4 h_6 hF hl
      refine lv_iload_n hx hb d_Field_init_117 rfl (lv_at hl 0 rfl) ?_
      refine lv_iconst (v := nI 3) hx hb d_Field_init_118 (by decide) ?_
      refine lv_icmp_ge (tgt := 144) hx hb d_Field_init_119 (by decide) (fun h9 => absurd h9 (nI_ge (by omega) (by decide))) (fun _ => ?_)
      refine lv_aload_n hx hb d_Field_init_122 rfl (lv_at hl 2 rfl) ?_
      refine lv_aload_n hx hb d_Field_init_123 rfl (lv_at hl 2 rfl) ?_
      refine q_get (C := "KateDesk$Field") (T := T_Field) (N := 7) (ci := 1) E ((hk.fd hK hfd).1) in_Field rfl 3 (by decide) w_179 rfl rfl d_Field_init_124 ?_
      refine lv_aload_n hx hb d_Field_init_127 rfl (lv_at hl 2 rfl) ?_
      refine q_get (C := "KateDesk$Field") (T := T_Field) (N := 7) (ci := 1) E ((hk.fd hK hfd).1) in_Field rfl 3 (by decide) w_179 rfl rfl d_Field_init_128 ?_
      refine lv_aload_n hx hb d_Field_init_131 rfl (lv_at hl 2 rfl) ?_
      refine q_get (C := "KateDesk$Field") (T := T_Field) (N := 7) (ci := 1) E ((hk.fd hK hfd).1) in_Field rfl 3 (by decide) w_179 rfl rfl d_Field_init_132 ?_
      refine q_cV (rest := []) E (Q_Field_multiply l g n0 o (kF o 3) (kF o 3) (kF o 3) (kF o) 268238845 g3 g3 (LLq i) (LLq i) v_3 v_3 (LLq_r i (by omega)).2 (LLq_r i (by omega)).2 (show o + 6 ≠ o + 3 from k_ne (by decide)) rfl) w_165 w_4 w_162 w_163 w_164 hd_Field_multiply rfl ⟨by decide, by decide⟩ (OB.recv E.2.2.2.2.2 (by rfl) ((hk.fd hK hfd).1)) (⟨(hk.fd hK hfd), ⟨na3, _, h_3⟩, h_3, h_3, h_6⟩) hF hl.1 rfl (Nat.le_of_ble_eq_true rfl) d_Field_init_135 ⟨by decide, by decide⟩ (qv (fun H1 locs hq hF => ?_))
      obtain ⟨hq, g9, h_3, v_9⟩ := hq
      rw [LLq_s i (by omega)] at v_9
      have h_1 := hq.ajo (show ¬ o + 1 = o + 3 from k_ne (by decide)) h_1
      have h_2 := hq.ajo (show ¬ o + 2 = o + 3 from k_ne (by decide)) h_2
      have h_4 := hq.ajo (show ¬ o + 4 = o + 3 from k_ne (by decide)) h_4
      have h_6 := hq.ajo (show ¬ o + 6 = o + 3 from k_ne (by decide)) h_6
      have hk := hk.tr (hq.mono (fun q e => kf_S (i := 3) (by decide) (by decide) e))
      refine lv_iinc (k := 0) (v := nI (i + 1)) (lv' := [(2, .int (nI (i + 1))), (1, .ref a), (0, .ref o)]) hx hb d_Field_init_138 hl rfl (i_inc i) (by decide) rfl (fun ls hl => ?_)
      refine lv_goto (tgt := 117) hx hb d_Field_init_141 (by decide) ?_
      have hl : lv_has ls 3 [(2, .int (nI (i + 1))), (1, .ref a), (0, .ref o)] := lv_sub hl [0, 1, 2] rfl
      exact ih (i + 1) _ _ ls g9 (by omega) hk h_1 h_2 h_3 v_9 h_4 h_6 hF hl
  refine lv_iconst (v := nI 0) hx hb d_Field_init_115 (by decide) ?_
  refine lv_istore_n (lv' := [(2, .int (nI 0)), (0, .ref o), (1, .ref a)]) hx hb d_Field_init_116 rfl hl (by decide) rfl (fun ls hl => ?_)
  have hl : lv_has ls 3 [(2, .int (nI 0)), (1, .ref a), (0, .ref o)] := lv_sub hl [0, 2, 1] rfl
  exact lp 3 0 _ _ ls g3 (by omega) hk h_1 h_2 h_3 v_3 h_4 h_6 hF hl
