set_option maxHeartbeats 4000000 in
set_option maxRecDepth 100000 in
theorem W_Model_setByte (l : Launch) (g : WG) (n0 : Nat → Prop) (mo a kb v : Nat) (th pw td wr : Int32) (w n : Nat) (hw : WH w n) (fd : Nat → Int64) (ha : a < 170) (hkb : kb < 32) (hv : v < 256) (hV : SV fd a 14 < ((256 ^ kb : Nat) : Int)) : Ctr l y_Model_setByte (.code y_Model_setByte prog_11_method_25_code 5 none) 0 0 0 0 n0 g [.ref mo, .int (nI a), .int (nI kb), .int (nI v)] (fun H => MS g n0 H mo th pw td wr w n fd) (QV (fun H H' => FRM (MR mo) H H' ∧ ∃ fd', MS g n0 H' mo th pw td wr w n fd' ∧ (∀ j, (j < 14 * a ∨ 14 * a + 14 ≤ j) → fd' j = fd j) ∧ SV fd' a 14 = SV fd a 14 + ((v * 256 ^ kb : Nat) : Int))) := by
  refine ctr_mk l (lv0 := [(0, .ref mo), (1, .int (nI a)), (2, .int (nI kb)), (3, .int (nI v))]) (by decide) (Nat.le_of_ble_eq_true rfl) rfl ?_
  intro p e s m below meth c ls E hr hlk hnm hl hP
  have hx := E.1
  have hb := E.2.1
  have hK := E.2.2.2.2.2
  have hF : ∀ q ∈ ([] : List Loc), n0 q.base := fun q hq => absurd hq List.not_mem_nil
  have hm := hP
  have hDD := hm.2.2.2.2.2.1
  obtain ⟨hpd, hn1, hn14, hw1, hPT, hP1, hT0, hT1⟩ := wh_kP hw
  have hfr : FRM (MR mo) s.heap s.heap := FRM.rf
  have loop : ∀ (k : Nat) (i : Nat) (H : Heap) (locs : List Loc) (ls : Array Slot) (fd1 : Nat → Int64), i + k = 8 → FRM (MR mo) s.heap H → MS g n0 H mo th pw td wr w n fd1 → (∀ j, (j < 14 * a ∨ 14 * a + 14 ≤ j) → fd1 j = fd j) → SV fd1 a 14 = SV fd a 14 + ((v % 2 ^ i * 256 ^ kb : Nat) : Int) → (∀ q ∈ locs, n0 q.base) → lv_has ls 5 [(4, .int (nI i)), (0, .ref mo), (1, .int (nI a)), (2, .int (nI kb)), (3, .int (nI v))] → W p l e { frames := 0, cells := 0, slots := 0, locals := 0 } s m [.ref mo, .int (nI a), .int (nI kb), .int (nI v)].toArray below meth c H locs 0 0 (MQ below (QcP (QV (fun H H' => FRM (MR mo) H H' ∧ ∃ fd', MS g n0 H' mo th pw td wr w n fd' ∧ (∀ j, (j < 14 * a ∨ 14 * a + 14 ≤ j) → fd' j = fd j) ∧ SV fd' a 14 = SV fd a 14 + ((v * 256 ^ kb : Nat) : Int)))) [.ref mo, .int (nI a), .int (nI kb), .int (nI v)].toArray s 0 0 (fun q => n0 q)) (F0 m 3 ls []) := by
    intro k
    induction k with
    | zero =>
      intro  i   H   locs   ls   fd1 hi hfr hm ho hS hF hl
      obtain rfl : i = 8 := by omega
      refine lv_iload hx hb d_Model_setByte_3 (lv_at hl 0 rfl) ?_
      refine lv_bipush (v := nI 8) hx hb d_Model_setByte_5 (by decide) ?_
      refine lv_icmp_ge (tgt := 61) hx hb d_Model_setByte_7 (by decide) (fun _ => ?_) (fun h9 => absurd (by decide) h9)
      rw [Nat.mod_eq_of_lt (show v < 2 ^ 8 from hv)] at hS
      exact q_vret E hr hlk (⟨rfl, hfr, _, hm, ho, hS⟩) hF d_Model_setByte_61
    | succ k ih =>
      intro  i   H   locs   ls   fd1 hi hfr hm ho hS hF hl
      refine lv_iload hx hb d_Model_setByte_3 (lv_at hl 0 rfl) ?_
      refine lv_bipush (v := nI 8) hx hb d_Model_setByte_5 (by decide) ?_
      refine lv_icmp_ge (tgt := 61) hx hb d_Model_setByte_7 (by decide) (fun h9 => absurd h9 (nI_ge (by omega) (by decide))) (fun _ => ?_)
      refine lv_iload_n hx hb d_Model_setByte_10 rfl (lv_at hl 4 rfl) ?_
      refine lv_iload hx hb d_Model_setByte_11 (lv_at hl 0 rfl) ?_
      refine lv_ishr hx hb d_Model_setByte_13 ?_
      refine lv_iconst (v := nI 1) hx hb d_Model_setByte_14 (by decide) ?_
      refine lv_iand hx hb d_Model_setByte_15 ?_
      refine lv_topi (fun t9 e9 => ?_)
      obtain rfl : t9 = nI (v / 2 ^ i % 2) := e9.trans (bit8 v hv i (by omega))
      refine lv_iconst (v := nI 1) hx hb d_Model_setByte_16 (by decide) ?_
      refine lv_icmp_ne (tgt := 55) hx hb d_Model_setByte_17 (by decide) (fun hc => ?_) (fun hc => ?_)
      rotate_left
      · skip
        have hc : v / 2 ^ i % 2 = 1 := (nI_eq (by omega) (by decide)).mp hc
        have hD := hm.2.2.2.2.2.1
        refine lv_aload_n hx hb d_Model_setByte_20 rfl (lv_at hl 1 rfl) ?_
        refine q_get (C := "KateDeskModel") (T := T_Model) (N := 14) (ci := 8) E hm.1 in_Model rfl 1 (by decide) w_1002 rfl rfl d_Model_setByte_21 ?_
        refine lv_bipush (v := nI 14) hx hb d_Model_setByte_24 (by decide) ?_
        refine lv_iload_n hx hb d_Model_setByte_26 rfl (lv_at hl 2 rfl) ?_
        refine lv_imul hx hb d_Model_setByte_27 ?_
        refine lv_topi (fun t9 e9 => ?_)
        obtain rfl : t9 = nI (14 * a) := e9.trans (pk_mul _ _)
        refine lv_bipush (v := nI 8) hx hb d_Model_setByte_28 (by decide) ?_
        refine lv_iload_n hx hb d_Model_setByte_30 rfl (lv_at hl 3 rfl) ?_
        refine lv_imul hx hb d_Model_setByte_31 ?_
        refine lv_topi (fun t9 e9 => ?_)
        obtain rfl : t9 = nI (8 * kb) := e9.trans (pk_mul _ _)
        refine lv_iload hx hb d_Model_setByte_32 (lv_at hl 0 rfl) ?_
        refine lv_iadd hx hb d_Model_setByte_34 ?_
        refine lv_topi (fun t9 e9 => ?_)
        obtain rfl : t9 = nI ((8 * kb) + i) := e9.trans (nI_add _ _)
        refine lv_bipush (v := nI 28) hx hb d_Model_setByte_35 (by decide) ?_
        refine lv_idiv hx hb d_Model_setByte_37 (by decide) ?_
        refine lv_topi (fun t9 e9 => ?_)
        obtain rfl : t9 = nI ((8 * kb + i) / 28) := e9.trans (pk_div (by omega) (by decide) (by decide))
        refine lv_iadd hx hb d_Model_setByte_38 ?_
        refine lv_topi (fun t9 e9 => ?_)
        obtain rfl : t9 = nI ((14 * a) + ((8 * kb + i) / 28)) := e9.trans (nI_add _ _)
        refine lv_dup2_11 hx hb d_Model_setByte_39 rfl rfl ?_
        refine q_lald (N := 2380) (f := fd1) E hm.2.2.2.2.1 (14 * a + (8 * kb + i) / 28) rfl (by omega) (by decide) d_Model_setByte_40 ?_
        refine lv_lconst (v := 1) hx hb d_Model_setByte_41 (by decide) ?_
        refine lv_bipush (v := nI 8) hx hb d_Model_setByte_42 (by decide) ?_
        refine lv_iload_n hx hb d_Model_setByte_44 rfl (lv_at hl 3 rfl) ?_
        refine lv_imul hx hb d_Model_setByte_45 ?_
        refine lv_topi (fun t9 e9 => ?_)
        obtain rfl : t9 = nI (8 * kb) := e9.trans (pk_mul _ _)
        refine lv_iload hx hb d_Model_setByte_46 (lv_at hl 0 rfl) ?_
        refine lv_iadd hx hb d_Model_setByte_48 ?_
        refine lv_topi (fun t9 e9 => ?_)
        obtain rfl : t9 = nI ((8 * kb) + i) := e9.trans (nI_add _ _)
        refine lv_bipush (v := nI 28) hx hb d_Model_setByte_49 (by decide) ?_
        refine lv_irem hx hb d_Model_setByte_51 (by decide) ?_
        refine lv_topi (fun t9 e9 => ?_)
        obtain rfl : t9 = nI ((8 * kb + i) - (8 * kb + i) / 28 * 28) := e9.trans (rem28 (by omega))
        refine lv_lshl (v := 1 <<< ((nI ((8 * kb + i) - (8 * kb + i) / 28 * 28)).toInt64 &&& 63)) hx hb d_Model_setByte_52 rfl ?_
        refine lv_lor hx hb d_Model_setByte_53 ?_
        have hdv : dg ((fd1 (14 * a + (8 * kb + i) / 28)) ||| (1 <<< ((nI ((8 * kb + i) - (8 * kb + i) / 28 * 28)).toInt64 &&& 63))) := dg_or (hm.2.2.2.2.2.1 _ (by omega)) (dg_1sh _ (by omega))
        refine q_last E hm.2.2.2.2.1 hm.2.2.2.2.2.2.1 hF (14 * a + (8 * kb + i) / 28) rfl (by omega) (by decide) d_Model_setByte_54 (fun H1 locs hq hf2 hF => ?_)
        have hm := hm.step hK (hq.mono (fun q h => Or.inl h)) hf2 ((hm.2.2.2.2.2.1).upd hdv)
        have hfr := hfr.tr (kjR1 hq)
        refine lv_iinc (k := 0) (v := nI (i + 1)) (lv' := [(4, .int (nI (i + 1))), (0, .ref mo), (1, .int (nI a)), (2, .int (nI kb)), (3, .int (nI v))]) hx hb d_Model_setByte_55 hl rfl (i_inc i) (by decide) rfl (fun ls hl => ?_)
        refine lv_goto (tgt := 3) hx hb d_Model_setByte_58 (by decide) ?_
        have hl : lv_has ls 5 [(4, .int (nI (i + 1))), (0, .ref mo), (1, .int (nI a)), (2, .int (nI kb)), (3, .int (nI v))] := lv_sub hl [0, 1, 2, 3, 4] rfl
        exact ih (i + 1) _ _ ls _ (by omega) hfr hm (fun j hj => by rw [pk_uLn (by omega)]; exact ho j hj) (setb hkb (by omega) hD ha hV hS hc) hF hl
      have hc : v / 2 ^ i % 2 ≠ 1 := fun e => hc (by rw [e])
      refine lv_iinc (k := 0) (v := nI (i + 1)) (lv' := [(4, .int (nI (i + 1))), (0, .ref mo), (1, .int (nI a)), (2, .int (nI kb)), (3, .int (nI v))]) hx hb d_Model_setByte_55 hl rfl (i_inc i) (by decide) rfl (fun ls hl => ?_)
      refine lv_goto (tgt := 3) hx hb d_Model_setByte_58 (by decide) ?_
      have hl : lv_has ls 5 [(4, .int (nI (i + 1))), (0, .ref mo), (1, .int (nI a)), (2, .int (nI kb)), (3, .int (nI v))] := lv_sub hl [0, 1, 2, 3, 4] rfl
      exact ih (i + 1) _ _ ls _ (by omega) hfr hm ho (hS.trans (by rw [setb0 hc])) hF hl
  refine lv_iconst (v := nI 0) hx hb d_Model_setByte_0 (by decide) ?_
  refine lv_istore (lv' := [(4, .int (nI 0)), (0, .ref mo), (1, .int (nI a)), (2, .int (nI kb)), (3, .int (nI v))]) hx hb d_Model_setByte_1 hl (by decide) rfl (fun ls hl => ?_)
  have hl : lv_has ls 5 [(4, .int (nI 0)), (0, .ref mo), (1, .int (nI a)), (2, .int (nI kb)), (3, .int (nI v))] := lv_sub hl [0, 1, 2, 3, 4] rfl
  exact loop 8 0 _ _ ls _ (by omega) hfr hm (fun _ _ => rfl) (by rw [show v % 2 ^ 0 = 0 from Nat.mod_one v, Nat.zero_mul]; exact (Int.add_zero _).symm) hF hl
set_option maxHeartbeats 4000000 in
set_option maxRecDepth 100000 in
theorem Y_Model_number (l : Launch) (g : WG) (n0 : Nat → Prop) (mo : Nat) (th : Int32) (pn tn wn : Nat) (B : Nat → Int) (a : Int32) (m9 : Nat → Int32) (t : Nat → Nat) (ht : ∀ j, t j < 256) (hmt : ∀ j, j < tn → m9 j = nI (t j)) : Ctr l y_Model_number (.code y_Model_number prog_11_method_38_code 4 (some FieldType.boolean)) 2 44 0 0 n0 g [.ref mo, .int a] (fun H => MVP g n0 H mo th pn tn wn B ∧ AI g H (mo + 6) 96 m9) (QI (fun r H H' => ((okS a (nI 1)) ∧ (∃ k1 B', a = nI k1 ∧ k1 < 32 ∧ MVP g n0 H' mo 0 pn 0 wn B' ∧ NC r t tn k1 B B')) ∨ (¬ (okS a (nI 1)) ∧ MVP g n0 H' mo 1 pn tn wn B))) := by
  refine ctr_mk l (lv0 := [(0, .ref mo), (1, .int a)]) (by decide) (Nat.le_of_ble_eq_true rfl) rfl ?_
  intro p e s m below meth c ls E hr hlk hnm hl hP
  obtain ⟨hP, hT⟩ := hP
  have hx := E.1
  have hb := E.2.1
  have hK := E.2.2.2.2.2
  have hF : ∀ q ∈ ([] : List Loc), n0 q.base := fun q hq => absurd hq List.not_mem_nil
  obtain ⟨⟨w9, n9, fd, hw9, hm, hB9⟩, ⟨fa, hab, hAT, -⟩, hho, -, -, hbd, hmn, -, -, hn8⟩ := id hP
  have hB := hB9.lo
  have hfr : FRM (MR mo) s.heap s.heap := FRM.rf
  have bad : ∀ (locs : List Loc) (ls : Array Slot), ¬ (okS a (nI 1)) → (∀ q ∈ locs, n0 q.base) → lv_has ls 4 [(0, .ref mo), (1, .int a)] → W p l e { frames := 2, cells := 0, slots := 0, locals := 44 } s m [.ref mo, .int a].toArray below meth c s.heap locs 0 0 (MQ below (QcP (QI (fun r H H' => ((okS a (nI 1)) ∧ (∃ k1 B', a = nI k1 ∧ k1 < 32 ∧ MVP g n0 H' mo 0 pn 0 wn B' ∧ NC r t tn k1 B B')) ∨ (¬ (okS a (nI 1)) ∧ MVP g n0 H' mo 1 pn tn wn B)))) [.ref mo, .int a].toArray s 0 0 (fun q => n0 q)) (F0 m 5 ls [.int (nI 1), .ref mo]) := by
    intro  locs   ls hno hF hl
    refine lv_iconst (v := nI 1) hx hb d_Model_number_5 (by decide) ?_
    refine q_cV (rest := []) E (c_Model_fails l g n0 mo th (nI pn) (nI tn) (nI wn) w9 n9 hw9 (nI 1) (nI 1) fd hmn (Or.inl rfl)) w_1056 w_15 w_1053 w_1055 (bw_s 24 rfl) hd_Model_fails rfl ⟨by decide, by decide⟩ (OB.recv E.2.2.2.2.2 (by rfl) hm.1) hm hF hl.1 rfl (Nat.le_of_ble_eq_true rfl) d_Model_number_6 ⟨by decide, by decide⟩ (qi (fun rf H1 locs hq hF => ?_))
    obtain ⟨hrf, hq, hm⟩ := hq
    subst hrf
    have hfr := hfr.tr hq
    rw [if_neg (by decide)] at hm
    refine lv_if_eq (tgt := 14) hx hb d_Model_number_9 (by decide) (fun h9 => absurd h9 (by decide)) (fun _ => ?_)
    refine lv_iconst (v := nI 0) hx hb d_Model_number_12 (by decide) ?_
    exact q_zret E hr rfl hlk (⟨_, rfl, Or.inr ⟨hno, hP.keep hfr hw9 hm hB9⟩⟩) hF d_Model_number_13
  have good : ∀ (locs : List Loc) (ls : Array Slot), okS a (nI 1) → (∀ q ∈ locs, n0 q.base) → lv_has ls 4 [(0, .ref mo), (1, .int a)] → W p l e { frames := 2, cells := 0, slots := 0, locals := 44 } s m [.ref mo, .int a].toArray below meth c s.heap locs 0 0 (MQ below (QcP (QI (fun r H H' => ((okS a (nI 1)) ∧ (∃ k1 B', a = nI k1 ∧ k1 < 32 ∧ MVP g n0 H' mo 0 pn 0 wn B' ∧ NC r t tn k1 B B')) ∨ (¬ (okS a (nI 1)) ∧ MVP g n0 H' mo 1 pn tn wn B)))) [.ref mo, .int a].toArray s 0 0 (fun q => n0 q)) (F0 m 5 ls [.int (nI 0), .ref mo]) := by
    intro  locs   ls hok hF hl
    refine lv_iconst (v := nI 1) hx hb d_Model_number_5 (by decide) ?_
    refine q_cV (rest := []) E (c_Model_fails l g n0 mo th (nI pn) (nI tn) (nI wn) w9 n9 hw9 (nI 0) (nI 1) fd hmn (Or.inr rfl)) w_1056 w_15 w_1053 w_1055 (bw_s 24 rfl) hd_Model_fails rfl ⟨by decide, by decide⟩ (OB.recv E.2.2.2.2.2 (by rfl) hm.1) hm hF hl.1 rfl (Nat.le_of_ble_eq_true rfl) d_Model_number_6 ⟨by decide, by decide⟩ (qi (fun rf H1 locs hq hF => ?_))
    obtain ⟨hrf, hq, hm⟩ := hq
    subst hrf
    have hfr := hfr.tr hq
    rw [if_pos nI_0] at hm
    have hab := AJ.off hq (by unfold MR; omega) hab
    refine lv_if_eq (tgt := 14) hx hb d_Model_number_9 (by decide) (fun _ => ?_) (fun h9 => absurd (by decide) h9)
    have hsc : ∀ j, j < 448 → fd j = fd j := fun _ _ => rfl
    have hsp : ∀ j, 448 ≤ j → j < 1666 → fd j = fd j := fun _ _ _ => rfl
    obtain ⟨k1, e_k1, h_k1⟩ := okS_nat (by decide) (by decide) hok
    rw [e_k1] at hl
    refine lv_aload_n hx hb d_Model_number_14 rfl (lv_at hl 0 rfl) ?_
    refine q_get (C := "KateDeskModel") (T := T_Model) (N := 14) (ci := 8) E hm.1 in_Model rfl 10 (by decide) w_1011 rfl rfl d_Model_number_15 ?_
    refine lv_istore_n (lv' := [(2, .int (nI tn)), (0, .ref mo), (1, .int (nI k1))]) hx hb d_Model_number_18 rfl hl (by decide) rfl (fun ls hl => ?_)
    refine lv_aload_n hx hb d_Model_number_19 rfl (lv_at hl 1 rfl) ?_
    refine lv_iconst (v := nI 0) hx hb d_Model_number_20 (by decide) ?_
    refine q_put (C := "KateDeskModel") (T := T_Model) (N := 14) (ci := 8) (ty := .int) E hm.1 in_Model ty_Model tyok_Model nm_Model rfl 10 (by decide) w_1011 rfl rfl (by decide +kernel) rfl rfl (Nat.le_of_ble_eq_true rfl) hmn hF d_Model_number_21 (fun H2 locs hq ho2 hF => ?_)
    have hm : MS g n0 H2 mo 0 (nI pn) (nI 0) (nI wn) w9 n9 fd := hm.frm hq (by omega) (by omega) (by omega) (by omega) ho2
    have hfr := hfr.tr (hq.mono (fun q h => Or.inl h))
    have hab := AJ.off hq (by omega) hab
    have loop : ∀ (k : Nat) (i : Nat) (H : Heap) (locs : List Loc) (ls : Array Slot) (fd1 : Nat → Int64), i + k = tn → tn ≤ 32 → SV fd1 120 14 = ((tvN t i : Nat) : Int) → (∀ j, j < 448 → fd1 j = fd j) → (∀ j, 448 ≤ j → j < 1666 → fd1 j = fd j) → FRM (MR mo) s.heap H → MS g n0 H mo 0 (nI pn) (nI 0) (nI wn) 1 10 fd1 → AJ g H (mo + 4) 420 fa → (∀ q ∈ locs, n0 q.base) → lv_has ls 4 [(3, .int (nI i)), (2, .int (nI tn)), (0, .ref mo), (1, .int (nI k1))] → W p l e { frames := 2, cells := 0, slots := 0, locals := 44 } s m [.ref mo, .int a].toArray below meth c H locs 0 0 (MQ below (QcP (QI (fun r H H' => ((okS a (nI 1)) ∧ (∃ k1 B', a = nI k1 ∧ k1 < 32 ∧ MVP g n0 H' mo 0 pn 0 wn B' ∧ NC r t tn k1 B B')) ∨ (¬ (okS a (nI 1)) ∧ MVP g n0 H' mo 1 pn tn wn B)))) [.ref mo, .int a].toArray s 0 0 (fun q => n0 q)) (F0 m 45 ls []) := by
      intro k
      induction k with
      | zero =>
        intro  i   H   locs   ls   fd1 hi ht32 hS hsc hsp hfr hm hab hF hl
        obtain rfl : tn = i := by omega
        refine lv_iload_n hx hb d_Model_number_45 rfl (lv_at hl 0 rfl) ?_
        refine lv_iload_n hx hb d_Model_number_46 rfl (lv_at hl 1 rfl) ?_
        refine lv_icmp_ge (tgt := 69) hx hb d_Model_number_47 (by decide) (fun _ => ?_) (fun h9 => absurd (nI_le (Nat.le_refl _) (by omega)) h9)
        refine lv_aload_n hx hb d_Model_number_69 rfl (lv_at hl 2 rfl) ?_
        refine lv_bipush (v := nI 120) hx hb d_Model_number_70 (by decide) ?_
        refine q_cV (rest := []) E (X_Model_isNumber l g n0 mo 120 0 (nI pn) (nI 0) (nI wn) 1 10 hw1 fd1 (by decide)) w_1072 w_15 w_1069 w_1071 (bw_s 26 rfl) hd_Model_isNumber rfl ⟨by decide, by decide⟩ (OB.recv E.2.2.2.2.2 (by rfl) hm.1) hm hF hl.1 rfl (Nat.le_of_ble_eq_true rfl) d_Model_number_72 ⟨by decide, by decide⟩ (qi (fun rz H1 locs hq hF => ?_))
        obtain ⟨hrz, hq⟩ := hq
        have hq := hq.symm
        subst hq
        rw [hS] at hrz
        refine lv_if_ne (tgt := 80) hx hb d_Model_number_75 (by decide) (fun hz => ?_) (fun hz => ?_)
        rotate_left
        · skip
          have hrz := hrz.resolve_left (fun h => absurd (h.1.symm.trans hz) (by decide))
          refine lv_iconst (v := nI 0) hx hb d_Model_number_78 (by decide) ?_
          exact q_zret E hr rfl hlk (⟨_, rfl, Or.inl ⟨hok, k1, B, e_k1, by omega, hP.fin hfr hw1 hm (hB9.mk (fun k hk => ⟨(hB k hk).1.fr (fun j hj => hsc _ (by omega)), (hB k hk).2⟩) hsp (by intro k9 h9; first | rfl | (unfold updI; rw [if_neg (by omega)]; done) | (unfold updI opB; rw [if_neg (by omega), if_neg (by omega)]; done) | (unfold trB; rw [if_neg (by omega)]; done))) ⟨hbd.1, Nat.zero_le _, hbd.2.2⟩, Or.inl ⟨ht32, Or.inr ⟨rfl, hrz.2, rfl⟩⟩⟩⟩) hF d_Model_number_79
        have hrz := hrz.resolve_right (fun h => hz h.1)
        have hS9 : NV _ 120 ((tvN t tn : Nat) : Int) := hS
        refine lv_aload_n hx hb d_Model_number_80 rfl (lv_at hl 2 rfl) ?_
        refine lv_iload_n hx hb d_Model_number_81 rfl (lv_at hl 3 rfl) ?_
        refine lv_bipush (v := nI 120) hx hb d_Model_number_82 (by decide) ?_
        refine q_cV (rest := []) E (c_Model_move l g n0 mo k1 120 0 (nI pn) (nI 0) (nI wn) 1 10 hw1 fd1 (by omega) (by omega)) w_1076 w_15 w_1073 w_1075 (bw_s 27 rfl) hd_Model_move rfl ⟨by decide, by decide⟩ (OB.recv E.2.2.2.2.2 (by rfl) hm.1) hm hF hl.1 rfl (Nat.le_of_ble_eq_true rfl) d_Model_number_84 ⟨by decide, by decide⟩ (qv (fun H2 locs hq hF => ?_))
        obtain ⟨hq, fd_1, hm, hpv⟩ := hq
        have hab := AJ.off hq (by unfold MR; omega) hab
        have hfr := hfr.tr hq
        have ho := hpv.1
        have hn : NV fd_1 k1 ((tvN t tn : Nat) : Int) := (VL_ext (fun k hk => hpv.2 k hk)).trans hS9
        have n_120 : NV fd_1 120 ((tvN t tn : Nat) : Int) := hS9.fr (fun k hk => ho _ (by omega))
        have hsp : ∀ j, 448 ≤ j → j < 1666 → fd_1 j = fd j := fun j h8 h9 => (ho j (by omega)).trans (hsp j h8 h9)
        have hB := nb_set hB (fun j hj h9 => (ho j  h9).trans (hsc j hj)) hn (by have h9 := hrz.2; rw [kP1_R] at h9; exact h9)
        have hsc : ∀ j, j < 448 → fd_1 j = fd_1 j := fun _ _ => rfl
        refine lv_iconst (v := nI 1) hx hb d_Model_number_87 (by decide) ?_
        exact q_zret E hr rfl hlk (⟨_, rfl, Or.inl ⟨hok, k1, _, e_k1, by omega, hP.fin hfr hw1 hm (hB9.mk hB hsp (by intro k9 h9; first | rfl | (unfold updI; rw [if_neg (by omega)]; done) | (unfold updI opB; rw [if_neg (by omega), if_neg (by omega)]; done) | (unfold trB; rw [if_neg (by omega)]; done))) ⟨hbd.1, Nat.zero_le _, hbd.2.2⟩, Or.inl ⟨ht32, Or.inl ⟨rfl, hrz.2, rfl⟩⟩⟩⟩) hF d_Model_number_88
      | succ k ih =>
        intro  i   H   locs   ls   fd1 hi ht32 hS hsc hsp hfr hm hab hF hl
        refine lv_iload_n hx hb d_Model_number_45 rfl (lv_at hl 0 rfl) ?_
        refine lv_iload_n hx hb d_Model_number_46 rfl (lv_at hl 1 rfl) ?_
        refine lv_icmp_ge (tgt := 69) hx hb d_Model_number_47 (by decide) (fun h9 => absurd h9 (nI_ge (by omega) (by omega))) (fun _ => ?_)
        refine lv_aload_n hx hb d_Model_number_50 rfl (lv_at hl 2 rfl) ?_
        refine lv_bipush (v := nI 120) hx hb d_Model_number_51 (by decide) ?_
        refine lv_iload_n hx hb d_Model_number_53 rfl (lv_at hl 0 rfl) ?_
        refine lv_aload_n hx hb d_Model_number_54 rfl (lv_at hl 2 rfl) ?_
        refine q_get (C := "KateDeskModel") (T := T_Model) (N := 14) (ci := 8) E hm.1 in_Model rfl 9 (by decide) w_1010 rfl rfl d_Model_number_55 ?_
        refine lv_iload_n hx hb d_Model_number_58 rfl (lv_at hl 0 rfl) ?_
        refine q_iald E (AI.off hfr (show ¬ MR mo (mo + 6) by unfold MR; omega) hT) i rfl (by omega) (by decide) d_Model_number_59 ?_
        refine lv_topi (fun t9 e9 => ?_)
        obtain rfl : t9 = nI (t i) := e9.trans (hmt i (by omega))
        refine q_cV (rest := []) E (W_Model_setByte l g n0 mo 120 i (t i) 0 (nI pn) (nI 0) (nI wn) 1 10 hw1 fd1 (by decide) (by omega) (ht i) (by rw [hS]; exact Int.ofNat_lt.mpr (tvN_lt ht i))) w_1068 w_15 w_1065 w_1067 (bw_s 25 rfl) hd_Model_setByte rfl ⟨by decide, by decide⟩ (OB.recv E.2.2.2.2.2 (by rfl) hm.1) hm hF hl.1 rfl (Nat.le_of_ble_eq_true rfl) d_Model_number_60 ⟨by decide, by decide⟩ (qv (fun H1 locs hq hF => ?_))
        obtain ⟨hq, fd2, hm, ho, hS2⟩ := hq
        have hab := AJ.off hq (by unfold MR; omega) hab
        have hfr := hfr.tr hq
        rw [hS] at hS2
        refine lv_iinc (k := 0) (v := nI (i + 1)) (lv' := [(3, .int (nI (i + 1))), (2, .int (nI tn)), (0, .ref mo), (1, .int (nI k1))]) hx hb d_Model_number_63 hl rfl (i_inc i) (by decide) rfl (fun ls hl => ?_)
        refine lv_goto (tgt := 45) hx hb d_Model_number_66 (by decide) ?_
        have hl : lv_has ls 4 [(3, .int (nI (i + 1))), (2, .int (nI tn)), (0, .ref mo), (1, .int (nI k1))] := lv_sub hl [0, 1, 2, 3] rfl
        exact ih (i + 1) _ _ ls _ (by omega) ht32 hS2 (fun j hj => (ho j (by omega)).trans (hsc j hj)) (fun j h8 h9 => (ho j (by omega)).trans (hsp j h8 h9)) hfr hm hab hF hl
    refine lv_iload_n hx hb d_Model_number_24 rfl (lv_at hl 0 rfl) ?_
    refine lv_bipush (v := nI 32) hx hb d_Model_number_25 (by decide) ?_
    refine lv_icmp_le (tgt := 32) hx hb d_Model_number_27 (by decide) (fun hc => ?_) (fun hc => ?_)
    rotate_left
    · skip
      have hc33 : 32 < tn := Nat.lt_of_not_le (fun h => hc (nI_le h (by decide)))
      refine lv_iconst (v := nI 0) hx hb d_Model_number_30 (by decide) ?_
      exact q_zret E hr rfl hlk (⟨_, rfl, Or.inl ⟨hok, k1, B, e_k1, by omega, hP.fin hfr hw9 hm (hB9.mk hB hsp (by intro k9 h9; first | rfl | (unfold updI; rw [if_neg (by omega)]; done) | (unfold updI opB; rw [if_neg (by omega), if_neg (by omega)]; done) | (unfold trB; rw [if_neg (by omega)]; done))) ⟨hbd.1, Nat.zero_le _, hbd.2.2⟩, Or.inr ⟨hc33, rfl, rfl⟩⟩⟩) hF d_Model_number_31
    have hc : tn ≤ 32 := (nI_leI (by omega) (by decide)).mp hc
    refine lv_aload_n hx hb d_Model_number_32 rfl (lv_at hl 1 rfl) ?_
    refine lv_iconst (v := nI 1) hx hb d_Model_number_33 (by decide) ?_
    refine q_cV (rest := []) E (c_Model_use l g n0 mo 0 (nI pn) (nI 0) (nI wn) w9 n9 hw9 1 10 hw1 fd hmn) w_967 w_15 w_964 w_966 (bw_s 15 rfl) hd_Model_use rfl ⟨by decide, by decide⟩ (OB.recv E.2.2.2.2.2 (by rfl) hm.1) hm hF hl.1 rfl (Nat.le_of_ble_eq_true rfl) d_Model_number_34 ⟨by decide, by decide⟩ (qv (fun H3 locs hq hF => ?_))
    obtain ⟨hq, hm⟩ := hq
    have hfr := hfr.tr hq
    have hab := AJ.off hq (by unfold MR; omega) hab
    refine lv_aload_n hx hb d_Model_number_37 rfl (lv_at hl 1 rfl) ?_
    refine lv_bipush (v := nI 120) hx hb d_Model_number_38 (by decide) ?_
    refine q_cV (rest := []) E (c_Model_zero l g n0 mo 120 0 (nI pn) (nI 0) (nI wn) 1 10 hw1 fd (by decide)) w_1000 w_15 w_997 w_999 (bw_s 23 rfl) hd_Model_zero rfl ⟨by decide, by decide⟩ (OB.recv E.2.2.2.2.2 (by rfl) hm.1) hm hF hl.1 rfl (Nat.le_of_ble_eq_true rfl) d_Model_number_40 ⟨by decide, by decide⟩ (qv (fun H4 locs hq hF => ?_))
    obtain ⟨hq, fdz, hm, hpz⟩ := hq
    have hab := AJ.off hq (by unfold MR; omega) hab
    have hfr := hfr.tr hq
    have hS0 : SV fdz 120 14 = ((tvN t 0 : Nat) : Int) := (VL_ext (fun k hk => hpz.2 k hk)).trans VL_z14
    refine lv_iconst (v := nI 0) hx hb d_Model_number_43 (by decide) ?_
    refine lv_istore_n (lv' := [(3, .int (nI 0)), (2, .int (nI tn)), (0, .ref mo), (1, .int (nI k1))]) hx hb d_Model_number_44 rfl hl (by decide) rfl (fun ls hl => ?_)
    have hl : lv_has ls 4 [(3, .int (nI 0)), (2, .int (nI tn)), (0, .ref mo), (1, .int (nI k1))] := lv_sub hl [0, 1, 2, 3] rfl
    exact loop tn 0 _ _ ls _ (by omega) hc hS0 (fun j hj => hpz.1 j (by omega)) (fun j h8 h9 => hpz.1 j (by omega)) hfr hm hab hF hl
  refine lv_aload_n hx hb d_Model_number_0 rfl (lv_at hl 0 rfl) ?_
  refine lv_iload_n hx hb d_Model_number_1 rfl (lv_at hl 1 rfl) ?_
  refine q_cS (rest := [.ref mo]) E (c_Model_noScalar l g n0 a ) w_1064 w_15 w_1062 w_1063 hd_Model_noScalar rfl ⟨by decide, by decide⟩ trivial hF hl.1 rfl (Nat.le_of_ble_eq_true rfl) d_Model_number_2 ⟨by decide, by decide⟩ (qi (fun r_0 H1 locs hq hF => ?_))
  obtain ⟨h_0, hq⟩ := hq
  subst hq
  rcases h_0 with ⟨rfl, f_0⟩ | ⟨rfl, f_0⟩
  · skip
    have hl : lv_has ls 4 [(0, .ref mo), (1, .int a)] := lv_sub hl [0, 1] rfl
    exact bad _ ls (fun h => (f_0) h) hF hl
  · skip
    have hl : lv_has ls 4 [(0, .ref mo), (1, .int a)] := lv_sub hl [0, 1] rfl
    exact good _ ls f_0 hF hl
