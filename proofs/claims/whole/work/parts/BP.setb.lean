set_option maxHeartbeats 4000000 in
set_option maxRecDepth 100000 in
theorem D_Model_setByte (l : Launch) (g : WG) (n0 : Nat → Prop) (mo a kb v : Nat) (th pw td wr : Int32) (w n : Nat) (hw : WH w n) (fd : Nat → Int64) (ha : a < 170) (hkb : kb < 48) (hv : v < 256) (A9 : Nat) (hV : SV fd a 14 = ((256 ^ kb * (A9 * 256) : Nat) : Int)) : Ctr l y_Model_setByte (.code y_Model_setByte prog_11_method_25_code 5 none) 0 0 0 0 n0 g [.ref mo, .int (nI a), .int (nI kb), .int (nI v)] (fun H => MS g n0 H mo th pw td wr w n fd) (QV (fun H H' => FRM (MR mo) H H' ∧ ∃ fd', MS g n0 H' mo th pw td wr w n fd' ∧ (∀ j, (j < 14 * a ∨ 14 * a + 14 ≤ j) → fd' j = fd j) ∧ SV fd' a 14 = ((256 ^ kb * (A9 * 256 + v) : Nat) : Int))) := by
  refine ctr_mk l (lv0 := [(0, .ref mo), (1, .int (nI a)), (2, .int (nI kb)), (3, .int (nI v))]) (by decide) (Nat.le_of_ble_eq_true rfl) rfl ?_
  intro p e s m below meth c ls E hr hlk hnm hl hP
  have hx := E.1
  have hb := E.2.1
  have hK := E.2.2.2.2.2
  have hF : ∀ q ∈ ([] : List Loc), n0 q.base := fun q hq => absurd hq List.not_mem_nil
  have hm := hP
  have hDD := hm.2.2.2.2.2.1
  obtain ⟨hpd, hn1, hn14, hw1, hPT, hP1, hT0, hT1⟩ := wh_kP hw
  have hfr : FRM (MR mo) s.heap s.heap := FRM.rf
  have loop : ∀ (k : Nat) (i : Nat) (H : Heap) (locs : List Loc) (ls : Array Slot) (fd1 : Nat → Int64), i + k = 8 → FRM (MR mo) s.heap H → MS g n0 H mo th pw td wr w n fd1 → (∀ j, (j < 14 * a ∨ 14 * a + 14 ≤ j) → fd1 j = fd j) → SV fd1 a 14 = ((256 ^ kb * (A9 * 256 + v % 2 ^ i) : Nat) : Int) → (∀ q ∈ locs, n0 q.base) → lv_has ls 5 [(4, .int (nI i)), (0, .ref mo), (1, .int (nI a)), (2, .int (nI kb)), (3, .int (nI v))] → W p l e { frames := 0, cells := 0, slots := 0, locals := 0 } s m [.ref mo, .int (nI a), .int (nI kb), .int (nI v)].toArray below meth c H locs 0 0 (MQ below (QcP (QV (fun H H' => FRM (MR mo) H H' ∧ ∃ fd', MS g n0 H' mo th pw td wr w n fd' ∧ (∀ j, (j < 14 * a ∨ 14 * a + 14 ≤ j) → fd' j = fd j) ∧ SV fd' a 14 = ((256 ^ kb * (A9 * 256 + v) : Nat) : Int)))) [.ref mo, .int (nI a), .int (nI kb), .int (nI v)].toArray s 0 0 (fun q => n0 q)) (F0 m 3 ls []) := by
    intro k
    induction k with
    | zero =>
      intro  i   H   locs   ls   fd1 hi hfr hm hof hS hF hl
      obtain rfl : i = 8 := by omega
      refine lv_iload hx hb d_Model_setByte_3 (lv_at hl 0 rfl) ?_
      refine lv_bipush (v := nI 8) hx hb d_Model_setByte_5 (by decide) ?_
      refine lv_icmp_ge (tgt := 61) hx hb d_Model_setByte_7 (by decide) (fun _ => ?_) (fun h9 => absurd (by decide) h9)
      rw [Nat.mod_eq_of_lt (show v < 2 ^ 8 from hv)] at hS
      exact q_vret E hr hlk (⟨rfl, hfr, _, hm, hof, hS⟩) hF d_Model_setByte_61
    | succ k ih =>
      intro  i   H   locs   ls   fd1 hi hfr hm hof hS hF hl
      refine lv_iload hx hb d_Model_setByte_3 (lv_at hl 0 rfl) ?_
      refine lv_bipush (v := nI 8) hx hb d_Model_setByte_5 (by decide) ?_
      refine lv_icmp_ge (tgt := 61) hx hb d_Model_setByte_7 (by decide) (fun h9 => absurd h9 (nI_ge (by omega) (by decide))) (fun _ => ?_)
      refine lv_iload_n hx hb d_Model_setByte_10 rfl (lv_at hl 4 rfl) ?_
      refine lv_iload hx hb d_Model_setByte_11 (lv_at hl 0 rfl) ?_
      refine lv_ishr hx hb d_Model_setByte_13 ?_
      refine lv_iconst (v := nI 1) hx hb d_Model_setByte_14 (by decide) ?_
      refine lv_iand hx hb d_Model_setByte_15 ?_
      refine lv_topi (fun t9 e9 => ?_)
      obtain rfl : t9 = nI (v / 2 ^ i % 2) := e9.trans (bit8 v hv i (by omega))
      refine lv_iconst (v := nI 1) hx hb d_Model_setByte_16 (by decide) ?_
      refine lv_icmp_ne (tgt := 55) hx hb d_Model_setByte_17 (by decide) (fun hc => ?_) (fun hc => ?_)
      rotate_left
      · skip
        have hc : v / 2 ^ i % 2 = 1 := (nI_eq (by omega) (by decide)).mp hc
        have hD := hm.2.2.2.2.2.1
        refine lv_aload_n hx hb d_Model_setByte_20 rfl (lv_at hl 1 rfl) ?_
        refine q_get (C := "KateDeskModel") (T := T_Model) (N := 14) (ci := 8) E hm.1 in_Model rfl 1 (by decide) w_1002 rfl rfl d_Model_setByte_21 ?_
        refine lv_bipush (v := nI 14) hx hb d_Model_setByte_24 (by decide) ?_
        refine lv_iload_n hx hb d_Model_setByte_26 rfl (lv_at hl 2 rfl) ?_
        refine lv_imul hx hb d_Model_setByte_27 ?_
        refine lv_topi (fun t9 e9 => ?_)
        obtain rfl : t9 = nI (14 * a) := e9.trans (pk_mul _ _)
        refine lv_bipush (v := nI 8) hx hb d_Model_setByte_28 (by decide) ?_
        refine lv_iload_n hx hb d_Model_setByte_30 rfl (lv_at hl 3 rfl) ?_
        refine lv_imul hx hb d_Model_setByte_31 ?_
        refine lv_topi (fun t9 e9 => ?_)
        obtain rfl : t9 = nI (8 * kb) := e9.trans (pk_mul _ _)
        refine lv_iload hx hb d_Model_setByte_32 (lv_at hl 0 rfl) ?_
        refine lv_iadd hx hb d_Model_setByte_34 ?_
        refine lv_topi (fun t9 e9 => ?_)
        obtain rfl : t9 = nI ((8 * kb) + i) := e9.trans (nI_add _ _)
        refine lv_bipush (v := nI 28) hx hb d_Model_setByte_35 (by decide) ?_
        refine lv_idiv hx hb d_Model_setByte_37 (by decide) ?_
        refine lv_topi (fun t9 e9 => ?_)
        obtain rfl : t9 = nI ((8 * kb + i) / 28) := e9.trans (pk_div (by omega) (by decide) (by decide))
        refine lv_iadd hx hb d_Model_setByte_38 ?_
        refine lv_topi (fun t9 e9 => ?_)
        obtain rfl : t9 = nI ((14 * a) + ((8 * kb + i) / 28)) := e9.trans (nI_add _ _)
        refine lv_dup2_11 hx hb d_Model_setByte_39 rfl rfl ?_
        refine q_lald (N := 2380) (f := fd1) E hm.2.2.2.2.1 (14 * a + (8 * kb + i) / 28) rfl (by omega) (by decide) d_Model_setByte_40 ?_
        refine lv_lconst (v := 1) hx hb d_Model_setByte_41 (by decide) ?_
        refine lv_bipush (v := nI 8) hx hb d_Model_setByte_42 (by decide) ?_
        refine lv_iload_n hx hb d_Model_setByte_44 rfl (lv_at hl 3 rfl) ?_
        refine lv_imul hx hb d_Model_setByte_45 ?_
        refine lv_topi (fun t9 e9 => ?_)
        obtain rfl : t9 = nI (8 * kb) := e9.trans (pk_mul _ _)
        refine lv_iload hx hb d_Model_setByte_46 (lv_at hl 0 rfl) ?_
        refine lv_iadd hx hb d_Model_setByte_48 ?_
        refine lv_topi (fun t9 e9 => ?_)
        obtain rfl : t9 = nI ((8 * kb) + i) := e9.trans (nI_add _ _)
        refine lv_bipush (v := nI 28) hx hb d_Model_setByte_49 (by decide) ?_
        refine lv_irem hx hb d_Model_setByte_51 (by decide) ?_
        refine lv_topi (fun t9 e9 => ?_)
        obtain rfl : t9 = nI ((8 * kb + i) - (8 * kb + i) / 28 * 28) := e9.trans (rem28 (by omega))
        refine lv_lshl (v := 1 <<< ((nI ((8 * kb + i) - (8 * kb + i) / 28 * 28)).toInt64 &&& 63)) hx hb d_Model_setByte_52 rfl ?_
        refine lv_lor hx hb d_Model_setByte_53 ?_
        have hdv : dg ((fd1 (14 * a + (8 * kb + i) / 28)) ||| (1 <<< ((nI ((8 * kb + i) - (8 * kb + i) / 28 * 28)).toInt64 &&& 63))) := dg_or (hm.2.2.2.2.2.1 _ (by omega)) (dg_1sh _ (by omega))
        refine q_last E hm.2.2.2.2.1 hm.2.2.2.2.2.2.1 hF (14 * a + (8 * kb + i) / 28) rfl (by omega) (by decide) d_Model_setByte_54 (fun H1 locs hq hf2 hF => ?_)
        have hm := hm.step hK (hq.mono (fun q h => Or.inl h)) hf2 ((hm.2.2.2.2.2.1).upd hdv)
        have hfr := hfr.tr (kjR1 hq)
        refine lv_iinc (k := 0) (v := nI (i + 1)) (lv' := [(4, .int (nI (i + 1))), (0, .ref mo), (1, .int (nI a)), (2, .int (nI kb)), (3, .int (nI v))]) hx hb d_Model_setByte_55 hl rfl (i_inc i) (by decide) rfl (fun ls hl => ?_)
        refine lv_goto (tgt := 3) hx hb d_Model_setByte_58 (by decide) ?_
        have hl : lv_has ls 5 [(4, .int (nI (i + 1))), (0, .ref mo), (1, .int (nI a)), (2, .int (nI kb)), (3, .int (nI v))] := lv_sub hl [0, 1, 2, 3, 4] rfl
        exact ih (i + 1) _ _ ls _ (by omega) hfr hm (fun j hj => (pk_uLn (by omega)).trans (hof j hj)) ((setb9 hD ha (by omega) (bz9 (by omega) (Nat.mod_lt _ (Nat.two_pow_pos i)) hS)).trans (by rw [hS]; exact bs9 hc)) hF hl
      have hc : v / 2 ^ i % 2 ≠ 1 := fun e => hc (by rw [e])
      refine lv_iinc (k := 0) (v := nI (i + 1)) (lv' := [(4, .int (nI (i + 1))), (0, .ref mo), (1, .int (nI a)), (2, .int (nI kb)), (3, .int (nI v))]) hx hb d_Model_setByte_55 hl rfl (i_inc i) (by decide) rfl (fun ls hl => ?_)
      refine lv_goto (tgt := 3) hx hb d_Model_setByte_58 (by decide) ?_
      have hl : lv_has ls 5 [(4, .int (nI (i + 1))), (0, .ref mo), (1, .int (nI a)), (2, .int (nI kb)), (3, .int (nI v))] := lv_sub hl [0, 1, 2, 3, 4] rfl
      exact ih (i + 1) _ _ ls _ (by omega) hfr hm (hof) (hS.trans (by rw [Nat.mod_pow_succ, show v / 2 ^ i % 2 = 0 by omega, Nat.mul_zero, Nat.add_zero])) hF hl
  refine lv_iconst (v := nI 0) hx hb d_Model_setByte_0 (by decide) ?_
  refine lv_istore (lv' := [(4, .int (nI 0)), (0, .ref mo), (1, .int (nI a)), (2, .int (nI kb)), (3, .int (nI v))]) hx hb d_Model_setByte_1 hl (by decide) rfl (fun ls hl => ?_)
  have hl : lv_has ls 5 [(4, .int (nI 0)), (0, .ref mo), (1, .int (nI a)), (2, .int (nI kb)), (3, .int (nI v))] := lv_sub hl [0, 1, 2, 3, 4] rfl
  exact loop 8 0 _ _ ls _ (by omega) hfr hm (fun _ _ => rfl) (by rw [show v % 2 ^ 0 = 0 from Nat.mod_one v, Nat.add_zero]; exact hV) hF hl
theorem cmp_gtx {x y : Int64} (h2 : ¬ lg_cmp x y ≤ 0) : y.toInt < x.toInt := cmp_gt0 (Int32.not_le.mp h2)
theorem cmp_ltx {x y : Int64} (h1 : ¬ lg_cmp x y = 0) (h2 : lg_cmp x y ≤ 0) : x.toInt < y.toInt := by
  have h3 := cmp_le0 (fun h => absurd h (Int32.not_lt.mpr h2))
  refine (Int.lt_or_eq_of_le h3).resolve_right (fun e => h1 ?_)
  rw [i64_eq_of e]
  exact cmp_self y
set_option maxHeartbeats 4000000 in
set_option maxRecDepth 100000 in
theorem M_Model_isGreat (l : Launch) (g : WG) (n0 : Nat → Prop) (mo a : Nat) (th pw td wr : Int32) (fd : Nat → Int64) (ha : a < 170) (ha7 : a ≠ 147) (X : Int) (hX : MQ9 fd a X) : Ctr l y_Model_isGreat (.code y_Model_isGreat prog_11_method_45_code 3 (some FieldType.boolean)) 3 75 0 0 n0 g [.ref mo, .int (nI a)] (fun H => MS g n0 H mo th pw td wr 0 14 fd) (QI (fun r H H' => ((r = 1 ∧ ngQ (X % QJ) < X % QJ) ∨ (r = 0 ∧ ¬ ngQ (X % QJ) < X % QJ)) ∧ FRM (MR mo) H H' ∧ ∃ fd', MS g n0 H' mo th pw td wr 0 14 fd' ∧ ∀ j, (j < 14 * 147 ∨ 14 * 147 + 14 ≤ j) → fd' j = fd j)) := by
  refine ctr_mk l (lv0 := [(0, .ref mo), (1, .int (nI a))]) (by decide) (Nat.le_of_ble_eq_true rfl) rfl ?_
  intro p e s m below meth c ls E hr hlk hnm hl hP
  have hx := E.1
  have hb := E.2.1
  have hK := E.2.2.2.2.2
  have hF : ∀ q ∈ ([] : List Loc), n0 q.base := fun q hq => absurd hq List.not_mem_nil
  have hm := hP
  have hfr : FRM (MR mo) s.heap s.heap := FRM.rf
  refine lv_aload_n hx hb d_Model_isGreat_0 rfl (lv_at hl 0 rfl) ?_
  refine lv_sipush (v := nI 147) hx hb d_Model_isGreat_1 (by decide) ?_
  refine q_cV (rest := []) E (c_Model_zero l g n0 mo 147 th pw td wr 0 14 w0_ fd (by decide)) w_1000 w_15 w_997 w_999 (bw_s 23 rfl) hd_Model_zero rfl ⟨by decide, by decide⟩ (OB.recv E.2.2.2.2.2 (by rfl) hm.1) hm hF hl.1 rfl (Nat.le_of_ble_eq_true rfl) d_Model_isGreat_4 ⟨by decide, by decide⟩ (qv (fun H1 locs hq hF => ?_))
  obtain ⟨hq, fd1, hm, hpz⟩ := hq
  have hfr := hfr.tr hq
  clear hq
  have h147 : MQ9 fd1 147 0 := (VL_ext (fun k hk => hpz.2 k hk)).trans (VL_z14.trans (by decide +kernel))
  have hX1 : MQ9 fd1 a X := hX.off hpz.1 ha7
  refine lv_aload_n hx hb d_Model_isGreat_7 rfl (lv_at hl 0 rfl) ?_
  refine lv_sipush (v := nI 147) hx hb d_Model_isGreat_8 (by decide) ?_
  refine lv_sipush (v := nI 147) hx hb d_Model_isGreat_11 (by decide) ?_
  refine lv_iload_n hx hb d_Model_isGreat_14 rfl (lv_at hl 1 rfl) ?_
  refine q_cV (rest := []) E (M_Model_less l g n0 mo 147 147 a th pw td wr fd1 (by decide) (by decide) ha 0 X h147 hX1) w_1109 w_15 w_1106 w_1108 (bw_s 31 rfl) hd_Model_less rfl ⟨by decide, by decide⟩ (OB.recv E.2.2.2.2.2 (by rfl) hm.1) hm hF hl.1 rfl (Nat.le_of_ble_eq_true rfl) d_Model_isGreat_15 ⟨by decide, by decide⟩ (qv (fun H2 locs hq hF => ?_))
  obtain ⟨hq, fd2, hm, ho, hn⟩ := hq
  have hfr := hfr.tr (kjR hq)
  clear hq
  have hX2 : MQ9 fd2 a X := hX1.off ho ha7
  have hoff : ∀ j, (j < 14 * 147 ∨ 14 * 147 + 14 ≤ j) → fd2 j = fd j := fun j hj => (ho j hj).trans (hpz.1 j hj)
  have e1 : VL (fun k => fd2 (14 * 147 + k)) 14 = ngQ (X % QJ) := (show SV fd2 147 14 = (0 - X) % QJ from hn).trans (ng_e X)
  have e2 : VL (fun k => fd2 (14 * a + k)) 14 = X % QJ := hX2
  have hd1 : ∀ k, k < 14 → dg ((fun k => fd2 (14 * 147 + k)) k) := fun k hk => hm.2.2.2.2.2.1 _ (by omega)
  have hd2 : ∀ k, k < 14 → dg ((fun k => fd2 (14 * a + k)) k) := fun k hk => hm.2.2.2.2.2.1 _ (by omega)
  refine lv_bipush (v := nI 13) hx hb d_Model_isGreat_18 (by decide) ?_
  refine lv_istore_n (lv' := [(2, .int (nI 13)), (0, .ref mo), (1, .int (nI a))]) hx hb d_Model_isGreat_20 rfl hl (by decide) rfl (fun ls hl => ?_)
  have hl : lv_has ls 3 [(2, .int (nI 13)), (0, .ref mo), (1, .int (nI a))] := lv_sub hl [0, 1, 2] rfl
  have lp : ∀ (k : Nat) (locs : List Loc) (ls : Array Slot) (v : Int32), k ≤ 14 → v = nI k - 1 → (∀ j, k ≤ j → j < 14 → fd2 (14 * a + j) = fd2 (14 * 147 + j)) → (∀ q ∈ locs, n0 q.base) → lv_has ls 3 [(2, .int v), (0, .ref mo), (1, .int (nI a))] → W p l e { frames := 3, cells := 0, slots := 0, locals := 75 } s m [.ref mo, .int (nI a)].toArray below meth c H2 locs 0 0 (MQ below (QcP (QI (fun r H H' => ((r = 1 ∧ ngQ (X % QJ) < X % QJ) ∨ (r = 0 ∧ ¬ ngQ (X % QJ) < X % QJ)) ∧ FRM (MR mo) H H' ∧ ∃ fd', MS g n0 H' mo th pw td wr 0 14 fd' ∧ ∀ j, (j < 14 * 147 ∨ 14 * 147 + 14 ≤ j) → fd' j = fd j))) [.ref mo, .int (nI a)].toArray s 0 0 (fun q => n0 q)) (F0 m 21 ls []) := by
    intro k
    induction k with
    | zero =>
      intro  locs   ls   v hk14 hv0 heq hF hl
      subst hv0
      refine lv_iload_n hx hb d_Model_isGreat_21 rfl (lv_at hl 0 rfl) ?_
      refine lv_if_lt (tgt := 73) hx hb d_Model_isGreat_22 (by decide) (fun _ => ?_) (fun h9 => absurd (by decide) h9)
      refine lv_iconst (v := nI 0) hx hb d_Model_isGreat_73 (by decide) ?_
      exact q_zret E hr rfl hlk (⟨_, rfl, Or.inr ⟨rfl, fun h => by rw [← e1, ← e2, VL_ext (f := fun k => fd2 (14 * a + k)) (h := fun k => fd2 (14 * 147 + k)) (fun j hj => heq j (Nat.zero_le _) hj)] at h; exact Int.lt_irrefl _ h⟩, hfr, fd2, hm, hoff⟩) hF d_Model_isGreat_74
    | succ k ih =>
      intro  locs   ls   v hk14 hv0 heq hF hl
      rw [nI_pred] at hv0
      subst hv0
      refine lv_iload_n hx hb d_Model_isGreat_21 rfl (lv_at hl 0 rfl) ?_
      refine lv_if_lt (tgt := 73) hx hb d_Model_isGreat_22 (by decide) (fun h9 => absurd h9 (nI_pos (by omega))) (fun _ => ?_)
      refine lv_aload_n hx hb d_Model_isGreat_25 rfl (lv_at hl 1 rfl) ?_
      refine lv_iload_n hx hb d_Model_isGreat_26 rfl (lv_at hl 2 rfl) ?_
      refine lv_iload_n hx hb d_Model_isGreat_27 rfl (lv_at hl 0 rfl) ?_
      refine q_cV (rest := []) E (c_Model_limb l g n0 mo a k th (nI 0) (nI 14) pw td wr fd2 (by omega) (by omega)) w_979 w_15 w_976 w_978 (bw_s 18 rfl) hd_Model_limb rfl ⟨by decide, by decide⟩ (OB.recv E.2.2.2.2.2 (by rfl) hm.1) (⟨hm.1, hm.2.2.2.2.1⟩) hF hl.1 rfl (Nat.le_of_ble_eq_true rfl) d_Model_isGreat_28 ⟨by decide, by decide⟩ (ql (fun v1 H21 locs hq hF => ?_))
      obtain ⟨hq, hq9⟩ := hq
      obtain rfl := hq9
      subst hq
      refine lv_aload_n hx hb d_Model_isGreat_31 rfl (lv_at hl 1 rfl) ?_
      refine lv_sipush (v := nI 147) hx hb d_Model_isGreat_32 (by decide) ?_
      refine lv_iload_n hx hb d_Model_isGreat_35 rfl (lv_at hl 0 rfl) ?_
      refine q_cV (rest := [.long (fd2 (14 * a + k))]) E (c_Model_limb l g n0 mo 147 k th (nI 0) (nI 14) pw td wr fd2 (by omega) (by omega)) w_979 w_15 w_976 w_978 (bw_s 18 rfl) hd_Model_limb rfl ⟨by decide, by decide⟩ (OB.recv E.2.2.2.2.2 (by rfl) hm.1) (⟨hm.1, hm.2.2.2.2.1⟩) hF hl.1 rfl (Nat.le_of_ble_eq_true rfl) d_Model_isGreat_36 ⟨by decide, by decide⟩ (ql (fun u1 H22 locs hq hF => ?_))
      obtain ⟨hq, hq9⟩ := hq
      obtain rfl := hq9
      subst hq
      refine W.lcmp hx hb d_Model_isGreat_39 ?_
      refine lv_if_eq (tgt := 67) hx hb d_Model_isGreat_40 (by decide) (fun h1 => ?_) (fun h1 => ?_)
      rotate_left
      · skip
        refine lv_aload_n hx hb d_Model_isGreat_43 rfl (lv_at hl 1 rfl) ?_
        refine lv_iload_n hx hb d_Model_isGreat_44 rfl (lv_at hl 2 rfl) ?_
        refine lv_iload_n hx hb d_Model_isGreat_45 rfl (lv_at hl 0 rfl) ?_
        refine q_cV (rest := []) E (c_Model_limb l g n0 mo a k th (nI 0) (nI 14) pw td wr fd2 (by omega) (by omega)) w_979 w_15 w_976 w_978 (bw_s 18 rfl) hd_Model_limb rfl ⟨by decide, by decide⟩ (OB.recv E.2.2.2.2.2 (by rfl) hm.1) (⟨hm.1, hm.2.2.2.2.1⟩) hF hl.1 rfl (Nat.le_of_ble_eq_true rfl) d_Model_isGreat_46 ⟨by decide, by decide⟩ (ql (fun v2 H23 locs hq hF => ?_))
        obtain ⟨hq, hq9⟩ := hq
        obtain rfl := hq9
        subst hq
        refine lv_aload_n hx hb d_Model_isGreat_49 rfl (lv_at hl 1 rfl) ?_
        refine lv_sipush (v := nI 147) hx hb d_Model_isGreat_50 (by decide) ?_
        refine lv_iload_n hx hb d_Model_isGreat_53 rfl (lv_at hl 0 rfl) ?_
        refine q_cV (rest := [.long (fd2 (14 * a + k))]) E (c_Model_limb l g n0 mo 147 k th (nI 0) (nI 14) pw td wr fd2 (by omega) (by omega)) w_979 w_15 w_976 w_978 (bw_s 18 rfl) hd_Model_limb rfl ⟨by decide, by decide⟩ (OB.recv E.2.2.2.2.2 (by rfl) hm.1) (⟨hm.1, hm.2.2.2.2.1⟩) hF hl.1 rfl (Nat.le_of_ble_eq_true rfl) d_Model_isGreat_54 ⟨by decide, by decide⟩ (ql (fun u2 H24 locs hq hF => ?_))
        obtain ⟨hq, hq9⟩ := hq
        obtain rfl := hq9
        subst hq
        refine W.lcmp hx hb d_Model_isGreat_57 ?_
        refine lv_if_le (tgt := 65) hx hb d_Model_isGreat_58 (by decide) (fun h2 => ?_) (fun h2 => ?_)
        rotate_left
        · skip
          refine lv_iconst (v := nI 1) hx hb d_Model_isGreat_61 (by decide) ?_
          refine lv_goto (tgt := 66) hx hb d_Model_isGreat_62 (by decide) ?_
          exact q_zret E hr rfl hlk (⟨_, rfl, Or.inl ⟨rfl, by rw [← e1, ← e2]; exact VL_lex (f := fun k => fd2 (14 * 147 + k)) (h := fun k => fd2 (14 * a + k)) (k := k) (by omega) hd1 hd2 (fun j a c => (heq j (by omega) c).symm) (cmp_gtx h2)⟩, hfr, fd2, hm, hoff⟩) hF d_Model_isGreat_66
        refine lv_iconst (v := nI 0) hx hb d_Model_isGreat_65 (by decide) ?_
        exact q_zret E hr rfl hlk (⟨_, rfl, Or.inr ⟨rfl, fun h => by rw [← e1, ← e2] at h; exact absurd h (Int.not_lt.mpr (Int.le_of_lt (VL_lex (f := fun k => fd2 (14 * a + k)) (h := fun k => fd2 (14 * 147 + k)) (k := k) (by omega) hd2 hd1 (fun j a c => heq j (by omega) c) (cmp_ltx h1 h2))))⟩, hfr, fd2, hm, hoff⟩) hF d_Model_isGreat_66
      refine lv_iinc (k := 0) (v := nI k - 1) (lv' := [(2, .int (nI k - 1)), (0, .ref mo), (1, .int (nI a))]) hx hb d_Model_isGreat_67 hl rfl (i_dec _) (by decide) rfl (fun ls hl => ?_)
      refine lv_goto (tgt := 21) hx hb d_Model_isGreat_70 (by decide) ?_
      have hl : lv_has ls 3 [(2, .int (nI k - 1)), (0, .ref mo), (1, .int (nI a))] := lv_sub hl [0, 1, 2] rfl
      exact ih _ ls _ (by omega) rfl (fun j h3 h4 => if e : j = k then by subst e; exact cmp_eq h1 else heq j (by omega) h4) hF hl
  exact lp 14 _ ls _ (by decide) (by decide) (fun j h3 h4 => absurd h4 (by omega)) hF hl
