theorem SAME.um {g : WG} {n0 : Nat → Prop} {H : Heap} {mo : Nat} {th pw td wr : Int32} {w n i s : Nat} {fd fd1 : Nat → Int64} {x : Int64} {P : Nat → Prop} (h : SAME fd fd1 P) (_ : MS g n0 H mo th pw td wr w n (vp_updL fd1 i x)) (hp : P s) (hi : 14 * s ≤ i ∧ i < 14 * s + 14) : SAME fd (vp_updL fd1 i x) P := h.put (s := s) (fun j hj => pk_uLn (by omega)) hp
theorem S_Model_halves (l : Launch) (g : WG) (n0 : Nat → Prop) (mo r c9 : Nat) (th pw td wr : Int32) (w n : Nat) (hw : WH w n) (fd : Nat → Int64) (hr1 : r < 170) (hc9 : c9 < 2147483648) : Ctr l y_Model_halves (.code y_Model_halves prog_11_method_22_code 5 none) 1 22 0 0 n0 g [.ref mo, .int (nI r), .int (nI c9)] (fun H => MS g n0 H mo th pw td wr w n fd) (QV (fun H H' => FRM (MR mo) H H' ∧ ∃ fd', MS g n0 H' mo th pw td wr w n fd' ∧ SAME fd fd' (fun t => t = r))) :=
  (N_Model_halves l g n0 mo r c9 th pw td wr w n hw fd hr1 hc9 _ rfl).imp (fun _ h => h) (fun v H H' h _ => ⟨h.1, by
    obtain ⟨hfr, fd', hm, hout, -⟩ := h.2
    exact ⟨hfr, fd', hm, fun t k hp hk => hout _ (by have hp : ¬ t = r := hp; omega)⟩⟩)
theorem S_Model_small (l : Launch) (g : WG) (n0 : Nat → Prop) (mo r : Nat) (vz : Int64) (th pw td wr : Int32) (w n : Nat) (hw : WH w n) (fd : Nat → Int64) (hr1 : r < 170) (hvz : 0 ≤ vz.toInt) : Ctr l y_Model_small (.code y_Model_small prog_11_method_23_code 5 none) 1 22 0 0 n0 g [.ref mo, .int (nI r), .long vz] (fun H => MS g n0 H mo th pw td wr w n fd) (QV (fun H H' => FRM (MR mo) H H' ∧ ∃ fd', MS g n0 H' mo th pw td wr w n fd' ∧ SAME fd fd' (fun t => t = r))) :=
  (N_Model_small l g n0 mo r vz th pw td wr w n hw fd hr1 hvz).imp (fun _ h => h) (fun v H H' h _ => ⟨h.1, by
    obtain ⟨hfr, fd', hm, hout, -⟩ := h.2
    exact ⟨hfr, fd', hm, fun t k hp hk => hout _ (by have hp : ¬ t = r := hp; omega)⟩⟩)
set_option maxHeartbeats 4000000 in
set_option maxRecDepth 100000 in
theorem S_Model_raise (l : Launch) (g : WG) (n0 : Nat → Prop) (mo r a b : Nat) (th pw td wr : Int32) (w n : Nat) (hw : WH w n) (fd : Nat → Int64) (hr1 : r < 170) (ha : a < 170) (hb1 : b < 170) : Ctr l y_Model_raise (.code y_Model_raise prog_11_method_19_code 5 none) 3 79 0 0 n0 g [.ref mo, .int (nI r), .int (nI a), .int (nI b)] (fun H => MS g n0 H mo th pw td wr w n fd) (QV (fun H H' => FRM (MR mo) H H' ∧ ∃ fd', MS g n0 H' mo th pw td wr w n fd' ∧ SAME fd fd' (fun t => 120 ≤ t ∨ t = r))) := by
  refine ctr_mk l (lv0 := [(0, .ref mo), (1, .int (nI r)), (2, .int (nI a)), (3, .int (nI b))]) (by decide) (Nat.le_of_ble_eq_true rfl) rfl ?_
  intro p e s m below meth c ls E hr hlk hnm hl hP
  have hx := E.1
  have hb := E.2.1
  have hK := E.2.2.2.2.2
  have hF : ∀ q ∈ ([] : List Loc), n0 q.base := fun q hq => absurd hq List.not_mem_nil
  have hm := hP
  have hDD := hm.2.2.2.2.2.1
  obtain ⟨hpd, hn1, hn14, hw1, hPT, hP1, hT0, hT1⟩ := wh_kP hw
  have hfr : FRM (MR mo) s.heap s.heap := FRM.rf
  have hS : SAME fd fd (fun t => 120 ≤ t ∨ t = r) := SAME.rf
  have loop : ∀ (k : Nat) (H : Heap) (locs : List Loc) (ls : Array Slot) (v : Int32) (fd1 : Nat → Int64), k ≤ 392 → v = nI k - 1 → FRM (MR mo) s.heap H → MS g n0 H mo th pw td wr w n fd1 → SAME fd fd1 (fun t => 120 ≤ t ∨ t = r) → (∀ q ∈ locs, n0 q.base) → lv_has ls 5 [(4, .int v), (0, .ref mo), (1, .int (nI r)), (2, .int (nI a)), (3, .int (nI b))] → W p l e { frames := 3, cells := 0, slots := 0, locals := 79 } s m [.ref mo, .int (nI r), .int (nI a), .int (nI b)].toArray below meth c H locs 0 0 (MQ below (QcP (QV (fun H H' => FRM (MR mo) H H' ∧ ∃ fd', MS g n0 H' mo th pw td wr w n fd' ∧ SAME fd fd' (fun t => 120 ≤ t ∨ t = r)))) [.ref mo, .int (nI r), .int (nI a), .int (nI b)].toArray s 0 0 (fun q => n0 q)) (F0 m 18 ls []) := by
    intro k
    induction k with
    | zero =>
      intro  H   locs   ls   v   fd1 hk392 hv0 hfr hm hS hF hl
      subst hv0
      refine lv_iload hx hb d_Model_raise_18 (lv_at hl 0 rfl) ?_
      refine lv_if_lt (tgt := 60) hx hb d_Model_raise_20 (by decide) (fun _ => ?_) (fun h9 => absurd (by decide) h9)
      refine lv_aload_n hx hb d_Model_raise_60 rfl (lv_at hl 1 rfl) ?_
      refine lv_iload_n hx hb d_Model_raise_61 rfl (lv_at hl 2 rfl) ?_
      refine lv_bipush (v := nI 121) hx hb d_Model_raise_62 (by decide) ?_
      refine q_cV (rest := []) E (c_Model_move l g n0 mo r 121 th pw td wr w n hw  fd1 (by omega) (by omega) ) w_1076 w_15 w_1073 w_1075 (bw_s 27 rfl) hd_Model_move rfl ⟨by decide, by decide⟩ (OB.recv E.2.2.2.2.2 (by rfl) hm.1) hm hF hl.1 rfl (Nat.le_of_ble_eq_true rfl) d_Model_raise_64 ⟨by decide, by decide⟩ (qv (fun H1 locs hq hF => ?_))
      obtain ⟨hq, fd_3, hm, hpv⟩ := hq
      have hS := hS.put hpv.1 (by show 120 ≤ _ ∨ _ = r; omega)
      have hfr := hfr.tr hq
      exact q_vret E hr hlk (⟨rfl, hfr, _, hm, hS⟩) hF d_Model_raise_67
    | succ k ih =>
      intro  H   locs   ls   v   fd1 hk392 hv0 hfr hm hS hF hl
      rw [nI_pred] at hv0
      subst hv0
      refine lv_iload hx hb d_Model_raise_18 (lv_at hl 0 rfl) ?_
      refine lv_if_lt (tgt := 60) hx hb d_Model_raise_20 (by decide) (fun h9 => absurd h9 (nI_pos (by omega))) (fun _ => ?_)
      refine lv_aload_n hx hb d_Model_raise_23 rfl (lv_at hl 1 rfl) ?_
      refine lv_bipush (v := nI 121) hx hb d_Model_raise_24 (by decide) ?_
      refine lv_bipush (v := nI 121) hx hb d_Model_raise_26 (by decide) ?_
      refine lv_bipush (v := nI 121) hx hb d_Model_raise_28 (by decide) ?_
      refine q_cV (rest := []) E (c_Model_product l g n0 mo 121 121 121 th pw td wr w n hw  fd1 (by omega) (by omega) (by omega) ) w_1113 w_15 w_1110 w_1112 (bw_s 32 rfl) hd_Model_product rfl ⟨by decide, by decide⟩ (OB.recv E.2.2.2.2.2 (by rfl) hm.1) hm hF hl.1 rfl (Nat.le_of_ble_eq_true rfl) d_Model_raise_30 ⟨by decide, by decide⟩ (qv (fun H1 locs hq hF => ?_))
      obtain ⟨hq, fd_4, hm, hpv, hv⟩ := hq
      have hS := hS.put hpv.1 (by show 120 ≤ _ ∨ _ = r; omega)
      have hfr := hfr.tr (kjR hq)
      refine lv_aload_n hx hb d_Model_raise_33 rfl (lv_at hl 1 rfl) ?_
      refine lv_iload_n hx hb d_Model_raise_34 rfl (lv_at hl 4 rfl) ?_
      refine lv_iload hx hb d_Model_raise_35 (lv_at hl 0 rfl) ?_
      refine q_cV (rest := []) E (c_Model_bit l g n0 mo b k th pw td wr w n hw  fd_4 (by omega) (by omega) ) w_1093 w_15 w_1090 w_1092 (bw_s 29 rfl) hd_Model_bit rfl ⟨by decide, by decide⟩ (OB.recv E.2.2.2.2.2 (by rfl) hm.1) hm hF hl.1 rfl (Nat.le_of_ble_eq_true rfl) d_Model_raise_37 ⟨by decide, by decide⟩ (qi (fun rb H2 locs hq hF => ?_))
      obtain ⟨hbit, hq⟩ := hq
      subst hq
      refine lv_iconst (v := nI 1) hx hb d_Model_raise_40 (by decide) ?_
      refine lv_icmp_ne (tgt := 54) hx hb d_Model_raise_41 (by decide) (fun hc => ?_) (fun hc => ?_)
      rotate_left
      · skip
        refine lv_aload_n hx hb d_Model_raise_44 rfl (lv_at hl 1 rfl) ?_
        refine lv_bipush (v := nI 121) hx hb d_Model_raise_45 (by decide) ?_
        refine lv_bipush (v := nI 121) hx hb d_Model_raise_47 (by decide) ?_
        refine lv_bipush (v := nI 122) hx hb d_Model_raise_49 (by decide) ?_
        refine q_cV (rest := []) E (c_Model_product l g n0 mo 121 121 122 th pw td wr w n hw  fd_4 (by omega) (by omega) (by omega) ) w_1113 w_15 w_1110 w_1112 (bw_s 32 rfl) hd_Model_product rfl ⟨by decide, by decide⟩ (OB.recv E.2.2.2.2.2 (by rfl) hm.1) hm hF hl.1 rfl (Nat.le_of_ble_eq_true rfl) d_Model_raise_51 ⟨by decide, by decide⟩ (qv (fun H3 locs hq hF => ?_))
        obtain ⟨hq, fd_5, hm, hpv, hv⟩ := hq
        have hS := hS.put hpv.1 (by show 120 ≤ _ ∨ _ = r; omega)
        have hfr := hfr.tr (kjR hq)
        refine lv_iinc (k := 0) (v := nI k - 1) (lv' := [(4, .int (nI k - 1)), (0, .ref mo), (1, .int (nI r)), (2, .int (nI a)), (3, .int (nI b))]) hx hb d_Model_raise_54 hl rfl (i_dec _) (by decide) rfl (fun ls hl => ?_)
        refine lv_goto (tgt := 18) hx hb d_Model_raise_57 (by decide) ?_
        have hl : lv_has ls 5 [(4, .int (nI k - 1)), (0, .ref mo), (1, .int (nI r)), (2, .int (nI a)), (3, .int (nI b))] := lv_sub hl [0, 1, 2, 3, 4] rfl
        exact ih _ _ ls _ _ (by omega) rfl hfr hm hS hF hl
      refine lv_iinc (k := 0) (v := nI k - 1) (lv' := [(4, .int (nI k - 1)), (0, .ref mo), (1, .int (nI r)), (2, .int (nI a)), (3, .int (nI b))]) hx hb d_Model_raise_54 hl rfl (i_dec _) (by decide) rfl (fun ls hl => ?_)
      refine lv_goto (tgt := 18) hx hb d_Model_raise_57 (by decide) ?_
      have hl : lv_has ls 5 [(4, .int (nI k - 1)), (0, .ref mo), (1, .int (nI r)), (2, .int (nI a)), (3, .int (nI b))] := lv_sub hl [0, 1, 2, 3, 4] rfl
      exact ih _ _ ls _ _ (by omega) rfl hfr hm hS hF hl
  refine lv_aload_n hx hb d_Model_raise_0 rfl (lv_at hl 0 rfl) ?_
  refine lv_bipush (v := nI 122) hx hb d_Model_raise_1 (by decide) ?_
  refine lv_iload_n hx hb d_Model_raise_3 rfl (lv_at hl 2 rfl) ?_
  refine q_cV (rest := []) E (c_Model_move l g n0 mo 122 a th pw td wr w n hw  fd (by omega) (by omega) ) w_1076 w_15 w_1073 w_1075 (bw_s 27 rfl) hd_Model_move rfl ⟨by decide, by decide⟩ (OB.recv E.2.2.2.2.2 (by rfl) hm.1) hm hF hl.1 rfl (Nat.le_of_ble_eq_true rfl) d_Model_raise_4 ⟨by decide, by decide⟩ (qv (fun H1 locs hq hF => ?_))
  obtain ⟨hq, fd_1, hm, hpv⟩ := hq
  have hS := hS.put hpv.1 (by show 120 ≤ _ ∨ _ = r; omega)
  have hfr := hfr.tr hq
  refine lv_aload_n hx hb d_Model_raise_7 rfl (lv_at hl 0 rfl) ?_
  refine lv_bipush (v := nI 121) hx hb d_Model_raise_8 (by decide) ?_
  refine q_cV (rest := []) E (c_Model_one l g n0 mo 121 th pw td wr w n hw  fd_1 (by omega) ) w_971 w_15 w_968 w_970 (bw_s 16 rfl) hd_Model_one rfl ⟨by decide, by decide⟩ (OB.recv E.2.2.2.2.2 (by rfl) hm.1) hm hF hl.1 rfl (Nat.le_of_ble_eq_true rfl) d_Model_raise_10 ⟨by decide, by decide⟩ (qv (fun H2 locs hq hF => ?_))
  obtain ⟨hq, fd_2, hm, hpv⟩ := hq
  have hS := hS.put hpv.1 (by show 120 ≤ _ ∨ _ = r; omega)
  have hfr := hfr.tr hq
  refine lv_sipush (v := nI 391) hx hb d_Model_raise_13 (by decide) ?_
  refine lv_istore (lv' := [(4, .int (nI 391)), (0, .ref mo), (1, .int (nI r)), (2, .int (nI a)), (3, .int (nI b))]) hx hb d_Model_raise_16 hl (by decide) rfl (fun ls hl => ?_)
  have hl : lv_has ls 5 [(4, .int (nI 391)), (0, .ref mo), (1, .int (nI r)), (2, .int (nI a)), (3, .int (nI b))] := lv_sub hl [0, 1, 2, 3, 4] rfl
  exact loop 392 _ _ ls _ _ (by decide) rfl hfr hm hS hF hl
set_option maxHeartbeats 4000000 in
set_option maxRecDepth 100000 in
theorem S_Model_primeAnd (l : Launch) (g : WG) (n0 : Nat → Prop) (mo r : Nat) (qz : Int64) (th pw td wr : Int32) (w n : Nat) (hw : WH w n) (fd : Nat → Int64) (hr1 : r < 170) (hqz : -4294967296 ≤ qz.toInt ∧ qz.toInt ≤ 4294967296) : Ctr l y_Model_primeAnd (.code y_Model_primeAnd prog_11_method_20_code 5 none) 1 24 0 0 n0 g [.ref mo, .int (nI r), .long qz] (fun H => MS g n0 H mo th pw td wr w n fd) (QV (fun H H' => FRM (MR mo) H H' ∧ ∃ fd', MS g n0 H' mo th pw td wr w n fd' ∧ SAME fd fd' (fun t => t = r))) := by
  refine ctr_mk l (lv0 := [(0, .ref mo), (1, .int (nI r)), (2, .long qz)]) (by decide) (Nat.le_of_ble_eq_true rfl) rfl ?_
  intro p e s m below meth c ls E hr hlk hnm hl hP
  have hx := E.1
  have hb := E.2.1
  have hK := E.2.2.2.2.2
  have hF : ∀ q ∈ ([] : List Loc), n0 q.base := fun q hq => absurd hq List.not_mem_nil
  obtain ⟨hmo, hpr, ⟨fa, hab, had⟩, ⟨fc, hac⟩, hfd, hDD, hn01, hn05⟩ := id hP
  obtain ⟨hpd, hn1, hn14, hw1, hPT, hP1, hT0, hT1⟩ := wh_kP hw
  have cp : ∀ (k : Nat) (i : Nat) (H : Heap) (locs : List Loc) (ls : Array Slot) (f1 fd1 : Nat → Int64), i + k = 14 → KJ g (fun q => q = mo + 1 ∨ q = mo + 5) s.heap H → AJ g H (mo + 5) 32 f1 → (∀ k, k < 14 → dg (f1 k)) → AJ g H (mo + 1) 2380 fd1 → DD fd1 → SAME fd fd1 (fun t => t = r) → (∀ q ∈ locs, n0 q.base) → lv_has ls 5 [(4, .int (nI i)), (0, .ref mo), (1, .int (nI r))] → W p l e { frames := 1, cells := 0, slots := 0, locals := 24 } s m [.ref mo, .int (nI r), .long qz].toArray below meth c H locs 0 0 (MQ below (QcP (QV (fun H H' => FRM (MR mo) H H' ∧ ∃ fd', MS g n0 H' mo th pw td wr w n fd' ∧ SAME fd fd' (fun t => t = r)))) [.ref mo, .int (nI r), .long qz].toArray s 0 0 (fun q => n0 q)) (F0 m 69 ls []) := by
    intro k
    induction k with
    | zero =>
      intro  i   H   locs   ls   f1 fd1 hi hk hf hdf hfd hD1 hS hF hl
      obtain rfl : i = 14 := by omega
      refine lv_iload hx hb d_Model_primeAnd_69 (lv_at hl 0 rfl) ?_
      refine lv_bipush (v := nI 14) hx hb d_Model_primeAnd_71 (by decide) ?_
      refine lv_icmp_ge (tgt := 101) hx hb d_Model_primeAnd_73 (by decide) (fun _ => ?_) (fun h9 => absurd (by decide) h9)
      exact q_vret E hr hlk (⟨rfl, kjR hk, fd1, hP.step hK hk hfd hD1, hS⟩) hF d_Model_primeAnd_101
    | succ k ih =>
      intro  i   H   locs   ls   f1 fd1 hi hk hf hdf hfd hD1 hS hF hl
      refine lv_iload hx hb d_Model_primeAnd_69 (lv_at hl 0 rfl) ?_
      refine lv_bipush (v := nI 14) hx hb d_Model_primeAnd_71 (by decide) ?_
      refine lv_icmp_ge (tgt := 101) hx hb d_Model_primeAnd_73 (by decide) (fun h9 => absurd h9 (nI_ge (by omega) (by decide))) (fun _ => ?_)
      refine lv_aload_n hx hb d_Model_primeAnd_76 rfl (lv_at hl 1 rfl) ?_
      refine q_get (C := "KateDeskModel") (T := T_Model) (N := 14) (ci := 8) E (hk.ob hK hmo) in_Model rfl 1 (by decide) w_1002 rfl rfl d_Model_primeAnd_77 ?_
      refine lv_bipush (v := nI 14) hx hb d_Model_primeAnd_80 (by decide) ?_
      refine lv_iload_n hx hb d_Model_primeAnd_82 rfl (lv_at hl 2 rfl) ?_
      refine lv_imul hx hb d_Model_primeAnd_83 ?_
      refine lv_topi (fun t9 e9 => ?_)
      obtain rfl : t9 = nI (14 * r) := e9.trans (pk_mul _ _)
      refine lv_iload hx hb d_Model_primeAnd_84 (lv_at hl 0 rfl) ?_
      refine lv_iadd hx hb d_Model_primeAnd_86 ?_
      refine lv_topi (fun t9 e9 => ?_)
      obtain rfl : t9 = nI (14 * r + i) := e9.trans (nI_add _ _)
      refine lv_aload_n hx hb d_Model_primeAnd_87 rfl (lv_at hl 1 rfl) ?_
      refine q_get (C := "KateDeskModel") (T := T_Model) (N := 14) (ci := 8) E (hk.ob hK hmo) in_Model rfl 5 (by decide) w_1006 rfl rfl d_Model_primeAnd_88 ?_
      refine lv_iload hx hb d_Model_primeAnd_91 (lv_at hl 0 rfl) ?_
      refine q_lald (N := 32) (f := f1) E hf i rfl (by omega) (by decide) d_Model_primeAnd_93 ?_
      refine q_last E hfd hn01 hF (14 * r + i) rfl (by omega) (by decide) d_Model_primeAnd_94 (fun H1 locs hq hfd2 hF => ?_)
      have hk := hk.tr (hq.mono (fun q h => Or.inl h))
      have hf := hq.ajo (by omega) hf
      refine lv_iinc (k := 0) (v := nI (i + 1)) (lv' := [(4, .int (nI (i + 1))), (0, .ref mo), (1, .int (nI r))]) hx hb d_Model_primeAnd_95 hl rfl (i_inc i) (by decide) rfl (fun ls hl => ?_)
      refine lv_goto (tgt := 69) hx hb d_Model_primeAnd_98 (by decide) ?_
      have hl : lv_has ls 5 [(4, .int (nI (i + 1))), (0, .ref mo), (1, .int (nI r))] := lv_sub hl [0, 1, 2] rfl
      exact ih (i + 1) H1 _ ls _ _ (by omega) hk hf hdf hfd2 (hD1.upd (hdf i (by omega))) (hS.put (s := r) (fun j hj => pk_uLn (by omega)) rfl) hF hl
  have loop : ∀ (k : Nat) (i : Nat) (H : Heap) (locs : List Loc) (ls : Array Slot) (f1 : Nat → Int64), i + k = 15 → KJ g (fun q => q = mo + 5) s.heap H → AJ g H (mo + 5) 32 f1 → (∀ k, k < i → -4611686018427387904 ≤ (f1 k).toInt ∧ (f1 k).toInt ≤ 4611686018427387904) → (∀ q ∈ locs, n0 q.base) → lv_has ls 5 [(4, .int (nI i)), (0, .ref mo), (1, .int (nI r)), (2, .long qz)] → W p l e { frames := 1, cells := 0, slots := 0, locals := 24 } s m [.ref mo, .int (nI r), .long qz].toArray below meth c H locs 0 0 (MQ below (QcP (QV (fun H H' => FRM (MR mo) H H' ∧ ∃ fd', MS g n0 H' mo th pw td wr w n fd' ∧ SAME fd fd' (fun t => t = r)))) [.ref mo, .int (nI r), .long qz].toArray s 0 0 (fun q => n0 q)) (F0 m 3 ls []) := by
    intro k
    induction k with
    | zero =>
      intro  i   H   locs   ls   f1 hi hk5 hf hlow hF hl
      obtain rfl : i = 15 := by omega
      refine lv_iload hx hb d_Model_primeAnd_3 (lv_at hl 0 rfl) ?_
      refine lv_bipush (v := nI 14) hx hb d_Model_primeAnd_5 (by decide) ?_
      refine lv_icmp_gt (tgt := 60) hx hb d_Model_primeAnd_7 (by decide) (fun _ => ?_) (fun h9 => absurd (by decide) h9)
      refine lv_aload_n hx hb d_Model_primeAnd_60 rfl (lv_at hl 1 rfl) ?_
      refine lv_bipush (v := nI 14) hx hb d_Model_primeAnd_61 (by decide) ?_
      refine q_cV (rest := []) E (c_Model_carries l g n0 mo 14 th (nI w) (nI n) pw td wr f1 (by decide) (fun k hk1 => hlow k (by omega))) w_983 w_15 w_980 w_982 (bw_s 19 rfl) hd_Model_carries rfl ⟨by decide, by decide⟩ (OB.recv E.2.2.2.2.2 (by rfl) (hk5.ob hK hmo)) (⟨hk5.ob hK hmo, hf, hn05⟩) hF hl.1 rfl (Nat.le_of_ble_eq_true rfl) d_Model_primeAnd_63 ⟨by decide, by decide⟩ (qv (fun H1 locs hq hF => ?_))
      obtain ⟨hq, f3, hf3, hd3, hV3, hj3, hb3⟩ := hq
      have hk5 := hk5.tr hq
      refine lv_iconst (v := nI 0) hx hb d_Model_primeAnd_66 (by decide) ?_
      refine lv_istore (lv' := [(4, .int (nI 0)), (0, .ref mo), (1, .int (nI r)), (2, .long qz)]) hx hb d_Model_primeAnd_67 hl (by decide) rfl (fun ls hl => ?_)
      have hl : lv_has ls 5 [(4, .int (nI 0)), (0, .ref mo), (1, .int (nI r))] := lv_sub hl [0, 1, 2] rfl
      exact cp 14 0 _ _ ls f3 fd (by omega) (hk5.mono (fun q h => Or.inr h)) hf3 hd3 (hk5.ajo (by omega) hfd) hDD SAME.rf hF hl
    | succ k ih =>
      intro  i   H   locs   ls   f1 hi hk5 hf hlow hF hl
      refine lv_iload hx hb d_Model_primeAnd_3 (lv_at hl 0 rfl) ?_
      refine lv_bipush (v := nI 14) hx hb d_Model_primeAnd_5 (by decide) ?_
      refine lv_icmp_gt (tgt := 60) hx hb d_Model_primeAnd_7 (by decide) (fun h9 => absurd h9 (nI_nlt (by omega) (by decide))) (fun _ => ?_)
      refine lv_aload_n hx hb d_Model_primeAnd_10 rfl (lv_at hl 1 rfl) ?_
      refine q_get (C := "KateDeskModel") (T := T_Model) (N := 14) (ci := 8) E (hk5.ob hK hmo) in_Model rfl 5 (by decide) w_1006 rfl rfl d_Model_primeAnd_11 ?_
      refine lv_iload hx hb d_Model_primeAnd_14 (lv_at hl 0 rfl) ?_
      refine lv_iload hx hb d_Model_primeAnd_16 (lv_at hl 0 rfl) ?_
      refine lv_bipush (v := nI 14) hx hb d_Model_primeAnd_18 (by decide) ?_
      refine lv_icmp_ge (tgt := 52) hx hb d_Model_primeAnd_20 (by decide) (fun hin => ?_) (fun hin => ?_)
      rotate_left
      · skip
        have hin : i < 14 := Nat.lt_of_not_le (fun q => hin (nI_le q (by omega)))
        refine lv_aload_n hx hb d_Model_primeAnd_23 rfl (lv_at hl 1 rfl) ?_
        refine q_get (C := "KateDeskModel") (T := T_Model) (N := 14) (ci := 8) E (hk5.ob hK hmo) in_Model rfl 2 (by decide) w_1003 rfl rfl d_Model_primeAnd_24 ?_
        refine lv_bipush (v := nI 14) hx hb d_Model_primeAnd_27 (by decide) ?_
        refine lv_aload_n hx hb d_Model_primeAnd_29 rfl (lv_at hl 1 rfl) ?_
        refine q_get (C := "KateDeskModel") (T := T_Model) (N := 14) (ci := 8) E (hk5.ob hK hmo) in_Model rfl 6 (by decide) w_1007 rfl rfl d_Model_primeAnd_30 ?_
        refine lv_imul hx hb d_Model_primeAnd_33 ?_
        refine lv_iload hx hb d_Model_primeAnd_34 (lv_at hl 0 rfl) ?_
        refine lv_iadd hx hb d_Model_primeAnd_36 ?_
        have hpi : (nI 14) * (nI w) + nI i = nI (14 * w + i) := by rw [pk_mul, nI_add]
        refine q_lald (N := 28) (f := kPr) E (hk5.ajo (by omega) hpr) (14 * w + i) hpi (by omega) (by decide) d_Model_primeAnd_37 ?_
        refine lv_iload hx hb d_Model_primeAnd_38 (lv_at hl 0 rfl) ?_
        refine lv_if_ne (tgt := 47) hx hb d_Model_primeAnd_40 (by decide) (fun h0 => ?_) (fun h0 => ?_)
        rotate_left
        · skip
          refine lv_lload_n hx hb d_Model_primeAnd_43 rfl (lv_at hl 3 rfl) ?_
          refine lv_goto (tgt := 48) hx hb d_Model_primeAnd_44 (by decide) ?_
          refine lv_ladd hx hb d_Model_primeAnd_48 ?_
          refine lv_goto (tgt := 53) hx hb d_Model_primeAnd_49 (by decide) ?_
          refine lv_topl (fun t et => ?_)
          have hbt : -4611686018427387904 ≤ t.toInt ∧ t.toInt ≤ 4611686018427387904 := by have h1 := hpd i hin; unfold dg at h1; rw [show t = kP w i + qz from et]; rw [i64_add (x := kP w i) (y := qz) (by omega) (by omega)]; omega
          refine q_last E hf hn05 hF i rfl (by omega) (by decide) d_Model_primeAnd_53 (fun H1 locs hq hf2 hF => ?_)
          have hk5 := hk5.tr hq
          refine lv_iinc (k := 0) (v := nI (i + 1)) (lv' := [(4, .int (nI (i + 1))), (0, .ref mo), (1, .int (nI r)), (2, .long qz)]) hx hb d_Model_primeAnd_54 hl rfl (i_inc i) (by decide) rfl (fun ls hl => ?_)
          refine lv_goto (tgt := 3) hx hb d_Model_primeAnd_57 (by decide) ?_
          have hl : lv_has ls 5 [(4, .int (nI (i + 1))), (0, .ref mo), (1, .int (nI r)), (2, .long qz)] := lv_sub hl [0, 1, 2, 3] rfl
          exact ih (i + 1) H1 _ ls _ (by omega) hk5 hf2 (fun k hk1 => by by_cases e : k = i; (subst e; rw [pk_uLs]; exact hbt); (rw [pk_uLn e]; exact hlow k (by omega))) hF hl
        refine lv_lconst (v := 0) hx hb d_Model_primeAnd_47 (by decide) ?_
        refine lv_ladd hx hb d_Model_primeAnd_48 ?_
        refine lv_goto (tgt := 53) hx hb d_Model_primeAnd_49 (by decide) ?_
        refine lv_topl (fun t et => ?_)
        have hbt : -4611686018427387904 ≤ t.toInt ∧ t.toInt ≤ 4611686018427387904 := by have h1 := hpd i hin; unfold dg at h1; rw [show t = kP w i + 0 from et]; rw [i64_add (x := kP w i) (y := 0) (by rw [show (0 : Int64).toInt = 0 by decide]; omega) (by rw [show (0 : Int64).toInt = 0 by decide]; omega), show (0 : Int64).toInt = 0 by decide]; omega
        refine q_last E hf hn05 hF i rfl (by omega) (by decide) d_Model_primeAnd_53 (fun H1 locs hq hf2 hF => ?_)
        have hk5 := hk5.tr hq
        refine lv_iinc (k := 0) (v := nI (i + 1)) (lv' := [(4, .int (nI (i + 1))), (0, .ref mo), (1, .int (nI r)), (2, .long qz)]) hx hb d_Model_primeAnd_54 hl rfl (i_inc i) (by decide) rfl (fun ls hl => ?_)
        refine lv_goto (tgt := 3) hx hb d_Model_primeAnd_57 (by decide) ?_
        have hl : lv_has ls 5 [(4, .int (nI (i + 1))), (0, .ref mo), (1, .int (nI r)), (2, .long qz)] := lv_sub hl [0, 1, 2, 3] rfl
        exact ih (i + 1) H1 _ ls _ (by omega) hk5 hf2 (fun k hk1 => by by_cases e : k = i; (subst e; rw [pk_uLs]; exact hbt); (rw [pk_uLn e]; exact hlow k (by omega))) hF hl
      refine lv_lconst (v := 0) hx hb d_Model_primeAnd_52 (by decide) ?_
      refine lv_topl (fun t et => ?_)
      have hbt : -4611686018427387904 ≤ t.toInt ∧ t.toInt ≤ 4611686018427387904 := by rw [et]; exact ⟨by decide, by decide⟩
      refine q_last E hf hn05 hF i rfl (by omega) (by decide) d_Model_primeAnd_53 (fun H1 locs hq hf2 hF => ?_)
      have hk5 := hk5.tr hq
      refine lv_iinc (k := 0) (v := nI (i + 1)) (lv' := [(4, .int (nI (i + 1))), (0, .ref mo), (1, .int (nI r)), (2, .long qz)]) hx hb d_Model_primeAnd_54 hl rfl (i_inc i) (by decide) rfl (fun ls hl => ?_)
      refine lv_goto (tgt := 3) hx hb d_Model_primeAnd_57 (by decide) ?_
      have hl : lv_has ls 5 [(4, .int (nI (i + 1))), (0, .ref mo), (1, .int (nI r)), (2, .long qz)] := lv_sub hl [0, 1, 2, 3] rfl
      exact ih (i + 1) H1 _ ls _ (by omega) hk5 hf2 (fun k hk1 => by by_cases e : k = i; (subst e; rw [pk_uLs]; exact hbt); (rw [pk_uLn e]; exact hlow k (by omega))) hF hl
  refine lv_iconst (v := nI 0) hx hb d_Model_primeAnd_0 (by decide) ?_
  refine lv_istore (lv' := [(4, .int (nI 0)), (0, .ref mo), (1, .int (nI r)), (2, .long qz)]) hx hb d_Model_primeAnd_1 hl (by decide) rfl (fun ls hl => ?_)
  have hl : lv_has ls 5 [(4, .int (nI 0)), (0, .ref mo), (1, .int (nI r)), (2, .long qz)] := lv_sub hl [0, 1, 2, 3] rfl
  exact loop 15 0 s.heap [] ls fc (by omega) KJ.rf hac (fun k hk1 => absurd hk1 (Nat.not_lt_zero _)) hF hl
set_option maxHeartbeats 4000000 in
set_option maxRecDepth 100000 in
theorem S_Model_inverse (l : Launch) (g : WG) (n0 : Nat → Prop) (mo r a : Nat) (th pw td wr : Int32) (w n : Nat) (hw : WH w n) (fd : Nat → Int64) (hr1 : r < 170) (ha : a < 170) : Ctr l y_Model_inverse (.code y_Model_inverse prog_11_method_21_code 3 none) 4 103 0 0 n0 g [.ref mo, .int (nI r), .int (nI a)] (fun H => MS g n0 H mo th pw td wr w n fd) (QV (fun H H' => FRM (MR mo) H H' ∧ ∃ fd', MS g n0 H' mo th pw td wr w n fd' ∧ SAME fd fd' (fun t => 120 ≤ t ∨ t = r))) := by
  refine ctr_mk l (lv0 := [(0, .ref mo), (1, .int (nI r)), (2, .int (nI a))]) (by decide) (Nat.le_of_ble_eq_true rfl) rfl ?_
  intro p e s m below meth c ls E hr hlk hnm hl hP
  have hx := E.1
  have hb := E.2.1
  have hK := E.2.2.2.2.2
  have hF : ∀ q ∈ ([] : List Loc), n0 q.base := fun q hq => absurd hq List.not_mem_nil
  have hm := hP
  have hDD := hm.2.2.2.2.2.1
  obtain ⟨hpd, hn1, hn14, hw1, hPT, hP1, hT0, hT1⟩ := wh_kP hw
  have hfr : FRM (MR mo) s.heap s.heap := FRM.rf
  have hS : SAME fd fd (fun t => 120 ≤ t ∨ t = r) := SAME.rf
  refine lv_aload_n hx hb d_Model_inverse_0 rfl (lv_at hl 0 rfl) ?_
  refine lv_bipush (v := nI 123) hx hb d_Model_inverse_1 (by decide) ?_
  refine lv_ldc2 (v := -2) hx hb E.2.2.2.1 (E.2.2.2.2.1 _ w_1118) d_Model_inverse_3 ?_
  refine q_cV (rest := []) E (S_Model_primeAnd l g n0 mo 123 (-2) th pw td wr w n hw fd (by omega) (by decide)) w_1122 w_15 w_1119 w_1121 (bw_s 34 rfl) hd_Model_primeAnd rfl ⟨by decide, by decide⟩ (OB.recv E.2.2.2.2.2 (by rfl) hm.1) hm hF hl.1 rfl (Nat.le_of_ble_eq_true rfl) d_Model_inverse_6 ⟨by decide, by decide⟩ (qv (fun H1 locs hq hF => ?_))
  obtain ⟨hq, fd_1, hm, hS9⟩ := hq
  have hS := hS.tr (hS9.mono (fun t h => by show 120 ≤ t ∨ t = r; omega))
  have hfr := hfr.tr hq
  refine lv_aload_n hx hb d_Model_inverse_9 rfl (lv_at hl 0 rfl) ?_
  refine lv_iload_n hx hb d_Model_inverse_10 rfl (lv_at hl 1 rfl) ?_
  refine lv_iload_n hx hb d_Model_inverse_11 rfl (lv_at hl 2 rfl) ?_
  refine lv_bipush (v := nI 123) hx hb d_Model_inverse_12 (by decide) ?_
  refine q_cV (rest := []) E (S_Model_raise l g n0 mo r a 123 th pw td wr w n hw  fd_1 (by omega) (by omega) (by omega) ) w_1126 w_15 w_1123 w_1125 (bw_s 35 rfl) hd_Model_raise rfl ⟨by decide, by decide⟩ (OB.recv E.2.2.2.2.2 (by rfl) hm.1) hm hF hl.1 rfl (Nat.le_of_ble_eq_true rfl) d_Model_inverse_14 ⟨by decide, by decide⟩ (qv (fun H2 locs hq hF => ?_))
  obtain ⟨hq, fd_2, hm, hS9⟩ := hq
  have hS := hS.tr (hS9.mono (fun t h => by show 120 ≤ t ∨ t = r; omega))
  have hfr := hfr.tr hq
  exact q_vret E hr hlk (⟨rfl, hfr, _, hm, hS⟩) hF d_Model_inverse_17
set_option maxHeartbeats 4000000 in
set_option maxRecDepth 100000 in
theorem S_Model_setByte (l : Launch) (g : WG) (n0 : Nat → Prop) (mo a kb : Nat) (vz : Int32) (th pw td wr : Int32) (w n : Nat) (hw : WH w n) (fd : Nat → Int64) (ha : a < 170) (hkb : kb < 48) : Ctr l y_Model_setByte (.code y_Model_setByte prog_11_method_25_code 5 none) 0 0 0 0 n0 g [.ref mo, .int (nI a), .int (nI kb), .int vz] (fun H => MS g n0 H mo th pw td wr w n fd) (QV (fun H H' => FRM (MR mo) H H' ∧ ∃ fd', MS g n0 H' mo th pw td wr w n fd' ∧ SAME fd fd' (fun t => t = a))) := by
  refine ctr_mk l (lv0 := [(0, .ref mo), (1, .int (nI a)), (2, .int (nI kb)), (3, .int vz)]) (by decide) (Nat.le_of_ble_eq_true rfl) rfl ?_
  intro p e s m below meth c ls E hr hlk hnm hl hP
  have hx := E.1
  have hb := E.2.1
  have hK := E.2.2.2.2.2
  have hF : ∀ q ∈ ([] : List Loc), n0 q.base := fun q hq => absurd hq List.not_mem_nil
  have hm := hP
  have hDD := hm.2.2.2.2.2.1
  obtain ⟨hpd, hn1, hn14, hw1, hPT, hP1, hT0, hT1⟩ := wh_kP hw
  have hfr : FRM (MR mo) s.heap s.heap := FRM.rf
  have hS : SAME fd fd (fun t => t = a) := SAME.rf
  have loop : ∀ (k : Nat) (i : Nat) (H : Heap) (locs : List Loc) (ls : Array Slot) (fd1 : Nat → Int64), i + k = 8 → FRM (MR mo) s.heap H → MS g n0 H mo th pw td wr w n fd1 → SAME fd fd1 (fun t => t = a) → (∀ q ∈ locs, n0 q.base) → lv_has ls 5 [(4, .int (nI i)), (0, .ref mo), (1, .int (nI a)), (2, .int (nI kb)), (3, .int vz)] → W p l e { frames := 0, cells := 0, slots := 0, locals := 0 } s m [.ref mo, .int (nI a), .int (nI kb), .int vz].toArray below meth c H locs 0 0 (MQ below (QcP (QV (fun H H' => FRM (MR mo) H H' ∧ ∃ fd', MS g n0 H' mo th pw td wr w n fd' ∧ SAME fd fd' (fun t => t = a)))) [.ref mo, .int (nI a), .int (nI kb), .int vz].toArray s 0 0 (fun q => n0 q)) (F0 m 3 ls []) := by
    intro k
    induction k with
    | zero =>
      intro  i   H   locs   ls   fd1 hi hfr hm hS hF hl
      obtain rfl : i = 8 := by omega
      refine lv_iload hx hb d_Model_setByte_3 (lv_at hl 0 rfl) ?_
      refine lv_bipush (v := nI 8) hx hb d_Model_setByte_5 (by decide) ?_
      refine lv_icmp_ge (tgt := 61) hx hb d_Model_setByte_7 (by decide) (fun _ => ?_) (fun h9 => absurd (by decide) h9)
      exact q_vret E hr hlk (⟨rfl, hfr, _, hm, hS⟩) hF d_Model_setByte_61
    | succ k ih =>
      intro  i   H   locs   ls   fd1 hi hfr hm hS hF hl
      refine lv_iload hx hb d_Model_setByte_3 (lv_at hl 0 rfl) ?_
      refine lv_bipush (v := nI 8) hx hb d_Model_setByte_5 (by decide) ?_
      refine lv_icmp_ge (tgt := 61) hx hb d_Model_setByte_7 (by decide) (fun h9 => absurd h9 (nI_ge (by omega) (by decide))) (fun _ => ?_)
      refine lv_iload_n hx hb d_Model_setByte_10 rfl (lv_at hl 4 rfl) ?_
      refine lv_iload hx hb d_Model_setByte_11 (lv_at hl 0 rfl) ?_
      refine lv_ishr hx hb d_Model_setByte_13 ?_
      refine lv_iconst (v := nI 1) hx hb d_Model_setByte_14 (by decide) ?_
      refine lv_iand hx hb d_Model_setByte_15 ?_
      refine lv_iconst (v := nI 1) hx hb d_Model_setByte_16 (by decide) ?_
      refine lv_icmp_ne (tgt := 55) hx hb d_Model_setByte_17 (by decide) (fun _ => ?_) (fun _ => ?_)
      rotate_left
      · skip
        refine lv_aload_n hx hb d_Model_setByte_20 rfl (lv_at hl 1 rfl) ?_
        refine q_get (C := "KateDeskModel") (T := T_Model) (N := 14) (ci := 8) E hm.1 in_Model rfl 1 (by decide) w_1002 rfl rfl d_Model_setByte_21 ?_
        refine lv_bipush (v := nI 14) hx hb d_Model_setByte_24 (by decide) ?_
        refine lv_iload_n hx hb d_Model_setByte_26 rfl (lv_at hl 2 rfl) ?_
        refine lv_imul hx hb d_Model_setByte_27 ?_
        refine lv_topi (fun t9 e9 => ?_)
        obtain rfl : t9 = nI (14 * a) := e9.trans (pk_mul _ _)
        refine lv_bipush (v := nI 8) hx hb d_Model_setByte_28 (by decide) ?_
        refine lv_iload_n hx hb d_Model_setByte_30 rfl (lv_at hl 3 rfl) ?_
        refine lv_imul hx hb d_Model_setByte_31 ?_
        refine lv_topi (fun t9 e9 => ?_)
        obtain rfl : t9 = nI (8 * kb) := e9.trans (pk_mul _ _)
        refine lv_iload hx hb d_Model_setByte_32 (lv_at hl 0 rfl) ?_
        refine lv_iadd hx hb d_Model_setByte_34 ?_
        refine lv_topi (fun t9 e9 => ?_)
        obtain rfl : t9 = nI ((8 * kb) + i) := e9.trans (nI_add _ _)
        refine lv_bipush (v := nI 28) hx hb d_Model_setByte_35 (by decide) ?_
        refine lv_idiv hx hb d_Model_setByte_37 (by decide) ?_
        refine lv_topi (fun t9 e9 => ?_)
        obtain rfl : t9 = nI ((8 * kb + i) / 28) := e9.trans (pk_div (by omega) (by decide) (by decide))
        refine lv_iadd hx hb d_Model_setByte_38 ?_
        refine lv_topi (fun t9 e9 => ?_)
        obtain rfl : t9 = nI ((14 * a) + ((8 * kb + i) / 28)) := e9.trans (nI_add _ _)
        refine lv_dup2_11 hx hb d_Model_setByte_39 rfl rfl ?_
        refine q_lald (N := 2380) (f := fd1) E hm.2.2.2.2.1 (14 * a + (8 * kb + i) / 28) rfl (by omega) (by decide) d_Model_setByte_40 ?_
        refine lv_lconst (v := 1) hx hb d_Model_setByte_41 (by decide) ?_
        refine lv_bipush (v := nI 8) hx hb d_Model_setByte_42 (by decide) ?_
        refine lv_iload_n hx hb d_Model_setByte_44 rfl (lv_at hl 3 rfl) ?_
        refine lv_imul hx hb d_Model_setByte_45 ?_
        refine lv_topi (fun t9 e9 => ?_)
        obtain rfl : t9 = nI (8 * kb) := e9.trans (pk_mul _ _)
        refine lv_iload hx hb d_Model_setByte_46 (lv_at hl 0 rfl) ?_
        refine lv_iadd hx hb d_Model_setByte_48 ?_
        refine lv_topi (fun t9 e9 => ?_)
        obtain rfl : t9 = nI ((8 * kb) + i) := e9.trans (nI_add _ _)
        refine lv_bipush (v := nI 28) hx hb d_Model_setByte_49 (by decide) ?_
        refine lv_irem hx hb d_Model_setByte_51 (by decide) ?_
        refine lv_topi (fun t9 e9 => ?_)
        obtain rfl : t9 = nI ((8 * kb + i) - (8 * kb + i) / 28 * 28) := e9.trans (rem28 (by omega))
        refine lv_lshl (v := 1 <<< ((nI ((8 * kb + i) - (8 * kb + i) / 28 * 28)).toInt64 &&& 63)) hx hb d_Model_setByte_52 rfl ?_
        refine lv_lor hx hb d_Model_setByte_53 ?_
        have hdv : dg ((fd1 (14 * a + (8 * kb + i) / 28)) ||| (1 <<< ((nI ((8 * kb + i) - (8 * kb + i) / 28 * 28)).toInt64 &&& 63))) := dg_or (hm.2.2.2.2.2.1 _ (by omega)) (dg_1sh _ (by omega))
        refine q_last E hm.2.2.2.2.1 hm.2.2.2.2.2.2.1 hF (14 * a + (8 * kb + i) / 28) rfl (by omega) (by decide) d_Model_setByte_54 (fun H1 locs hq hf2 hF => ?_)
        have hm := hm.step hK (hq.mono (fun q h => Or.inl h)) hf2 ((hm.2.2.2.2.2.1).upd hdv)
        have hfr := hfr.tr (kjR1 hq)
        have hS := hS.um (s := a) hm rfl (by omega)
        refine lv_iinc (k := 0) (v := nI (i + 1)) (lv' := [(4, .int (nI (i + 1))), (0, .ref mo), (1, .int (nI a)), (2, .int (nI kb)), (3, .int vz)]) hx hb d_Model_setByte_55 hl rfl (i_inc i) (by decide) rfl (fun ls hl => ?_)
        refine lv_goto (tgt := 3) hx hb d_Model_setByte_58 (by decide) ?_
        have hl : lv_has ls 5 [(4, .int (nI (i + 1))), (0, .ref mo), (1, .int (nI a)), (2, .int (nI kb)), (3, .int vz)] := lv_sub hl [0, 1, 2, 3, 4] rfl
        exact ih (i + 1) _ _ ls _ (by omega) hfr hm hS hF hl
      refine lv_iinc (k := 0) (v := nI (i + 1)) (lv' := [(4, .int (nI (i + 1))), (0, .ref mo), (1, .int (nI a)), (2, .int (nI kb)), (3, .int vz)]) hx hb d_Model_setByte_55 hl rfl (i_inc i) (by decide) rfl (fun ls hl => ?_)
      refine lv_goto (tgt := 3) hx hb d_Model_setByte_58 (by decide) ?_
      have hl : lv_has ls 5 [(4, .int (nI (i + 1))), (0, .ref mo), (1, .int (nI a)), (2, .int (nI kb)), (3, .int vz)] := lv_sub hl [0, 1, 2, 3, 4] rfl
      exact ih (i + 1) _ _ ls _ (by omega) hfr hm hS hF hl
  refine lv_iconst (v := nI 0) hx hb d_Model_setByte_0 (by decide) ?_
  refine lv_istore (lv' := [(4, .int (nI 0)), (0, .ref mo), (1, .int (nI a)), (2, .int (nI kb)), (3, .int vz)]) hx hb d_Model_setByte_1 hl (by decide) rfl (fun ls hl => ?_)
  have hl : lv_has ls 5 [(4, .int (nI 0)), (0, .ref mo), (1, .int (nI a)), (2, .int (nI kb)), (3, .int vz)] := lv_sub hl [0, 1, 2, 3, 4] rfl
  exact loop 8 0 _ _ ls _ (by omega) hfr hm hS hF hl
set_option maxHeartbeats 4000000 in
set_option maxRecDepth 100000 in
theorem S_Model_isGreat (l : Launch) (g : WG) (n0 : Nat → Prop) (mo a : Nat) (th pw td wr : Int32) (w n : Nat) (hw : WH w n) (fd : Nat → Int64) (ha : a < 170) : Ctr l y_Model_isGreat (.code y_Model_isGreat prog_11_method_45_code 3 (some FieldType.boolean)) 3 75 0 0 n0 g [.ref mo, .int (nI a)] (fun H => MS g n0 H mo th pw td wr w n fd) (QI (fun r H H' => (r = 0 ∨ r = 1) ∧ FRM (MR mo) H H' ∧ ∃ fd', MS g n0 H' mo th pw td wr w n fd' ∧ SAME fd fd' (fun t => t = 147))) := by
  refine ctr_mk l (lv0 := [(0, .ref mo), (1, .int (nI a))]) (by decide) (Nat.le_of_ble_eq_true rfl) rfl ?_
  intro p e s m below meth c ls E hr hlk hnm hl hP
  have hx := E.1
  have hb := E.2.1
  have hK := E.2.2.2.2.2
  have hF : ∀ q ∈ ([] : List Loc), n0 q.base := fun q hq => absurd hq List.not_mem_nil
  have hm := hP
  have hDD := hm.2.2.2.2.2.1
  obtain ⟨hpd, hn1, hn14, hw1, hPT, hP1, hT0, hT1⟩ := wh_kP hw
  have hfr : FRM (MR mo) s.heap s.heap := FRM.rf
  have hS : SAME fd fd (fun t => t = 147) := SAME.rf
  have lp : ∀ (k : Nat) (H : Heap) (locs : List Loc) (ls : Array Slot) (v : Int32) (fd1 : Nat → Int64), k ≤ 14 → v = nI k - 1 → FRM (MR mo) s.heap H → MS g n0 H mo th pw td wr w n fd1 → SAME fd fd1 (fun t => t = 147) → (∀ q ∈ locs, n0 q.base) → lv_has ls 3 [(2, .int v), (0, .ref mo), (1, .int (nI a))] → W p l e { frames := 3, cells := 0, slots := 0, locals := 75 } s m [.ref mo, .int (nI a)].toArray below meth c H locs 0 0 (MQ below (QcP (QI (fun r H H' => (r = 0 ∨ r = 1) ∧ FRM (MR mo) H H' ∧ ∃ fd', MS g n0 H' mo th pw td wr w n fd' ∧ SAME fd fd' (fun t => t = 147)))) [.ref mo, .int (nI a)].toArray s 0 0 (fun q => n0 q)) (F0 m 21 ls []) := by
    intro k
    induction k with
    | zero =>
      intro  H   locs   ls   v   fd1 hk14 hv0 hfr hm hS hF hl
      subst hv0
      refine lv_iload_n hx hb d_Model_isGreat_21 rfl (lv_at hl 0 rfl) ?_
      refine lv_if_lt (tgt := 73) hx hb d_Model_isGreat_22 (by decide) (fun _ => ?_) (fun h9 => absurd (by decide) h9)
      refine lv_iconst (v := nI 0) hx hb d_Model_isGreat_73 (by decide) ?_
      exact q_zret E hr rfl hlk (⟨_, rfl, Or.inl rfl, hfr, _, hm, hS⟩) hF d_Model_isGreat_74
    | succ k ih =>
      intro  H   locs   ls   v   fd1 hk14 hv0 hfr hm hS hF hl
      rw [nI_pred] at hv0
      subst hv0
      refine lv_iload_n hx hb d_Model_isGreat_21 rfl (lv_at hl 0 rfl) ?_
      refine lv_if_lt (tgt := 73) hx hb d_Model_isGreat_22 (by decide) (fun h9 => absurd h9 (nI_pos (by omega))) (fun _ => ?_)
      refine lv_aload_n hx hb d_Model_isGreat_25 rfl (lv_at hl 1 rfl) ?_
      refine lv_iload_n hx hb d_Model_isGreat_26 rfl (lv_at hl 2 rfl) ?_
      refine lv_iload_n hx hb d_Model_isGreat_27 rfl (lv_at hl 0 rfl) ?_
      refine q_cV (rest := []) E (c_Model_limb l g n0 mo a k th (nI w) (nI n) pw td wr fd1 (by omega) (by omega)) w_979 w_15 w_976 w_978 (bw_s 18 rfl) hd_Model_limb rfl ⟨by decide, by decide⟩ (OB.recv E.2.2.2.2.2 (by rfl) hm.1) (⟨hm.1, hm.2.2.2.2.1⟩) hF hl.1 rfl (Nat.le_of_ble_eq_true rfl) d_Model_isGreat_28 ⟨by decide, by decide⟩ (ql (fun v1 H1 locs hq hF => ?_))
      obtain ⟨hq, hq9⟩ := hq
      obtain rfl := hq9
      subst hq
      refine lv_aload_n hx hb d_Model_isGreat_31 rfl (lv_at hl 1 rfl) ?_
      refine lv_sipush (v := nI 147) hx hb d_Model_isGreat_32 (by decide) ?_
      refine lv_iload_n hx hb d_Model_isGreat_35 rfl (lv_at hl 0 rfl) ?_
      refine q_cV (rest := [.long (fd1 (14 * a + k))]) E (c_Model_limb l g n0 mo 147 k th (nI w) (nI n) pw td wr fd1 (by omega) (by omega)) w_979 w_15 w_976 w_978 (bw_s 18 rfl) hd_Model_limb rfl ⟨by decide, by decide⟩ (OB.recv E.2.2.2.2.2 (by rfl) hm.1) (⟨hm.1, hm.2.2.2.2.1⟩) hF hl.1 rfl (Nat.le_of_ble_eq_true rfl) d_Model_isGreat_36 ⟨by decide, by decide⟩ (ql (fun u1 H2 locs hq hF => ?_))
      obtain ⟨hq, hq9⟩ := hq
      obtain rfl := hq9
      subst hq
      refine W.lcmp hx hb d_Model_isGreat_39 ?_
      refine lv_if_eq (tgt := 67) hx hb d_Model_isGreat_40 (by decide) (fun _ => ?_) (fun _ => ?_)
      rotate_left
      · skip
        refine lv_aload_n hx hb d_Model_isGreat_43 rfl (lv_at hl 1 rfl) ?_
        refine lv_iload_n hx hb d_Model_isGreat_44 rfl (lv_at hl 2 rfl) ?_
        refine lv_iload_n hx hb d_Model_isGreat_45 rfl (lv_at hl 0 rfl) ?_
        refine q_cV (rest := []) E (c_Model_limb l g n0 mo a k th (nI w) (nI n) pw td wr fd1 (by omega) (by omega)) w_979 w_15 w_976 w_978 (bw_s 18 rfl) hd_Model_limb rfl ⟨by decide, by decide⟩ (OB.recv E.2.2.2.2.2 (by rfl) hm.1) (⟨hm.1, hm.2.2.2.2.1⟩) hF hl.1 rfl (Nat.le_of_ble_eq_true rfl) d_Model_isGreat_46 ⟨by decide, by decide⟩ (ql (fun v2 H3 locs hq hF => ?_))
        obtain ⟨hq, hq9⟩ := hq
        obtain rfl := hq9
        subst hq
        refine lv_aload_n hx hb d_Model_isGreat_49 rfl (lv_at hl 1 rfl) ?_
        refine lv_sipush (v := nI 147) hx hb d_Model_isGreat_50 (by decide) ?_
        refine lv_iload_n hx hb d_Model_isGreat_53 rfl (lv_at hl 0 rfl) ?_
        refine q_cV (rest := [.long (fd1 (14 * a + k))]) E (c_Model_limb l g n0 mo 147 k th (nI w) (nI n) pw td wr fd1 (by omega) (by omega)) w_979 w_15 w_976 w_978 (bw_s 18 rfl) hd_Model_limb rfl ⟨by decide, by decide⟩ (OB.recv E.2.2.2.2.2 (by rfl) hm.1) (⟨hm.1, hm.2.2.2.2.1⟩) hF hl.1 rfl (Nat.le_of_ble_eq_true rfl) d_Model_isGreat_54 ⟨by decide, by decide⟩ (ql (fun u2 H4 locs hq hF => ?_))
        obtain ⟨hq, hq9⟩ := hq
        obtain rfl := hq9
        subst hq
        refine W.lcmp hx hb d_Model_isGreat_57 ?_
        refine lv_if_le (tgt := 65) hx hb d_Model_isGreat_58 (by decide) (fun _ => ?_) (fun _ => ?_)
        rotate_left
        · skip
          refine lv_iconst (v := nI 1) hx hb d_Model_isGreat_61 (by decide) ?_
          refine lv_goto (tgt := 66) hx hb d_Model_isGreat_62 (by decide) ?_
          exact q_zret E hr rfl hlk (⟨_, rfl, Or.inr rfl, hfr, _, hm, hS⟩) hF d_Model_isGreat_66
        refine lv_iconst (v := nI 0) hx hb d_Model_isGreat_65 (by decide) ?_
        exact q_zret E hr rfl hlk (⟨_, rfl, Or.inl rfl, hfr, _, hm, hS⟩) hF d_Model_isGreat_66
      refine lv_iinc (k := 0) (v := nI k - 1) (lv' := [(2, .int (nI k - 1)), (0, .ref mo), (1, .int (nI a))]) hx hb d_Model_isGreat_67 hl rfl (i_dec _) (by decide) rfl (fun ls hl => ?_)
      refine lv_goto (tgt := 21) hx hb d_Model_isGreat_70 (by decide) ?_
      have hl : lv_has ls 3 [(2, .int (nI k - 1)), (0, .ref mo), (1, .int (nI a))] := lv_sub hl [0, 1, 2] rfl
      exact ih _ _ ls _ _ (by omega) rfl hfr hm hS hF hl
  refine lv_aload_n hx hb d_Model_isGreat_0 rfl (lv_at hl 0 rfl) ?_
  refine lv_sipush (v := nI 147) hx hb d_Model_isGreat_1 (by decide) ?_
  refine q_cV (rest := []) E (c_Model_zero l g n0 mo 147 th pw td wr w n hw  fd (by omega) ) w_1000 w_15 w_997 w_999 (bw_s 23 rfl) hd_Model_zero rfl ⟨by decide, by decide⟩ (OB.recv E.2.2.2.2.2 (by rfl) hm.1) hm hF hl.1 rfl (Nat.le_of_ble_eq_true rfl) d_Model_isGreat_4 ⟨by decide, by decide⟩ (qv (fun H1 locs hq hF => ?_))
  obtain ⟨hq, fd_1, hm, hpv⟩ := hq
  have hS := hS.put hpv.1 (by rfl)
  have hfr := hfr.tr hq
  refine lv_aload_n hx hb d_Model_isGreat_7 rfl (lv_at hl 0 rfl) ?_
  refine lv_sipush (v := nI 147) hx hb d_Model_isGreat_8 (by decide) ?_
  refine lv_sipush (v := nI 147) hx hb d_Model_isGreat_11 (by decide) ?_
  refine lv_iload_n hx hb d_Model_isGreat_14 rfl (lv_at hl 1 rfl) ?_
  refine q_cV (rest := []) E (c_Model_less l g n0 mo 147 147 a th pw td wr w n hw  fd_1 (by omega) (by omega) (by omega) ) w_1109 w_15 w_1106 w_1108 (bw_s 31 rfl) hd_Model_less rfl ⟨by decide, by decide⟩ (OB.recv E.2.2.2.2.2 (by rfl) hm.1) hm hF hl.1 rfl (Nat.le_of_ble_eq_true rfl) d_Model_isGreat_15 ⟨by decide, by decide⟩ (qv (fun H2 locs hq hF => ?_))
  obtain ⟨hq, fd_2, hm, hpv, hv⟩ := hq
  have hS := hS.put hpv.1 (by rfl)
  have hfr := hfr.tr (kjR hq)
  refine lv_bipush (v := nI 13) hx hb d_Model_isGreat_18 (by decide) ?_
  refine lv_istore_n (lv' := [(2, .int (nI 13)), (0, .ref mo), (1, .int (nI a))]) hx hb d_Model_isGreat_20 rfl hl (by decide) rfl (fun ls hl => ?_)
  have hl : lv_has ls 3 [(2, .int (nI 13)), (0, .ref mo), (1, .int (nI a))] := lv_sub hl [0, 1, 2] rfl
  exact lp 14 _ _ ls _ _ (by decide) (by decide) hfr hm hS hF hl
set_option maxHeartbeats 4000000 in
set_option maxRecDepth 100000 in
theorem S_Model_alike (l : Launch) (g : WG) (n0 : Nat → Prop) (mo a b : Nat) (th pw td wr : Int32) (w n : Nat) (hw : WH w n) (fd : Nat → Int64) (ha : a + 2 < 124 ∨ (128 ≤ a ∧ a + 2 < 170)) (hb1 : b + 2 < 124 ∨ (128 ≤ b ∧ b + 2 < 170)) : Ctr l y_Model_alike (.code y_Model_alike prog_11_method_32_code 3 (some FieldType.boolean)) 3 79 0 0 n0 g [.ref mo, .int (nI a), .int (nI b)] (fun H => MS g n0 H mo th pw td wr w n fd) (QI (fun r H H' => ((r = 1 ∨ r = 0) ∧ (SV fd (a + 2) n = 0 → SV fd (b + 2) n = 0 → r = 1)) ∧ FRM (MR mo) H H' ∧ ∃ fd', MS g n0 H' mo th pw td wr w n fd' ∧ SAME fd fd' (fun t => 124 ≤ t ∧ t ≤ 127))) := by
  refine ctr_mk l (lv0 := [(0, .ref mo), (1, .int (nI a)), (2, .int (nI b))]) (by decide) (Nat.le_of_ble_eq_true rfl) rfl ?_
  intro p e s m below meth c ls E hr hlk hnm hl hP
  have hx := E.1
  have hb := E.2.1
  have hK := E.2.2.2.2.2
  have hF : ∀ q ∈ ([] : List Loc), n0 q.base := fun q hq => absurd hq List.not_mem_nil
  have hm := hP
  have hDD := hm.2.2.2.2.2.1
  obtain ⟨hpd, hn1, hn14, hw1, hPT, hP1, hT0, hT1⟩ := wh_kP hw
  have hfr : FRM (MR mo) s.heap s.heap := FRM.rf
  have hS : SAME fd fd (fun t => 124 ≤ t ∧ t ≤ 127) := SAME.rf
  have hpp := pp2 hw
  have r0 : 0 ≤ (0 : Int) ∧ 0 < PP w n := ⟨Int.le_refl _, by omega⟩
  refine lv_aload_n hx hb d_Model_alike_0 rfl (lv_at hl 0 rfl) ?_
  refine lv_bipush (v := nI 124) hx hb d_Model_alike_1 (by decide) ?_
  refine lv_iload_n hx hb d_Model_alike_3 rfl (lv_at hl 1 rfl) ?_
  refine lv_iload_n hx hb d_Model_alike_4 rfl (lv_at hl 2 rfl) ?_
  refine lv_iconst (v := nI 2) hx hb d_Model_alike_5 (by decide) ?_
  refine lv_iadd hx hb d_Model_alike_6 ?_
  refine lv_topi (fun t9 e9 => ?_)
  obtain rfl : t9 = nI (b + 2) := e9.trans (nI_add _ _)
  refine q_cV (rest := []) E (c_Model_product l g n0 mo 124 a (b + 2) th pw td wr w n hw  fd (by omega) (by omega) (by omega) ) w_1113 w_15 w_1110 w_1112 (bw_s 32 rfl) hd_Model_product rfl ⟨by decide, by decide⟩ (OB.recv E.2.2.2.2.2 (by rfl) hm.1) hm hF hl.1 rfl (Nat.le_of_ble_eq_true rfl) d_Model_alike_7 ⟨by decide, by decide⟩ (qv (fun H1 locs hq hF => ?_))
  obtain ⟨hq, fd_1, hm, hpv, hv⟩ := hq
  have hS := hS.put hpv.1 (by show 124 ≤ _ ∧ _ ≤ 127; omega)
  have hfr := hfr.tr (kjR hq)
  have hp0 := hpv
  have hv0 := hv
  clear hv hpv
  refine lv_aload_n hx hb d_Model_alike_10 rfl (lv_at hl 0 rfl) ?_
  refine lv_bipush (v := nI 125) hx hb d_Model_alike_11 (by decide) ?_
  refine lv_iload_n hx hb d_Model_alike_13 rfl (lv_at hl 2 rfl) ?_
  refine lv_iload_n hx hb d_Model_alike_14 rfl (lv_at hl 1 rfl) ?_
  refine lv_iconst (v := nI 2) hx hb d_Model_alike_15 (by decide) ?_
  refine lv_iadd hx hb d_Model_alike_16 ?_
  refine lv_topi (fun t9 e9 => ?_)
  obtain rfl : t9 = nI (a + 2) := e9.trans (nI_add _ _)
  refine q_cV (rest := []) E (c_Model_product l g n0 mo 125 b (a + 2) th pw td wr w n hw  fd_1 (by omega) (by omega) (by omega) ) w_1113 w_15 w_1110 w_1112 (bw_s 32 rfl) hd_Model_product rfl ⟨by decide, by decide⟩ (OB.recv E.2.2.2.2.2 (by rfl) hm.1) hm hF hl.1 rfl (Nat.le_of_ble_eq_true rfl) d_Model_alike_17 ⟨by decide, by decide⟩ (qv (fun H2 locs hq hF => ?_))
  obtain ⟨hq, fd_2, hm, hpv, hv⟩ := hq
  have hS := hS.put hpv.1 (by show 124 ≤ _ ∧ _ ≤ 127; omega)
  have hfr := hfr.tr (kjR hq)
  have hp1 := hpv
  have hv1 := hv
  clear hv hpv
  refine lv_aload_n hx hb d_Model_alike_20 rfl (lv_at hl 0 rfl) ?_
  refine lv_bipush (v := nI 126) hx hb d_Model_alike_21 (by decide) ?_
  refine lv_iload_n hx hb d_Model_alike_23 rfl (lv_at hl 1 rfl) ?_
  refine lv_iconst (v := nI 1) hx hb d_Model_alike_24 (by decide) ?_
  refine lv_iadd hx hb d_Model_alike_25 ?_
  refine lv_topi (fun t9 e9 => ?_)
  obtain rfl : t9 = nI (a + 1) := e9.trans (nI_add _ _)
  refine lv_iload_n hx hb d_Model_alike_26 rfl (lv_at hl 2 rfl) ?_
  refine lv_iconst (v := nI 2) hx hb d_Model_alike_27 (by decide) ?_
  refine lv_iadd hx hb d_Model_alike_28 ?_
  refine lv_topi (fun t9 e9 => ?_)
  obtain rfl : t9 = nI (b + 2) := e9.trans (nI_add _ _)
  refine q_cV (rest := []) E (c_Model_product l g n0 mo 126 (a + 1) (b + 2) th pw td wr w n hw  fd_2 (by omega) (by omega) (by omega) ) w_1113 w_15 w_1110 w_1112 (bw_s 32 rfl) hd_Model_product rfl ⟨by decide, by decide⟩ (OB.recv E.2.2.2.2.2 (by rfl) hm.1) hm hF hl.1 rfl (Nat.le_of_ble_eq_true rfl) d_Model_alike_29 ⟨by decide, by decide⟩ (qv (fun H3 locs hq hF => ?_))
  obtain ⟨hq, fd_3, hm, hpv, hv⟩ := hq
  have hS := hS.put hpv.1 (by show 124 ≤ _ ∧ _ ≤ 127; omega)
  have hfr := hfr.tr (kjR hq)
  have hp2 := hpv
  have hv2 := hv
  clear hv hpv
  refine lv_aload_n hx hb d_Model_alike_32 rfl (lv_at hl 0 rfl) ?_
  refine lv_bipush (v := nI 127) hx hb d_Model_alike_33 (by decide) ?_
  refine lv_iload_n hx hb d_Model_alike_35 rfl (lv_at hl 2 rfl) ?_
  refine lv_iconst (v := nI 1) hx hb d_Model_alike_36 (by decide) ?_
  refine lv_iadd hx hb d_Model_alike_37 ?_
  refine lv_topi (fun t9 e9 => ?_)
  obtain rfl : t9 = nI (b + 1) := e9.trans (nI_add _ _)
  refine lv_iload_n hx hb d_Model_alike_38 rfl (lv_at hl 1 rfl) ?_
  refine lv_iconst (v := nI 2) hx hb d_Model_alike_39 (by decide) ?_
  refine lv_iadd hx hb d_Model_alike_40 ?_
  refine lv_topi (fun t9 e9 => ?_)
  obtain rfl : t9 = nI (a + 2) := e9.trans (nI_add _ _)
  refine q_cV (rest := []) E (c_Model_product l g n0 mo 127 (b + 1) (a + 2) th pw td wr w n hw  fd_3 (by omega) (by omega) (by omega) ) w_1113 w_15 w_1110 w_1112 (bw_s 32 rfl) hd_Model_product rfl ⟨by decide, by decide⟩ (OB.recv E.2.2.2.2.2 (by rfl) hm.1) hm hF hl.1 rfl (Nat.le_of_ble_eq_true rfl) d_Model_alike_41 ⟨by decide, by decide⟩ (qv (fun H4 locs hq hF => ?_))
  obtain ⟨hq, fd_4, hm, hpv, hv⟩ := hq
  have hS := hS.put hpv.1 (by show 124 ≤ _ ∧ _ ≤ 127; omega)
  have hfr := hfr.tr (kjR hq)
  have hp3 := hpv
  have hv3 := hv
  clear hv hpv
  have hsame : SV fd (a + 2) n = 0 → SV fd (b + 2) n = 0 → Z0 fd_4 124 ∧ Z0 fd_4 125 ∧ Z0 fd_4 126 ∧ Z0 fd_4 127 := by
    intro h1 h2
    have z0 := hp0.z0 hn14 (r_mulR hv0 h2 r0 hpp)
    have a1 := (out_sv hp0.1 (t := a + 2) (by omega) hn14).trans h1
    have b1 := (out_sv hp0.1 (t := b + 2) (by omega) hn14).trans h2
    have z1 := hp1.z0 hn14 (r_mulR hv1 a1 r0 hpp)
    have a2 := (out_sv hp1.1 (t := a + 2) (by omega) hn14).trans a1
    have b2 := (out_sv hp1.1 (t := b + 2) (by omega) hn14).trans b1
    have z2 := hp2.z0 hn14 (r_mulR hv2 b2 r0 hpp)
    have a3 := (out_sv hp2.1 (t := a + 2) (by omega) hn14).trans a2
    have z3 := hp3.z0 hn14 (r_mulR hv3 a3 r0 hpp)
    exact ⟨out_z0 hp3.1 (by decide) (out_z0 hp2.1 (by decide) (out_z0 hp1.1 (by decide) z0)), out_z0 hp3.1 (by decide) (out_z0 hp2.1 (by decide) z1), out_z0 hp3.1 (by decide) z2, z3⟩
  clear hv0 hv1 hv2 hv3
  refine lv_aload_n hx hb d_Model_alike_44 rfl (lv_at hl 0 rfl) ?_
  refine lv_bipush (v := nI 124) hx hb d_Model_alike_45 (by decide) ?_
  refine lv_bipush (v := nI 125) hx hb d_Model_alike_47 (by decide) ?_
  refine q_cV (rest := []) E (c_Model_isSame l g n0 mo 124 125 th pw td wr w n hw fd_4 (by decide) (by decide)) w_1163 w_15 w_1160 w_1162 (bw_s 39 rfl) hd_Model_isSame rfl ⟨by decide, by decide⟩ (OB.recv E.2.2.2.2.2 (by rfl) hm.1) hm hF hl.1 rfl (Nat.le_of_ble_eq_true rfl) d_Model_alike_49 ⟨by decide, by decide⟩ (qi (fun ra H5 locs hq hF => ?_))
  obtain ⟨h_ra, hq⟩ := hq
  subst hq
  refine lv_if_eq (tgt := 70) hx hb d_Model_alike_52 (by decide) (fun hc => ?_) (fun hc => ?_)
  rotate_left
  · skip
    refine lv_aload_n hx hb d_Model_alike_55 rfl (lv_at hl 0 rfl) ?_
    refine lv_bipush (v := nI 126) hx hb d_Model_alike_56 (by decide) ?_
    refine lv_bipush (v := nI 127) hx hb d_Model_alike_58 (by decide) ?_
    refine q_cV (rest := []) E (c_Model_isSame l g n0 mo 126 127 th pw td wr w n hw fd_4 (by decide) (by decide)) w_1163 w_15 w_1160 w_1162 (bw_s 39 rfl) hd_Model_isSame rfl ⟨by decide, by decide⟩ (OB.recv E.2.2.2.2.2 (by rfl) hm.1) hm hF hl.1 rfl (Nat.le_of_ble_eq_true rfl) d_Model_alike_60 ⟨by decide, by decide⟩ (qi (fun rc H6 locs hq hF => ?_))
    obtain ⟨h_rc, hq⟩ := hq
    subst hq
    refine lv_if_eq (tgt := 70) hx hb d_Model_alike_63 (by decide) (fun hd => ?_) (fun hd => ?_)
    rotate_left
    · skip
      refine lv_iconst (v := nI 1) hx hb d_Model_alike_66 (by decide) ?_
      refine lv_goto (tgt := 71) hx hb d_Model_alike_67 (by decide) ?_
      exact q_zret E hr rfl hlk (⟨_, rfl, ⟨Or.inl rfl, fun _ _ => rfl⟩, hfr, _, hm, hS⟩) hF d_Model_alike_71
    refine lv_iconst (v := nI 0) hx hb d_Model_alike_70 (by decide) ?_
    exact q_zret E hr rfl hlk (⟨_, rfl, ⟨Or.inr rfl, fun h1 h2 => absurd ((h_rc.2 (fun k hk1 => ((hsame h1 h2).2.2.1 k hk1).trans ((hsame h1 h2).2.2.2 k hk1).symm)).symm.trans hd) (by decide)⟩, hfr, _, hm, hS⟩) hF d_Model_alike_71
  refine lv_iconst (v := nI 0) hx hb d_Model_alike_70 (by decide) ?_
  exact q_zret E hr rfl hlk (⟨_, rfl, ⟨Or.inr rfl, fun h1 h2 => absurd ((h_ra.2 (fun k hk1 => ((hsame h1 h2).1 k hk1).trans ((hsame h1 h2).2.1 k hk1).symm)).symm.trans hc) (by decide)⟩, hfr, _, hm, hS⟩) hF d_Model_alike_71
set_option maxHeartbeats 4000000 in
set_option maxRecDepth 100000 in
theorem S_Model_sums (l : Launch) (g : WG) (n0 : Nat → Prop) (mo c9 : Nat) (sv pv : Int32) (th pw td wr : Int32) (w n : Nat) (hw : WH w n) (fd : Nat → Int64) (hmn : n0 mo) (hc9 : c9 < 100) (hsv : 0 < c9 → ∃ s1 q1, sv = nI s1 ∧ pv = nI q1 ∧ s1 + c9 ≤ 32 ∧ q1 + 3 * c9 ≤ 124) : Ctr l y_Model_sums (.code y_Model_sums prog_11_method_51_code 5 none) 6 143 0 0 n0 g [.ref mo, .int sv, .int pv, .int (nI c9)] (fun H => MS g n0 H mo th pw td wr w n fd) (QV (fun H H' => FRM (MR mo) H H' ∧ ∃ fd', MS g n0 H' mo th pw td wr 0 14 fd' ∧ SAME fd fd' (fun t => 124 ≤ t))) := by
  refine ctr_mk l (lv0 := [(0, .ref mo), (1, .int sv), (2, .int pv), (3, .int (nI c9))]) (by decide) (Nat.le_of_ble_eq_true rfl) rfl ?_
  intro p e s m below meth c ls E hr hlk hnm hl hP
  have hx := E.1
  have hb := E.2.1
  have hK := E.2.2.2.2.2
  have hF : ∀ q ∈ ([] : List Loc), n0 q.base := fun q hq => absurd hq List.not_mem_nil
  have hm := hP
  have hDD := hm.2.2.2.2.2.1
  obtain ⟨hpd, hn1, hn14, hw1, hPT, hP1, hT0, hT1⟩ := wh_kP hw
  have hfr : FRM (MR mo) s.heap s.heap := FRM.rf
  have hS : SAME fd fd (fun t => 124 ≤ t) := SAME.rf
  have loop : ∀ (k : Nat) (i : Nat) (H : Heap) (locs : List Loc) (ls : Array Slot) (fd1 : Nat → Int64), i + k = c9 → FRM (MR mo) s.heap H → MS g n0 H mo th pw td wr 0 14 fd1 → SAME fd fd1 (fun t => 124 ≤ t) → (∀ q ∈ locs, n0 q.base) → lv_has ls 5 [(4, .int (nI i)), (0, .ref mo), (1, .int sv), (2, .int pv), (3, .int (nI c9))] → W p l e { frames := 6, cells := 0, slots := 0, locals := 143 } s m [.ref mo, .int sv, .int pv, .int (nI c9)].toArray below meth c H locs 0 0 (MQ below (QcP (QV (fun H H' => FRM (MR mo) H H' ∧ ∃ fd', MS g n0 H' mo th pw td wr 0 14 fd' ∧ SAME fd fd' (fun t => 124 ≤ t)))) [.ref mo, .int sv, .int pv, .int (nI c9)].toArray s 0 0 (fun q => n0 q)) (F0 m 15 ls []) := by
    intro k
    induction k with
    | zero =>
      intro  i   H   locs   ls   fd1 hi hfr hm hS hF hl
      obtain rfl : c9 = i := by omega
      refine lv_iload hx hb d_Model_sums_15 (lv_at hl 0 rfl) ?_
      refine lv_iload_n hx hb d_Model_sums_17 rfl (lv_at hl 4 rfl) ?_
      refine lv_icmp_ge (tgt := 57) hx hb d_Model_sums_18 (by decide) (fun _ => ?_) (fun h9 => absurd (nI_le (Nat.le_refl _) (by omega)) h9)
      exact q_vret E hr hlk (⟨rfl, hfr, _, hm, hS⟩) hF d_Model_sums_57
    | succ k ih =>
      intro  i   H   locs   ls   fd1 hi hfr hm hS hF hl
      refine lv_iload hx hb d_Model_sums_15 (lv_at hl 0 rfl) ?_
      refine lv_iload_n hx hb d_Model_sums_17 rfl (lv_at hl 4 rfl) ?_
      refine lv_icmp_ge (tgt := 57) hx hb d_Model_sums_18 (by decide) (fun h9 => absurd h9 (nI_ge (by omega) (by omega))) (fun _ => ?_)
      obtain ⟨s1, q1, es, eq, hs1, hq1⟩ := hsv (by omega)
      rw [es, eq] at hl
      refine lv_aload_n hx hb d_Model_sums_21 rfl (lv_at hl 1 rfl) ?_
      refine lv_sipush (v := nI 161) hx hb d_Model_sums_22 (by decide) ?_
      refine lv_iload_n hx hb d_Model_sums_25 rfl (lv_at hl 2 rfl) ?_
      refine lv_iload hx hb d_Model_sums_26 (lv_at hl 0 rfl) ?_
      refine lv_iadd hx hb d_Model_sums_28 ?_
      refine lv_topi (fun t9 e9 => ?_)
      obtain rfl : t9 = nI (s1 + i) := e9.trans (nI_add _ _)
      refine lv_iload_n hx hb d_Model_sums_29 rfl (lv_at hl 3 rfl) ?_
      refine lv_iconst (v := nI 3) hx hb d_Model_sums_30 (by decide) ?_
      refine lv_iload hx hb d_Model_sums_31 (lv_at hl 0 rfl) ?_
      refine lv_imul hx hb d_Model_sums_33 ?_
      refine lv_topi (fun t9 e9 => ?_)
      obtain rfl : t9 = nI (3 * i) := e9.trans (pk_mul _ _)
      refine lv_iadd hx hb d_Model_sums_34 ?_
      refine lv_topi (fun t9 e9 => ?_)
      obtain rfl : t9 = nI (q1 + (3 * i)) := e9.trans (nI_add _ _)
      refine q_cV (rest := []) E (c_Model_multiple l g n0 mo 161 (s1 + i) (q1 + (3 * i)) th pw td wr 0 14 (Or.inl ⟨rfl, rfl⟩) fd1 (by omega) (by omega) (by omega)) w_1167 w_15 w_1164 w_1166 (bw_s 40 rfl) hd_Model_multiple rfl ⟨by decide, by decide⟩ (OB.recv E.2.2.2.2.2 (by rfl) hm.1) hm hF hl.1 rfl (Nat.le_of_ble_eq_true rfl) d_Model_sums_35 ⟨by decide, by decide⟩ (qv (fun H1 locs hq hF => ?_))
      obtain ⟨hq, fd_1, hm, hS9, hV9⟩ := hq
      have hS := hS.tr (hS9.mono (fun t h => by show 124 ≤ t; omega))
      have hfr := hfr.tr hq
      refine lv_aload_n hx hb d_Model_sums_38 rfl (lv_at hl 1 rfl) ?_
      refine lv_sipush (v := nI 164) hx hb d_Model_sums_39 (by decide) ?_
      refine lv_sipush (v := nI 164) hx hb d_Model_sums_42 (by decide) ?_
      refine lv_sipush (v := nI 161) hx hb d_Model_sums_45 (by decide) ?_
      refine q_cV (rest := []) E (c_Model_sum l g n0 mo 164 164 161 th pw td wr 0 14 (Or.inl ⟨rfl, rfl⟩) fd_1 (by omega) (by omega) (by omega) False False 0 0 (fun h => h.elim) (fun h => h.elim)) w_1175 w_15 w_1172 w_1174 (bw_s 42 rfl) hd_Model_sum rfl ⟨by decide, by decide⟩ (OB.recv E.2.2.2.2.2 (by rfl) hm.1) hm hF hl.1 rfl (Nat.le_of_ble_eq_true rfl) d_Model_sums_48 ⟨by decide, by decide⟩ (qv (fun H2 locs hq hF => ?_))
      obtain ⟨hq, fd_2, hm, hS9, hC9, hD9⟩ := hq
      have hS := hS.tr (hS9.mono (fun t h => by show 124 ≤ t; omega))
      have hfr := hfr.tr hq
      refine lv_iinc (k := 0) (v := nI (i + 1)) (lv' := [(4, .int (nI (i + 1))), (0, .ref mo), (1, .int (nI s1)), (2, .int (nI q1)), (3, .int (nI c9))]) hx hb d_Model_sums_51 hl rfl (i_inc i) (by decide) rfl (fun ls hl => ?_)
      refine lv_goto (tgt := 15) hx hb d_Model_sums_54 (by decide) ?_
      have hl : lv_has ls 5 [(4, .int (nI (i + 1))), (0, .ref mo), (1, .int (nI s1)), (2, .int (nI q1)), (3, .int (nI c9))] := lv_sub hl [0, 1, 2, 3, 4] rfl
      rw [← es, ← eq] at hl
      exact ih (i + 1) _ _ ls _ (by omega) hfr hm hS hF hl
  refine lv_aload_n hx hb d_Model_sums_0 rfl (lv_at hl 0 rfl) ?_
  refine lv_iconst (v := nI 0) hx hb d_Model_sums_1 (by decide) ?_
  refine q_cV (rest := []) E (c_Model_use l g n0 mo th pw td wr w n hw 0 14 (Or.inl ⟨rfl, rfl⟩) fd hmn) w_967 w_15 w_964 w_966 (bw_s 15 rfl) hd_Model_use rfl ⟨by decide, by decide⟩ (OB.recv E.2.2.2.2.2 (by rfl) hm.1) hm hF hl.1 rfl (Nat.le_of_ble_eq_true rfl) d_Model_sums_2 ⟨by decide, by decide⟩ (qv (fun H1 locs hq hF => ?_))
  obtain ⟨hq, hm⟩ := hq
  have hfr := hfr.tr hq
  refine lv_aload_n hx hb d_Model_sums_5 rfl (lv_at hl 0 rfl) ?_
  refine lv_sipush (v := nI 164) hx hb d_Model_sums_6 (by decide) ?_
  refine q_cV (rest := []) E (c_Model_nothing l g n0 mo 164 th pw td wr 0 14 (Or.inl ⟨rfl, rfl⟩) fd (by omega)) w_996 w_15 w_993 w_995 (bw_s 22 rfl) hd_Model_nothing rfl ⟨by decide, by decide⟩ (OB.recv E.2.2.2.2.2 (by rfl) hm.1) hm hF hl.1 rfl (Nat.le_of_ble_eq_true rfl) d_Model_sums_9 ⟨by decide, by decide⟩ (qv (fun H2 locs hq hF => ?_))
  obtain ⟨hq, fd_3, hm, hS9, hz1, hone, hz2⟩ := hq
  have hS := hS.tr (hS9.mono (fun t h => by show 124 ≤ t; omega))
  have hfr := hfr.tr hq
  refine lv_iconst (v := nI 0) hx hb d_Model_sums_12 (by decide) ?_
  refine lv_istore (lv' := [(4, .int (nI 0)), (0, .ref mo), (1, .int sv), (2, .int pv), (3, .int (nI c9))]) hx hb d_Model_sums_13 hl (by decide) rfl (fun ls hl => ?_)
  have hl : lv_has ls 5 [(4, .int (nI 0)), (0, .ref mo), (1, .int sv), (2, .int pv), (3, .int (nI c9))] := lv_sub hl [0, 1, 2, 3, 4] rfl
  exact loop c9 0 _ _ ls _ (by omega) hfr hm hS hF hl
