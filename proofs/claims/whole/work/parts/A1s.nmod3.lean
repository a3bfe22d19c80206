theorem sh3 : ∀ i, i < 3 → (((nI (28 * i)).toInt64 &&& 63).toBitVec.smod 64).toNat = 28 * i := by decide +kernel
theorem sm_l {v : Int64} {i : Nat} (hi : i < 3) : ((v >>> ((nI (28 * i)).toInt64 &&& 63)) &&& 268435455).toInt = v.toInt / 268435456 ^ i % 268435456 := by
  rw [i64_mask, i64_shrN v (sh3 i hi), show (268435456 : Int) ^ i = 2 ^ (28 * i) by rw [show (268435456 : Int) = 2 ^ 28 from rfl, ← Int.pow_mul]]
theorem sm_v {f : Nat → Int64} {v : Int64} (hv : 0 ≤ v.toInt) (hs : ∀ k, k < 3 → (f k).toInt = v.toInt / 268435456 ^ k % 268435456) (hz : ∀ k, 3 ≤ k → k < 14 → f k = 0) : VL f 14 = v.toInt := by
  have hl := Int64.toInt_lt v
  have h3 : (2 : Int) ^ 63 < 268435456 ^ 3 := by decide
  have h : ∀ k, k < 14 → (f k).toInt = v.toInt / 268435456 ^ k % 268435456 := by
    intro k hk
    by_cases c : k < 3
    · exact hs k c
    · rw [hz k (by omega) hk]
      have hp : (268435456 : Int) ^ 3 ≤ 268435456 ^ k := by
        obtain ⟨m, rfl⟩ : ∃ m, k = 3 + m := ⟨k - 3, by omega⟩
        rw [Int.pow_add]
        have := pw_pos m
        have h9 := Int.mul_le_mul_of_nonneg_left (show (1 : Int) ≤ 268435456 ^ m by omega) (show (0 : Int) ≤ 268435456 ^ 3 by decide)
        rw [Int.mul_one] at h9
        exact h9
      rw [Int.ediv_eq_zero_of_lt hv (by omega)]
      rfl
  rw [VL_digits h, Int.emod_eq_of_lt hv (by have : (268435456 : Int) ^ 3 ≤ 268435456 ^ 14 := by decide +kernel
                                            omega)]
set_option maxHeartbeats 4000000 in
set_option maxRecDepth 100000 in
theorem N_Model_small (l : Launch) (g : WG) (n0 : Nat → Prop) (mo r : Nat) (vz : Int64) (th pw td wr : Int32) (w n : Nat) (hw : WH w n) (fd : Nat → Int64) (hr1 : r < 170) (hvz : 0 ≤ vz.toInt) : Ctr l y_Model_small (.code y_Model_small prog_11_method_23_code 5 none) 1 22 0 0 n0 g [.ref mo, .int (nI r), .long vz] (fun H => MS g n0 H mo th pw td wr w n fd) (QV (fun H H' => FRM (MR mo) H H' ∧ ∃ fd', MS g n0 H' mo th pw td wr w n fd' ∧ (∀ j, (j < 14 * r ∨ 14 * r + 14 ≤ j) → fd' j = fd j) ∧ NV fd' r vz.toInt)) := by
  refine ctr_mk l (lv0 := [(0, .ref mo), (1, .int (nI r)), (2, .long vz)]) (by decide) (Nat.le_of_ble_eq_true rfl) rfl ?_
  intro p e s m below meth c ls E hr hlk hnm hl hP
  have hx := E.1
  have hb := E.2.1
  have hK := E.2.2.2.2.2
  have hF : ∀ q ∈ ([] : List Loc), n0 q.base := fun q hq => absurd hq List.not_mem_nil
  have hm := hP
  obtain ⟨hpd, hn1, hn14, hw1, hPT, hP1, hT0, hT1⟩ := wh_kP hw
  have loop : ∀ (k : Nat) (i : Nat) (H : Heap) (locs : List Loc) (ls : Array Slot) (fd1 : Nat → Int64), i + k = 3 → FRM (MR mo) s.heap H → MS g n0 H mo th pw td wr w n fd1 → (∀ j, (j < 14 * r ∨ 14 * r + 14 ≤ j) → fd1 j = fd j) → (∀ k, k < i → (fd1 (14 * r + k)).toInt = vz.toInt / 268435456 ^ k % 268435456) → (∀ k, i ≤ k → k < 14 → fd1 (14 * r + k) = 0) → (∀ q ∈ locs, n0 q.base) → lv_has ls 5 [(4, .int (nI i)), (0, .ref mo), (1, .int (nI r)), (2, .long vz)] → W p l e { frames := 1, cells := 0, slots := 0, locals := 22 } s m [.ref mo, .int (nI r), .long vz].toArray below meth c H locs 0 0 (MQ below (QcP (QV (fun H H' => FRM (MR mo) H H' ∧ ∃ fd', MS g n0 H' mo th pw td wr w n fd' ∧ (∀ j, (j < 14 * r ∨ 14 * r + 14 ≤ j) → fd' j = fd j) ∧ NV fd' r vz.toInt))) [.ref mo, .int (nI r), .long vz].toArray s 0 0 (fun q => n0 q)) (F0 m 8 ls []) := by
    intro k
    induction k with
    | zero =>
      intro  i   H   locs   ls   fd1 hi hfr hm hout hs hz hF hl
      obtain rfl : i = 3 := by omega
      refine lv_iload hx hb d_Model_small_8 (lv_at hl 0 rfl) ?_
      refine lv_iconst (v := nI 3) hx hb d_Model_small_10 (by decide) ?_
      refine lv_icmp_ge (tgt := 43) hx hb d_Model_small_11 (by decide) (fun _ => ?_) (fun h9 => absurd (by decide) h9)
      exact q_vret E hr hlk (⟨rfl, hfr, fd1, hm, hout, sm_v hvz hs hz⟩) hF d_Model_small_43
    | succ k ih =>
      intro  i   H   locs   ls   fd1 hi hfr hm hout hs hz hF hl
      refine lv_iload hx hb d_Model_small_8 (lv_at hl 0 rfl) ?_
      refine lv_iconst (v := nI 3) hx hb d_Model_small_10 (by decide) ?_
      refine lv_icmp_ge (tgt := 43) hx hb d_Model_small_11 (by decide) (fun h9 => absurd h9 (nI_ge (by omega) (by decide))) (fun _ => ?_)
      refine lv_aload_n hx hb d_Model_small_14 rfl (lv_at hl 1 rfl) ?_
      refine q_get (C := "KateDeskModel") (T := T_Model) (N := 14) (ci := 8) E hm.1 in_Model rfl 1 (by decide) w_1002 rfl rfl d_Model_small_15 ?_
      refine lv_bipush (v := nI 14) hx hb d_Model_small_18 (by decide) ?_
      refine lv_iload_n hx hb d_Model_small_20 rfl (lv_at hl 2 rfl) ?_
      refine lv_imul hx hb d_Model_small_21 ?_
      refine lv_topi (fun t9 e9 => ?_)
      obtain rfl : t9 = nI (14 * r) := e9.trans (pk_mul _ _)
      refine lv_iload hx hb d_Model_small_22 (lv_at hl 0 rfl) ?_
      refine lv_iadd hx hb d_Model_small_24 ?_
      refine lv_topi (fun t9 e9 => ?_)
      obtain rfl : t9 = nI ((14 * r) + i) := e9.trans (nI_add _ _)
      refine lv_lload_n hx hb d_Model_small_25 rfl (lv_at hl 3 rfl) ?_
      refine lv_bipush (v := nI 28) hx hb d_Model_small_26 (by decide) ?_
      refine lv_iload hx hb d_Model_small_28 (lv_at hl 0 rfl) ?_
      refine lv_imul hx hb d_Model_small_30 ?_
      refine lv_topi (fun t9 e9 => ?_)
      obtain rfl : t9 = nI (28 * i) := e9.trans (pk_mul _ _)
      refine lv_lshr (v := vz >>> ((nI (28 * i)).toInt64 &&& 63)) hx hb d_Model_small_31 rfl ?_
      refine lv_ldc2 (v := 268435455) hx hb E.2.2.2.1 (E.2.2.2.2.1 _ w_984) d_Model_small_32 ?_
      refine lv_land hx hb d_Model_small_35 ?_
      have hl9 := sm_l (v := vz) (i := i) (by omega)
      have hdv : dg ((vz >>> ((nI (28 * i)).toInt64 &&& 63)) &&& 268435455) := dg_mask _
      refine q_last E hm.2.2.2.2.1 hm.2.2.2.2.2.2.1 hF (14 * r + i) rfl (by omega) (by decide) d_Model_small_36 (fun H1 locs hq hf2 hF => ?_)
      have hm := hm.step hK (hq.mono (fun q h => Or.inl h)) hf2 ((hm.2.2.2.2.2.1).upd hdv)
      have hfr := hfr.tr (kjR1 hq)
      refine lv_iinc (k := 0) (v := nI (i + 1)) (lv' := [(4, .int (nI (i + 1))), (0, .ref mo), (1, .int (nI r)), (2, .long vz)]) hx hb d_Model_small_37 hl rfl (i_inc i) (by decide) rfl (fun ls hl => ?_)
      refine lv_goto (tgt := 8) hx hb d_Model_small_40 (by decide) ?_
      have hl : lv_has ls 5 [(4, .int (nI (i + 1))), (0, .ref mo), (1, .int (nI r)), (2, .long vz)] := lv_sub hl [0, 1, 2, 3] rfl
      exact ih (i + 1) _ _ ls _ (by omega) hfr hm (fun j hj => by rw [pk_uLn (by omega)]; exact hout j hj) (fun k hk1 => by by_cases e : k = i; (subst e; rw [pk_uLs]; exact hl9); (rw [pk_uLn (by omega)]; exact hs k (by omega))) (fun k h1 h2 => by rw [pk_uLn (by omega)]; exact hz k (by omega) h2) hF hl
  refine lv_aload_n hx hb d_Model_small_0 rfl (lv_at hl 0 rfl) ?_
  refine lv_iload_n hx hb d_Model_small_1 rfl (lv_at hl 1 rfl) ?_
  refine q_cV (rest := []) E (c_Model_zero l g n0 mo r th pw td wr w n hw fd hr1) w_1000 w_15 w_997 w_999 (bw_s 23 rfl) hd_Model_zero rfl ⟨by decide, by decide⟩ (OB.recv E.2.2.2.2.2 (by rfl) hm.1) hm hF hl.1 rfl (Nat.le_of_ble_eq_true rfl) d_Model_small_2 ⟨by decide, by decide⟩ (qv (fun H1 locs hq hF => ?_))
  obtain ⟨hfr, fd1, hm, hpw⟩ := hq
  refine lv_iconst (v := nI 0) hx hb d_Model_small_5 (by decide) ?_
  refine lv_istore (lv' := [(4, .int (nI 0)), (0, .ref mo), (1, .int (nI r)), (2, .long vz)]) hx hb d_Model_small_6 hl (by decide) rfl (fun ls hl => ?_)
  have hl : lv_has ls 5 [(4, .int (nI 0)), (0, .ref mo), (1, .int (nI r)), (2, .long vz)] := lv_sub hl [0, 1, 2, 3] rfl
  exact loop 3 0 _ _ ls fd1 (by omega) hfr hm hpw.1 (fun k hk => absurd hk (Nat.not_lt_zero _)) (fun k _ h2 => hpw.2 k h2) hF hl
set_option maxHeartbeats 4000000 in
set_option maxRecDepth 100000 in
theorem N_Model_inverse (l : Launch) (g : WG) (n0 : Nat → Prop) (mo r a : Nat) (th pw td wr : Int32) (fd fa : Nat → Int64) (hr1 : r < 170) (ha : a < 170) (ha3 : a ≠ 123) (hAT : (∀ j, j ≤ 10 → PP 1 10 ∣ VL (fun k => fa (210 * 1 + 14 * j + k)) 10 - 268435456 ^ (10 + j))) (X : Int) (hX : NV fd a X) (hXr : X < RI) : Ctr l y_Model_inverse (.code y_Model_inverse prog_11_method_21_code 3 none) 4 103 0 0 n0 g [.ref mo, .int (nI r), .int (nI a)] (fun H => MS g n0 H mo th pw td wr 1 10 fd ∧ AJ g H (mo + 4) 420 fa) (QV (fun H H' => FRM (MR mo) H H' ∧ AJ g H' (mo + 4) 420 fa ∧ ∃ fd', MS g n0 H' mo th pw td wr 1 10 fd' ∧ (∀ j, ¬ (14 * 121 ≤ j ∧ j < 14 * 124) → (j < 14 * r ∨ 14 * r + 14 ≤ j) → fd' j = fd j) ∧ NV fd' r (X ^ (RN - 2) % RI))) := by
  refine ctr_mk l (lv0 := [(0, .ref mo), (1, .int (nI r)), (2, .int (nI a))]) (by decide) (Nat.le_of_ble_eq_true rfl) rfl ?_
  intro p e s m below meth c ls E hr hlk hnm hl hP
  have hx := E.1
  have hb := E.2.1
  have hK := E.2.2.2.2.2
  have hF : ∀ q ∈ ([] : List Loc), n0 q.base := fun q hq => absurd hq List.not_mem_nil
  obtain ⟨hm, hab⟩ := hP
  refine lv_aload_n hx hb d_Model_inverse_0 rfl (lv_at hl 0 rfl) ?_
  refine lv_bipush (v := nI 123) hx hb d_Model_inverse_1 (by decide) ?_
  refine lv_ldc2 (v := -2) hx hb E.2.2.2.1 (E.2.2.2.2.1 _ w_1118) d_Model_inverse_3 ?_
  refine q_cV (rest := []) E (N_Model_primeAnd l g n0 mo 123 (-2) th pw td wr fd (by decide) (by decide)) w_1122 w_15 w_1119 w_1121 (bw_s 34 rfl) hd_Model_primeAnd rfl ⟨by decide, by decide⟩ (OB.recv E.2.2.2.2.2 (by rfl) hm.1) hm hF hl.1 rfl (Nat.le_of_ble_eq_true rfl) d_Model_inverse_6 ⟨by decide, by decide⟩ (qv (fun H1 locs hq hF => ?_))
  obtain ⟨hfr, fd1, hm, ho, hn⟩ := hq
  have hab := AJ.off hfr (by unfold MR; omega) hab
  have hn2 : NV fd1 123 ((RN - 2 : Nat) : Int) := hn.trans (by decide +kernel)
  refine lv_aload_n hx hb d_Model_inverse_9 rfl (lv_at hl 0 rfl) ?_
  refine lv_iload_n hx hb d_Model_inverse_10 rfl (lv_at hl 1 rfl) ?_
  refine lv_iload_n hx hb d_Model_inverse_11 rfl (lv_at hl 2 rfl) ?_
  refine lv_bipush (v := nI 123) hx hb d_Model_inverse_12 (by decide) ?_
  refine q_cV (rest := []) E (N_Model_raise l g n0 mo r a 123 th pw td wr fd1 fa hr1 ha (by decide) hAT X (RN - 2) (hX.off ho ha3) hXr hn2 (by decide)) w_1126 w_15 w_1123 w_1125 (bw_s 35 rfl) hd_Model_raise rfl ⟨by decide, by decide⟩ (OB.recv E.2.2.2.2.2 (by rfl) hm.1) (⟨hm, hab⟩) hF hl.1 rfl (Nat.le_of_ble_eq_true rfl) d_Model_inverse_14 ⟨by decide, by decide⟩ (qv (fun H2 locs hq hF => ?_))
  obtain ⟨hfr2, hab, fd2, hm, ho2, hn3⟩ := hq
  exact q_vret E hr hlk (⟨rfl, hfr.tr hfr2, hab, fd2, hm, fun j h1 h2 => (ho2 j (by omega) h2).trans (ho j (by omega)), hn3⟩) hF d_Model_inverse_17
