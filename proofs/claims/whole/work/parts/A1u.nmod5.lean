theorem sh_1n : (((nI 1).toInt64 &&& 63).toBitVec.smod 64).toNat = 1 := by decide +kernel
theorem hv_l {x y : Int64} (hx : dg x) (hy : dg y) : dg ((x >>> ((nI 1).toInt64 &&& 63)) ||| ((y &&& 1) <<< ((nI 27).toInt64 &&& 63))) ∧ ((x >>> ((nI 1).toInt64 &&& 63)) ||| ((y &&& 1) <<< ((nI 27).toInt64 &&& 63))).toInt = x.toInt / 2 + y.toInt % 2 * 134217728 := by
  have e1 : (x >>> ((nI 1).toInt64 &&& 63)).toInt = x.toInt / 2 ^ 1 := i64_shrN x sh_1n
  have e2 := and_1 hy.1
  have d1 : dg (y &&& 1) := by unfold dg; rw [e2]; omega
  have e3 := shl_d d1 (show 27 ≤ 28 by decide)
  have n1 := i64_nat d1.1
  unfold dg at hx hy
  have e4 : ((y &&& 1) <<< ((nI 27).toInt64 &&& 63)).toInt = (((y &&& 1).toBitVec.toNat * 2 ^ 27 : Nat) : Int) := by
    rw [e3, n1]
    rfl
  have hz : (y &&& 1).toBitVec.toNat < 2 := by omega
  have h := i64_orz (o := 27) (by decide) (by rw [e1]; omega) (by rw [e1]; show x.toInt / 2 < 134217728; omega) e4 (by show (y &&& 1).toBitVec.toNat * 134217728 < 268435456; omega)
  have e5 : ((y &&& 1) <<< ((nI 27).toInt64 &&& 63)).toInt = y.toInt % 2 * 134217728 := by rw [e3, e2]; rfl
  have e6 : x.toInt / 2 ^ 1 = x.toInt / 2 := rfl
  rw [e1, e5, e6] at h
  exact ⟨by unfold dg; rw [h]; omega, h⟩
theorem hv_t {x : Int64} (hx : dg x) : dg ((x >>> ((nI 1).toInt64 &&& 63)) ||| 0) ∧ ((x >>> ((nI 1).toInt64 &&& 63)) ||| 0).toInt = x.toInt / 2 := by
  have e1 : (x >>> ((nI 1).toInt64 &&& 63)).toInt = x.toInt / 2 ^ 1 := i64_shrN x sh_1n
  have e6 : x.toInt / 2 ^ 1 = x.toInt / 2 := rfl
  unfold dg at hx
  rw [Int64.or_zero]
  exact ⟨by unfold dg; rw [e1, e6]; omega, e1⟩
theorem VL_half {f h : Nat → Int64} {n : Nat} (e : ∀ k, k < n → (h k).toInt = (f k).toInt / 2 + (f (k + 1)).toInt % 2 * 134217728) : 2 * VL h n + (f 0).toInt % 2 = VL f n + (f n).toInt % 2 * 268435456 ^ n := by
  induction n with
  | zero => show 2 * (0 : Int) + (f 0).toInt % 2 = 0 + (f 0).toInt % 2 * 1; omega
  | succ n ih =>
    have i1 := ih (fun k hk => e k (by omega))
    show 2 * (VL h n + (h n).toInt * 268435456 ^ n) + (f 0).toInt % 2 = VL f n + (f n).toInt * 268435456 ^ n + (f (n + 1)).toInt % 2 * 268435456 ^ (n + 1)
    rw [e n (by omega), Int.pow_succ]
    have e2 := Int.emod_add_mul_ediv (f n).toInt 2
    generalize (268435456 : Int) ^ n = b at *
    generalize (f n).toInt % 2 = m1 at *
    generalize (f n).toInt / 2 = m2 at *
    generalize (f (n + 1)).toInt % 2 = m3 at *
    generalize (f 0).toInt % 2 = m4 at *
    generalize (f n).toInt = m5 at *
    generalize VL h n = V1 at *
    generalize VL f n = V2 at *
    clear ih e
    grind
theorem VL_half14 {f h : Nat → Int64} (e : ∀ k, k < 13 → (h k).toInt = (f k).toInt / 2 + (f (k + 1)).toInt % 2 * 134217728) (e13 : (h 13).toInt = (f 13).toInt / 2) : VL h 14 = VL f 14 / 2 := by
  have i1 := VL_half e
  have h1 : VL h 14 = VL h 13 + (h 13).toInt * 268435456 ^ 13 := rfl
  have h2 : VL f 14 = VL f 13 + (f 13).toInt * 268435456 ^ 13 := rfl
  rw [e13] at h1
  have e2 := Int.emod_add_mul_ediv (f 13).toInt 2
  have e3 : (f 13).toInt * 268435456 ^ 13 = (f 13).toInt % 2 * 268435456 ^ 13 + 2 * ((f 13).toInt / 2 * 268435456 ^ 13) := by
    generalize (268435456 : Int) ^ 13 = b at *
    generalize (f 13).toInt % 2 = m1 at *
    generalize (f 13).toInt / 2 = m2 at *
    rw [← e2]
    grind
  omega
set_option maxHeartbeats 4000000 in
set_option maxRecDepth 100000 in
theorem N_Model_halves (l : Launch) (g : WG) (n0 : Nat → Prop) (mo r c9 : Nat) (th pw td wr : Int32) (w n : Nat) (hw : WH w n) (fd : Nat → Int64) (hr1 : r < 170) (hc9 : c9 < 2147483648) (X : Int) (hX : NV fd r X) : Ctr l y_Model_halves (.code y_Model_halves prog_11_method_22_code 5 none) 1 22 0 0 n0 g [.ref mo, .int (nI r), .int (nI c9)] (fun H => MS g n0 H mo th pw td wr w n fd) (QV (fun H H' => FRM (MR mo) H H' ∧ ∃ fd', MS g n0 H' mo th pw td wr w n fd' ∧ (∀ j, (j < 14 * r ∨ 14 * r + 14 ≤ j) → fd' j = fd j) ∧ NV fd' r (X / 2 ^ c9))) := by
  refine ctr_mk l (lv0 := [(0, .ref mo), (1, .int (nI r)), (2, .int (nI c9))]) (by decide) (Nat.le_of_ble_eq_true rfl) rfl ?_
  intro p e s m below meth c ls E hr hlk hnm hl hP
  have hx := E.1
  have hb := E.2.1
  have hK := E.2.2.2.2.2
  have hF : ∀ q ∈ ([] : List Loc), n0 q.base := fun q hq => absurd hq List.not_mem_nil
  have hm := hP
  obtain ⟨hpd, hn1, hn14, hw1, hPT, hP1, hT0, hT1⟩ := wh_kP hw
  have hfr : FRM (MR mo) s.heap s.heap := FRM.rf
  have loop : ∀ (k : Nat) (i : Nat) (H : Heap) (locs : List Loc) (ls : Array Slot) (fd1 : Nat → Int64), i + k = c9 → FRM (MR mo) s.heap H → MS g n0 H mo th pw td wr w n fd1 → (∀ j, (j < 14 * r ∨ 14 * r + 14 ≤ j) → fd1 j = fd j) → NV fd1 r (X / 2 ^ i) → (∀ q ∈ locs, n0 q.base) → lv_has ls 5 [(3, .int (nI i)), (0, .ref mo), (1, .int (nI r)), (2, .int (nI c9))] → W p l e { frames := 1, cells := 0, slots := 0, locals := 22 } s m [.ref mo, .int (nI r), .int (nI c9)].toArray below meth c H locs 0 0 (MQ below (QcP (QV (fun H H' => FRM (MR mo) H H' ∧ ∃ fd', MS g n0 H' mo th pw td wr w n fd' ∧ (∀ j, (j < 14 * r ∨ 14 * r + 14 ≤ j) → fd' j = fd j) ∧ NV fd' r (X / 2 ^ c9)))) [.ref mo, .int (nI r), .int (nI c9)].toArray s 0 0 (fun q => n0 q)) (F0 m 2 ls []) := by
    intro k
    induction k with
    | zero =>
      intro  i   H   locs   ls   fd1 hi hfr hm hout hv hF hl
      obtain rfl : i = c9 := by omega
      refine lv_iload_n hx hb d_Model_halves_2 rfl (lv_at hl 0 rfl) ?_
      refine lv_iload_n hx hb d_Model_halves_3 rfl (lv_at hl 3 rfl) ?_
      refine lv_icmp_ge (tgt := 78) hx hb d_Model_halves_4 (by decide) (fun _ => ?_) (fun h9 => absurd (nI_le (Nat.le_refl _) (by omega)) h9)
      exact q_vret E hr hlk (⟨rfl, hfr, fd1, hm, hout, hv⟩) hF d_Model_halves_78
    | succ k ih =>
      intro  i   H   locs   ls   fd1 hi hfr hm hout hv hF hl
      have hD1 := hm.2.2.2.2.2.1
      refine lv_iload_n hx hb d_Model_halves_2 rfl (lv_at hl 0 rfl) ?_
      refine lv_iload_n hx hb d_Model_halves_3 rfl (lv_at hl 3 rfl) ?_
      refine lv_icmp_ge (tgt := 78) hx hb d_Model_halves_4 (by decide) (fun h9 => absurd h9 (nI_ge (by omega) (by omega))) (fun _ => ?_)
      refine lv_iconst (v := nI 0) hx hb d_Model_halves_7 (by decide) ?_
      refine lv_istore (lv' := [(4, .int (nI 0)), (3, .int (nI i)), (0, .ref mo), (1, .int (nI r)), (2, .int (nI c9))]) hx hb d_Model_halves_8 hl (by decide) rfl (fun ls hl => ?_)
      have hl : lv_has ls 5 [(4, .int (nI 0)), (3, .int (nI i)), (0, .ref mo), (1, .int (nI r)), (2, .int (nI c9))] := lv_sub hl [0, 1, 2, 3, 4] rfl
      have inner : ∀ (k2x : Nat) (j : Nat) (H : Heap) (locs : List Loc) (ls : Array Slot) (fd2 : Nat → Int64), j + k2x = 14 → FRM (MR mo) s.heap H → MS g n0 H mo th pw td wr w n fd2 → (∀ j, (j < 14 * r ∨ 14 * r + 14 ≤ j) → fd2 j = fd j) → (∀ k, k < j → k < 13 → (fd2 (14 * r + k)).toInt = (fd1 (14 * r + k)).toInt / 2 + (fd1 (14 * r + (k + 1))).toInt % 2 * 134217728) → (∀ k, j ≤ k → k < 14 → fd2 (14 * r + k) = fd1 (14 * r + k)) → (14 ≤ j → (fd2 (14 * r + 13)).toInt = (fd1 (14 * r + 13)).toInt / 2) → (∀ q ∈ locs, n0 q.base) → lv_has ls 5 [(4, .int (nI j)), (3, .int (nI i)), (0, .ref mo), (1, .int (nI r)), (2, .int (nI c9))] → W p l e { frames := 1, cells := 0, slots := 0, locals := 22 } s m [.ref mo, .int (nI r), .int (nI c9)].toArray below meth c H locs 0 0 (MQ below (QcP (QV (fun H H' => FRM (MR mo) H H' ∧ ∃ fd', MS g n0 H' mo th pw td wr w n fd' ∧ (∀ j, (j < 14 * r ∨ 14 * r + 14 ≤ j) → fd' j = fd j) ∧ NV fd' r (X / 2 ^ c9)))) [.ref mo, .int (nI r), .int (nI c9)].toArray s 0 0 (fun q => n0 q)) (F0 m 10 ls []) := by
        intro k2x
        induction k2x with
        | zero =>
          intro  j   H   locs   ls   fd2 hj9 hfr hm hout2 hlo hge htp hF hl
          obtain rfl : j = 14 := by omega
          refine lv_iload hx hb d_Model_halves_10 (lv_at hl 0 rfl) ?_
          refine lv_bipush (v := nI 14) hx hb d_Model_halves_12 (by decide) ?_
          refine lv_icmp_ge (tgt := 72) hx hb d_Model_halves_14 (by decide) (fun _ => ?_) (fun h9 => absurd (by decide) h9)
          refine lv_iinc (k := 1) (v := nI (i + 1)) (lv' := [(3, .int (nI (i + 1))), (4, .int (nI 14)), (0, .ref mo), (1, .int (nI r)), (2, .int (nI c9))]) hx hb d_Model_halves_72 hl rfl (i_inc i) (by decide) rfl (fun ls hl => ?_)
          refine lv_goto (tgt := 2) hx hb d_Model_halves_75 (by decide) ?_
          have hl : lv_has ls 5 [(3, .int (nI (i + 1))), (0, .ref mo), (1, .int (nI r)), (2, .int (nI c9))] := lv_sub hl [0, 2, 3, 4] rfl
          have hv2 : NV fd2 r (X / 2 ^ (i + 1)) := by
            have h9 := VL_half14 (f := fun k => fd1 (14 * r + k)) (h := fun k => fd2 (14 * r + k)) (fun k hk => hlo k (by omega) hk) (htp (by decide))
            rw [show VL (fun k => fd1 (14 * r + k)) 14 = X / 2 ^ i from hv, Int.ediv_ediv_of_nonneg (Int.le_of_lt (p2_pos i)), ← Int.pow_succ] at h9
            exact h9
          exact ih (i + 1) _ _ ls fd2 (by omega) hfr hm hout2 hv2 hF hl
        | succ k2x ih2 =>
          intro  j   H   locs   ls   fd2 hj9 hfr hm hout2 hlo hge htp hF hl
          refine lv_iload hx hb d_Model_halves_10 (lv_at hl 0 rfl) ?_
          refine lv_bipush (v := nI 14) hx hb d_Model_halves_12 (by decide) ?_
          refine lv_icmp_ge (tgt := 72) hx hb d_Model_halves_14 (by decide) (fun h9 => absurd h9 (nI_ge (by omega) (by decide))) (fun _ => ?_)
          refine lv_aload_n hx hb d_Model_halves_17 rfl (lv_at hl 2 rfl) ?_
          refine q_get (C := "KateDeskModel") (T := T_Model) (N := 14) (ci := 8) E hm.1 in_Model rfl 1 (by decide) w_1002 rfl rfl d_Model_halves_18 ?_
          refine lv_bipush (v := nI 14) hx hb d_Model_halves_21 (by decide) ?_
          refine lv_iload_n hx hb d_Model_halves_23 rfl (lv_at hl 3 rfl) ?_
          refine lv_imul hx hb d_Model_halves_24 ?_
          refine lv_topi (fun t9 e9 => ?_)
          obtain rfl : t9 = nI (14 * r) := e9.trans (pk_mul _ _)
          refine lv_iload hx hb d_Model_halves_25 (lv_at hl 0 rfl) ?_
          refine lv_iadd hx hb d_Model_halves_27 ?_
          refine lv_topi (fun t9 e9 => ?_)
          obtain rfl : t9 = nI ((14 * r) + j) := e9.trans (nI_add _ _)
          refine lv_aload_n hx hb d_Model_halves_28 rfl (lv_at hl 2 rfl) ?_
          refine lv_iload_n hx hb d_Model_halves_29 rfl (lv_at hl 3 rfl) ?_
          refine lv_iload hx hb d_Model_halves_30 (lv_at hl 0 rfl) ?_
          refine q_cV (rest := [.int (nI ((14 * r) + j)), .ref (mo + 1)]) E (c_Model_limb l g n0 mo r j th (nI w) (nI n) pw td wr fd2 (by omega) (by omega)) w_979 w_15 w_976 w_978 (bw_s 18 rfl) hd_Model_limb rfl ⟨by decide, by decide⟩ (OB.recv E.2.2.2.2.2 (by rfl) hm.1) (⟨hm.1, hm.2.2.2.2.1⟩) hF hl.1 rfl (Nat.le_of_ble_eq_true rfl) d_Model_halves_32 ⟨by decide, by decide⟩ (ql (fun v1 H1 locs hq hF => ?_))
          obtain ⟨hq, hq9⟩ := hq
          obtain rfl := hq9
          subst hq
          refine lv_iconst (v := nI 1) hx hb d_Model_halves_35 (by decide) ?_
          refine lv_lshr (v := (fd2 (14 * r + j)) >>> ((nI 1).toInt64 &&& 63)) hx hb d_Model_halves_36 rfl ?_
          refine lv_iload hx hb d_Model_halves_37 (lv_at hl 0 rfl) ?_
          refine lv_iconst (v := nI 1) hx hb d_Model_halves_39 (by decide) ?_
          refine lv_iadd hx hb d_Model_halves_40 ?_
          refine lv_topi (fun t9 e9 => ?_)
          obtain rfl : t9 = nI (j + 1) := e9.trans (nI_add _ _)
          refine lv_bipush (v := nI 14) hx hb d_Model_halves_41 (by decide) ?_
          have d1 := hD1 (14 * r + j) (by omega)
          have e1 : fd2 (14 * r + j) = fd1 (14 * r + j) := hge j (Nat.le_refl _) (by omega)
          refine lv_icmp_ge (tgt := 63) hx hb d_Model_halves_43 (by decide) (fun hj => ?_) (fun hj => ?_)
          rotate_left
          · skip
            have hj3 : j + 1 < 14 := Nat.lt_of_not_le (fun q => hj (nI_le q (by omega)))
            have d2 := hD1 (14 * r + (j + 1)) (by omega)
            have e2 : fd2 (14 * r + (j + 1)) = fd1 (14 * r + (j + 1)) := hge (j + 1) (by omega) hj3
            refine lv_aload_n hx hb d_Model_halves_46 rfl (lv_at hl 2 rfl) ?_
            refine lv_iload_n hx hb d_Model_halves_47 rfl (lv_at hl 3 rfl) ?_
            refine lv_iload hx hb d_Model_halves_48 (lv_at hl 0 rfl) ?_
            refine lv_iconst (v := nI 1) hx hb d_Model_halves_50 (by decide) ?_
            refine lv_iadd hx hb d_Model_halves_51 ?_
            refine lv_topi (fun t9 e9 => ?_)
            obtain rfl : t9 = nI (j + 1) := e9.trans (nI_add _ _)
            refine q_cV (rest := [.long ((fd2 (14 * r + j)) >>> ((nI 1).toInt64 &&& 63)), .int (nI ((14 * r) + j)), .ref (mo + 1)]) E (c_Model_limb l g n0 mo r (j + 1) th (nI w) (nI n) pw td wr fd2 (by omega) (by omega)) w_979 w_15 w_976 w_978 (bw_s 18 rfl) hd_Model_limb rfl ⟨by decide, by decide⟩ (OB.recv E.2.2.2.2.2 (by rfl) hm.1) (⟨hm.1, hm.2.2.2.2.1⟩) hF hl.1 rfl (Nat.le_of_ble_eq_true rfl) d_Model_halves_52 ⟨by decide, by decide⟩ (ql (fun v2 H2 locs hq hF => ?_))
            obtain ⟨hq, hq9⟩ := hq
            obtain rfl := hq9
            subst hq
            refine lv_lconst (v := 1) hx hb d_Model_halves_55 (by decide) ?_
            refine lv_land hx hb d_Model_halves_56 ?_
            refine lv_bipush (v := nI 27) hx hb d_Model_halves_57 (by decide) ?_
            refine lv_lshl (v := ((fd2 (14 * r + (j + 1))) &&& 1) <<< ((nI 27).toInt64 &&& 63)) hx hb d_Model_halves_59 rfl ?_
            refine lv_goto (tgt := 64) hx hb d_Model_halves_60 (by decide) ?_
            refine lv_lor hx hb d_Model_halves_64 ?_
            have hhd := hv_l d1 d2
            rw [← e1, ← e2] at hhd
            have hdv : dg (((fd2 (14 * r + j)) >>> ((nI 1).toInt64 &&& 63)) ||| (((fd2 (14 * r + (j + 1))) &&& 1) <<< ((nI 27).toInt64 &&& 63))) := hhd.1
            refine q_last E hm.2.2.2.2.1 hm.2.2.2.2.2.2.1 hF (14 * r + j) rfl (by omega) (by decide) d_Model_halves_65 (fun H3 locs hq hf2 hF => ?_)
            have hm := hm.step hK (hq.mono (fun q h => Or.inl h)) hf2 ((hm.2.2.2.2.2.1).upd hdv)
            have hfr := hfr.tr (kjR1 hq)
            refine lv_iinc (k := 0) (v := nI (j + 1)) (lv' := [(4, .int (nI (j + 1))), (3, .int (nI i)), (0, .ref mo), (1, .int (nI r)), (2, .int (nI c9))]) hx hb d_Model_halves_66 hl rfl (i_inc j) (by decide) rfl (fun ls hl => ?_)
            refine lv_goto (tgt := 10) hx hb d_Model_halves_69 (by decide) ?_
            have hl : lv_has ls 5 [(4, .int (nI (j + 1))), (3, .int (nI i)), (0, .ref mo), (1, .int (nI r)), (2, .int (nI c9))] := lv_sub hl [0, 1, 2, 3, 4] rfl
            exact ih2 (j + 1) _ _ ls _ (by omega) hfr hm (fun q hq => by rw [pk_uLn (by omega)]; exact hout2 q hq) (fun k h1 h2 => by by_cases e : k = j; (subst e; rw [pk_uLs]; exact hhd.2.trans (by rw [e1, e2])); (rw [pk_uLn (by omega)]; exact hlo k (by omega) h2)) (fun k h1 h2 => by rw [pk_uLn (by omega)]; exact hge k (by omega) h2) (fun h13 => absurd h13 (by omega)) hF hl
          have hj3 : j = 13 := by have := (nI_leI (by decide) (by omega)).mp hj; omega
          refine lv_lconst (v := 0) hx hb d_Model_halves_63 (by decide) ?_
          refine lv_lor hx hb d_Model_halves_64 ?_
          have hhd := hv_t d1
          rw [← e1] at hhd
          have hdv : dg (((fd2 (14 * r + j)) >>> ((nI 1).toInt64 &&& 63)) ||| 0) := hhd.1
          refine q_last E hm.2.2.2.2.1 hm.2.2.2.2.2.2.1 hF (14 * r + j) rfl (by omega) (by decide) d_Model_halves_65 (fun H2 locs hq hf2 hF => ?_)
          have hm := hm.step hK (hq.mono (fun q h => Or.inl h)) hf2 ((hm.2.2.2.2.2.1).upd hdv)
          have hfr := hfr.tr (kjR1 hq)
          refine lv_iinc (k := 0) (v := nI (j + 1)) (lv' := [(4, .int (nI (j + 1))), (3, .int (nI i)), (0, .ref mo), (1, .int (nI r)), (2, .int (nI c9))]) hx hb d_Model_halves_66 hl rfl (i_inc j) (by decide) rfl (fun ls hl => ?_)
          refine lv_goto (tgt := 10) hx hb d_Model_halves_69 (by decide) ?_
          have hl : lv_has ls 5 [(4, .int (nI (j + 1))), (3, .int (nI i)), (0, .ref mo), (1, .int (nI r)), (2, .int (nI c9))] := lv_sub hl [0, 1, 2, 3, 4] rfl
          exact ih2 (j + 1) _ _ ls _ (by omega) hfr hm (fun q hq => by rw [pk_uLn (by omega)]; exact hout2 q hq) (fun k h1 h2 => by rw [pk_uLn (by omega)]; exact hlo k (by omega) h2) (fun k h1 h2 => by rw [pk_uLn (by omega)]; exact hge k (by omega) h2) (fun h13 => by subst hj3; rw [pk_uLs]; exact hhd.2.trans (by rw [e1])) hF hl
      exact inner 14 0 _ _ ls fd1 (by omega) hfr hm hout (fun k h => absurd h (Nat.not_lt_zero _)) (fun _ _ _ => rfl) (fun h => absurd h (by decide)) hF hl
  refine lv_iconst (v := nI 0) hx hb d_Model_halves_0 (by decide) ?_
  refine lv_istore_n (lv' := [(3, .int (nI 0)), (0, .ref mo), (1, .int (nI r)), (2, .int (nI c9))]) hx hb d_Model_halves_1 rfl hl (by decide) rfl (fun ls hl => ?_)
  have hl : lv_has ls 5 [(3, .int (nI 0)), (0, .ref mo), (1, .int (nI r)), (2, .int (nI c9))] := lv_sub hl [0, 1, 2, 3] rfl
  exact loop c9 0 _ _ ls fd (by omega) hfr hm (fun _ _ => rfl) (by rw [Int.pow_zero, Int.ediv_one]; exact hX) hF hl
