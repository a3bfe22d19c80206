set_option maxHeartbeats 4000000 in
set_option maxRecDepth 100000 in
theorem Z_Sums_recode (l : Launch) (g : WG) (n0 : Nat → Prop) (o cu od dg sm : Nat) (DG : Nat → Nat) (t a cnt fr0 : Nat) (fa : Nat → Int64) (s9 : Nat) (hfa : RV fa (s9 : Int)) (ht : t < 16) (hc : cnt < 257) (hfr0 : fr0 < 1000) : Ctr l y_Sums_recode (.code y_Sums_recode prog_9_method_4_code 10 none) 1 26 0 0 n0 g [.ref o, .int (nI t), .ref a, .int (nI fr0), .int (nI cnt)] (fun H => OB g H o 4 [.ref cu, .ref od, .ref dg, .ref sm] ∧ AR g.2.2.2.2.2.2 H dg 16 DG ∧ (n0 (DG t) ∧ ∃ f, AB g H (DG t) 257 f) ∧ AJ g H a 14 fa) (QV (fun H H' => KJ g (fun q => q = DG t) H H' ∧ ∃ f, AB g H' (DG t) 257 f ∧ (∀ j, j < 257 → DO (f j)) ∧ (∀ j, cnt < j → f j = 0) ∧ DSg (fun j => (f j).toInt) (cnt + 1) = ((s9 / 2 ^ fr0 % 2 ^ cnt : Nat) : Int) ∧ (s9 / 2 ^ fr0 % 2 ^ cnt = 0 → ∀ j, f j = 0))) := by
  refine ctr_mk l (lv0 := [(0, .ref o), (1, .int (nI t)), (2, .ref a), (3, .int (nI fr0)), (4, .int (nI cnt))]) (by decide) (Nat.le_of_ble_eq_true rfl) rfl ?_
  intro p e s m below meth c ls E hr hlk hnm hl hP
  have hx := E.1
  have hb := E.2.1
  have hK := E.2.2.2.2.2
  have hF : ∀ q ∈ ([] : List Loc), n0 q.base := fun q hq => absurd hq List.not_mem_nil
  obtain ⟨ho, hdr, ⟨hd0, f0, hf0⟩, hA⟩ := hP
  have hS9 : s9 / 2 ^ fr0 % 2 ^ cnt < 2 ^ cnt := Nat.mod_lt _ (Nat.two_pow_pos _)
  refine lv_aload_n hx hb d_Sums_recode_0 rfl (lv_at hl 0 rfl) ?_
  refine q_get (C := "KateDesk$Sums") (T := T_Sums) (N := 4) (ci := 4) E ho in_Sums rfl 2 (by decide) w_249 rfl rfl d_Sums_recode_1 ?_
  refine lv_iload_n hx hb d_Sums_recode_4 rfl (lv_at hl 1 rfl) ?_
  refine q_aald (t := 5) E rfl rfl hdr t rfl ht (by decide) d_Sums_recode_5 ?_
  refine lv_astore (lv' := [(5, .ref (DG t)), (0, .ref o), (1, .int (nI t)), (2, .ref a), (3, .int (nI fr0)), (4, .int (nI cnt))]) hx hb d_Sums_recode_6 hl (by decide) rfl (fun ls hl => ?_)
  refine lv_aload hx hb d_Sums_recode_8 (lv_at hl 0 rfl) ?_
  refine lv_iconst (v := nI 0) hx hb d_Sums_recode_10 (by decide) ?_
  refine q_cS (rest := []) E (c_Arrays_fill0 l g n0 (DG t) 257 (nI 0) f0 (by decide)) w_684 w_21 w_682 w_683 hd_Arrays_fill0 rfl ⟨by decide, by decide⟩ (⟨hd0, hf0⟩) hF hl.1 rfl (Nat.le_of_ble_eq_true rfl) d_Sums_recode_11 ⟨by decide, by decide⟩ (qv (fun H1 locs hq hF => ?_))
  have hk := hq.1
  have hz : AB g H1 (DG t) 257 (fun _ => 0) := hq.2
  have hA : AJ g H1 a 14 fa := hk.ajo (aj_ne hA hK.jb hf0) hA
  refine lv_iconst (v := nI 0) hx hb d_Sums_recode_14 (by decide) ?_
  refine lv_istore (lv' := [(6, .int (nI 0)), (5, .ref (DG t)), (0, .ref o), (1, .int (nI t)), (2, .ref a), (3, .int (nI fr0)), (4, .int (nI cnt))]) hx hb d_Sums_recode_15 hl (by decide) rfl (fun ls hl => ?_)
  refine lv_iconst (v := nI 0) hx hb d_Sums_recode_17 (by decide) ?_
  refine lv_istore (lv' := [(7, .int (nI 0)), (6, .int (nI 0)), (5, .ref (DG t)), (0, .ref o), (1, .int (nI t)), (2, .ref a), (3, .int (nI fr0)), (4, .int (nI cnt))]) hx hb d_Sums_recode_18 hl (by decide) rfl (fun ls hl => ?_)
  refine lv_iconst (v := nI 0) hx hb d_Sums_recode_20 (by decide) ?_
  refine lv_istore (lv' := [(8, .int (nI 0)), (7, .int (nI 0)), (6, .int (nI 0)), (5, .ref (DG t)), (0, .ref o), (1, .int (nI t)), (2, .ref a), (3, .int (nI fr0)), (4, .int (nI cnt))]) hx hb d_Sums_recode_21 hl (by decide) rfl (fun ls hl => ?_)
  have hl : lv_has ls 10 [(8, .int (nI 0)), (6, .int (nI 0)), (7, .int (nI 0)), (0, .ref o), (2, .ref a), (3, .int (nI fr0)), (4, .int (nI cnt)), (5, .ref (DG t))] := lv_sub hl [0, 2, 1, 4, 6, 7, 8, 3] rfl
  have lp : ∀ (k : Nat) (i cr fr9 : Nat) (H : Heap) (locs : List Loc) (ls : Array Slot) (f : Nat → Int32), i + k = cnt + 1 → cr < 2 → fr9 < 1000 → KJ g (fun q => q = DG t) s.heap H → AB g H (DG t) 257 f → AJ g H a 14 fa → (∀ j, j < 257 → DO (f j)) → (∀ j, i ≤ j → f j = 0) → WN (s9 / 2 ^ fr0 % 2 ^ cnt) cnt i cr (max i fr9) (fun j => (f j).toInt) → ((s9 / 2 ^ fr0 % 2 ^ cnt) = 0 → cr = 0 ∧ ∀ j, f j = 0) → (∀ q ∈ locs, n0 q.base) → lv_has ls 10 [(8, .int (nI i)), (6, .int (nI cr)), (7, .int (nI fr9)), (0, .ref o), (2, .ref a), (3, .int (nI fr0)), (4, .int (nI cnt)), (5, .ref (DG t))] → W p l e { frames := 1, cells := 0, slots := 0, locals := 26 } s m [.ref o, .int (nI t), .ref a, .int (nI fr0), .int (nI cnt)].toArray below meth c H locs 0 0 (MQ below (QcP (QV (fun H H' => KJ g (fun q => q = DG t) H H' ∧ ∃ f, AB g H' (DG t) 257 f ∧ (∀ j, j < 257 → DO (f j)) ∧ (∀ j, cnt < j → f j = 0) ∧ DSg (fun j => (f j).toInt) (cnt + 1) = ((s9 / 2 ^ fr0 % 2 ^ cnt : Nat) : Int) ∧ (s9 / 2 ^ fr0 % 2 ^ cnt = 0 → ∀ j, f j = 0)))) [.ref o, .int (nI t), .ref a, .int (nI fr0), .int (nI cnt)].toArray s 0 0 (fun q => n0 q)) (F0 m 23 ls []) := by
    intro k
    induction k with
    | zero =>
      intro  i cr fr9   H   locs   ls   f hi hcr hfr9 hk hf hA hdo hzz hwn hz9 hF hl
      obtain rfl : i = cnt + 1 := by omega
      refine lv_iload hx hb d_Sums_recode_23 (lv_at hl 0 rfl) ?_
      refine lv_iload hx hb d_Sums_recode_25 (lv_at hl 6 rfl) ?_
      refine lv_icmp_gt (tgt := 99) hx hb d_Sums_recode_27 (by decide) (fun _ => ?_) (fun h9 => absurd (nI_lt (by omega) (by omega)) h9)
      exact q_vret E hr hlk (⟨rfl, hk, f, hf, hdo, fun j hj => hzz j (by omega), wn_end hwn hS9, fun h0 => (hz9 h0).2⟩) hF d_Sums_recode_99
    | succ k ih =>
      intro  i cr fr9   H   locs   ls   f hi hcr hfr9 hk hf hA hdo hzz hwn hz9 hF hl
      have hic : i ≤ cnt := by omega
      refine lv_iload hx hb d_Sums_recode_23 (lv_at hl 0 rfl) ?_
      refine lv_iload hx hb d_Sums_recode_25 (lv_at hl 6 rfl) ?_
      refine lv_icmp_gt (tgt := 99) hx hb d_Sums_recode_27 (by decide) (fun h9 => absurd h9 (nI_nlt hic (by omega))) (fun _ => ?_)
      refine lv_iload hx hb d_Sums_recode_30 (lv_at hl 1 rfl) ?_
      refine lv_aload_n hx hb d_Sums_recode_32 rfl (lv_at hl 4 rfl) ?_
      refine lv_iload_n hx hb d_Sums_recode_33 rfl (lv_at hl 5 rfl) ?_
      refine lv_iload hx hb d_Sums_recode_34 (lv_at hl 0 rfl) ?_
      refine lv_iadd hx hb d_Sums_recode_36 ?_
      refine lv_iconst (v := nI 4) hx hb d_Sums_recode_37 (by decide) ?_
      refine lv_iload hx hb d_Sums_recode_38 (lv_at hl 6 rfl) ?_
      refine lv_iload hx hb d_Sums_recode_40 (lv_at hl 0 rfl) ?_
      refine lv_isub hx hb d_Sums_recode_42 ?_
      refine va_mmin E.1 E.2.1 (E.2.2.1.trans hl.1.symm) E.2.2.2.1 (E.2.2.2.2.1 _ w_685) (E.2.2.2.2.1 _ w_686) (E.2.2.2.2.1 _ w_23) (E.2.2.2.2.1 _ w_687) (by decide) (Nat.le_of_ble_eq_true rfl) (Nat.le_of_ble_eq_true rfl) (Nat.le_of_ble_eq_true rfl) d_Sums_recode_43 ?_
      refine lv_topi (fun t9 e9 => ?_)
      obtain rfl : t9 = nI (min 4 (cnt - i)) := e9.trans (mn4 hic hc)
      have hfi : nI fr0 + nI i = nI (fr0 + i) := nI_add _ _
      rw [hfi]
      refine q_cS (rest := [.int (nI cr)]) E (V_Limbs_bits l g n0 a (fr0 + i) (min 4 (cnt - i)) fa (s9 : Int) hfa (by omega) (Nat.le_trans (Nat.min_le_left _ _) (by decide))) w_271 w_5 w_688 w_270 hd_Limbs_bits rfl ⟨by decide, by decide⟩ hA hF hl.1 rfl (Nat.le_of_ble_eq_true rfl) d_Sums_recode_46 ⟨by decide, by decide⟩ (ql (fun r2 H1 locs hq hF => ?_))
      obtain ⟨hr2, hq⟩ := hq
      have hq := hq.symm
      subst hq
      obtain ⟨jb, hjb⟩ : ∃ jb, jb = (s9 / 2 ^ fr0 % 2 ^ cnt) / 2 ^ i % 2 ^ (min 4 (cnt - i)) := ⟨_, rfl⟩
      have hj16 : jb < 16 := by rw [hjb]; exact Nat.lt_of_lt_of_le (Nat.mod_lt _ (Nat.two_pow_pos _)) (Nat.le_trans (Nat.pow_le_pow_right (by decide) (Nat.min_le_left 4 _)) (by decide))
      have hr3 : r2 = lN jb := lN_r (lN_of hr2 (hjb.trans (win_e hic).symm)) hj16
      subst hr3
      refine lv_l2i (v := (lN jb).toInt32) hx hb d_Sums_recode_49 rfl ?_
      refine lv_topi (fun t9 e9 => ?_)
      obtain rfl : t9 = nI jb := e9.trans (lN_i jb)
      refine lv_iadd hx hb d_Sums_recode_50 ?_
      refine lv_topi (fun t9 e9 => ?_)
      obtain rfl : t9 = nI (cr + jb) := e9.trans (nI_add _ _)
      refine lv_istore (lv' := [(9, .int (nI (cr + jb))), (8, .int (nI i)), (6, .int (nI cr)), (7, .int (nI fr9)), (0, .ref o), (2, .ref a), (3, .int (nI fr0)), (4, .int (nI cnt)), (5, .ref (DG t))]) hx hb d_Sums_recode_51 hl (by decide) rfl (fun ls hl => ?_)
      refine lv_iload hx hb d_Sums_recode_53 (lv_at hl 1 rfl) ?_
      refine lv_iload hx hb d_Sums_recode_55 (lv_at hl 3 rfl) ?_
      refine lv_icmp_lt (tgt := 93) hx hb d_Sums_recode_57 (by decide) (fun h1 => ?_) (fun h1 => ?_)
      rotate_left
      · skip
        have hge : fr9 ≤ i := Classical.byContradiction (fun hn => h1 (nI_lt (by omega) (by omega)))
        rw [Nat.max_eq_left hge] at hwn
        refine lv_iload hx hb d_Sums_recode_60 (lv_at hl 0 rfl) ?_
        refine lv_iconst (v := nI 1) hx hb d_Sums_recode_62 (by decide) ?_
        refine lv_iand hx hb d_Sums_recode_63 ?_
        refine lv_iconst (v := nI 1) hx hb d_Sums_recode_64 (by decide) ?_
        refine lv_icmp_ne (tgt := 93) hx hb d_Sums_recode_65 (by decide) (fun h2 => ?_) (fun h2 => ?_)
        rotate_left
        · skip
          obtain ⟨cn, hcn, ecn, hc8, hvd, hdd⟩ := do_step (cr + jb) (by omega) h2
          refine lv_iload hx hb d_Sums_recode_68 (lv_at hl 0 rfl) ?_
          refine lv_iconst (v := nI 3) hx hb d_Sums_recode_70 (by decide) ?_
          refine lv_ishr hx hb d_Sums_recode_71 ?_
          refine lv_topi (fun t9 e9 => ?_)
          obtain rfl : t9 = nI cn := e9.trans (ecn)
          refine lv_istore (lv' := [(6, .int (nI cn)), (9, .int (nI (cr + jb))), (8, .int (nI i)), (7, .int (nI fr9)), (0, .ref o), (2, .ref a), (3, .int (nI fr0)), (4, .int (nI cnt)), (5, .ref (DG t))]) hx hb d_Sums_recode_72 hl (by decide) rfl (fun ls hl => ?_)
          refine lv_aload hx hb d_Sums_recode_74 (lv_at hl 8 rfl) ?_
          refine lv_iload hx hb d_Sums_recode_76 (lv_at hl 2 rfl) ?_
          refine lv_iload hx hb d_Sums_recode_78 (lv_at hl 1 rfl) ?_
          refine lv_iload hx hb d_Sums_recode_80 (lv_at hl 0 rfl) ?_
          refine lv_iconst (v := nI 4) hx hb d_Sums_recode_82 (by decide) ?_
          refine lv_ishl hx hb d_Sums_recode_83 ?_
          refine lv_isub hx hb d_Sums_recode_84 ?_
          refine lv_i2b (v := ((nI (cr + jb)) - ((nI cn) <<< ((nI 4) &&& 31))).toInt8.toInt32) hx hb d_Sums_recode_85 rfl ?_
          refine q_bast E hf hd0 hF i rfl (by omega) (by decide) d_Sums_recode_86 (fun H2 locs hq hf2 hF => ?_)
          have hk := hk.tr hq
          have hA := hq.ajo (aj_ne hA hK.jb hf) hA
          have hdo2 := DO_upd (i := i) hdo hdd
          have hwn2 := wn_odd (c' := cn) (w := jb) (d := fun j => (upd f i (vp_nar .byte ((nI (cr + jb) - (nI cn <<< (nI 4 &&& 31))).toInt8.toInt32)) j).toInt) (hwn.ext (fun j hj => by show (f j).toInt = (upd f i _ j).toInt; rw [up_n (by omega)])) (by rw [hjb]; exact wn_w hS9 hic) (by omega) (fun e => big_e hjb (by have := hc8 e; have : ¬ (cr + jb) = 8 := fun e8 => absurd h2 (by rw [e8]; decide); omega)) (by show (upd f i _ i).toInt = _; rw [up_s, hvd]; omega)
          refine lv_iload hx hb d_Sums_recode_87 (lv_at hl 2 rfl) ?_
          refine lv_iconst (v := nI 4) hx hb d_Sums_recode_89 (by decide) ?_
          refine lv_iadd hx hb d_Sums_recode_90 ?_
          refine lv_istore (lv' := [(7, .int ((nI i) + (nI 4))), (6, .int (nI cn)), (9, .int (nI (cr + jb))), (8, .int (nI i)), (0, .ref o), (2, .ref a), (3, .int (nI fr0)), (4, .int (nI cnt)), (5, .ref (DG t))]) hx hb d_Sums_recode_91 hl (by decide) rfl (fun ls hl => ?_)
          have hfi4 : nI i + nI 4 = nI (i + 4) := nI_add _ _
          rw [hfi4] at hl
          refine lv_iinc (k := 3) (v := nI (i + 1)) (lv' := [(8, .int (nI (i + 1))), (7, .int (nI (i + 4))), (6, .int (nI cn)), (9, .int (nI (cr + jb))), (0, .ref o), (2, .ref a), (3, .int (nI fr0)), (4, .int (nI cnt)), (5, .ref (DG t))]) hx hb d_Sums_recode_93 hl rfl (i_inc i) (by decide) rfl (fun ls hl => ?_)
          refine lv_goto (tgt := 23) hx hb d_Sums_recode_96 (by decide) ?_
          have hl : lv_has ls 10 [(8, .int (nI (i + 1))), (6, .int (nI cn)), (7, .int (nI (i + 4))), (0, .ref o), (2, .ref a), (3, .int (nI fr0)), (4, .int (nI cnt)), (5, .ref (DG t))] := lv_sub hl [0, 2, 1, 4, 5, 6, 7, 8] rfl
          exact ih (i + 1) cn (i + 4) _ _ ls _ (by omega) hcn (by omega) hk hf2 hA hdo2 (fun j hj => by rw [up_n (by omega)]; exact hzz j (by omega)) (by rw [Nat.max_eq_right (by omega)]; exact hwn2) (fun h0 => absurd h2 (by rw [(hz9 h0).1, show jb = 0 by rw [hjb, h0, Nat.zero_div, Nat.zero_mod]]; decide)) hF hl
        refine lv_iinc (k := 1) (v := nI (i + 1)) (lv' := [(8, .int (nI (i + 1))), (9, .int (nI (cr + jb))), (6, .int (nI cr)), (7, .int (nI fr9)), (0, .ref o), (2, .ref a), (3, .int (nI fr0)), (4, .int (nI cnt)), (5, .ref (DG t))]) hx hb d_Sums_recode_93 hl rfl (i_inc i) (by decide) rfl (fun ls hl => ?_)
        refine lv_goto (tgt := 23) hx hb d_Sums_recode_96 (by decide) ?_
        have hl : lv_has ls 10 [(8, .int (nI (i + 1))), (6, .int (nI cr)), (7, .int (nI fr9)), (0, .ref o), (2, .ref a), (3, .int (nI fr0)), (4, .int (nI cnt)), (5, .ref (DG t))] := lv_sub hl [0, 2, 3, 4, 5, 6, 7, 8] rfl
        exact ih (i + 1) cr fr9 _ _ ls f (by omega) hcr hfr9 hk hf hA hdo (fun j hj => hzz j (by omega)) (by rw [Nat.max_eq_left (by omega)]; exact wn_even hwn hS9 (by show (f i).toInt = 0; rw [hzz i (Nat.le_refl _)]; rfl) (par_e hic hS9 hjb hcr (do_odd _ (by omega) h2))) hz9 hF hl
      have hlt : i < fr9 := Classical.byContradiction (fun hn => nI_nlt (show fr9 ≤ i by omega) (by omega) h1)
      refine lv_iinc (k := 1) (v := nI (i + 1)) (lv' := [(8, .int (nI (i + 1))), (9, .int (nI (cr + jb))), (6, .int (nI cr)), (7, .int (nI fr9)), (0, .ref o), (2, .ref a), (3, .int (nI fr0)), (4, .int (nI cnt)), (5, .ref (DG t))]) hx hb d_Sums_recode_93 hl rfl (i_inc i) (by decide) rfl (fun ls hl => ?_)
      refine lv_goto (tgt := 23) hx hb d_Sums_recode_96 (by decide) ?_
      have hl : lv_has ls 10 [(8, .int (nI (i + 1))), (6, .int (nI cr)), (7, .int (nI fr9)), (0, .ref o), (2, .ref a), (3, .int (nI fr0)), (4, .int (nI cnt)), (5, .ref (DG t))] := lv_sub hl [0, 2, 3, 4, 5, 6, 7, 8] rfl
      exact ih (i + 1) cr fr9 _ _ ls f (by omega) hcr hfr9 hk hf hA hdo (fun j hj => hzz j (by omega)) (by rw [Nat.max_eq_right (by omega)] at hwn ⊢; exact wn_skip hwn hlt (by show (f i).toInt = 0; rw [hzz i (Nat.le_refl _)]; rfl)) hz9 hF hl
  exact lp (cnt + 1) 0 0 0 _ _ ls _ (by omega) (by decide) (by decide) hk hz hA (fun _ _ => Or.inl rfl) (fun _ _ => rfl) (wn_0 _ _ _) (fun _ => ⟨rfl, fun _ => rfl⟩) hF hl
set_option maxHeartbeats 4000000 in
set_option maxRecDepth 100000 in
theorem Z_Sums_place (l : Launch) (g : WG) (n0 : Nat → Prop) (o cu od dg sm s1 s2 s3 : Nat) (fo : Nat) (F : Nat → Nat) (mi : Int64) (X : Nat → Nat) (O O1 O2 O3 : Nat → Nat) (DG : Nat → Nat) (n1 : Nat → Prop) (t a : Nat) (y y1 y2 y3 : Nat) (P : P3) (fa : Nat → Int64) (s9 : Nat) (hfa : RV fa (s9 : Int)) (hs256 : s9 < 2 ^ 256) (hPC : onC P) (ht : t < 16) (hn1 : ∀ q, n1 q → n0 q) (hmi : mi = 268238845) (hA9 : SAP F X O1 O2 O3 s1 s2 s3) (hXb : ∀ i, i < 9 → y1 ≠ X i ∧ y2 ≠ X i ∧ y3 ≠ X i) (hOb : ∀ k, k < 64 → (y1 ≠ O1 k ∧ y1 ≠ O2 k ∧ y1 ≠ O3 k) ∧ (y2 ≠ O1 k ∧ y2 ≠ O2 k ∧ y2 ≠ O3 k) ∧ y3 ≠ O1 k ∧ y3 ≠ O2 k ∧ y3 ≠ O3 k) (hdn : ¬ (fun q => (∃ i, i < 9 ∧ q = X i) ∨ q = F 5 ∨ q = s1 ∨ q = s2 ∨ q = s3 ∨ ∃ k, t * 4 ≤ k ∧ k < t * 4 + 4 ∧ (q = O1 k ∨ q = O2 k ∨ q = O3 k)) (DG t)) : Ctr l y_Sums_place (.code y_Sums_place prog_9_method_2_code 4 none) 5 211 0 0 n0 g [.ref o, .int (nI t), .ref a, .ref y] (fun H => SO g n1 H o cu od dg sm s1 s2 s3 fo F mi X O O1 O2 O3 ∧ AR g.2.2.2.2.2.2 H dg 16 DG ∧ (n0 (DG t) ∧ ∃ f, AB g H (DG t) 257 f) ∧ AJ g H a 14 fa ∧ PT g n1 H y y1 y2 y3 ∧ AJ g H (F 0) 14 kQ ∧ LPt g H y1 y2 y3 P) (QV (fun H H' => KJ g (fun q => q = DG t ∨ (fun q => (∃ i, i < 9 ∧ q = X i) ∨ q = F 5 ∨ q = s1 ∨ q = s2 ∨ q = s3 ∨ ∃ k, t * 4 ≤ k ∧ k < t * 4 + 4 ∧ (q = O1 k ∨ q = O2 k ∨ q = O3 k)) q) H H' ∧ (∃ f, AB g H' (DG t) 257 f ∧ (∀ j, j < 257 → DO (f j)) ∧ DSg (fun j => (f j).toInt) 257 = (s9 : Int) ∧ (s9 = 0 → ∀ j, f j = 0)) ∧ (s9 ≠ 0 → ∀ m9 : Nat, m9 < 4 → ∃ W, RP P (2 * (m9 : Int) + 1) W ∧ LPt g H' (O1 (t * 4 + m9)) (O2 (t * 4 + m9)) (O3 (t * 4 + m9)) W))) := by
  refine ctr_mk l (lv0 := [(0, .ref o), (1, .int (nI t)), (2, .ref a), (3, .ref y)]) (by decide) (Nat.le_of_ble_eq_true rfl) rfl ?_
  intro p e s m below meth c ls E hr hlk hnm hl hP
  have hx := E.1
  have hb := E.2.1
  have hK := E.2.2.2.2.2
  have hF : ∀ q ∈ ([] : List Loc), n0 q.base := fun q hq => absurd hq List.not_mem_nil
  obtain ⟨hso, hdr, hdt, h_a, h_y, hM, hLy⟩ := hP
  have hdb := hdt.2
  obtain ⟨fb9, hfb9⟩ := hdb
  refine lv_aload_n hx hb d_Sums_place_0 rfl (lv_at hl 0 rfl) ?_
  refine lv_iload_n hx hb d_Sums_place_1 rfl (lv_at hl 1 rfl) ?_
  refine lv_aload_n hx hb d_Sums_place_2 rfl (lv_at hl 2 rfl) ?_
  refine lv_iconst (v := nI 0) hx hb d_Sums_place_3 (by decide) ?_
  refine lv_sipush (v := nI 256) hx hb d_Sums_place_4 (by decide) ?_
  refine q_cV (rest := []) E (Z_Sums_recode l g n0 o cu od dg sm DG t a 256 0 fa s9 hfa ht (by decide) (by decide)) w_681 w_12 w_678 w_679 w_680 hd_Sums_recode rfl ⟨by decide, by decide⟩ (OB.recv E.2.2.2.2.2 (by rfl) hso.1) (⟨hso.1, hdr, hdt, h_a⟩) hF hl.1 rfl (Nat.le_of_ble_eq_true rfl) d_Sums_place_7 ⟨by decide, by decide⟩ (qv (fun H1 locs hq hF => ?_))
  obtain ⟨hk, f9, hf9, hdo, hzz, hds, hz9⟩ := hq
  rw [Nat.pow_zero, Nat.div_one, Nat.mod_eq_of_lt hs256] at hds hz9
  have hnj : ∀ {r : Nat} {f : Nat → Int64}, AJ g s.heap r 14 f → AJ g H1 r 14 f := fun hr9 => hk.ajo (aj_ne hr9 hK.jb hfb9) hr9
  refine lv_aload_n hx hb d_Sums_place_10 rfl (lv_at hl 2 rfl) ?_
  refine q_cS (rest := []) E (V_Limbs_isZero l g n0 a fa (s9 : Int) hfa) w_548 w_5 w_689 w_547 hd_Limbs_isZero rfl ⟨by decide, by decide⟩ (hnj h_a) hF hl.1 rfl (Nat.le_of_ble_eq_true rfl) d_Sums_place_11 ⟨by decide, by decide⟩ (qi (fun r H2 locs hq hF => ?_))
  obtain ⟨hr9, hq⟩ := hq
  have hq := hq.symm
  subst hq
  refine lv_if_ne (tgt := 23) hx hb d_Sums_place_14 (by decide) (fun hrz => ?_) (fun hrz => ?_)
  rotate_left
  · skip
    have hs9 : s9 ≠ 0 := fun e => (hr9.resolve_left (fun h => absurd (h.1.symm.trans hrz) (by decide))).2 (congrArg Int.ofNat e)
    refine lv_aload_n hx hb d_Sums_place_17 rfl (lv_at hl 0 rfl) ?_
    refine lv_iload_n hx hb d_Sums_place_18 rfl (lv_at hl 1 rfl) ?_
    refine lv_aload_n hx hb d_Sums_place_19 rfl (lv_at hl 3 rfl) ?_
    refine q_cV (rest := []) E ((L_Sums_tabulate l g n1 o cu od dg sm s1 s2 s3 fo F mi X O O1 O2 O3 t y y1 y2 y3 P hPC ht hmi hA9 hXb hOb).up hn1) w_693 w_12 w_690 w_691 w_692 hd_Sums_tabulate rfl ⟨by decide, by decide⟩ (OB.recv E.2.2.2.2.2 (by rfl) ((hk.so hK hso).1)) (⟨hk.so hK hso, hk.pt hK h_y, hnj hM, hLy.1.imp (fun f hf => ⟨hnj hf.1, hf.2⟩), hLy.2.1.imp (fun f hf => ⟨hnj hf.1, hf.2⟩), hLy.2.2.imp (fun f hf => ⟨hnj hf.1, hf.2⟩)⟩) hF hl.1 rfl (Nat.le_of_ble_eq_true rfl) d_Sums_place_20 ⟨by decide, by decide⟩ (qv (fun H3 locs hq hF => ?_))
    obtain ⟨hq, -, hW⟩ := hq
    exact q_vret E hr hlk (⟨rfl, (hk.mono (fun q h => Or.inl h)).tr (hq.mono (fun q h => Or.inr h)), ⟨f9, hq.abo hdn hf9, hdo, hds, hz9⟩, fun _ => hW⟩) hF d_Sums_place_23
  have hs9 : s9 = 0 := Int.ofNat.inj (hr9.resolve_right (fun h => hrz h.1)).2
  exact q_vret E hr hlk (⟨rfl, hk.mono (fun q h => Or.inl h), ⟨f9, hf9, hdo, hds, hz9⟩, fun h => absurd hs9 h⟩) hF d_Sums_place_23
set_option maxHeartbeats 4000000 in
set_option maxRecDepth 100000 in
theorem L_Curve_equalRatios (l : Launch) (g : WG) (n0 : Nat → Prop) (o : Nat) (fo : Nat) (F : Nat → Nat) (mi : Int64) (X : Nat → Nat) (a az b bz : Nat) (A AZ B BZ : Int) (hXA : XA F X) (hmi : mi = 268238845) (h6 : b ≠ X 6 ∧ az ≠ X 6) : Ctr l y_Curve_equalRatios (.code y_Curve_equalRatios prog_2_method_7_code 5 (some FieldType.boolean)) 2 135 0 0 n0 g [.ref o, .ref a, .ref az, .ref b, .ref bz] (fun H => CV g n0 H o fo F mi X ∧ AJ g H (F 0) 14 kQ ∧ LW g H a A ∧ LW g H az AZ ∧ LW g H b B ∧ LW g H bz BZ) (QI (fun r H H' => ((r = 1 ∧ cq (A * BZ) (B * AZ)) ∨ (r = 0 ∧ ¬ cq (A * BZ) (B * AZ))) ∧ KJ g (fun q => q = X 6 ∨ q = X 7) H H')) := by
  refine ctr_mk l (lv0 := [(0, .ref o), (1, .ref a), (2, .ref az), (3, .ref b), (4, .ref bz)]) (by decide) (Nat.le_of_ble_eq_true rfl) rfl ?_
  intro p e s m below meth c ls E hr hlk hnm hl hP
  have hx := E.1
  have hb := E.2.1
  have hK := E.2.2.2.2.2
  have hF : ∀ q ∈ ([] : List Loc), n0 q.base := fun q hq => absurd hq List.not_mem_nil
  obtain ⟨hcv, hM, va, vaz, vb, vbz⟩ := hP
  have hk : KJ g (fun q => q = X 6 ∨ q = X 7) s.heap s.heap := KJ.rf
  refine lv_aload_n hx hb d_Curve_equalRatios_0 rfl (lv_at hl 0 rfl) ?_
  refine q_get (C := "KateDesk$Curve") (T := T_Curve) (N := 10) (ci := 0) E ((hk.cv hK hcv).1) in_Curve rfl 0 (by decide) w_205 rfl rfl d_Curve_equalRatios_1 ?_
  refine lv_aload_n hx hb d_Curve_equalRatios_4 rfl (lv_at hl 0 rfl) ?_
  refine q_get (C := "KateDesk$Curve") (T := T_Curve) (N := 10) (ci := 0) E ((hk.cv hK hcv).1) in_Curve rfl 7 (by decide) w_212 rfl rfl d_Curve_equalRatios_5 ?_
  refine lv_aload_n hx hb d_Curve_equalRatios_8 rfl (lv_at hl 1 rfl) ?_
  refine lv_aload hx hb d_Curve_equalRatios_9 (lv_at hl 4 rfl) ?_
  obtain ⟨fa, j_a, ra⟩ := id va
  obtain ⟨fbz, j_bz, rbz⟩ := id vbz
  refine q_cV (rest := []) E (Q_Field_multiply l g n0 fo (X 6) a bz F mi fa fbz ((A * WQ) % QJ) ((BZ * WQ) % QJ) ra rbz (qm_r _).2 (qm_r _).2 (hXA.2.1 6 (by decide)) hmi) w_165 w_4 w_652 w_163 w_164 hd_Field_multiply rfl ⟨by decide, by decide⟩ (OB.recv E.2.2.2.2.2 (by rfl) ((hk.cv hK hcv).2.1.1)) (⟨(hk.cv hK hcv).2.1, (hk.cv hK hcv).2.2 6 (by decide), j_a, j_bz, hM⟩) hF hl.1 rfl (Nat.le_of_ble_eq_true rfl) d_Curve_equalRatios_11 ⟨by decide, by decide⟩ (qv (fun H1 locs hq hF => ?_))
  obtain ⟨hq, fm6, hm6, rm6⟩ := hq
  rw [lw_mu] at rm6
  have hM := hq.ajo (hXA.2.1 6 (by decide)) hM
  have vb := vb.off hq h6.1
  have vaz := vaz.off hq h6.2
  have hk := hk.tr (hq.mono (fun q h => Or.inl h))
  refine lv_aload_n hx hb d_Curve_equalRatios_14 rfl (lv_at hl 0 rfl) ?_
  refine q_get (C := "KateDesk$Curve") (T := T_Curve) (N := 10) (ci := 0) E ((hk.cv hK hcv).1) in_Curve rfl 0 (by decide) w_205 rfl rfl d_Curve_equalRatios_15 ?_
  refine lv_aload_n hx hb d_Curve_equalRatios_18 rfl (lv_at hl 0 rfl) ?_
  refine q_get (C := "KateDesk$Curve") (T := T_Curve) (N := 10) (ci := 0) E ((hk.cv hK hcv).1) in_Curve rfl 8 (by decide) w_213 rfl rfl d_Curve_equalRatios_19 ?_
  refine lv_aload_n hx hb d_Curve_equalRatios_22 rfl (lv_at hl 3 rfl) ?_
  refine lv_aload_n hx hb d_Curve_equalRatios_23 rfl (lv_at hl 2 rfl) ?_
  obtain ⟨fb, j_b, rb⟩ := id vb
  obtain ⟨faz, j_az, raz⟩ := id vaz
  refine q_cV (rest := []) E (Q_Field_multiply l g n0 fo (X 7) b az F mi fb faz ((B * WQ) % QJ) ((AZ * WQ) % QJ) rb raz (qm_r _).2 (qm_r _).2 (hXA.2.1 7 (by decide)) hmi) w_165 w_4 w_652 w_163 w_164 hd_Field_multiply rfl ⟨by decide, by decide⟩ (OB.recv E.2.2.2.2.2 (by rfl) ((hk.cv hK hcv).2.1.1)) (⟨(hk.cv hK hcv).2.1, (hk.cv hK hcv).2.2 7 (by decide), j_b, j_az, hM⟩) hF hl.1 rfl (Nat.le_of_ble_eq_true rfl) d_Curve_equalRatios_24 ⟨by decide, by decide⟩ (qv (fun H2 locs hq hF => ?_))
  obtain ⟨hq, fm7, hm7, rm7⟩ := hq
  rw [lw_mu] at rm7
  have hM := hq.ajo (hXA.2.1 7 (by decide)) hM
  have hm6 := hq.ajo (hXA.1 6 7 (by decide) (by decide) (by decide)) hm6
  have hk := hk.tr (hq.mono (fun q h => Or.inr h))
  refine lv_aload_n hx hb d_Curve_equalRatios_27 rfl (lv_at hl 0 rfl) ?_
  refine q_get (C := "KateDesk$Curve") (T := T_Curve) (N := 10) (ci := 0) E ((hk.cv hK hcv).1) in_Curve rfl 7 (by decide) w_212 rfl rfl d_Curve_equalRatios_28 ?_
  refine lv_aload_n hx hb d_Curve_equalRatios_31 rfl (lv_at hl 0 rfl) ?_
  refine q_get (C := "KateDesk$Curve") (T := T_Curve) (N := 10) (ci := 0) E ((hk.cv hK hcv).1) in_Curve rfl 8 (by decide) w_213 rfl rfl d_Curve_equalRatios_32 ?_
  refine q_cS (rest := []) E (L_Limbs_equal l g n0 (X 6) (X 7) fm6 fm7 _ _ rm6 rm7) w_669 w_5 w_815 w_668 hd_Limbs_equal rfl ⟨by decide, by decide⟩ (⟨hm6, hm7⟩) hF hl.1 rfl (Nat.le_of_ble_eq_true rfl) d_Curve_equalRatios_35 ⟨by decide, by decide⟩ (qi (fun r H3 locs hq hF => ?_))
  obtain ⟨hr9, hq⟩ := hq
  have hq := hq.symm
  subst hq
  exact q_zret E hr (by rcases hr9 with h | h <;> rw [h.1] <;> rfl) hlk (⟨r, rfl, hr9.imp (fun h => ⟨h.1, lw_eq.mp h.2⟩) (fun h => ⟨h.1, fun z => h.2 (lw_eq.mpr z)⟩), hk⟩) hF d_Curve_equalRatios_38
set_option maxHeartbeats 4000000 in
set_option maxRecDepth 100000 in
theorem L_Curve_equal (l : Launch) (g : WG) (n0 : Nat → Prop) (o : Nat) (fo : Nat) (F : Nat → Nat) (mi : Int64) (X : Nat → Nat) (a a1 a2 a3 : Nat) (b b1 b2 b3 : Nat) (P R : P3) (hP9 : onC P) (hR9 : onC R) (hXA : XA F X) (hmi : mi = 268238845) (hXa : ∀ i, i < 9 → a1 ≠ X i ∧ a2 ≠ X i ∧ a3 ≠ X i) (hXb : ∀ i, i < 9 → b1 ≠ X i ∧ b2 ≠ X i ∧ b3 ≠ X i) : Ctr l y_Curve_equal (.code y_Curve_equal prog_2_method_6_code 3 (some FieldType.boolean)) 3 159 0 0 n0 g [.ref o, .ref a, .ref b] (fun H => CV g n0 H o fo F mi X ∧ PT g n0 H a a1 a2 a3 ∧ PT g n0 H b b1 b2 b3 ∧ AJ g H (F 0) 14 kQ ∧ LPt g H a1 a2 a3 P ∧ LPt g H b1 b2 b3 R) (QI (fun r H H' => ((r = 1 ∧ PE P R) ∨ (r = 0 ∧ ¬ PE P R)) ∧ KJ g (fun q => q = X 6 ∨ q = X 7) H H')) := by
  refine ctr_mk l (lv0 := [(0, .ref o), (1, .ref a), (2, .ref b)]) (by decide) (Nat.le_of_ble_eq_true rfl) rfl ?_
  intro p e s m below meth c ls E hr hlk hnm hl hP
  have hx := E.1
  have hb := E.2.1
  have hK := E.2.2.2.2.2
  have hF : ∀ q ∈ ([] : List Loc), n0 q.base := fun q hq => absurd hq List.not_mem_nil
  obtain ⟨hcv, h_a, h_b, hM, hLa, hLb⟩ := hP
  have hk : KJ g (fun q => q = X 6 ∨ q = X 7) s.heap s.heap := KJ.rf
  rw [← PE_al hP9 hR9]
  refine lv_aload_n hx hb d_Curve_equal_0 rfl (lv_at hl 0 rfl) ?_
  refine lv_aload_n hx hb d_Curve_equal_1 rfl (lv_at hl 1 rfl) ?_
  refine q_get (C := "KateDesk$Point") (T := T_Point) (N := 3) (ci := 2) E ((hk.pt hK h_a).1) in_Point rfl 0 (by decide) w_46 rfl rfl d_Curve_equal_2 ?_
  refine lv_aload_n hx hb d_Curve_equal_5 rfl (lv_at hl 1 rfl) ?_
  refine q_get (C := "KateDesk$Point") (T := T_Point) (N := 3) (ci := 2) E ((hk.pt hK h_a).1) in_Point rfl 2 (by decide) w_54 rfl rfl d_Curve_equal_6 ?_
  refine lv_aload_n hx hb d_Curve_equal_9 rfl (lv_at hl 2 rfl) ?_
  refine q_get (C := "KateDesk$Point") (T := T_Point) (N := 3) (ci := 2) E ((hk.pt hK h_b).1) in_Point rfl 0 (by decide) w_46 rfl rfl d_Curve_equal_10 ?_
  refine lv_aload_n hx hb d_Curve_equal_13 rfl (lv_at hl 2 rfl) ?_
  refine q_get (C := "KateDesk$Point") (T := T_Point) (N := 3) (ci := 2) E ((hk.pt hK h_b).1) in_Point rfl 2 (by decide) w_54 rfl rfl d_Curve_equal_14 ?_
  refine q_cV (rest := []) E (L_Curve_equalRatios l g n0 o fo F mi X a1 a3 b1 b3 P.1 P.2.2 R.1 R.2.2 hXA hmi ⟨(hXb 6 (by decide)).1, (hXa 6 (by decide)).2.2⟩) w_814 w_11 w_811 w_813 (bw_s 10 rfl) hd_Curve_equalRatios rfl ⟨by decide, by decide⟩ (OB.recv E.2.2.2.2.2 (by rfl) ((hk.cv hK hcv).1)) (⟨hk.cv hK hcv, hM, hLa.1, hLa.2.2, hLb.1, hLb.2.2⟩) hF hl.1 rfl (Nat.le_of_ble_eq_true rfl) d_Curve_equal_17 ⟨by decide, by decide⟩ (qi (fun ra H1 locs hq hF => ?_))
  obtain ⟨hra, hq⟩ := hq
  have hM := hq.ajo (fun h => h.elim (hXA.2.1 6 (by decide)) (hXA.2.1 7 (by decide))) hM
  have hLa := hLa.off hq (fun h => h.elim (hXa 6 (by decide)).1 (hXa 7 (by decide)).1) (fun h => h.elim (hXa 6 (by decide)).2.1 (hXa 7 (by decide)).2.1) (fun h => h.elim (hXa 6 (by decide)).2.2 (hXa 7 (by decide)).2.2)
  have hLb := hLb.off hq (fun h => h.elim (hXb 6 (by decide)).1 (hXb 7 (by decide)).1) (fun h => h.elim (hXb 6 (by decide)).2.1 (hXb 7 (by decide)).2.1) (fun h => h.elim (hXb 6 (by decide)).2.2 (hXb 7 (by decide)).2.2)
  have hk := hk.tr hq
  refine lv_if_eq (tgt := 50) hx hb d_Curve_equal_20 (by decide) (fun za => ?_) (fun za => ?_)
  rotate_left
  · skip
    have ha1 := (hra.resolve_right (fun h => za h.1)).2
    refine lv_aload_n hx hb d_Curve_equal_23 rfl (lv_at hl 0 rfl) ?_
    refine lv_aload_n hx hb d_Curve_equal_24 rfl (lv_at hl 1 rfl) ?_
    refine q_get (C := "KateDesk$Point") (T := T_Point) (N := 3) (ci := 2) E ((hk.pt hK h_a).1) in_Point rfl 1 (by decide) w_50 rfl rfl d_Curve_equal_25 ?_
    refine lv_aload_n hx hb d_Curve_equal_28 rfl (lv_at hl 1 rfl) ?_
    refine q_get (C := "KateDesk$Point") (T := T_Point) (N := 3) (ci := 2) E ((hk.pt hK h_a).1) in_Point rfl 2 (by decide) w_54 rfl rfl d_Curve_equal_29 ?_
    refine lv_aload_n hx hb d_Curve_equal_32 rfl (lv_at hl 2 rfl) ?_
    refine q_get (C := "KateDesk$Point") (T := T_Point) (N := 3) (ci := 2) E ((hk.pt hK h_b).1) in_Point rfl 1 (by decide) w_50 rfl rfl d_Curve_equal_33 ?_
    refine lv_aload_n hx hb d_Curve_equal_36 rfl (lv_at hl 2 rfl) ?_
    refine q_get (C := "KateDesk$Point") (T := T_Point) (N := 3) (ci := 2) E ((hk.pt hK h_b).1) in_Point rfl 2 (by decide) w_54 rfl rfl d_Curve_equal_37 ?_
    refine q_cV (rest := []) E (L_Curve_equalRatios l g n0 o fo F mi X a2 a3 b2 b3 P.2.1 P.2.2 R.2.1 R.2.2 hXA hmi ⟨(hXb 6 (by decide)).2.1, (hXa 6 (by decide)).2.2⟩) w_814 w_11 w_811 w_813 (bw_s 10 rfl) hd_Curve_equalRatios rfl ⟨by decide, by decide⟩ (OB.recv E.2.2.2.2.2 (by rfl) ((hk.cv hK hcv).1)) (⟨hk.cv hK hcv, hM, hLa.2.1, hLa.2.2, hLb.2.1, hLb.2.2⟩) hF hl.1 rfl (Nat.le_of_ble_eq_true rfl) d_Curve_equal_40 ⟨by decide, by decide⟩ (qi (fun rb H2 locs hq hF => ?_))
    obtain ⟨hrb, hq⟩ := hq
    have hk := hk.tr hq
    refine lv_if_eq (tgt := 50) hx hb d_Curve_equal_43 (by decide) (fun zb => ?_) (fun zb => ?_)
    rotate_left
    · skip
      refine lv_iconst (v := nI 1) hx hb d_Curve_equal_46 (by decide) ?_
      refine lv_goto (tgt := 51) hx hb d_Curve_equal_47 (by decide) ?_
      exact q_zret E hr rfl hlk (⟨_, rfl, Or.inl ⟨rfl, ha1, (hrb.resolve_right (fun h => zb h.1)).2⟩, hk⟩) hF d_Curve_equal_51
    refine lv_iconst (v := nI 0) hx hb d_Curve_equal_50 (by decide) ?_
    exact q_zret E hr rfl hlk (⟨_, rfl, Or.inr ⟨rfl, fun z => (hrb.resolve_left (fun h => absurd (h.1.symm.trans zb) (by decide))).2 z.2⟩, hk⟩) hF d_Curve_equal_51
  refine lv_iconst (v := nI 0) hx hb d_Curve_equal_50 (by decide) ?_
  exact q_zret E hr rfl hlk (⟨_, rfl, Or.inr ⟨rfl, fun z => (hra.resolve_left (fun h => absurd (h.1.symm.trans za) (by decide))).2 z.1⟩, hk⟩) hF d_Curve_equal_51
