theorem nz_of {g : WG} {H : Heap} {a : Nat} {f : Nat → Int64} (h : AJ g H a 14 f) (hn : ¬ AJ g H a 14 (fun _ => 0)) : ∃ j, j < 14 ∧ f j ≠ 0 := Classical.byContradiction (fun q => hn (h.ext (fun j hj => Classical.byContradiction (fun e => q ⟨j, hj, e⟩))))
set_option maxHeartbeats 4000000 in
set_option maxRecDepth 100000 in
theorem n_Limbs_isZero (l : Launch) (g : WG) (n0 : Nat → Prop) (a j : Nat) (f : Nat → Int64) (hj : j < 14) (hne : f j ≠ 0) : Ctr l y_Limbs_isZero (.code y_Limbs_isZero prog_5_method_6_code 2 (some FieldType.boolean)) 0 0 0 0 n0 g [.ref a] (fun H => AJ g H a 14 f) (QI (fun r H H' => r = 0 ∧ H' = H)) := by
  refine ctr_mk l (lv0 := [(0, .ref a)]) (by decide) (Nat.le_of_ble_eq_true rfl) rfl ?_
  intro p e s m below meth c ls E hr hlk hnm hl hP
  have hx := E.1
  have hb := E.2.1
  have hK := E.2.2.2.2.2
  have hF : ∀ q ∈ ([] : List Loc), n0 q.base := fun q hq => absurd hq List.not_mem_nil
  have lp : ∀ (k : Nat) (i : Nat) (ls : Array Slot), i + k = 14 → i ≤ j → lv_has ls 2 [(1, .int (nI i)), (0, .ref a)] → W p l e { frames := 0, cells := 0, slots := 0, locals := 0 } s m [.ref a].toArray below meth c s.heap [] 0 0 (MQ below (QcP (QI (fun r H H' => r = 0 ∧ H' = H))) [.ref a].toArray s 0 0 (fun q => n0 q)) (F0 m 2 ls []) := by
    intro k
    induction k with
    | zero =>
      intro  i   ls hi hij hl
      exact absurd hj (by omega)
    | succ k ih =>
      intro  i   ls hi hij hl
      refine lv_iload_n hx hb d_Limbs_isZero_2 rfl (lv_at hl 0 rfl) ?_
      refine lv_bipush (v := nI 14) hx hb d_Limbs_isZero_3 (by decide) ?_
      refine lv_icmp_ge (tgt := 24) hx hb d_Limbs_isZero_5 (by decide) (fun h9 => absurd h9 (nI_ge (by omega) (by decide))) (fun _ => ?_)
      refine lv_aload_n hx hb d_Limbs_isZero_8 rfl (lv_at hl 1 rfl) ?_
      refine lv_iload_n hx hb d_Limbs_isZero_9 rfl (lv_at hl 0 rfl) ?_
      refine q_lald (N := 14) (f := f) E hP i rfl (by omega) (by decide) d_Limbs_isZero_10 ?_
      refine lv_lconst (v := 0) hx hb d_Limbs_isZero_11 (by decide) ?_
      refine W.lcmp hx hb d_Limbs_isZero_12 ?_
      refine lv_if_eq (tgt := 18) hx hb d_Limbs_isZero_13 (by decide) (fun hc => ?_) (fun hc => ?_)
      rotate_left
      · skip
        refine lv_iconst (v := nI 0) hx hb d_Limbs_isZero_16 (by decide) ?_
        exact q_zret E hr rfl hlk (⟨_, rfl, rfl, rfl⟩) hF d_Limbs_isZero_17
      have hc0 : f i = 0 := (lg_cmp_eq _ _).mp hc
      have hne9 : i ≠ j := fun e => hne (e ▸ hc0)
      refine lv_iinc (k := 0) (v := nI (i + 1)) (lv' := [(1, .int (nI (i + 1))), (0, .ref a)]) hx hb d_Limbs_isZero_18 hl rfl (i_inc i) (by decide) rfl (fun ls hl => ?_)
      refine lv_goto (tgt := 2) hx hb d_Limbs_isZero_21 (by decide) ?_
      have hl : lv_has ls 2 [(1, .int (nI (i + 1))), (0, .ref a)] := lv_sub hl [0, 1] rfl
      exact ih (i + 1) ls (by omega) (by omega) hl
  refine lv_iconst (v := nI 0) hx hb d_Limbs_isZero_0 (by decide) ?_
  refine lv_istore_n (lv' := [(1, .int (nI 0)), (0, .ref a)]) hx hb d_Limbs_isZero_1 rfl hl (by decide) rfl (fun ls hl => ?_)
  have hl : lv_has ls 2 [(1, .int (nI 0)), (0, .ref a)] := lv_sub hl [0, 1] rfl
  exact lp 14 0 ls (by omega) (by omega) hl
set_option maxHeartbeats 4000000 in
set_option maxRecDepth 100000 in
theorem t_Desk_reckonG (l : Launch) (g : WG) (n0 : Nat → Prop) (s0 : State) (hxs : XS l s0) (b pn tn wn : Nat) (mr mq : Int64) (a a2 a3 : Nat) (h1 : a < 32) (h2 : a2 < 32) (h3 : a3 < 32) : CtrT l y_Desk_reckon (.code y_Desk_reckon prog_1_method_6_code 5 none) 7 104 1 6 n0 g s0 [.ref b, .int (nI 3), .int (nI a), .int (nI a2), .int (nI a3)] (fun H => OLD s0 H ∧ n0 H.size ∧ DS g H H b pn tn wn mr mq ∧ AJ g H (kSc b a3) 14 (fun _ => 0)) (TQ s0 "java/lang/ArithmeticException") := by
  refine ctrT_mk l (lv0 := [(0, .ref b), (1, .int (nI 3)), (2, .int (nI a)), (3, .int (nI a2)), (4, .int (nI a3))]) (by decide) (Nat.le_of_ble_eq_true rfl) rfl ?_
  intro p e s m below meth c ls E hw0 hlk hnh hl hP
  have hx := E.1
  have hb := E.2.1
  have hK := E.2.2.2.2.2
  have hF : ∀ q ∈ ([] : List Loc), n0 q.base := fun q hq => absurd hq List.not_mem_nil
  obtain ⟨ho, hnew, hpre⟩ := hP
  obtain ⟨hd, hz9⟩ := hpre
  refine lv_iload_n hx hb d_Desk_reckon_0 rfl (lv_at hl 1 rfl) ?_
  have hF : ∀ q ∈ ([] : List Loc), kd_none q.base := fun q hq => absurd hq List.not_mem_nil
  refine q_cS (rest := []) E (c_Desk_needKind l g kd_none _ (⟨by decide, by decide⟩)) w_544 w_1 w_542 w_543 hd_Desk_needKind rfl ⟨by decide, by decide⟩ trivial hF hl.1 rfl (Nat.le_of_ble_eq_true rfl) d_Desk_reckon_1 ⟨by decide, by decide⟩ (qv (fun H1 locs hq hF => ?_))
  obtain rfl := hq
  obtain rfl : locs = [] := List.eq_nil_iff_forall_not_mem.mpr (fun q h => hF q h)
  have hF : ∀ q ∈ ([] : List Loc), n0 q.base := fun q hq => absurd hq List.not_mem_nil
  refine lv_iload_n hx hb d_Desk_reckon_4 rfl (lv_at hl 2 rfl) ?_
  refine lv_iconst (v := nI 1) hx hb d_Desk_reckon_5 (by decide) ?_
  have hF : ∀ q ∈ ([] : List Loc), kd_none q.base := fun q hq => absurd hq List.not_mem_nil
  refine q_cS (rest := []) E (c_Desk_needScalars l g kd_none _ _ (okS_of (by omega) (by omega))) w_494 w_1 w_492 w_493 hd_Desk_needScalars rfl ⟨by decide, by decide⟩ trivial hF hl.1 rfl (Nat.le_of_ble_eq_true rfl) d_Desk_reckon_6 ⟨by decide, by decide⟩ (qv (fun H2 locs hq hF => ?_))
  obtain rfl := hq
  obtain rfl : locs = [] := List.eq_nil_iff_forall_not_mem.mpr (fun q h => hF q h)
  have hF : ∀ q ∈ ([] : List Loc), n0 q.base := fun q hq => absurd hq List.not_mem_nil
  refine lv_iload_n hx hb d_Desk_reckon_9 rfl (lv_at hl 3 rfl) ?_
  refine lv_iconst (v := nI 1) hx hb d_Desk_reckon_10 (by decide) ?_
  have hF : ∀ q ∈ ([] : List Loc), kd_none q.base := fun q hq => absurd hq List.not_mem_nil
  refine q_cS (rest := []) E (c_Desk_needScalars l g kd_none _ _ (okS_of (by omega) (by omega))) w_494 w_1 w_492 w_493 hd_Desk_needScalars rfl ⟨by decide, by decide⟩ trivial hF hl.1 rfl (Nat.le_of_ble_eq_true rfl) d_Desk_reckon_11 ⟨by decide, by decide⟩ (qv (fun H3 locs hq hF => ?_))
  obtain rfl := hq
  obtain rfl : locs = [] := List.eq_nil_iff_forall_not_mem.mpr (fun q h => hF q h)
  have hF : ∀ q ∈ ([] : List Loc), n0 q.base := fun q hq => absurd hq List.not_mem_nil
  refine lv_iload hx hb d_Desk_reckon_14 (lv_at hl 4 rfl) ?_
  refine lv_iconst (v := nI 1) hx hb d_Desk_reckon_16 (by decide) ?_
  have hF : ∀ q ∈ ([] : List Loc), kd_none q.base := fun q hq => absurd hq List.not_mem_nil
  refine q_cS (rest := []) E (c_Desk_needScalars l g kd_none _ _ (okS_of (by omega) (by omega))) w_494 w_1 w_492 w_493 hd_Desk_needScalars rfl ⟨by decide, by decide⟩ trivial hF hl.1 rfl (Nat.le_of_ble_eq_true rfl) d_Desk_reckon_17 ⟨by decide, by decide⟩ (qv (fun H4 locs hq hF => ?_))
  obtain rfl := hq
  obtain rfl : locs = [] := List.eq_nil_iff_forall_not_mem.mpr (fun q h => hF q h)
  have hF : ∀ q ∈ ([] : List Loc), n0 q.base := fun q hq => absurd hq List.not_mem_nil
  refine lv_iload_n hx hb d_Desk_reckon_20 rfl (lv_at hl 1 rfl) ?_
  refine lv_iconst (v := nI 3) hx hb d_Desk_reckon_21 (by decide) ?_
  refine lv_icmp_ne (tgt := 48) hx hb d_Desk_reckon_22 (by decide) (fun h9 => absurd (rfl) h9) (fun _ => ?_)
  refine lv_aload_n hx hb d_Desk_reckon_25 rfl (lv_at hl 0 rfl) ?_
  refine q_get (C := "KateDesk") (T := T_Desk) (N := 16) (ci := 5) E hd.x.ob in_Desk rfl 5 (by decide) w_344 rfl rfl d_Desk_reckon_26 ?_
  refine lv_iload hx hb d_Desk_reckon_29 (lv_at hl 4 rfl) ?_
  refine q_aald (t := 4) E rfl rfl hd.x.rs.1 a3 rfl h3 (by decide) d_Desk_reckon_31 ?_
  have hF : ∀ q ∈ ([] : List Loc), kd_none q.base := fun q hq => absurd hq List.not_mem_nil
  refine q_cS (rest := []) E (z_Limbs_isZero l g kd_none (kSc b a3)) w_548 w_5 w_546 w_547 hd_Limbs_isZero rfl ⟨by decide, by decide⟩ hz9 hF hl.1 rfl (Nat.le_of_ble_eq_true rfl) d_Desk_reckon_32 ⟨by decide, by decide⟩ (qi (fun r H5 locs hq hF => ?_))
  obtain ⟨rfl, hq⟩ := hq
  obtain rfl := hq
  obtain rfl : locs = [] := List.eq_nil_iff_forall_not_mem.mpr (fun q h => hF q h)
  have hF : ∀ q ∈ ([] : List Loc), n0 q.base := fun q hq => absurd hq List.not_mem_nil
  refine lv_if_eq (tgt := 48) hx hb d_Desk_reckon_35 (by decide) (fun h9 => absurd h9 (by decide)) (fun _ => ?_)
  exact q_throw (k := 177) (tx := "a division by 0") E hxs hw0 ho hlk hnh hnew (kd_xc_are E.2.2.2.2.1 (kd_XL.at hxs.2.1 hw0 ho)) w_549 w_550 w_22 w_559 (by simp [kd_MSG]) hl.1 d_Desk_reckon_38 d_Desk_reckon_41 d_Desk_reckon_42 d_Desk_reckon_44 d_Desk_reckon_47 (by decide) (by decide) (by decide) (by decide)
set_option maxHeartbeats 4000000 in
set_option maxRecDepth 100000 in
theorem t_Desk_outG (l : Launch) (g : WG) (n0 : Nat → Prop) (s0 : State) (hxs : XS l s0) (b pn tn wn : Nat) (mr mq : Int64) (kv : Int32) (hk9 : ¬ kv < 0 → ¬ kv < nI wn) : CtrT l y_Desk_out (.code y_Desk_out prog_1_method_11_code 5 (some FieldType.long)) 7 104 1 6 n0 g s0 [.ref b, .int kv] (fun H => OLD s0 H ∧ n0 H.size ∧ DS g H H b pn tn wn mr mq) (TQ s0 "java/util/NoSuchElementException") := by
  refine ctrT_mk l (lv0 := [(0, .ref b), (1, .int kv)]) (by decide) (Nat.le_of_ble_eq_true rfl) rfl ?_
  intro p e s m below meth c ls E hw0 hlk hnh hl hP
  have hx := E.1
  have hb := E.2.1
  have hK := E.2.2.2.2.2
  have hF : ∀ q ∈ ([] : List Loc), n0 q.base := fun q hq => absurd hq List.not_mem_nil
  obtain ⟨ho, hnew, hpre⟩ := hP
  have hd := hpre
  refine lv_iload_n hx hb d_Desk_out_0 rfl (lv_at hl 1 rfl) ?_
  refine lv_if_lt (tgt := 15) hx hb d_Desk_out_1 (by decide) (fun h1 => ?_) (fun h1 => ?_)
  rotate_left
  · skip
    refine lv_iload_n hx hb d_Desk_out_4 rfl (lv_at hl 1 rfl) ?_
    refine lv_aload_n hx hb d_Desk_out_5 rfl (lv_at hl 0 rfl) ?_
    refine q_get (C := "KateDesk") (T := T_Desk) (N := 16) (ci := 5) E hd.x.ob in_Desk rfl 10 (by decide) w_349 rfl rfl d_Desk_out_6 ?_
    refine q_get (C := "KateDesk$Row") (T := T_Row) (N := 2) (ci := 3) E hd.wr.1 in_Row rfl 1 (by decide) w_74 rfl rfl d_Desk_out_9 ?_
    refine lv_icmp_lt (tgt := 25) hx hb d_Desk_out_12 (by decide) (fun h9 => absurd h9 (hk9 h1)) (fun _ => ?_)
    exact q_throw (k := 230) (tx := "there is no such byte") E hxs hw0 ho hlk hnh hnew (kd_xc_nse E.2.2.2.2.1 (kd_XL.at hxs.2.1 hw0 ho)) w_757 w_758 w_24 w_767 (by simp [kd_MSG]) hl.1 d_Desk_out_15 d_Desk_out_18 d_Desk_out_19 d_Desk_out_21 d_Desk_out_24 (by decide) (by decide) (by decide) (by decide)
  exact q_throw (k := 230) (tx := "there is no such byte") E hxs hw0 ho hlk hnh hnew (kd_xc_nse E.2.2.2.2.1 (kd_XL.at hxs.2.1 hw0 ho)) w_757 w_758 w_24 w_767 (by simp [kd_MSG]) hl.1 d_Desk_out_15 d_Desk_out_18 d_Desk_out_19 d_Desk_out_21 d_Desk_out_24 (by decide) (by decide) (by decide) (by decide)
set_option maxHeartbeats 4000000 in
set_option maxRecDepth 100000 in
theorem t_Desk_commitG (l : Launch) (g : WG) (n0 : Nat → Prop) (s0 : State) (hxs : XS l s0) (b pn tn wn : Nat) (mr mq : Int64) (a a2 n : Int32) (hp : okP a (nI 1)) (hc : okC n (nI 0) (nI 16)) (hs : okS a2 n) (hn : ¬ n ≤ nI pn) : CtrT l y_Desk_commit (.code y_Desk_commit prog_1_method_17_code 5 none) 7 104 1 6 n0 g s0 [.ref b, .int a, .int a2, .int n] (fun H => OLD s0 H ∧ n0 H.size ∧ DS g H H b pn tn wn mr mq) (TQ s0 "java/lang/IllegalStateException") := by
  refine ctrT_mk l (lv0 := [(0, .ref b), (1, .int a), (2, .int a2), (3, .int n)]) (by decide) (Nat.le_of_ble_eq_true rfl) rfl ?_
  intro p e s m below meth c ls E hw0 hlk hnh hl hP
  have hx := E.1
  have hb := E.2.1
  have hK := E.2.2.2.2.2
  have hF : ∀ q ∈ ([] : List Loc), n0 q.base := fun q hq => absurd hq List.not_mem_nil
  obtain ⟨ho, hnew, hpre⟩ := hP
  have hd := hpre
  refine lv_iload_n hx hb d_Desk_commit_0 rfl (lv_at hl 1 rfl) ?_
  refine lv_iconst (v := nI 1) hx hb d_Desk_commit_1 (by decide) ?_
  have hF : ∀ q ∈ ([] : List Loc), kd_none q.base := fun q hq => absurd hq List.not_mem_nil
  refine q_cS (rest := []) E (c_Desk_needPoints l g kd_none _ _ hp) w_622 w_1 w_620 w_621 hd_Desk_needPoints rfl ⟨by decide, by decide⟩ trivial hF hl.1 rfl (Nat.le_of_ble_eq_true rfl) d_Desk_commit_2 ⟨by decide, by decide⟩ (qv (fun H1 locs hq hF => ?_))
  obtain rfl := hq
  obtain rfl : locs = [] := List.eq_nil_iff_forall_not_mem.mpr (fun q h => hF q h)
  have hF : ∀ q ∈ ([] : List Loc), n0 q.base := fun q hq => absurd hq List.not_mem_nil
  refine lv_iload_n hx hb d_Desk_commit_5 rfl (lv_at hl 3 rfl) ?_
  refine lv_iconst (v := nI 0) hx hb d_Desk_commit_6 (by decide) ?_
  refine lv_bipush (v := nI 16) hx hb d_Desk_commit_7 (by decide) ?_
  have hF : ∀ q ∈ ([] : List Loc), kd_none q.base := fun q hq => absurd hq List.not_mem_nil
  refine q_cS (rest := []) E (c_Desk_needCount l g kd_none _ _ _ hc) w_798 w_1 w_796 w_797 hd_Desk_needCount rfl ⟨by decide, by decide⟩ trivial hF hl.1 rfl (Nat.le_of_ble_eq_true rfl) d_Desk_commit_9 ⟨by decide, by decide⟩ (qv (fun H2 locs hq hF => ?_))
  obtain rfl := hq
  obtain rfl : locs = [] := List.eq_nil_iff_forall_not_mem.mpr (fun q h => hF q h)
  have hF : ∀ q ∈ ([] : List Loc), n0 q.base := fun q hq => absurd hq List.not_mem_nil
  refine lv_iload_n hx hb d_Desk_commit_12 rfl (lv_at hl 2 rfl) ?_
  refine lv_iload_n hx hb d_Desk_commit_13 rfl (lv_at hl 3 rfl) ?_
  have hF : ∀ q ∈ ([] : List Loc), kd_none q.base := fun q hq => absurd hq List.not_mem_nil
  refine q_cS (rest := []) E (c_Desk_needScalars l g kd_none _ _ hs) w_494 w_1 w_492 w_493 hd_Desk_needScalars rfl ⟨by decide, by decide⟩ trivial hF hl.1 rfl (Nat.le_of_ble_eq_true rfl) d_Desk_commit_14 ⟨by decide, by decide⟩ (qv (fun H3 locs hq hF => ?_))
  obtain rfl := hq
  obtain rfl : locs = [] := List.eq_nil_iff_forall_not_mem.mpr (fun q h => hF q h)
  have hF : ∀ q ∈ ([] : List Loc), n0 q.base := fun q hq => absurd hq List.not_mem_nil
  refine lv_aload_n hx hb d_Desk_commit_17 rfl (lv_at hl 0 rfl) ?_
  refine q_get (C := "KateDesk") (T := T_Desk) (N := 16) (ci := 5) E hd.x.ob in_Desk rfl 8 (by decide) w_347 rfl rfl d_Desk_commit_18 ?_
  refine lv_iload_n hx hb d_Desk_commit_21 rfl (lv_at hl 3 rfl) ?_
  refine lv_icmp_ge (tgt := 36) hx hb d_Desk_commit_22 (by decide) (fun h9 => absurd h9 (hn)) (fun _ => ?_)
  exact q_throwW (k := 262) (tx := "there are fewer powers") E hxs hw0 ho hlk hnh hnew (kd_xc_ise E.2.2.2.2.1 (kd_XL.at hxs.2.1 hw0 ho)) w_465 w_466 w_20 w_475 (by simp [kd_MSG]) hl.1 d_Desk_commit_25 d_Desk_commit_28 d_Desk_commit_29 d_Desk_commit_32 d_Desk_commit_35 (by decide) (by decide) (by decide) (by decide)
set_option maxHeartbeats 4000000 in
set_option maxRecDepth 100000 in
theorem t_Desk_feedG (l : Launch) (g : WG) (n0 : Nat → Prop) (s0 : State) (hxs : XS l s0) (b pn tn wn : Nat) (mr mq : Int64) (n : Int32) (v : Int64) (hn1 : ¬ n < nI 1) (hn8 : n ≤ nI 8) (hfull : ¬ nI tn + n ≤ nI 96) : CtrT l y_Desk_feed (.code y_Desk_feed prog_1_method_2_code 5 (some FieldType.int)) 7 104 1 6 n0 g s0 [.ref b, .int n, .long v] (fun H => OLD s0 H ∧ n0 H.size ∧ DS g H H b pn tn wn mr mq) (TQ s0 "java/lang/IllegalStateException") := by
  refine ctrT_mk l (lv0 := [(0, .ref b), (1, .int n), (2, .long v)]) (by decide) (Nat.le_of_ble_eq_true rfl) rfl ?_
  intro p e s m below meth c ls E hw0 hlk hnh hl hP
  have hx := E.1
  have hb := E.2.1
  have hK := E.2.2.2.2.2
  have hF : ∀ q ∈ ([] : List Loc), n0 q.base := fun q hq => absurd hq List.not_mem_nil
  obtain ⟨ho, hnew, hpre⟩ := hP
  have hd := hpre
  refine lv_iload_n hx hb d_Desk_feed_0 rfl (lv_at hl 1 rfl) ?_
  refine lv_iconst (v := nI 1) hx hb d_Desk_feed_1 (by decide) ?_
  refine lv_icmp_lt (tgt := 11) hx hb d_Desk_feed_2 (by decide) (fun h9 => absurd h9 (hn1)) (fun _ => ?_)
  refine lv_iload_n hx hb d_Desk_feed_5 rfl (lv_at hl 1 rfl) ?_
  refine lv_bipush (v := nI 8) hx hb d_Desk_feed_6 (by decide) ?_
  refine lv_icmp_le (tgt := 21) hx hb d_Desk_feed_8 (by decide) (fun _ => ?_) (fun h9 => absurd (hn8) h9)
  refine lv_aload_n hx hb d_Desk_feed_21 rfl (lv_at hl 0 rfl) ?_
  refine q_get (C := "KateDesk") (T := T_Desk) (N := 16) (ci := 5) E hd.x.ob in_Desk rfl 9 (by decide) w_348 rfl rfl d_Desk_feed_22 ?_
  refine q_get (C := "KateDesk$Row") (T := T_Row) (N := 2) (ci := 3) E hd.tp.1 in_Row rfl 1 (by decide) w_74 rfl rfl d_Desk_feed_25 ?_
  refine lv_iload_n hx hb d_Desk_feed_28 rfl (lv_at hl 1 rfl) ?_
  refine lv_iadd hx hb d_Desk_feed_29 ?_
  refine lv_bipush (v := nI 96) hx hb d_Desk_feed_30 (by decide) ?_
  refine lv_icmp_le (tgt := 45) hx hb d_Desk_feed_32 (by decide) (fun h9 => absurd h9 (hfull)) (fun _ => ?_)
  exact q_throw (k := 122) (tx := "the tape is full") E hxs hw0 ho hlk hnh hnew (kd_xc_ise E.2.2.2.2.1 (kd_XL.at hxs.2.1 hw0 ho)) w_465 w_466 w_20 w_475 (by simp [kd_MSG]) hl.1 d_Desk_feed_35 d_Desk_feed_38 d_Desk_feed_39 d_Desk_feed_41 d_Desk_feed_44 (by decide) (by decide) (by decide) (by decide)
