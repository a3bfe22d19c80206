/-- the parts of a desk that the sums work with lie behind its scalars -/
theorem SU.to {g : WG} {n0 n1 : Nat → Prop} {H : Heap} {b : Nat} {mq : Int64} (h : SU g n0 H (b + 186) (b + 176) (b + 187) (b + 444) (b + 461) (b + 462) (b + 463) (b + 464) (b + 169) (kFq b) mq (kX b) (kO b) (kO1 b) (kO2 b) (kO3 b) (kDG b)) (hn : ∀ q, b + 34 ≤ q → n0 q → n1 q) : SU g n1 H (b + 186) (b + 176) (b + 187) (b + 444) (b + 461) (b + 462) (b + 463) (b + 464) (b + 169) (kFq b) mq (kX b) (kO b) (kO1 b) (kO2 b) (kO3 b) (kDG b) := by
  obtain ⟨h1, ⟨h2, ⟨h3, h4⟩, h5⟩, ⟨h6, h7, h8, h9⟩, h10, h11, h12, h13⟩ := h
  have j : ∀ q, b + 34 ≤ q → J14 g n0 H q → J14 g n1 H q := fun q hq hj => ⟨hn q hq hj.1, hj.2⟩
  refine ⟨h1, ⟨h2, ⟨h3, fun k hk => j _ (by unfold kFq; split <;> omega) (h4 k hk)⟩, fun k hk => j _ (by unfold kX; omega) (h5 k hk)⟩, ⟨h6, j _ (by omega) h7, j _ (by omega) h8, j _ (by omega) h9⟩, h10, fun k hk => ?_, h12, fun k hk => ⟨hn _ (by unfold kDG; omega) (h13 k hk).1, (h13 k hk).2⟩⟩
  obtain ⟨q1, q2, q3, q4⟩ := h11 k hk
  exact ⟨q1, j _ (by unfold kO1; omega) q2, j _ (by unfold kO2; omega) q3, j _ (by unfold kO3; omega) q4⟩
theorem PT.to {g : WG} {n0 n1 : Nat → Prop} {H : Heap} {o x y z : Nat} (h : PT g n0 H o x y z) (hx : n1 x) (hy : n1 y) (hz : n1 z) : PT g n1 H o x y z := ⟨h.1, ⟨hx, h.2.1.2⟩, ⟨hy, h.2.2.1.2⟩, ⟨hz, h.2.2.2.2⟩⟩
theorem su_168 {g : WG} {n0 : Nat → Prop} {H : Heap} {b : Nat} {mq : Int64} (h : SU g n0 H (b + 186) (b + 176) (b + 187) (b + 444) (b + 461) (b + 462) (b + 463) (b + 464) (b + 169) (kFq b) mq (kX b) (kO b) (kO1 b) (kO2 b) (kO3 b) (kDG b)) : SU g (fun q => n0 q ∧ b + 34 ≤ q ∧ q ≠ b + 168) H (b + 186) (b + 176) (b + 187) (b + 444) (b + 461) (b + 462) (b + 463) (b + 464) (b + 169) (kFq b) mq (kX b) (kO b) (kO1 b) (kO2 b) (kO3 b) (kDG b) := by
  obtain ⟨h1, ⟨h2, ⟨h3, h4⟩, h5⟩, ⟨h6, h7, h8, h9⟩, h10, h11, h12, h13⟩ := h
  have j : ∀ q, b + 34 ≤ q → q ≠ b + 168 → J14 g n0 H q → J14 g (fun q => n0 q ∧ b + 34 ≤ q ∧ q ≠ b + 168) H q := fun q hq hq2 hj => ⟨⟨hj.1, hq, hq2⟩, hj.2⟩
  refine ⟨h1, ⟨h2, ⟨h3, fun k hk => j _ (by unfold kFq; split <;> omega) (by unfold kFq; split <;> omega) (h4 k hk)⟩, fun k hk => j _ (by unfold kX; omega) (by unfold kX; omega) (h5 k hk)⟩, ⟨h6, j _ (by omega) (by omega) h7, j _ (by omega) (by omega) h8, j _ (by omega) (by omega) h9⟩, h10, fun k hk => ?_, h12, fun k hk => ⟨⟨(h13 k hk).1, by unfold kDG; omega, by unfold kDG; omega⟩, (h13 k hk).2⟩⟩
  obtain ⟨q1, q2, q3, q4⟩ := h11 k hk
  exact ⟨q1, j _ (by unfold kO1; omega) (by unfold kO1; omega) q2, j _ (by unfold kO2; omega) (by unfold kO2; omega) q3, j _ (by unfold kO3; omega) (by unfold kO3; omega) q4⟩
set_option maxHeartbeats 4000000 in
set_option maxRecDepth 100000 in
theorem c_Desk_spreadGenerator (l : Launch) (g : WG) (n0 : Nat → Prop) (b : Nat) (mq : Int64) : Ctr l y_Desk_spreadGenerator (.code y_Desk_spreadGenerator prog_1_method_30_code 3 none) 5 211 0 0 n0 g [.ref b] (fun H => OB g H b 5 [.ref (b + 162), .ref (b + 176), .ref (b + 186), .ref (b + 465), .ref (b + 470), .ref (b + 1), .ref (b + 34), .ref (b + 83), .int 0, .ref (b + 148), .ref (b + 150), .ref (b + 495), .ref (b + 152), .ref (b + 156), .ref (b + 160), .ref (b + 161)] ∧ SU g n0 H (b + 186) (b + 176) (b + 187) (b + 444) (b + 461) (b + 462) (b + 463) (b + 464) (b + 169) (kFq b) mq (kX b) (kO b) (kO1 b) (kO2 b) (kO3 b) (kDG b) ∧ PT g n0 H (b + 152) (b + 153) (b + 154) (b + 155) ∧ PT g n0 H (b + 495) (b + 496) (b + 497) (b + 498)) (QV (fun H H' => KJ g n0 H H')) := by
  refine ctr_mk l (lv0 := [(0, .ref b)]) (by decide) (Nat.le_of_ble_eq_true rfl) rfl ?_
  intro p e s m below meth c ls E hr hlk hnm hl hP
  have hx := E.1
  have hb := E.2.1
  have hK := E.2.2.2.2.2
  have hF : ∀ q ∈ ([] : List Loc), n0 q.base := fun q hq => absurd hq List.not_mem_nil
  obtain ⟨hob, hsu, hhp, hge⟩ := hP
  have hk : KJ g (fun q => n0 q) s.heap s.heap := KJ.rf
  refine lv_aload_n hx hb d_Desk_spreadGenerator_0 rfl (lv_at hl 0 rfl) ?_
  refine q_get (C := "KateDesk") (T := T_Desk) (N := 16) (ci := 5) E (hk.ob hK hob) in_Desk rfl 12 (by decide) w_351 rfl rfl d_Desk_spreadGenerator_1 ?_
  refine lv_aload_n hx hb d_Desk_spreadGenerator_4 rfl (lv_at hl 0 rfl) ?_
  refine q_get (C := "KateDesk") (T := T_Desk) (N := 16) (ci := 5) E (hk.ob hK hob) in_Desk rfl 11 (by decide) w_350 rfl rfl d_Desk_spreadGenerator_5 ?_
  refine q_cV (rest := []) E (c_Point_copy l g n0 (b + 152) (b + 153) (b + 154) (b + 155) (b + 495) (b + 496) (b + 497) (b + 498)) w_697 w_2 w_730 w_695 w_696 hd_Point_copy rfl ⟨by decide, by decide⟩ (OB.recv E.2.2.2.2.2 (by rfl) hhp.1) (⟨hhp, hge⟩) hF hl.1 rfl (Nat.le_of_ble_eq_true rfl) d_Desk_spreadGenerator_8 ⟨by decide, by decide⟩ (qv (fun H1 locs hq hF => ?_))
  have hk := hk.tr (hq.1.mono (pt_le hhp))
  refine lv_iconst (v := nI 0) hx hb d_Desk_spreadGenerator_11 (by decide) ?_
  refine lv_istore_n (lv' := [(1, .int (nI 0)), (0, .ref b)]) hx hb d_Desk_spreadGenerator_12 rfl hl (by decide) rfl (fun ls hl => ?_)
  have hl : lv_has ls 3 [(1, .int (nI 0)), (0, .ref b)] := lv_sub hl [0, 1] rfl
  have loop : ∀ (k : Nat) (i : Nat) (H : Heap) (locs : List Loc) (ls : Array Slot), i + k = 4 → KJ g (fun q => n0 q) s.heap H → (∀ q ∈ locs, n0 q.base) → lv_has ls 3 [(1, .int (nI i)), (0, .ref b)] → W p l e { frames := 5, cells := 0, slots := 0, locals := 211 } s m [.ref b].toArray below meth c H locs 0 0 (MQ below (QcP (QV (fun H H' => KJ g n0 H H'))) [.ref b].toArray s 0 0 (fun q => n0 q)) (F0 m 13 ls []) := by
    intro k
    induction k with
    | zero =>
      intro  i   H   locs   ls hi hk hF hl
      obtain rfl : i = 4 := by omega
      refine lv_iload_n hx hb d_Desk_spreadGenerator_13 rfl (lv_at hl 0 rfl) ?_
      refine lv_iconst (v := nI 4) hx hb d_Desk_spreadGenerator_14 (by decide) ?_
      refine lv_icmp_ge (tgt := 70) hx hb d_Desk_spreadGenerator_15 (by decide) (fun _ => ?_) (fun h9 => absurd (by decide) h9)
      exact q_vret E hr hlk (⟨rfl, hk⟩) hF d_Desk_spreadGenerator_70
    | succ k ih =>
      intro  i   H   locs   ls hi hk hF hl
      refine lv_iload_n hx hb d_Desk_spreadGenerator_13 rfl (lv_at hl 0 rfl) ?_
      refine lv_iconst (v := nI 4) hx hb d_Desk_spreadGenerator_14 (by decide) ?_
      refine lv_icmp_ge (tgt := 70) hx hb d_Desk_spreadGenerator_15 (by decide) (fun h9 => absurd h9 (nI_ge (by omega) (by decide))) (fun _ => ?_)
      refine lv_aload_n hx hb d_Desk_spreadGenerator_18 rfl (lv_at hl 1 rfl) ?_
      refine q_get (C := "KateDesk") (T := T_Desk) (N := 16) (ci := 5) E (hk.ob hK hob) in_Desk rfl 2 (by decide) w_341 rfl rfl d_Desk_spreadGenerator_19 ?_
      refine lv_iload_n hx hb d_Desk_spreadGenerator_22 rfl (lv_at hl 0 rfl) ?_
      refine lv_aload_n hx hb d_Desk_spreadGenerator_23 rfl (lv_at hl 1 rfl) ?_
      refine q_get (C := "KateDesk") (T := T_Desk) (N := 16) (ci := 5) E (hk.ob hK hob) in_Desk rfl 12 (by decide) w_351 rfl rfl d_Desk_spreadGenerator_24 ?_
      refine q_cV (rest := []) E (c_Sums_tabulate l g n0 (b + 186) (b + 176) (b + 187) (b + 444) (b + 461) (b + 462) (b + 463) (b + 464) (b + 169) (kFq b) mq (kX b) (kO b) (kO1 b) (kO2 b) (kO3 b) (kDG b) i (b + 152) (b + 153) (b + 154) (b + 155) (by omega)) w_693 w_12 w_827 w_691 w_692 hd_Sums_tabulate rfl ⟨by decide, by decide⟩ (OB.recv E.2.2.2.2.2 (by rfl) ((hk.su hK hsu).1)) (⟨hk.su hK hsu, hk.pt hK hhp⟩) hF hl.1 rfl (Nat.le_of_ble_eq_true rfl) d_Desk_spreadGenerator_27 ⟨by decide, by decide⟩ (qv (fun H1 locs hq hF => ?_))
      have hk := hk.tr hq
      refine lv_iconst (v := nI 0) hx hb d_Desk_spreadGenerator_30 (by decide) ?_
      refine lv_istore_n (lv' := [(2, .int (nI 0)), (1, .int (nI i)), (0, .ref b)]) hx hb d_Desk_spreadGenerator_31 rfl hl (by decide) rfl (fun ls hl => ?_)
      have hl : lv_has ls 3 [(2, .int (nI 0)), (1, .int (nI i)), (0, .ref b)] := lv_sub hl [0, 1, 2] rfl
      have inner : ∀ (k2 : Nat) (j : Nat) (H : Heap) (locs : List Loc) (ls : Array Slot), j + k2 = 64 → KJ g (fun q => n0 q) s.heap H → (∀ q ∈ locs, n0 q.base) → lv_has ls 3 [(2, .int (nI j)), (1, .int (nI i)), (0, .ref b)] → W p l e { frames := 5, cells := 0, slots := 0, locals := 211 } s m [.ref b].toArray below meth c H locs 0 0 (MQ below (QcP (QV (fun H H' => KJ g n0 H H'))) [.ref b].toArray s 0 0 (fun q => n0 q)) (F0 m 32 ls []) := by
        intro k2
        induction k2 with
        | zero =>
          intro  j   H   locs   ls hj hk hF hl
          obtain rfl : j = 64 := by omega
          refine lv_iload_n hx hb d_Desk_spreadGenerator_32 rfl (lv_at hl 0 rfl) ?_
          refine lv_bipush (v := nI 64) hx hb d_Desk_spreadGenerator_33 (by decide) ?_
          refine lv_icmp_ge (tgt := 64) hx hb d_Desk_spreadGenerator_35 (by decide) (fun _ => ?_) (fun h9 => absurd (by decide) h9)
          refine lv_iinc (k := 1) (v := nI (i + 1)) (lv' := [(1, .int (nI (i + 1))), (2, .int (nI 64)), (0, .ref b)]) hx hb d_Desk_spreadGenerator_64 hl rfl (i_inc i) (by decide) rfl (fun ls hl => ?_)
          refine lv_goto (tgt := 13) hx hb d_Desk_spreadGenerator_67 (by decide) ?_
          have hl : lv_has ls 3 [(1, .int (nI (i + 1))), (0, .ref b)] := lv_sub hl [0, 2] rfl
          exact ih (i + 1) H locs ls (by omega) hk hF hl
        | succ k2 ih2 =>
          intro  j   H   locs   ls hj hk hF hl
          refine lv_iload_n hx hb d_Desk_spreadGenerator_32 rfl (lv_at hl 0 rfl) ?_
          refine lv_bipush (v := nI 64) hx hb d_Desk_spreadGenerator_33 (by decide) ?_
          refine lv_icmp_ge (tgt := 64) hx hb d_Desk_spreadGenerator_35 (by decide) (fun h9 => absurd h9 (nI_ge (by omega) (by decide))) (fun _ => ?_)
          refine lv_iload_n hx hb d_Desk_spreadGenerator_38 rfl (lv_at hl 1 rfl) ?_
          refine lv_iconst (v := nI 3) hx hb d_Desk_spreadGenerator_39 (by decide) ?_
          refine lv_icmp_ge (tgt := 64) hx hb d_Desk_spreadGenerator_40 (by decide) (fun h3 => ?_) (fun h3 => ?_)
          rotate_left
          · skip
            refine lv_aload_n hx hb d_Desk_spreadGenerator_43 rfl (lv_at hl 2 rfl) ?_
            refine q_get (C := "KateDesk") (T := T_Desk) (N := 16) (ci := 5) E (hk.ob hK hob) in_Desk rfl 1 (by decide) w_340 rfl rfl d_Desk_spreadGenerator_44 ?_
            refine lv_aload_n hx hb d_Desk_spreadGenerator_47 rfl (lv_at hl 2 rfl) ?_
            refine q_get (C := "KateDesk") (T := T_Desk) (N := 16) (ci := 5) E (hk.ob hK hob) in_Desk rfl 12 (by decide) w_351 rfl rfl d_Desk_spreadGenerator_48 ?_
            refine lv_aload_n hx hb d_Desk_spreadGenerator_51 rfl (lv_at hl 2 rfl) ?_
            refine q_get (C := "KateDesk") (T := T_Desk) (N := 16) (ci := 5) E (hk.ob hK hob) in_Desk rfl 12 (by decide) w_351 rfl rfl d_Desk_spreadGenerator_52 ?_
            refine q_cV (rest := []) E (c_Curve_twice l g n0 (b + 176) (b + 169) (kFq b) mq (kX b) (b + 152) (b + 153) (b + 154) (b + 155) (b + 152) (b + 153) (b + 154) (b + 155)) w_702 w_11 w_828 w_700 w_701 hd_Curve_twice rfl ⟨by decide, by decide⟩ (OB.recv E.2.2.2.2.2 (by rfl) ((hk.su hK hsu).2.1.1)) (⟨(hk.su hK hsu).2.1, hk.pt hK hhp, hk.pt hK hhp⟩) hF hl.1 rfl (Nat.le_of_ble_eq_true rfl) d_Desk_spreadGenerator_55 ⟨by decide, by decide⟩ (qv (fun H1 locs hq hF => ?_))
            have hk := hk.tr hq
            refine lv_iinc (k := 0) (v := nI (j + 1)) (lv' := [(2, .int (nI (j + 1))), (1, .int (nI i)), (0, .ref b)]) hx hb d_Desk_spreadGenerator_58 hl rfl (i_inc j) (by decide) rfl (fun ls hl => ?_)
            refine lv_goto (tgt := 32) hx hb d_Desk_spreadGenerator_61 (by decide) ?_
            have hl : lv_has ls 3 [(2, .int (nI (j + 1))), (1, .int (nI i)), (0, .ref b)] := lv_sub hl [0, 1, 2] rfl
            exact ih2 (j + 1) H1 locs ls (by omega) hk hF hl
          refine lv_iinc (k := 1) (v := nI (i + 1)) (lv' := [(1, .int (nI (i + 1))), (2, .int (nI j)), (0, .ref b)]) hx hb d_Desk_spreadGenerator_64 hl rfl (i_inc i) (by decide) rfl (fun ls hl => ?_)
          refine lv_goto (tgt := 13) hx hb d_Desk_spreadGenerator_67 (by decide) ?_
          have hl : lv_has ls 3 [(1, .int (nI (i + 1))), (0, .ref b)] := lv_sub hl [0, 2] rfl
          exact ih (i + 1) H locs ls (by omega) hk hF hl
      exact inner 64 0 _ _ ls (by omega) hk hF hl
  exact loop 4 0 _ _ ls (by omega) hk hF hl
set_option maxHeartbeats 4000000 in
set_option maxRecDepth 100000 in
theorem c_Desk_timesGenerator (l : Launch) (g : WG) (n0 : Nat → Prop) (b sc : Nat) (mq : Int64) (t t1 t2 t3 : Nat) (h1 : b + 464 ≠ t1) (h2 : b + 464 ≠ t2) (hs : ¬ (b + 445 ≤ sc ∧ sc ≤ b + 464)) (hs1 : sc ≠ t1) (hs2 : sc ≠ t2) (hs3 : sc ≠ t3) : Ctr l y_Desk_timesGenerator (.code y_Desk_timesGenerator prog_1_method_31_code 4 none) 4 128 0 0 n0 g [.ref b, .ref t, .ref sc] (fun H => OB g H b 5 [.ref (b + 162), .ref (b + 176), .ref (b + 186), .ref (b + 465), .ref (b + 470), .ref (b + 1), .ref (b + 34), .ref (b + 83), .int 0, .ref (b + 148), .ref (b + 150), .ref (b + 495), .ref (b + 152), .ref (b + 156), .ref (b + 160), .ref (b + 161)] ∧ SU g n0 H (b + 186) (b + 176) (b + 187) (b + 444) (b + 461) (b + 462) (b + 463) (b + 464) (b + 169) (kFq b) mq (kX b) (kO b) (kO1 b) (kO2 b) (kO3 b) (kDG b) ∧ PT g n0 H t t1 t2 t3 ∧ AJ g H sc 14 (fun _ => 0)) (QV (fun H H' => KJ g (fun q => ((b + 445 ≤ q ∧ q ≤ b + 464) ∧ q ≠ b + 461) ∨ q = t1 ∨ q = t2 ∨ q = t3) H H' ∧ AJ g H' sc 14 (fun _ => 0))) := by
  refine ctr_mk l (lv0 := [(0, .ref b), (1, .ref t), (2, .ref sc)]) (by decide) (Nat.le_of_ble_eq_true rfl) rfl ?_
  intro p e s m below meth c ls E hr hlk hnm hl hP
  have hx := E.1
  have hb := E.2.1
  have hK := E.2.2.2.2.2
  have hF : ∀ q ∈ ([] : List Loc), n0 q.base := fun q hq => absurd hq List.not_mem_nil
  obtain ⟨hob, hsu, h_t, hsz⟩ := hP
  have hk : KJ g (fun q => ((b + 445 ≤ q ∧ q ≤ b + 464) ∧ q ≠ b + 461) ∨ q = t1 ∨ q = t2 ∨ q = t3) s.heap s.heap := KJ.rf
  have hsc : ¬ (fun q => ((b + 445 ≤ q ∧ q ≤ b + 464) ∧ q ≠ b + 461) ∨ q = t1 ∨ q = t2 ∨ q = t3) sc := fun h => h.elim (fun h => hs h.1) (fun h => h.elim hs1 (fun h => h.elim hs2 hs3))
  refine lv_iconst (v := nI 0) hx hb d_Desk_timesGenerator_0 (by decide) ?_
  refine lv_istore_n (lv' := [(3, .int (nI 0)), (0, .ref b), (1, .ref t), (2, .ref sc)]) hx hb d_Desk_timesGenerator_1 rfl hl (by decide) rfl (fun ls hl => ?_)
  have hl : lv_has ls 4 [(3, .int (nI 0)), (0, .ref b), (1, .ref t), (2, .ref sc)] := lv_sub hl [0, 1, 2, 3] rfl
  have loop : ∀ (k : Nat) (i : Nat) (H : Heap) (locs : List Loc) (ls : Array Slot), i + k = 4 → KJ g (fun q => ((b + 445 ≤ q ∧ q ≤ b + 464) ∧ q ≠ b + 461) ∨ q = t1 ∨ q = t2 ∨ q = t3) s.heap H → (∀ j, j < i → AB g H (kDG b j) 257 (fun _ => 0)) → (∀ q ∈ locs, n0 q.base) → lv_has ls 4 [(3, .int (nI i)), (0, .ref b), (1, .ref t), (2, .ref sc)] → W p l e { frames := 4, cells := 0, slots := 0, locals := 128 } s m [.ref b, .ref t, .ref sc].toArray below meth c H locs 0 0 (MQ below (QcP (QV (fun H H' => KJ g (fun q => ((b + 445 ≤ q ∧ q ≤ b + 464) ∧ q ≠ b + 461) ∨ q = t1 ∨ q = t2 ∨ q = t3) H H' ∧ AJ g H' sc 14 (fun _ => 0)))) [.ref b, .ref t, .ref sc].toArray s 0 0 (fun q => n0 q)) (F0 m 2 ls []) := by
    intro k
    induction k with
    | zero =>
      intro  i   H   locs   ls hi hk hdz hF hl
      obtain rfl : i = 4 := by omega
      refine lv_iload_n hx hb d_Desk_timesGenerator_2 rfl (lv_at hl 0 rfl) ?_
      refine lv_iconst (v := nI 4) hx hb d_Desk_timesGenerator_3 (by decide) ?_
      refine lv_icmp_ge (tgt := 28) hx hb d_Desk_timesGenerator_4 (by decide) (fun _ => ?_) (fun h9 => absurd (by decide) h9)
      refine lv_aload_n hx hb d_Desk_timesGenerator_28 rfl (lv_at hl 1 rfl) ?_
      refine q_get (C := "KateDesk") (T := T_Desk) (N := 16) (ci := 5) E (hk.ob hK hob) in_Desk rfl 2 (by decide) w_341 rfl rfl d_Desk_timesGenerator_29 ?_
      refine lv_aload_n hx hb d_Desk_timesGenerator_32 rfl (lv_at hl 2 rfl) ?_
      refine lv_iconst (v := nI 4) hx hb d_Desk_timesGenerator_33 (by decide) ?_
      refine q_cV (rest := []) E (z_Sums_total l g n0 (b + 186) (b + 176) (b + 187) (b + 444) (b + 461) (b + 462) (b + 463) (b + 464) (b + 169) (kFq b) mq (kX b) (kO b) (kO1 b) (kO2 b) (kO3 b) (kDG b) 4 t t1 t2 t3 (by decide) (by omega) h1 h2) w_720 w_12 w_717 w_718 w_719 hd_Sums_total rfl ⟨by decide, by decide⟩ (OB.recv E.2.2.2.2.2 (by rfl) (((hk.su hK hsu)).1)) (⟨(hk.su hK hsu), hk.pt hK h_t, hdz⟩) hF hl.1 rfl (Nat.le_of_ble_eq_true rfl) d_Desk_timesGenerator_34 ⟨by decide, by decide⟩ (qv (fun H1 locs hq hF => ?_))
      have hk := hk.tr (hq.1.mono (fun q h => by rcases h with rfl | rfl | rfl | rfl | rfl | rfl; exact Or.inl ⟨by omega, by omega⟩; exact Or.inl ⟨by omega, by omega⟩; exact Or.inl ⟨by omega, by omega⟩; exact Or.inr (Or.inl rfl); exact Or.inr (Or.inr (Or.inl rfl)); exact Or.inr (Or.inr (Or.inr rfl))))
      exact q_vret E hr hlk (⟨rfl, hk, hk.ajo hsc hsz⟩) hF d_Desk_timesGenerator_37
    | succ k ih =>
      intro  i   H   locs   ls hi hk hdz hF hl
      refine lv_iload_n hx hb d_Desk_timesGenerator_2 rfl (lv_at hl 0 rfl) ?_
      refine lv_iconst (v := nI 4) hx hb d_Desk_timesGenerator_3 (by decide) ?_
      refine lv_icmp_ge (tgt := 28) hx hb d_Desk_timesGenerator_4 (by decide) (fun h9 => absurd h9 (nI_ge (by omega) (by decide))) (fun _ => ?_)
      refine lv_aload_n hx hb d_Desk_timesGenerator_7 rfl (lv_at hl 1 rfl) ?_
      refine q_get (C := "KateDesk") (T := T_Desk) (N := 16) (ci := 5) E (hk.ob hK hob) in_Desk rfl 2 (by decide) w_341 rfl rfl d_Desk_timesGenerator_8 ?_
      refine lv_iload_n hx hb d_Desk_timesGenerator_11 rfl (lv_at hl 0 rfl) ?_
      refine lv_aload_n hx hb d_Desk_timesGenerator_12 rfl (lv_at hl 3 rfl) ?_
      refine lv_bipush (v := nI 64) hx hb d_Desk_timesGenerator_13 (by decide) ?_
      refine lv_iload_n hx hb d_Desk_timesGenerator_15 rfl (lv_at hl 0 rfl) ?_
      refine lv_imul hx hb d_Desk_timesGenerator_16 ?_
      refine lv_bipush (v := nI 64) hx hb d_Desk_timesGenerator_17 (by decide) ?_
      refine q_cV (rest := []) E (z_Sums_recode l g n0 (b + 186) (b + 176) (b + 187) (b + 444) (b + 461) (b + 462) (b + 463) (b + 464) (b + 169) (kFq b) mq (kX b) (kO b) (kO1 b) (kO2 b) (kO3 b) (kDG b) i sc 64 _ (by omega) (by decide)) w_681 w_12 w_833 w_679 w_680 hd_Sums_recode rfl ⟨by decide, by decide⟩ (OB.recv E.2.2.2.2.2 (by rfl) ((hk.su hK hsu).1)) (⟨hk.su hK hsu, hk.ajo hsc hsz⟩) hF hl.1 rfl (Nat.le_of_ble_eq_true rfl) d_Desk_timesGenerator_19 ⟨by decide, by decide⟩ (qv (fun H1 locs hq hF => ?_))
      have hk := hk.tr (hq.1.mono (fun q e => Or.inl (by subst e; unfold kDG; omega)))
      have hdz : ∀ j, j < i + 1 → AB g H1 (kDG b j) 257 (fun _ => 0) := fun j hj => if e : j = i then by subst e; exact hq.2 else hq.1.abo (by unfold kDG; omega) (hdz j (by omega))
      refine lv_iinc (k := 0) (v := nI (i + 1)) (lv' := [(3, .int (nI (i + 1))), (0, .ref b), (1, .ref t), (2, .ref sc)]) hx hb d_Desk_timesGenerator_22 hl rfl (i_inc i) (by decide) rfl (fun ls hl => ?_)
      refine lv_goto (tgt := 2) hx hb d_Desk_timesGenerator_25 (by decide) ?_
      have hl : lv_has ls 4 [(3, .int (nI (i + 1))), (0, .ref b), (1, .ref t), (2, .ref sc)] := lv_sub hl [0, 1, 2, 3] rfl
      exact ih (i + 1) H1 locs ls (by omega) hk hdz hF hl
  exact loop 4 0 _ _ ls (by omega) hk (fun j hj => absurd hj (Nat.not_lt_zero _)) hF hl
set_option maxHeartbeats 4000000 in
set_option maxRecDepth 100000 in
theorem c_Desk_setup (l : Launch) (g : WG) (n0 : Nat → Prop) (b : Nat) (mr mq : Int64) (a n : Nat) (ha : a < 32) (h1 : 1 ≤ n) (h16 : n ≤ 16) : Ctr l y_Desk_setup (.code y_Desk_setup prog_1_method_16_code 4 none) 6 233 0 0 n0 g [.ref b, .int (nI a), .int (nI n)] (fun H => DK g n0 H b 0 0 0 mr mq ∧ FRESH g H b) (QV (fun H H' => FRM n0 H H')) := by
  refine ctr_mk l (lv0 := [(0, .ref b), (1, .int (nI a)), (2, .int (nI n))]) (by decide) (Nat.le_of_ble_eq_true rfl) rfl ?_
  intro p e s m below meth c ls E hr hlk hnm hl hP
  have hx := E.1
  have hb := E.2.1
  have hK := E.2.2.2.2.2
  have hF : ∀ q ∈ ([] : List Loc), n0 q.base := fun q hq => absurd hq List.not_mem_nil
  obtain ⟨hdk, hfs⟩ := hP
  have hk : KJ g (fun q => n0 q) s.heap s.heap := KJ.rf
  refine lv_iload_n hx hb d_Desk_setup_0 rfl (lv_at hl 1 rfl) ?_
  refine lv_iconst (v := nI 1) hx hb d_Desk_setup_1 (by decide) ?_
  refine q_cS (rest := []) E (c_Desk_needScalars l g n0 _ _ (okS_of (by omega) (by omega))) w_494 w_1 w_492 w_493 hd_Desk_needScalars rfl ⟨by decide, by decide⟩ trivial hF hl.1 rfl (Nat.le_of_ble_eq_true rfl) d_Desk_setup_2 ⟨by decide, by decide⟩ (qv (fun H1 locs hq hF => ?_))
  obtain rfl := hq
  refine lv_iload_n hx hb d_Desk_setup_5 rfl (lv_at hl 2 rfl) ?_
  refine lv_iconst (v := nI 1) hx hb d_Desk_setup_6 (by decide) ?_
  refine lv_bipush (v := nI 16) hx hb d_Desk_setup_7 (by decide) ?_
  refine q_cS (rest := []) E (c_Desk_needCount l g n0 _ _ _ (okC_of h1 h16 (by decide))) w_798 w_1 w_796 w_797 hd_Desk_needCount rfl ⟨by decide, by decide⟩ trivial hF hl.1 rfl (Nat.le_of_ble_eq_true rfl) d_Desk_setup_9 ⟨by decide, by decide⟩ (qv (fun H2 locs hq hF => ?_))
  obtain rfl := hq
  refine lv_aload_n hx hb d_Desk_setup_12 rfl (lv_at hl 0 rfl) ?_
  refine q_get (C := "KateDesk") (T := T_Desk) (N := 16) (ci := 5) E ((hk.dk hK hdk).ob) in_Desk rfl 7 (by decide) w_346 rfl rfl d_Desk_setup_13 ?_
  refine lv_iconst (v := nI 0) hx hb d_Desk_setup_16 (by decide) ?_
  refine q_aald (t := 3) E rfl rfl ((hk.dk hK hdk).pw) 0 rfl (by omega) (by decide) d_Desk_setup_17 ?_
  refine lv_aload_n hx hb d_Desk_setup_18 rfl (lv_at hl 0 rfl) ?_
  refine q_get (C := "KateDesk") (T := T_Desk) (N := 16) (ci := 5) E ((hk.dk hK hdk).ob) in_Desk rfl 11 (by decide) w_350 rfl rfl d_Desk_setup_19 ?_
  refine q_cV (rest := []) E (c_Point_copy l g n0 (kPW b 0) (kPW1 b 0) (kPW2 b 0) (kPW3 b 0) (b + 495) (b + 496) (b + 497) (b + 498)) w_697 w_2 w_730 w_695 w_696 hd_Point_copy rfl ⟨by decide, by decide⟩ (OB.recv E.2.2.2.2.2 (by rfl) ((hdk.pq 0 (by decide)).1)) (⟨hdk.pq 0 (by decide), hdk.ge⟩) hF hl.1 rfl (Nat.le_of_ble_eq_true rfl) d_Desk_setup_22 ⟨by decide, by decide⟩ (qv (fun H3 locs hq hF => ?_))
  have hk := hk.tr (hq.1.mono (pt_le (hdk.pq 0 (by decide))))
  have hsz : AJ g H3 (kSc b a) 14 (fun _ => 0) := hq.1.ajo (by unfold kSc kPW1 kPW2 kPW3; omega) (hfs.1 a ha)
  have hmd : MD g H3 (b + 168) := hq.1.md (by unfold kPW1 kPW2 kPW3; omega) hfs.2.2.1
  have hdn : ∀ q, (b + 445 ≤ q ∧ q ≤ b + 464) → q ≠ b + 461 → n0 q := fun q h h4 => by
    by_cases h5 : q < b + 461
    · have h6 := (hdk.su.2.2.2.2.2.2 (q - (b + 445)) (by omega)).1
      unfold kDG at h6
      rw [show b + 445 + (q - (b + 445)) = q by omega] at h6
      exact h6
    · rcases (show q = b + 462 ∨ q = b + 463 ∨ q = b + 464 by omega) with rfl | rfl | rfl
      · exact hdk.su.2.2.1.2.1.1
      · exact hdk.su.2.2.1.2.2.1.1
      · exact hdk.su.2.2.1.2.2.2.1
  have tail : ∀ (H : Heap) (locs : List Loc) (ls : Array Slot), KJ g (fun q => n0 q) s.heap H → AJ g H (kSc b a) 14 (fun _ => 0) → MD g H (b + 168) → (∀ q ∈ locs, n0 q.base) → lv_has ls 4 [(0, .ref b), (1, .int (nI a)), (2, .int (nI n))] → W p l e { frames := 6, cells := 0, slots := 0, locals := 233 } s m [.ref b, .int (nI a), .int (nI n)].toArray below meth c H locs 0 0 (MQ below (QcP (QV (fun H H' => FRM n0 H H'))) [.ref b, .int (nI a), .int (nI n)].toArray s 0 0 (fun q => n0 q)) (F0 m 34 ls []) := by
    intro  H   locs   ls hk hsz hmd hF hl
    refine lv_aload_n hx hb d_Desk_setup_34 rfl (lv_at hl 0 rfl) ?_
    refine q_get (C := "KateDesk") (T := T_Desk) (N := 16) (ci := 5) E ((hk.dk hK hdk).ob) in_Desk rfl 0 (by decide) w_339 rfl rfl d_Desk_setup_35 ?_
    refine lv_aload_n hx hb d_Desk_setup_38 rfl (lv_at hl 0 rfl) ?_
    refine q_get (C := "KateDesk") (T := T_Desk) (N := 16) (ci := 5) E ((hk.dk hK hdk).ob) in_Desk rfl 15 (by decide) w_354 rfl rfl d_Desk_setup_39 ?_
    refine lv_aload_n hx hb d_Desk_setup_42 rfl (lv_at hl 0 rfl) ?_
    refine q_get (C := "KateDesk") (T := T_Desk) (N := 16) (ci := 5) E ((hk.dk hK hdk).ob) in_Desk rfl 5 (by decide) w_344 rfl rfl d_Desk_setup_43 ?_
    refine lv_iload_n hx hb d_Desk_setup_46 rfl (lv_at hl 1 rfl) ?_
    refine q_aald (t := 4) E rfl rfl ((hk.dk hK hdk).rs.1) a rfl (by omega) (by decide) d_Desk_setup_47 ?_
    refine q_cV (rest := []) E (c_Field_lift l g n0 (b + 162) (b + 161) (kSc b a) (kFr b) mr) w_302 w_4 w_336 w_300 w_301 hd_Field_lift rfl ⟨by decide, by decide⟩ (OB.recv E.2.2.2.2.2 (by rfl) (((hk.dk hK hdk).fr).1)) (⟨(hk.dk hK hdk).fr, (hk.dk hK hdk).fa, (hk.dk hK hdk).rs.2 a (by omega)⟩) hF hl.1 rfl (Nat.le_of_ble_eq_true rfl) d_Desk_setup_48 ⟨by decide, by decide⟩ (qv (fun H1 locs hq hF => ?_))
    have hk := hk.tr (hq.w1 ((hk.dk hK hdk).fa).1)
    refine lv_aload_n hx hb d_Desk_setup_51 rfl (lv_at hl 0 rfl) ?_
    refine q_get (C := "KateDesk") (T := T_Desk) (N := 16) (ci := 5) E ((hk.dk hK hdk).ob) in_Desk rfl 14 (by decide) w_353 rfl rfl d_Desk_setup_52 ?_
    refine lv_aload_n hx hb d_Desk_setup_55 rfl (lv_at hl 0 rfl) ?_
    refine q_get (C := "KateDesk") (T := T_Desk) (N := 16) (ci := 5) E ((hk.dk hK hdk).ob) in_Desk rfl 5 (by decide) w_344 rfl rfl d_Desk_setup_56 ?_
    refine lv_iload_n hx hb d_Desk_setup_59 rfl (lv_at hl 1 rfl) ?_
    refine q_aald (t := 4) E rfl rfl ((hk.dk hK hdk).rs.1) a rfl (by omega) (by decide) d_Desk_setup_60 ?_
    have hsz := hsz
    have hsz : AJ g H1 (kSc b a) 14 (fun _ => 0) := hq.ajo (by unfold kSc; omega) hsz
    have hmd : MD g H1 (b + 168) := hq.md (by omega) hmd
    refine q_cS (rest := []) E (c_Limbs_copy l g n0 (b + 160) (kSc b a) (fun _ => 0)) w_146 w_5 w_338 w_145 hd_Limbs_copy rfl ⟨by decide, by decide⟩ (⟨(hk.dk hK hdk).hs, hsz⟩) hF hl.1 rfl (Nat.le_of_ble_eq_true rfl) d_Desk_setup_61 ⟨by decide, by decide⟩ (qv (fun H2 locs hq hF => ?_))
    have hz := hq.2
    have hmd : MD g H2 (b + 168) := hq.1.md (by omega) hmd
    have hk := hk.tr (hq.1.w1 (hk.dk hK hdk).hs.1)
    refine lv_iconst (v := nI 1) hx hb d_Desk_setup_64 (by decide) ?_
    refine lv_istore_n (lv' := [(3, .int (nI 1)), (0, .ref b), (1, .int (nI a)), (2, .int (nI n))]) hx hb d_Desk_setup_65 rfl hl (by decide) rfl (fun ls hl => ?_)
    have hl : lv_has ls 4 [(3, .int (nI 1)), (0, .ref b), (1, .int (nI a)), (2, .int (nI n))] := lv_sub hl [0, 1, 2, 3] rfl
    have loop : ∀ (k : Nat) (i : Nat) (H : Heap) (locs : List Loc) (ls : Array Slot), i + k = n → 1 ≤ i → KJ g (fun q => n0 q) s.heap H → AJ g H (b + 160) 14 (fun _ => 0) → MD g H (b + 168) → (∀ q ∈ locs, n0 q.base) → lv_has ls 4 [(3, .int (nI i)), (0, .ref b), (1, .int (nI a)), (2, .int (nI n))] → W p l e { frames := 6, cells := 0, slots := 0, locals := 233 } s m [.ref b, .int (nI a), .int (nI n)].toArray below meth c H locs 0 0 (MQ below (QcP (QV (fun H H' => FRM n0 H H'))) [.ref b, .int (nI a), .int (nI n)].toArray s 0 0 (fun q => n0 q)) (F0 m 66 ls []) := by
      intro k
      induction k with
      | zero =>
        intro  i   H   locs   ls hi hi1 hk hz hmd hF hl
        obtain rfl : i = n := by omega
        refine lv_iload_n hx hb d_Desk_setup_66 rfl (lv_at hl 0 rfl) ?_
        refine lv_iload_n hx hb d_Desk_setup_67 rfl (lv_at hl 3 rfl) ?_
        refine lv_icmp_ge (tgt := 110) hx hb d_Desk_setup_68 (by decide) (fun _ => ?_) (fun h9 => absurd (nI_le (Nat.le_refl _) (by omega)) h9)
        refine lv_aload_n hx hb d_Desk_setup_110 rfl (lv_at hl 1 rfl) ?_
        refine lv_iload_n hx hb d_Desk_setup_111 rfl (lv_at hl 3 rfl) ?_
        refine q_put (C := "KateDesk") (T := T_Desk) (N := 16) (ci := 5) (ty := .int) E ((hk.dk hK hdk).ob) in_Desk ty_Desk tyok_Desk nm_Desk rfl 8 (by decide) w_347 rfl rfl (by decide +kernel) rfl rfl (Nat.le_of_ble_eq_true rfl) hdk.no.1 hF d_Desk_setup_112 (fun H1 locs hq ho2 hF => ?_)
        exact q_vret E hr hlk (⟨rfl, hk.frm.tr (hq.mono (fun q h => h ▸ hdk.no.1))⟩) hF d_Desk_setup_115
      | succ k ih =>
        intro  i   H   locs   ls hi hi1 hk hz hmd hF hl
        refine lv_iload_n hx hb d_Desk_setup_66 rfl (lv_at hl 0 rfl) ?_
        refine lv_iload_n hx hb d_Desk_setup_67 rfl (lv_at hl 3 rfl) ?_
        refine lv_icmp_ge (tgt := 110) hx hb d_Desk_setup_68 (by decide) (fun h9 => absurd h9 (nI_ge (by omega) (by omega))) (fun _ => ?_)
        refine lv_aload_n hx hb d_Desk_setup_71 rfl (lv_at hl 1 rfl) ?_
        refine lv_aload_n hx hb d_Desk_setup_72 rfl (lv_at hl 1 rfl) ?_
        refine q_get (C := "KateDesk") (T := T_Desk) (N := 16) (ci := 5) E ((hk.dk hK hdk).ob) in_Desk rfl 7 (by decide) w_346 rfl rfl d_Desk_setup_73 ?_
        refine lv_iload_n hx hb d_Desk_setup_76 rfl (lv_at hl 0 rfl) ?_
        refine q_aald (t := 3) E rfl rfl ((hk.dk hK hdk).pw) i rfl (by omega) (by decide) d_Desk_setup_77 ?_
        refine lv_aload_n hx hb d_Desk_setup_78 rfl (lv_at hl 1 rfl) ?_
        refine q_get (C := "KateDesk") (T := T_Desk) (N := 16) (ci := 5) E ((hk.dk hK hdk).ob) in_Desk rfl 14 (by decide) w_353 rfl rfl d_Desk_setup_79 ?_
        refine q_cV (rest := []) E (c_Desk_timesGenerator l g n0 b (b + 160) mq (kPW b i) (kPW1 b i) (kPW2 b i) (kPW3 b i) (by unfold kPW1; omega) (by unfold kPW2; omega) (by omega) (by unfold kPW1; omega) (by unfold kPW2; omega) (by unfold kPW3; omega)) w_832 w_1 w_829 w_831 (bw_s 12 rfl) hd_Desk_timesGenerator rfl ⟨by decide, by decide⟩ (OB.recv E.2.2.2.2.2 (by rfl) ((hk.dk hK hdk).ob)) (⟨(hk.dk hK hdk).ob, (hk.dk hK hdk).su, (hk.dk hK hdk).pq i (by omega), hz⟩) hF hl.1 rfl (Nat.le_of_ble_eq_true rfl) d_Desk_setup_82 ⟨by decide, by decide⟩ (qv (fun H1 locs hq hF => ?_))
        have hz := hq.2
        have hmd : MD g H1 (b + 168) := hq.1.md (by unfold kPW1 kPW2 kPW3; omega) hmd
        have hk := hk.tr (hq.1.mono (fun q h => by rcases h with h | rfl | rfl | rfl; exact hdn q h.1 h.2; exact (hdk.pq i (by omega)).2.1.1; exact (hdk.pq i (by omega)).2.2.1.1; exact (hdk.pq i (by omega)).2.2.2.1))
        refine lv_aload_n hx hb d_Desk_setup_85 rfl (lv_at hl 1 rfl) ?_
        refine q_get (C := "KateDesk") (T := T_Desk) (N := 16) (ci := 5) E ((hk.dk hK hdk).ob) in_Desk rfl 0 (by decide) w_339 rfl rfl d_Desk_setup_86 ?_
        refine lv_aload_n hx hb d_Desk_setup_89 rfl (lv_at hl 1 rfl) ?_
        refine q_get (C := "KateDesk") (T := T_Desk) (N := 16) (ci := 5) E ((hk.dk hK hdk).ob) in_Desk rfl 14 (by decide) w_353 rfl rfl d_Desk_setup_90 ?_
        refine lv_aload_n hx hb d_Desk_setup_93 rfl (lv_at hl 1 rfl) ?_
        refine q_get (C := "KateDesk") (T := T_Desk) (N := 16) (ci := 5) E ((hk.dk hK hdk).ob) in_Desk rfl 14 (by decide) w_353 rfl rfl d_Desk_setup_94 ?_
        refine lv_aload_n hx hb d_Desk_setup_97 rfl (lv_at hl 1 rfl) ?_
        refine q_get (C := "KateDesk") (T := T_Desk) (N := 16) (ci := 5) E ((hk.dk hK hdk).ob) in_Desk rfl 15 (by decide) w_354 rfl rfl d_Desk_setup_98 ?_
        obtain ⟨fm, hfm, hm0, hm1⟩ := hmd
        refine q_cV (rest := []) E (y_Field_multiply0 l g n0 (b + 162) (b + 160) (b + 160) (b + 161) (kFr b) mr fm hm0 hm1 (by unfold kFr; simp <;> omega)) w_165 w_4 w_576 w_163 w_164 hd_Field_multiply rfl ⟨by decide, by decide⟩ (OB.recv E.2.2.2.2.2 (by rfl) ((hk.dk hK hdk).fr.1)) (⟨(hk.dk hK hdk).fr, (hk.dk hK hdk).hs, hz, (hk.dk hK hdk).fa, hfm⟩) hF hl.1 rfl (Nat.le_of_ble_eq_true rfl) d_Desk_setup_101 ⟨by decide, by decide⟩ (qv (fun H2 locs hq hF => ?_))
        have hz := hq.2
        have hmd : MD g H2 (b + 168) := hq.1.md (by omega) ⟨fm, hfm, hm0, hm1⟩
        have hk := hk.tr (hq.1.w1 (hk.dk hK hdk).hs.1)
        refine lv_iinc (k := 0) (v := nI (i + 1)) (lv' := [(3, .int (nI (i + 1))), (0, .ref b), (1, .int (nI a)), (2, .int (nI n))]) hx hb d_Desk_setup_104 hl rfl (i_inc i) (by decide) rfl (fun ls hl => ?_)
        refine lv_goto (tgt := 66) hx hb d_Desk_setup_107 (by decide) ?_
        have hl : lv_has ls 4 [(3, .int (nI (i + 1))), (0, .ref b), (1, .int (nI a)), (2, .int (nI n))] := lv_sub hl [0, 1, 2, 3] rfl
        exact ih (i + 1) H2 locs ls (by omega) (by omega) hk hz hmd hF hl
    exact loop (n - 1) 1 _ _ ls (by omega) (by omega) hk hz hmd hF hl
  refine lv_iload_n hx hb d_Desk_setup_25 rfl (lv_at hl 2 rfl) ?_
  refine lv_iconst (v := nI 1) hx hb d_Desk_setup_26 (by decide) ?_
  refine lv_icmp_le (tgt := 34) hx hb d_Desk_setup_27 (by decide) (fun hn1 => ?_) (fun hn1 => ?_)
  rotate_left
  · skip
    refine lv_aload_n hx hb d_Desk_setup_30 rfl (lv_at hl 0 rfl) ?_
    have hn34 : ∀ q, b + 34 ≤ q → n0 q → (n0 q ∧ b + 34 ≤ q ∧ q ≠ b + 168) ∨ q = b + 168 := fun q h1 h2 => if e : q = b + 168 then Or.inr e else Or.inl ⟨h2, h1, e⟩
    refine q_cV (rest := []) E ((c_Desk_spreadGenerator l g (fun q => n0 q ∧ b + 34 ≤ q ∧ q ≠ b + 168) b mq).area (fun q h => h.1)) w_826 w_1 w_823 w_825 (bw_s 11 rfl) hd_Desk_spreadGenerator rfl ⟨by decide, by decide⟩ (OB.recv E.2.2.2.2.2 (by rfl) ((hk.dk hK hdk).ob)) (⟨(hk.dk hK hdk).ob, su_168 (hk.dk hK hdk).su, PT.to (hk.dk hK hdk).hp ⟨(hk.dk hK hdk).hp.2.1.1, by omega, by omega⟩ ⟨(hk.dk hK hdk).hp.2.2.1.1, by omega, by omega⟩ ⟨(hk.dk hK hdk).hp.2.2.2.1, by omega, by omega⟩, PT.to (hk.dk hK hdk).ge ⟨(hk.dk hK hdk).ge.2.1.1, by omega, by omega⟩ ⟨(hk.dk hK hdk).ge.2.2.1.1, by omega, by omega⟩ ⟨(hk.dk hK hdk).ge.2.2.2.1, by omega, by omega⟩⟩) hF hl.1 rfl (Nat.le_of_ble_eq_true rfl) d_Desk_setup_31 ⟨by decide, by decide⟩ (qv (fun H4 locs hq hF => ?_))
    have hsz := hq.ajo (fun h => by have := h.2.1; unfold kSc at this; omega) hsz
    have hmd := hq.md (fun h => h.2.2 rfl) hmd
    have hk := hk.tr (hq.mono (fun q h => h.1))
    exact tail _ _ ls hk hsz hmd hF hl
  exact tail _ _ ls hk hsz hmd hF hl
