set_option maxHeartbeats 4000000 in
set_option maxRecDepth 100000 in
theorem c_Field_negate (l : Launch) (g : WG) (n0 : Nat → Prop) (o t a : Nat) (F : Nat → Nat) (mi : Int64) : Ctr l y_Field_negate (.code y_Field_negate prog_3_method_6_code 3 none) 2 44 0 0 n0 g [.ref o, .ref t, .ref a] (fun H => FD g n0 H o F mi ∧ J14 g n0 H t ∧ J14 g n0 H a) (QV (fun H H' => KJ g (fun q => q = t ∨ q = F 5) H H')) := by
  refine ctr_mk l (lv0 := [(0, .ref o), (1, .ref t), (2, .ref a)]) (by decide) (Nat.le_of_ble_eq_true rfl) rfl ?_
  intro p e s m below meth c ls E hr hlk hnm hl hP
  have hx := E.1
  have hb := E.2.1
  have hK := E.2.2.2.2.2
  have hF : ∀ q ∈ ([] : List Loc), n0 q.base := fun q hq => absurd hq List.not_mem_nil
  obtain ⟨hfd, ht, ha⟩ := hP
  have hk : KJ g (fun q => q = t ∨ q = F 5) s.heap s.heap := KJ.rf
  refine lv_aload_n hx hb d_Field_negate_0 rfl (lv_at hl 0 rfl) ?_
  refine q_get (C := "KateDesk$Field") (T := T_Field) (N := 7) (ci := 1) E ((hk.fd hK hfd).1) in_Field rfl 5 (by decide) w_181 rfl rfl d_Field_negate_1 ?_
  refine q_cS (rest := []) E (c_Limbs_clear l g n0 (F 5)) w_498 w_5 w_610 w_497 hd_Limbs_clear rfl ⟨by decide, by decide⟩ ((hk.fd hK hfd).2 5 (by decide)) hF hl.1 rfl (Nat.le_of_ble_eq_true rfl) d_Field_negate_4 ⟨by decide, by decide⟩ (qv (fun H1 locs hq hF => ?_))
  have hq := hq.1
  have hk := hk.tr (hq.mono (fun q h => Or.inr h))
  refine lv_aload_n hx hb d_Field_negate_7 rfl (lv_at hl 0 rfl) ?_
  refine lv_aload_n hx hb d_Field_negate_8 rfl (lv_at hl 1 rfl) ?_
  refine lv_aload_n hx hb d_Field_negate_9 rfl (lv_at hl 0 rfl) ?_
  refine q_get (C := "KateDesk$Field") (T := T_Field) (N := 7) (ci := 1) E ((hk.fd hK hfd).1) in_Field rfl 5 (by decide) w_181 rfl rfl d_Field_negate_10 ?_
  refine lv_aload_n hx hb d_Field_negate_13 rfl (lv_at hl 2 rfl) ?_
  refine q_cV (rest := []) E (c_Field_subtract l g n0 o t (F 5) a F mi) w_169 w_4 w_166 w_167 w_168 hd_Field_subtract rfl ⟨by decide, by decide⟩ (OB.recv E.2.2.2.2.2 (by rfl) ((hk.fd hK hfd).1)) (⟨hk.fd hK hfd, hk.j ht, (hk.fd hK hfd).2 5 (by decide), hk.j ha⟩) hF hl.1 rfl (Nat.le_of_ble_eq_true rfl) d_Field_negate_14 ⟨by decide, by decide⟩ (qv (fun H2 locs hq hF => ?_))
  have hk := hk.tr (hq.mono (fun q h => Or.inl h))
  exact q_vret E hr hlk (⟨rfl, hk⟩) hF d_Field_negate_17
set_option maxHeartbeats 4000000 in
set_option maxRecDepth 100000 in
theorem c_Field_lift (l : Launch) (g : WG) (n0 : Nat → Prop) (o t a : Nat) (F : Nat → Nat) (mi : Int64) : Ctr l y_Field_lift (.code y_Field_lift prog_3_method_9_code 3 none) 2 135 0 0 n0 g [.ref o, .ref t, .ref a] (fun H => FD g n0 H o F mi ∧ J14 g n0 H t ∧ J14 g n0 H a) (QV (fun H H' => KJ g (fun q => q = t) H H')) := by
  refine ctr_mk l (lv0 := [(0, .ref o), (1, .ref t), (2, .ref a)]) (by decide) (Nat.le_of_ble_eq_true rfl) rfl ?_
  intro p e s m below meth c ls E hr hlk hnm hl hP
  have hx := E.1
  have hb := E.2.1
  have hK := E.2.2.2.2.2
  have hF : ∀ q ∈ ([] : List Loc), n0 q.base := fun q hq => absurd hq List.not_mem_nil
  obtain ⟨hfd, ht, ha⟩ := hP
  have hk : KJ g (fun q => q = t) s.heap s.heap := KJ.rf
  refine lv_aload_n hx hb d_Field_lift_0 rfl (lv_at hl 0 rfl) ?_
  refine lv_aload_n hx hb d_Field_lift_1 rfl (lv_at hl 1 rfl) ?_
  refine lv_aload_n hx hb d_Field_lift_2 rfl (lv_at hl 2 rfl) ?_
  refine lv_aload_n hx hb d_Field_lift_3 rfl (lv_at hl 0 rfl) ?_
  refine q_get (C := "KateDesk$Field") (T := T_Field) (N := 7) (ci := 1) E ((hk.fd hK hfd).1) in_Field rfl 3 (by decide) w_179 rfl rfl d_Field_lift_4 ?_
  refine q_cV (rest := []) E (c_Field_multiply l g n0 o t a (F 3) F mi) w_165 w_4 w_162 w_163 w_164 hd_Field_multiply rfl ⟨by decide, by decide⟩ (OB.recv E.2.2.2.2.2 (by rfl) ((hk.fd hK hfd).1)) (⟨hk.fd hK hfd, hk.j ht, hk.j ha, (hk.fd hK hfd).2 3 (by decide)⟩) hF hl.1 rfl (Nat.le_of_ble_eq_true rfl) d_Field_lift_7 ⟨by decide, by decide⟩ (qv (fun H1 locs hq hF => ?_))
  have hk := hk.tr hq
  exact q_vret E hr hlk (⟨rfl, hk⟩) hF d_Field_lift_10
set_option maxHeartbeats 4000000 in
set_option maxRecDepth 100000 in
theorem c_Field_lower (l : Launch) (g : WG) (n0 : Nat → Prop) (o t a : Nat) (F : Nat → Nat) (mi : Int64) : Ctr l y_Field_lower (.code y_Field_lower prog_3_method_10_code 3 none) 2 135 0 0 n0 g [.ref o, .ref t, .ref a] (fun H => FD g n0 H o F mi ∧ J14 g n0 H t ∧ J14 g n0 H a) (QV (fun H H' => KJ g (fun q => q = t) H H')) := by
  refine ctr_mk l (lv0 := [(0, .ref o), (1, .ref t), (2, .ref a)]) (by decide) (Nat.le_of_ble_eq_true rfl) rfl ?_
  intro p e s m below meth c ls E hr hlk hnm hl hP
  have hx := E.1
  have hb := E.2.1
  have hK := E.2.2.2.2.2
  have hF : ∀ q ∈ ([] : List Loc), n0 q.base := fun q hq => absurd hq List.not_mem_nil
  obtain ⟨hfd, ht, ha⟩ := hP
  have hk : KJ g (fun q => q = t) s.heap s.heap := KJ.rf
  refine lv_aload_n hx hb d_Field_lower_0 rfl (lv_at hl 0 rfl) ?_
  refine lv_aload_n hx hb d_Field_lower_1 rfl (lv_at hl 1 rfl) ?_
  refine lv_aload_n hx hb d_Field_lower_2 rfl (lv_at hl 2 rfl) ?_
  refine lv_aload_n hx hb d_Field_lower_3 rfl (lv_at hl 0 rfl) ?_
  refine q_get (C := "KateDesk$Field") (T := T_Field) (N := 7) (ci := 1) E ((hk.fd hK hfd).1) in_Field rfl 2 (by decide) w_178 rfl rfl d_Field_lower_4 ?_
  refine q_cV (rest := []) E (c_Field_multiply l g n0 o t a (F 2) F mi) w_165 w_4 w_162 w_163 w_164 hd_Field_multiply rfl ⟨by decide, by decide⟩ (OB.recv E.2.2.2.2.2 (by rfl) ((hk.fd hK hfd).1)) (⟨hk.fd hK hfd, hk.j ht, hk.j ha, (hk.fd hK hfd).2 2 (by decide)⟩) hF hl.1 rfl (Nat.le_of_ble_eq_true rfl) d_Field_lower_7 ⟨by decide, by decide⟩ (qv (fun H1 locs hq hF => ?_))
  have hk := hk.tr hq
  exact q_vret E hr hlk (⟨rfl, hk⟩) hF d_Field_lower_10
set_option maxHeartbeats 4000000 in
set_option maxRecDepth 100000 in
theorem c_Field_doubled (l : Launch) (g : WG) (n0 : Nat → Prop) (o t N : Nat) (F : Nat → Nat) (mi : Int64) (hN : N < 2 ^ 31) : Ctr l y_Field_doubled (.code y_Field_doubled prog_3_method_3_code 4 none) 2 50 0 0 n0 g [.ref o, .ref t, .int (nI N)] (fun H => FD g n0 H o F mi ∧ J14 g n0 H t) (QV (fun H H' => KJ g (fun q => q = t) H H')) := by
  refine ctr_mk l (lv0 := [(0, .ref o), (1, .ref t), (2, .int (nI N))]) (by decide) (Nat.le_of_ble_eq_true rfl) rfl ?_
  intro p e s m below meth c ls E hr hlk hnm hl hP
  have hx := E.1
  have hb := E.2.1
  have hK := E.2.2.2.2.2
  have hF : ∀ q ∈ ([] : List Loc), n0 q.base := fun q hq => absurd hq List.not_mem_nil
  obtain ⟨hfd, ht⟩ := hP
  have loop : ∀ (k : Nat) (i : Nat) (H : Heap) (locs : List Loc) (ls : Array Slot), i + k = N → KJ g (fun q => q = t) s.heap H → (∀ q ∈ locs, n0 q.base) → lv_has ls 4 [(3, .int (nI i)), (0, .ref o), (1, .ref t), (2, .int (nI N))] → W p l e { frames := 2, cells := 0, slots := 0, locals := 50 } s m [.ref o, .ref t, .int (nI N)].toArray below meth c H locs 0 0 (MQ below (QcP (QV (fun H H' => KJ g (fun q => q = t) H H'))) [.ref o, .ref t, .int (nI N)].toArray s 0 0 (fun q => n0 q)) (F0 m 2 ls []) := by
    intro k
    induction k with
    | zero =>
      intro  i   H   locs   ls hi hk hF hl
      obtain rfl : i = N := by omega
      refine lv_iload_n hx hb d_Field_doubled_2 rfl (lv_at hl 0 rfl) ?_
      refine lv_iload_n hx hb d_Field_doubled_3 rfl (lv_at hl 3 rfl) ?_
      refine lv_icmp_ge (tgt := 20) hx hb d_Field_doubled_4 (by decide) (fun _ => ?_) (fun h9 => absurd (nI_le (Nat.le_refl _) hN) h9)
      exact q_vret E hr hlk (⟨rfl, hk⟩) hF d_Field_doubled_20
    | succ k ih =>
      intro  i   H   locs   ls hi hk hF hl
      have hiN : i < N := by omega
      refine lv_iload_n hx hb d_Field_doubled_2 rfl (lv_at hl 0 rfl) ?_
      refine lv_iload_n hx hb d_Field_doubled_3 rfl (lv_at hl 3 rfl) ?_
      refine lv_icmp_ge (tgt := 20) hx hb d_Field_doubled_4 (by decide) (fun h9 => absurd h9 (nI_ge hiN hN)) (fun _ => ?_)
      refine lv_aload_n hx hb d_Field_doubled_7 rfl (lv_at hl 1 rfl) ?_
      refine lv_aload_n hx hb d_Field_doubled_8 rfl (lv_at hl 2 rfl) ?_
      refine lv_aload_n hx hb d_Field_doubled_9 rfl (lv_at hl 2 rfl) ?_
      refine lv_aload_n hx hb d_Field_doubled_10 rfl (lv_at hl 2 rfl) ?_
      refine q_cV (rest := []) E (c_Field_add l g n0 o t t t F mi) w_157 w_4 w_154 w_155 w_156 hd_Field_add rfl ⟨by decide, by decide⟩ (OB.recv E.2.2.2.2.2 (by rfl) ((hk.fd hK hfd).1)) (⟨hk.fd hK hfd, hk.j ht, hk.j ht, hk.j ht⟩) hF hl.1 rfl (Nat.le_of_ble_eq_true rfl) d_Field_doubled_11 ⟨by decide, by decide⟩ (qv (fun H1 locs hq hF => ?_))
      have hk := hk.tr hq
      refine lv_iinc (k := 0) (v := nI (i + 1)) (lv' := [(3, .int (nI (i + 1))), (0, .ref o), (1, .ref t), (2, .int (nI N))]) hx hb d_Field_doubled_14 hl rfl (i_inc i) (by decide) rfl (fun ls hl => ?_)
      refine lv_goto (tgt := 2) hx hb d_Field_doubled_17 (by decide) ?_
      exact ih (i + 1) H1 locs ls (by omega) hk hF hl
  refine lv_iconst (v := nI 0) hx hb d_Field_doubled_0 (by decide) ?_
  refine lv_istore_n (lv' := [(3, .int (nI 0)), (0, .ref o), (1, .ref t), (2, .int (nI N))]) hx hb d_Field_doubled_1 rfl hl (by decide) rfl (fun ls hl => ?_)
  exact loop N 0 s.heap [] ls (by omega) KJ.rf hF hl
set_option maxHeartbeats 4000000 in
set_option maxRecDepth 100000 in
/-- a power -/
theorem c_Field_raise (l : Launch) (g : WG) (n0 : Nat → Prop) (o t a b : Nat) (F : Nat → Nat) (mi : Int64) : Ctr l y_Field_raise (.code y_Field_raise prog_3_method_11_code 6 none) 2 135 0 0 n0 g [.ref o, .ref t, .ref a, .ref b] (fun H => FD g n0 H o F mi ∧ J14 g n0 H t ∧ J14 g n0 H a ∧ J14 g n0 H b) (QV (fun H H' => KJ g (fun q => q = t ∨ q = F 5) H H')) := by
  refine ctr_mk l (lv0 := [(0, .ref o), (1, .ref t), (2, .ref a), (3, .ref b)]) (by decide) (Nat.le_of_ble_eq_true rfl) rfl ?_
  intro p e s m below meth c ls E hr hlk hnm hl hP
  have hx := E.1
  have hb := E.2.1
  have hK := E.2.2.2.2.2
  have hF : ∀ q ∈ ([] : List Loc), n0 q.base := fun q hq => absurd hq List.not_mem_nil
  obtain ⟨hfd, ht, ha, hb0⟩ := hP
  have loop : ∀ (k : Nat) (H : Heap) (locs : List Loc) (ls : Array Slot) (x bg : Int32), k ≤ 392 → x = nI k - 1 → KJ g (fun q => q = t ∨ q = F 5) s.heap H → (∀ q ∈ locs, n0 q.base) → lv_has ls 6 [(5, .int x), (4, .int bg), (0, .ref o), (1, .ref t), (2, .ref a), (3, .ref b)] → W p l e { frames := 2, cells := 0, slots := 0, locals := 135 } s m [.ref o, .ref t, .ref a, .ref b].toArray below meth c H locs 0 0 (MQ below (QcP (QV (fun H H' => KJ g (fun q => q = t ∨ q = F 5) H H'))) [.ref o, .ref t, .ref a, .ref b].toArray s 0 0 (fun q => n0 q)) (F0 m 24 ls []) := by
    intro k
    induction k with
    | zero =>
      intro  H   locs   ls   x bg hk0 hxx hk hF hl
      subst hxx
      refine lv_iload hx hb d_Field_raise_24 (lv_at hl 0 rfl) ?_
      refine lv_if_lt (tgt := 72) hx hb d_Field_raise_26 (by decide) (fun _ => ?_) (fun h9 => absurd (by decide) h9)
      exact q_vret E hr hlk (⟨rfl, hk⟩) hF d_Field_raise_72
    | succ k ih =>
      intro  H   locs   ls   x bg hk0 hxx hk hF hl
      rw [nI_pred] at hxx
      subst hxx
      refine lv_iload hx hb d_Field_raise_24 (lv_at hl 0 rfl) ?_
      refine lv_if_lt (tgt := 72) hx hb d_Field_raise_26 (by decide) (fun h9 => absurd h9 (nI_pos (by omega))) (fun _ => ?_)
      refine lv_iload hx hb d_Field_raise_29 (lv_at hl 1 rfl) ?_
      have tail : ∀ (H : Heap) (locs : List Loc) (ls : Array Slot) (bg : Int32), KJ g (fun q => q = t ∨ q = F 5) s.heap H → (∀ q ∈ locs, n0 q.base) → lv_has ls 6 [(5, .int (nI k)), (4, .int bg), (0, .ref o), (1, .ref t), (2, .ref a), (3, .ref b)] → W p l e { frames := 2, cells := 0, slots := 0, locals := 135 } s m [.ref o, .ref t, .ref a, .ref b].toArray below meth c H locs 0 0 (MQ below (QcP (QV (fun H H' => KJ g (fun q => q = t ∨ q = F 5) H H'))) [.ref o, .ref t, .ref a, .ref b].toArray s 0 0 (fun q => n0 q)) (F0 m 41 ls []) := by
        intro  H   locs   ls   bg hk hF hl
        refine lv_aload_n hx hb d_Field_raise_41 rfl (lv_at hl 5 rfl) ?_
        refine lv_iload hx hb d_Field_raise_42 (lv_at hl 0 rfl) ?_
        refine lv_iconst (v := nI 1) hx hb d_Field_raise_44 (by decide) ?_
        refine q_cS (rest := []) E (c_Limbs_bits l g n0 b (nI k) (nI 1)) w_271 w_5 w_575 w_270 hd_Limbs_bits rfl ⟨by decide, by decide⟩ (hk.j hb0) hF hl.1 rfl (Nat.le_of_ble_eq_true rfl) d_Field_raise_45 ⟨by decide, by decide⟩ (ql (fun r1 H1 locs hq hF => ?_))
        subst hq
        refine lv_lconst (v := 1) hx hb d_Field_raise_48 (by decide) ?_
        refine W.lcmp hx hb d_Field_raise_49 ?_
        refine lv_topi (fun v2 _ => ?_)
        refine lv_if_ne (tgt := 66) hx hb d_Field_raise_50 (by decide) (fun h => ?_) (fun h => ?_)
        rotate_left
        · skip
          refine lv_aload_n hx hb d_Field_raise_53 rfl (lv_at hl 2 rfl) ?_
          refine lv_aload_n hx hb d_Field_raise_54 rfl (lv_at hl 3 rfl) ?_
          refine lv_aload_n hx hb d_Field_raise_55 rfl (lv_at hl 3 rfl) ?_
          refine lv_aload_n hx hb d_Field_raise_56 rfl (lv_at hl 2 rfl) ?_
          refine q_get (C := "KateDesk$Field") (T := T_Field) (N := 7) (ci := 1) E ((hk.fd hK hfd).1) in_Field rfl 5 (by decide) w_181 rfl rfl d_Field_raise_57 ?_
          refine q_cV (rest := []) E (c_Field_multiply l g n0 o t t (F 5) F mi) w_165 w_4 w_162 w_163 w_164 hd_Field_multiply rfl ⟨by decide, by decide⟩ (OB.recv E.2.2.2.2.2 (by rfl) ((hk.fd hK hfd).1)) (⟨hk.fd hK hfd, hk.j ht, hk.j ht, (hk.fd hK hfd).2 5 (by decide)⟩) hF hl.1 rfl (Nat.le_of_ble_eq_true rfl) d_Field_raise_60 ⟨by decide, by decide⟩ (qv (fun H2 locs hq hF => ?_))
          have hk := hk.tr (hq.mono (fun q h => Or.inl h))
          refine lv_iconst (v := nI 1) hx hb d_Field_raise_63 (by decide) ?_
          refine lv_istore (lv' := [(4, .int (nI 1)), (5, .int (nI k)), (0, .ref o), (1, .ref t), (2, .ref a), (3, .ref b)]) hx hb d_Field_raise_64 hl (by decide) rfl (fun ls hl => ?_)
          refine lv_iinc (k := 1) (v := nI k - 1) (lv' := [(5, .int (nI k - 1)), (4, .int (nI 1)), (0, .ref o), (1, .ref t), (2, .ref a), (3, .ref b)]) hx hb d_Field_raise_66 hl rfl (i_dec (nI k)) (by decide) rfl (fun ls hl => ?_)
          refine lv_goto (tgt := 24) hx hb d_Field_raise_69 (by decide) ?_
          have hl : lv_has ls 6 [(5, .int (nI k - 1)), (4, .int (nI 1)), (0, .ref o), (1, .ref t), (2, .ref a), (3, .ref b)] := lv_sub hl [0, 1, 2, 3, 4, 5] rfl
          exact ih H2 locs ls _ _ (by omega) rfl hk hF hl
        refine lv_iinc (k := 0) (v := nI k - 1) (lv' := [(5, .int (nI k - 1)), (4, .int bg), (0, .ref o), (1, .ref t), (2, .ref a), (3, .ref b)]) hx hb d_Field_raise_66 hl rfl (i_dec (nI k)) (by decide) rfl (fun ls hl => ?_)
        refine lv_goto (tgt := 24) hx hb d_Field_raise_69 (by decide) ?_
        have hl : lv_has ls 6 [(5, .int (nI k - 1)), (4, .int bg), (0, .ref o), (1, .ref t), (2, .ref a), (3, .ref b)] := lv_sub hl [0, 1, 2, 3, 4, 5] rfl
        exact ih H1 locs ls _ _ (by omega) rfl hk hF hl
      refine lv_if_eq (tgt := 41) hx hb d_Field_raise_31 (by decide) (fun h => ?_) (fun h => ?_)
      rotate_left
      · skip
        refine lv_aload_n hx hb d_Field_raise_34 rfl (lv_at hl 2 rfl) ?_
        refine lv_aload_n hx hb d_Field_raise_35 rfl (lv_at hl 3 rfl) ?_
        refine lv_aload_n hx hb d_Field_raise_36 rfl (lv_at hl 3 rfl) ?_
        refine lv_aload_n hx hb d_Field_raise_37 rfl (lv_at hl 3 rfl) ?_
        refine q_cV (rest := []) E (c_Field_multiply l g n0 o t t t F mi) w_165 w_4 w_162 w_163 w_164 hd_Field_multiply rfl ⟨by decide, by decide⟩ (OB.recv E.2.2.2.2.2 (by rfl) ((hk.fd hK hfd).1)) (⟨hk.fd hK hfd, hk.j ht, hk.j ht, hk.j ht⟩) hF hl.1 rfl (Nat.le_of_ble_eq_true rfl) d_Field_raise_38 ⟨by decide, by decide⟩ (qv (fun H1 locs hq hF => ?_))
        have hk := hk.tr (hq.mono (fun q h => Or.inl h))
        exact tail H1 locs ls _ hk hF hl
      exact tail H locs ls _ hk hF hl
  have hk : KJ g (fun q => q = t ∨ q = F 5) s.heap s.heap := KJ.rf
  refine lv_aload_n hx hb d_Field_raise_0 rfl (lv_at hl 0 rfl) ?_
  refine q_get (C := "KateDesk$Field") (T := T_Field) (N := 7) (ci := 1) E ((hk.fd hK hfd).1) in_Field rfl 5 (by decide) w_181 rfl rfl d_Field_raise_1 ?_
  refine lv_aload_n hx hb d_Field_raise_4 rfl (lv_at hl 2 rfl) ?_
  obtain ⟨f1, hf1⟩ := (hk.j ha).2
  refine q_cS (rest := []) E (c_Limbs_copy l g n0 (F 5) a f1) w_146 w_5 w_144 w_145 hd_Limbs_copy rfl ⟨by decide, by decide⟩ (⟨(hk.fd hK hfd).2 5 (by decide), hf1⟩) hF hl.1 rfl (Nat.le_of_ble_eq_true rfl) d_Field_raise_5 ⟨by decide, by decide⟩ (qv (fun H1 locs hq hF => ?_))
  have hq := hq.1
  have hk := hk.tr (hq.mono (fun q h => Or.inr h))
  refine lv_aload_n hx hb d_Field_raise_8 rfl (lv_at hl 1 rfl) ?_
  refine lv_aload_n hx hb d_Field_raise_9 rfl (lv_at hl 0 rfl) ?_
  refine q_get (C := "KateDesk$Field") (T := T_Field) (N := 7) (ci := 1) E ((hk.fd hK hfd).1) in_Field rfl 1 (by decide) w_173 rfl rfl d_Field_raise_10 ?_
  obtain ⟨f2, hf2⟩ := ((hk.fd hK hfd).2 1 (by decide)).2
  refine q_cS (rest := []) E (c_Limbs_copy l g n0 t (F 1) f2) w_146 w_5 w_144 w_145 hd_Limbs_copy rfl ⟨by decide, by decide⟩ (⟨hk.j ht, hf2⟩) hF hl.1 rfl (Nat.le_of_ble_eq_true rfl) d_Field_raise_13 ⟨by decide, by decide⟩ (qv (fun H2 locs hq hF => ?_))
  have hq := hq.1
  have hk := hk.tr (hq.mono (fun q h => Or.inl h))
  refine lv_iconst (v := nI 0) hx hb d_Field_raise_16 (by decide) ?_
  refine lv_istore (lv' := [(4, .int (nI 0)), (0, .ref o), (1, .ref t), (2, .ref a), (3, .ref b)]) hx hb d_Field_raise_17 hl (by decide) rfl (fun ls hl => ?_)
  refine lv_sipush (v := nI 391) hx hb d_Field_raise_19 (by decide) ?_
  refine lv_istore (lv' := [(5, .int (nI 391)), (4, .int (nI 0)), (0, .ref o), (1, .ref t), (2, .ref a), (3, .ref b)]) hx hb d_Field_raise_22 hl (by decide) rfl (fun ls hl => ?_)
  have hl : lv_has ls 6 [(5, .int (nI 391)), (4, .int (nI 0)), (0, .ref o), (1, .ref t), (2, .ref a), (3, .ref b)] := lv_sub hl [0, 1, 2, 3, 4, 5] rfl
  exact loop 392 H2 locs ls _ _ (by decide) (by decide) hk hF hl
