set_option maxHeartbeats 4000000 in
set_option maxRecDepth 100000 in
theorem L_Curve_mixed (l : Launch) (g : WG) (n0 : Nat → Prop) (o : Nat) (fo : Nat) (F : Nat → Nat) (mi : Int64) (X : Nat → Nat) (t a b u d v w : Nat) (A B C D : Int) (hXA : XA F X) (hmi : mi = 268238845) (hT : F 0 ≠ t ∧ X 6 ≠ t ∧ X 7 ≠ t) (h6 : u ≠ X 6 ∧ d ≠ X 6 ∧ v ≠ X 6 ∧ w ≠ X 6) (h7 : v ≠ X 7 ∧ w ≠ X 7) (h8 : v ≠ t ∧ w ≠ t) : Ctr l y_Curve_mixed (.code y_Curve_mixed prog_2_method_3_code 8 none) 2 135 0 0 n0 g [.ref o, .ref t, .ref a, .ref b, .ref u, .ref d, .ref v, .ref w] (fun H => CV g n0 H o fo F mi X ∧ J14 g n0 H t ∧ AJ g H (F 0) 14 kQ ∧ LW g H a A ∧ LW g H b B ∧ LW g H u C ∧ LW g H d D ∧ LW g H v (A * C) ∧ LW g H w (B * D)) (QV (fun H H' => KJ g (fun q => q = t ∨ q = X 6 ∨ q = X 7) H H' ∧ LW g H' t (ecI 1 A D C B))) := by
  refine ctr_mk l (lv0 := [(0, .ref o), (1, .ref t), (2, .ref a), (3, .ref b), (4, .ref u), (5, .ref d), (6, .ref v), (7, .ref w)]) (by decide) (Nat.le_of_ble_eq_true rfl) rfl ?_
  intro p e s m below meth c ls E hr hlk hnm hl hP
  have hx := E.1
  have hb := E.2.1
  have hK := E.2.2.2.2.2
  have hF : ∀ q ∈ ([] : List Loc), n0 q.base := fun q hq => absurd hq List.not_mem_nil
  obtain ⟨hcv, h_t, hM, v_a, v_b, v_u, v_d, v_v, v_w⟩ := hP
  have hk : KJ g (fun q => q = t ∨ q = X 6 ∨ q = X 7) s.heap s.heap := KJ.rf
  refine lv_aload_n hx hb d_Curve_mixed_0 rfl (lv_at hl 0 rfl) ?_
  refine q_get (C := "KateDesk$Curve") (T := T_Curve) (N := 10) (ci := 0) E ((hk.cv hK hcv).1) in_Curve rfl 0 (by decide) w_205 rfl rfl d_Curve_mixed_1 ?_
  refine lv_aload_n hx hb d_Curve_mixed_4 rfl (lv_at hl 0 rfl) ?_
  refine q_get (C := "KateDesk$Curve") (T := T_Curve) (N := 10) (ci := 0) E ((hk.cv hK hcv).1) in_Curve rfl 7 (by decide) w_212 rfl rfl d_Curve_mixed_5 ?_
  refine lv_aload_n hx hb d_Curve_mixed_8 rfl (lv_at hl 2 rfl) ?_
  refine lv_aload_n hx hb d_Curve_mixed_9 rfl (lv_at hl 3 rfl) ?_
  obtain ⟨fa1, ha1, va1⟩ := id v_a
  obtain ⟨fb1, hb1, vb1⟩ := id v_b
  refine q_cV (rest := []) E (V_Field_add l g n0 fo (X 6) a b F mi fa1 fb1 kQ ((A) * WQ % QJ) ((B) * WQ % QJ) QJ va1 vb1 kQ_rv (qm_r _).2 (qm_r _).2 (hXA.2.1 6 (by decide)) QJ_2) w_157 w_4 w_653 w_155 w_156 hd_Field_add rfl ⟨by decide, by decide⟩ (OB.recv E.2.2.2.2.2 (by rfl) ((hk.cv hK hcv).2.1.1)) (⟨(hk.cv hK hcv).2.1, (hk.cv hK hcv).2.2 6 (by decide), ha1, hb1, hM⟩) hF hl.1 rfl (Nat.le_of_ble_eq_true rfl) d_Curve_mixed_10 ⟨by decide, by decide⟩ (qv (fun H1 locs hq hF => ?_))
  obtain ⟨hq, f9, hf9, hv9⟩ := hq
  rw [lw_ad] at hv9
  have v_u := v_u.off hq (h6.1)
  have v_d := v_d.off hq (h6.2.1)
  have v_v := v_v.off hq (h6.2.2.1)
  have v_w := v_w.off hq (h6.2.2.2)
  have hM := hq.ajo (hXA.2.1 6 (by decide)) hM
  have hk := hk.tr (hq.mono (fun q h => Or.inr (Or.inl h)))
  have v_X6 : LW g H1 (X 6) (A + B) := ⟨f9, hf9, hv9⟩
  refine lv_aload_n hx hb d_Curve_mixed_13 rfl (lv_at hl 0 rfl) ?_
  refine q_get (C := "KateDesk$Curve") (T := T_Curve) (N := 10) (ci := 0) E ((hk.cv hK hcv).1) in_Curve rfl 0 (by decide) w_205 rfl rfl d_Curve_mixed_14 ?_
  refine lv_aload_n hx hb d_Curve_mixed_17 rfl (lv_at hl 0 rfl) ?_
  refine q_get (C := "KateDesk$Curve") (T := T_Curve) (N := 10) (ci := 0) E ((hk.cv hK hcv).1) in_Curve rfl 8 (by decide) w_213 rfl rfl d_Curve_mixed_18 ?_
  refine lv_aload hx hb d_Curve_mixed_21 (lv_at hl 4 rfl) ?_
  refine lv_aload hx hb d_Curve_mixed_23 (lv_at hl 5 rfl) ?_
  obtain ⟨fa2, ha2, va2⟩ := id v_u
  obtain ⟨fb2, hb2, vb2⟩ := id v_d
  refine q_cV (rest := []) E (V_Field_add l g n0 fo (X 7) u d F mi fa2 fb2 kQ ((C) * WQ % QJ) ((D) * WQ % QJ) QJ va2 vb2 kQ_rv (qm_r _).2 (qm_r _).2 (hXA.2.1 7 (by decide)) QJ_2) w_157 w_4 w_653 w_155 w_156 hd_Field_add rfl ⟨by decide, by decide⟩ (OB.recv E.2.2.2.2.2 (by rfl) ((hk.cv hK hcv).2.1.1)) (⟨(hk.cv hK hcv).2.1, (hk.cv hK hcv).2.2 7 (by decide), ha2, hb2, hM⟩) hF hl.1 rfl (Nat.le_of_ble_eq_true rfl) d_Curve_mixed_25 ⟨by decide, by decide⟩ (qv (fun H2 locs hq hF => ?_))
  obtain ⟨hq, f9, hf9, hv9⟩ := hq
  rw [lw_ad] at hv9
  have v_v := v_v.off hq (h7.1)
  have v_w := v_w.off hq (h7.2)
  have v_X6 := v_X6.off hq (hXA.1 6 7 (by decide) (by decide) (by decide))
  have hM := hq.ajo (hXA.2.1 7 (by decide)) hM
  have hk := hk.tr (hq.mono (fun q h => Or.inr (Or.inr h)))
  have v_X7 : LW g H2 (X 7) (C + D) := ⟨f9, hf9, hv9⟩
  refine lv_aload_n hx hb d_Curve_mixed_28 rfl (lv_at hl 0 rfl) ?_
  refine q_get (C := "KateDesk$Curve") (T := T_Curve) (N := 10) (ci := 0) E ((hk.cv hK hcv).1) in_Curve rfl 0 (by decide) w_205 rfl rfl d_Curve_mixed_29 ?_
  refine lv_aload_n hx hb d_Curve_mixed_32 rfl (lv_at hl 1 rfl) ?_
  refine lv_aload_n hx hb d_Curve_mixed_33 rfl (lv_at hl 0 rfl) ?_
  refine q_get (C := "KateDesk$Curve") (T := T_Curve) (N := 10) (ci := 0) E ((hk.cv hK hcv).1) in_Curve rfl 7 (by decide) w_212 rfl rfl d_Curve_mixed_34 ?_
  refine lv_aload_n hx hb d_Curve_mixed_37 rfl (lv_at hl 0 rfl) ?_
  refine q_get (C := "KateDesk$Curve") (T := T_Curve) (N := 10) (ci := 0) E ((hk.cv hK hcv).1) in_Curve rfl 8 (by decide) w_213 rfl rfl d_Curve_mixed_38 ?_
  obtain ⟨fa3, ha3, va3⟩ := id v_X6
  obtain ⟨fb3, hb3, vb3⟩ := id v_X7
  refine q_cV (rest := []) E (Q_Field_multiply l g n0 fo t (X 6) (X 7) F mi fa3 fb3 ((A + B) * WQ % QJ) ((C + D) * WQ % QJ) va3 vb3 (qm_r _).2 (qm_r _).2 (hT.1) hmi) w_165 w_4 w_652 w_163 w_164 hd_Field_multiply rfl ⟨by decide, by decide⟩ (OB.recv E.2.2.2.2.2 (by rfl) ((hk.cv hK hcv).2.1.1)) (⟨(hk.cv hK hcv).2.1, hk.j h_t, ha3, hb3, hM⟩) hF hl.1 rfl (Nat.le_of_ble_eq_true rfl) d_Curve_mixed_41 ⟨by decide, by decide⟩ (qv (fun H3 locs hq hF => ?_))
  obtain ⟨hq, f9, hf9, hv9⟩ := hq
  rw [lw_mu] at hv9
  have v_v := v_v.off hq (h8.1)
  have v_w := v_w.off hq (h8.2)
  have v_X6 := v_X6.off hq (hT.2.1)
  have v_X7 := v_X7.off hq (hT.2.2)
  have hM := hq.ajo (hT.1) hM
  have hk := hk.tr (hq.mono (fun q h => Or.inl h))
  have v_t : LW g H3 t ((A + B) * (C + D)) := ⟨f9, hf9, hv9⟩
  refine lv_aload_n hx hb d_Curve_mixed_44 rfl (lv_at hl 0 rfl) ?_
  refine q_get (C := "KateDesk$Curve") (T := T_Curve) (N := 10) (ci := 0) E ((hk.cv hK hcv).1) in_Curve rfl 0 (by decide) w_205 rfl rfl d_Curve_mixed_45 ?_
  refine lv_aload_n hx hb d_Curve_mixed_48 rfl (lv_at hl 1 rfl) ?_
  refine lv_aload_n hx hb d_Curve_mixed_49 rfl (lv_at hl 1 rfl) ?_
  refine lv_aload hx hb d_Curve_mixed_50 (lv_at hl 6 rfl) ?_
  obtain ⟨fa4, ha4, va4⟩ := id v_t
  obtain ⟨fb4, hb4, vb4⟩ := id v_v
  refine q_cV (rest := []) E (V_Field_subtract l g n0 fo t t v F mi fa4 fb4 kQ (((A + B) * (C + D)) * WQ % QJ) ((A * C) * WQ % QJ) QJ va4 vb4 kQ_rv (qm_r _).2 (qm_r _).2 (hT.1)) w_169 w_4 w_707 w_167 w_168 hd_Field_subtract rfl ⟨by decide, by decide⟩ (OB.recv E.2.2.2.2.2 (by rfl) ((hk.cv hK hcv).2.1.1)) (⟨(hk.cv hK hcv).2.1, hk.j h_t, ha4, hb4, hM⟩) hF hl.1 rfl (Nat.le_of_ble_eq_true rfl) d_Curve_mixed_52 ⟨by decide, by decide⟩ (qv (fun H4 locs hq hF => ?_))
  obtain ⟨hq, f9, hf9, hv9⟩ := hq
  rw [lw_sb] at hv9
  have v_w := v_w.off hq (h8.2)
  have hM := hq.ajo (hT.1) hM
  have hk := hk.tr (hq.mono (fun q h => Or.inl h))
  have v_t : LW g H4 t (((A + B) * (C + D)) - (A * C)) := ⟨f9, hf9, hv9⟩
  refine lv_aload_n hx hb d_Curve_mixed_55 rfl (lv_at hl 0 rfl) ?_
  refine q_get (C := "KateDesk$Curve") (T := T_Curve) (N := 10) (ci := 0) E ((hk.cv hK hcv).1) in_Curve rfl 0 (by decide) w_205 rfl rfl d_Curve_mixed_56 ?_
  refine lv_aload_n hx hb d_Curve_mixed_59 rfl (lv_at hl 1 rfl) ?_
  refine lv_aload_n hx hb d_Curve_mixed_60 rfl (lv_at hl 1 rfl) ?_
  refine lv_aload hx hb d_Curve_mixed_61 (lv_at hl 7 rfl) ?_
  obtain ⟨fa5, ha5, va5⟩ := id v_t
  obtain ⟨fb5, hb5, vb5⟩ := id v_w
  refine q_cV (rest := []) E (V_Field_subtract l g n0 fo t t w F mi fa5 fb5 kQ ((((A + B) * (C + D)) - (A * C)) * WQ % QJ) ((B * D) * WQ % QJ) QJ va5 vb5 kQ_rv (qm_r _).2 (qm_r _).2 (hT.1)) w_169 w_4 w_707 w_167 w_168 hd_Field_subtract rfl ⟨by decide, by decide⟩ (OB.recv E.2.2.2.2.2 (by rfl) ((hk.cv hK hcv).2.1.1)) (⟨(hk.cv hK hcv).2.1, hk.j h_t, ha5, hb5, hM⟩) hF hl.1 rfl (Nat.le_of_ble_eq_true rfl) d_Curve_mixed_63 ⟨by decide, by decide⟩ (qv (fun H5 locs hq hF => ?_))
  obtain ⟨hq, f9, hf9, hv9⟩ := hq
  rw [lw_sb] at hv9
  have hM := hq.ajo (hT.1) hM
  have hk := hk.tr (hq.mono (fun q h => Or.inl h))
  have v_t : LW g H5 t ((((A + B) * (C + D)) - (A * C)) - (B * D)) := ⟨f9, hf9, hv9⟩
  exact q_vret E hr hlk (⟨rfl, hk, v_t.cg (by unfold ecI; grind)⟩) hF d_Curve_mixed_66
set_option maxHeartbeats 4000000 in
set_option maxRecDepth 100000 in
theorem L_Curve_twelvefold (l : Launch) (g : WG) (n0 : Nat → Prop) (o : Nat) (fo : Nat) (F : Nat → Nat) (mi : Int64) (X : Nat → Nat) (t a : Nat) (A : Int) (hXA : XA F X) (hT : F 0 ≠ t ∧ X 6 ≠ t) (h6 : a ≠ X 6) : Ctr l y_Curve_twelvefold (.code y_Curve_twelvefold prog_2_method_4_code 3 none) 2 50 0 0 n0 g [.ref o, .ref t, .ref a] (fun H => CV g n0 H o fo F mi X ∧ J14 g n0 H t ∧ AJ g H (F 0) 14 kQ ∧ LW g H a A) (QV (fun H H' => KJ g (fun q => q = t ∨ q = X 6) H H' ∧ LW g H' t (12 * A))) := by
  refine ctr_mk l (lv0 := [(0, .ref o), (1, .ref t), (2, .ref a)]) (by decide) (Nat.le_of_ble_eq_true rfl) rfl ?_
  intro p e s m below meth c ls E hr hlk hnm hl hP
  have hx := E.1
  have hb := E.2.1
  have hK := E.2.2.2.2.2
  have hF : ∀ q ∈ ([] : List Loc), n0 q.base := fun q hq => absurd hq List.not_mem_nil
  obtain ⟨hcv, h_t, hM, v_a⟩ := hP
  have hk : KJ g (fun q => q = t ∨ q = X 6) s.heap s.heap := KJ.rf
  refine lv_aload_n hx hb d_Curve_twelvefold_0 rfl (lv_at hl 0 rfl) ?_
  refine q_get (C := "KateDesk$Curve") (T := T_Curve) (N := 10) (ci := 0) E ((hk.cv hK hcv).1) in_Curve rfl 0 (by decide) w_205 rfl rfl d_Curve_twelvefold_1 ?_
  refine lv_aload_n hx hb d_Curve_twelvefold_4 rfl (lv_at hl 0 rfl) ?_
  refine q_get (C := "KateDesk$Curve") (T := T_Curve) (N := 10) (ci := 0) E ((hk.cv hK hcv).1) in_Curve rfl 7 (by decide) w_212 rfl rfl d_Curve_twelvefold_5 ?_
  refine lv_aload_n hx hb d_Curve_twelvefold_8 rfl (lv_at hl 2 rfl) ?_
  refine lv_aload_n hx hb d_Curve_twelvefold_9 rfl (lv_at hl 2 rfl) ?_
  obtain ⟨fa1, ha1, va1⟩ := id v_a
  obtain ⟨fb1, hb1, vb1⟩ := id v_a
  refine q_cV (rest := []) E (V_Field_add l g n0 fo (X 6) a a F mi fa1 fb1 kQ ((A) * WQ % QJ) ((A) * WQ % QJ) QJ va1 vb1 kQ_rv (qm_r _).2 (qm_r _).2 (hXA.2.1 6 (by decide)) QJ_2) w_157 w_4 w_653 w_155 w_156 hd_Field_add rfl ⟨by decide, by decide⟩ (OB.recv E.2.2.2.2.2 (by rfl) ((hk.cv hK hcv).2.1.1)) (⟨(hk.cv hK hcv).2.1, (hk.cv hK hcv).2.2 6 (by decide), ha1, hb1, hM⟩) hF hl.1 rfl (Nat.le_of_ble_eq_true rfl) d_Curve_twelvefold_10 ⟨by decide, by decide⟩ (qv (fun H1 locs hq hF => ?_))
  obtain ⟨hq, f9, hf9, hv9⟩ := hq
  rw [lw_ad] at hv9
  have v_a := v_a.off hq (h6)
  have hM := hq.ajo (hXA.2.1 6 (by decide)) hM
  have hk := hk.tr (hq.mono (fun q h => Or.inr h))
  have v_X6 : LW g H1 (X 6) (A + A) := ⟨f9, hf9, hv9⟩
  refine lv_aload_n hx hb d_Curve_twelvefold_13 rfl (lv_at hl 0 rfl) ?_
  refine q_get (C := "KateDesk$Curve") (T := T_Curve) (N := 10) (ci := 0) E ((hk.cv hK hcv).1) in_Curve rfl 0 (by decide) w_205 rfl rfl d_Curve_twelvefold_14 ?_
  refine lv_aload_n hx hb d_Curve_twelvefold_17 rfl (lv_at hl 0 rfl) ?_
  refine q_get (C := "KateDesk$Curve") (T := T_Curve) (N := 10) (ci := 0) E ((hk.cv hK hcv).1) in_Curve rfl 7 (by decide) w_212 rfl rfl d_Curve_twelvefold_18 ?_
  refine lv_aload_n hx hb d_Curve_twelvefold_21 rfl (lv_at hl 0 rfl) ?_
  refine q_get (C := "KateDesk$Curve") (T := T_Curve) (N := 10) (ci := 0) E ((hk.cv hK hcv).1) in_Curve rfl 7 (by decide) w_212 rfl rfl d_Curve_twelvefold_22 ?_
  refine lv_aload_n hx hb d_Curve_twelvefold_25 rfl (lv_at hl 2 rfl) ?_
  obtain ⟨fa2, ha2, va2⟩ := id v_X6
  obtain ⟨fb2, hb2, vb2⟩ := id v_a
  refine q_cV (rest := []) E (V_Field_add l g n0 fo (X 6) (X 6) a F mi fa2 fb2 kQ ((A + A) * WQ % QJ) ((A) * WQ % QJ) QJ va2 vb2 kQ_rv (qm_r _).2 (qm_r _).2 (hXA.2.1 6 (by decide)) QJ_2) w_157 w_4 w_653 w_155 w_156 hd_Field_add rfl ⟨by decide, by decide⟩ (OB.recv E.2.2.2.2.2 (by rfl) ((hk.cv hK hcv).2.1.1)) (⟨(hk.cv hK hcv).2.1, (hk.cv hK hcv).2.2 6 (by decide), ha2, hb2, hM⟩) hF hl.1 rfl (Nat.le_of_ble_eq_true rfl) d_Curve_twelvefold_26 ⟨by decide, by decide⟩ (qv (fun H2 locs hq hF => ?_))
  obtain ⟨hq, f9, hf9, hv9⟩ := hq
  rw [lw_ad] at hv9
  have hM := hq.ajo (hXA.2.1 6 (by decide)) hM
  have hk := hk.tr (hq.mono (fun q h => Or.inr h))
  have v_X6 : LW g H2 (X 6) ((A + A) + A) := ⟨f9, hf9, hv9⟩
  refine lv_aload_n hx hb d_Curve_twelvefold_29 rfl (lv_at hl 0 rfl) ?_
  refine q_get (C := "KateDesk$Curve") (T := T_Curve) (N := 10) (ci := 0) E ((hk.cv hK hcv).1) in_Curve rfl 0 (by decide) w_205 rfl rfl d_Curve_twelvefold_30 ?_
  refine lv_aload_n hx hb d_Curve_twelvefold_33 rfl (lv_at hl 0 rfl) ?_
  refine q_get (C := "KateDesk$Curve") (T := T_Curve) (N := 10) (ci := 0) E ((hk.cv hK hcv).1) in_Curve rfl 7 (by decide) w_212 rfl rfl d_Curve_twelvefold_34 ?_
  refine lv_aload_n hx hb d_Curve_twelvefold_37 rfl (lv_at hl 0 rfl) ?_
  refine q_get (C := "KateDesk$Curve") (T := T_Curve) (N := 10) (ci := 0) E ((hk.cv hK hcv).1) in_Curve rfl 7 (by decide) w_212 rfl rfl d_Curve_twelvefold_38 ?_
  refine lv_aload_n hx hb d_Curve_twelvefold_41 rfl (lv_at hl 0 rfl) ?_
  refine q_get (C := "KateDesk$Curve") (T := T_Curve) (N := 10) (ci := 0) E ((hk.cv hK hcv).1) in_Curve rfl 7 (by decide) w_212 rfl rfl d_Curve_twelvefold_42 ?_
  obtain ⟨fa3, ha3, va3⟩ := id v_X6
  obtain ⟨fb3, hb3, vb3⟩ := id v_X6
  refine q_cV (rest := []) E (V_Field_add l g n0 fo (X 6) (X 6) (X 6) F mi fa3 fb3 kQ (((A + A) + A) * WQ % QJ) (((A + A) + A) * WQ % QJ) QJ va3 vb3 kQ_rv (qm_r _).2 (qm_r _).2 (hXA.2.1 6 (by decide)) QJ_2) w_157 w_4 w_653 w_155 w_156 hd_Field_add rfl ⟨by decide, by decide⟩ (OB.recv E.2.2.2.2.2 (by rfl) ((hk.cv hK hcv).2.1.1)) (⟨(hk.cv hK hcv).2.1, (hk.cv hK hcv).2.2 6 (by decide), ha3, hb3, hM⟩) hF hl.1 rfl (Nat.le_of_ble_eq_true rfl) d_Curve_twelvefold_45 ⟨by decide, by decide⟩ (qv (fun H3 locs hq hF => ?_))
  obtain ⟨hq, f9, hf9, hv9⟩ := hq
  rw [lw_ad] at hv9
  have hM := hq.ajo (hXA.2.1 6 (by decide)) hM
  have hk := hk.tr (hq.mono (fun q h => Or.inr h))
  have v_X6 : LW g H3 (X 6) (((A + A) + A) + ((A + A) + A)) := ⟨f9, hf9, hv9⟩
  refine lv_aload_n hx hb d_Curve_twelvefold_48 rfl (lv_at hl 0 rfl) ?_
  refine q_get (C := "KateDesk$Curve") (T := T_Curve) (N := 10) (ci := 0) E ((hk.cv hK hcv).1) in_Curve rfl 0 (by decide) w_205 rfl rfl d_Curve_twelvefold_49 ?_
  refine lv_aload_n hx hb d_Curve_twelvefold_52 rfl (lv_at hl 1 rfl) ?_
  refine lv_aload_n hx hb d_Curve_twelvefold_53 rfl (lv_at hl 0 rfl) ?_
  refine q_get (C := "KateDesk$Curve") (T := T_Curve) (N := 10) (ci := 0) E ((hk.cv hK hcv).1) in_Curve rfl 7 (by decide) w_212 rfl rfl d_Curve_twelvefold_54 ?_
  refine lv_aload_n hx hb d_Curve_twelvefold_57 rfl (lv_at hl 0 rfl) ?_
  refine q_get (C := "KateDesk$Curve") (T := T_Curve) (N := 10) (ci := 0) E ((hk.cv hK hcv).1) in_Curve rfl 7 (by decide) w_212 rfl rfl d_Curve_twelvefold_58 ?_
  obtain ⟨fa4, ha4, va4⟩ := id v_X6
  obtain ⟨fb4, hb4, vb4⟩ := id v_X6
  refine q_cV (rest := []) E (V_Field_add l g n0 fo t (X 6) (X 6) F mi fa4 fb4 kQ ((((A + A) + A) + ((A + A) + A)) * WQ % QJ) ((((A + A) + A) + ((A + A) + A)) * WQ % QJ) QJ va4 vb4 kQ_rv (qm_r _).2 (qm_r _).2 (hT.1) QJ_2) w_157 w_4 w_653 w_155 w_156 hd_Field_add rfl ⟨by decide, by decide⟩ (OB.recv E.2.2.2.2.2 (by rfl) ((hk.cv hK hcv).2.1.1)) (⟨(hk.cv hK hcv).2.1, hk.j h_t, ha4, hb4, hM⟩) hF hl.1 rfl (Nat.le_of_ble_eq_true rfl) d_Curve_twelvefold_61 ⟨by decide, by decide⟩ (qv (fun H4 locs hq hF => ?_))
  obtain ⟨hq, f9, hf9, hv9⟩ := hq
  rw [lw_ad] at hv9
  have hM := hq.ajo (hT.1) hM
  have hk := hk.tr (hq.mono (fun q h => Or.inl h))
  have v_t : LW g H4 t ((((A + A) + A) + ((A + A) + A)) + (((A + A) + A) + ((A + A) + A))) := ⟨f9, hf9, hv9⟩
  exact q_vret E hr hlk (⟨rfl, hk, v_t.cg (by grind)⟩) hF d_Curve_twelvefold_64
set_option maxHeartbeats 4000000 in
set_option maxRecDepth 100000 in
theorem L_Curve_twice (l : Launch) (g : WG) (n0 : Nat → Prop) (o : Nat) (fo : Nat) (F : Nat → Nat) (mi : Int64) (X : Nat → Nat) (t t1 t2 t3 : Nat) (a a1 a2 a3 : Nat) (P : P3) (hXA : XA F X) (hmi : mi = 268238845) (hXa : ∀ i, i < 9 → a1 ≠ X i ∧ a2 ≠ X i ∧ a3 ≠ X i) (htX : ∀ i, i < 9 → X i ≠ t1 ∧ X i ≠ t2 ∧ X i ≠ t3) (htF : F 0 ≠ t1 ∧ F 0 ≠ t2 ∧ F 0 ≠ t3) (htt : t1 ≠ t2 ∧ t1 ≠ t3 ∧ t2 ≠ t3) : Ctr l y_Curve_twice (.code y_Curve_twice prog_2_method_5_code 3 none) 3 135 0 0 n0 g [.ref o, .ref t, .ref a] (fun H => CV g n0 H o fo F mi X ∧ PT g n0 H t t1 t2 t3 ∧ PT g n0 H a a1 a2 a3 ∧ AJ g H (F 0) 14 kQ ∧ LW g H a1 P.1 ∧ LW g H a2 P.2.1 ∧ LW g H a3 P.2.2) (QV (fun H H' => KJ g (fun q => (∃ i, i < 9 ∧ q = X i) ∨ q = F 5 ∨ q = t1 ∨ q = t2 ∨ q = t3) H H' ∧ LW g H' t1 (DB P).1 ∧ LW g H' t2 (DB P).2.1 ∧ LW g H' t3 (DB P).2.2)) := by
  refine ctr_mk l (lv0 := [(0, .ref o), (1, .ref t), (2, .ref a)]) (by decide) (Nat.le_of_ble_eq_true rfl) rfl ?_
  intro p e s m below meth c ls E hr hlk hnm hl hP
  have hx := E.1
  have hb := E.2.1
  have hK := E.2.2.2.2.2
  have hF : ∀ q ∈ ([] : List Loc), n0 q.base := fun q hq => absurd hq List.not_mem_nil
  obtain ⟨hcv, h_t, h_a, hM, v_a1, v_a2, v_a3⟩ := hP
  have hk : KJ g (fun q => (∃ i, i < 9 ∧ q = X i) ∨ q = F 5 ∨ q = t1 ∨ q = t2 ∨ q = t3) s.heap s.heap := KJ.rf
  refine lv_aload_n hx hb d_Curve_twice_0 rfl (lv_at hl 0 rfl) ?_
  refine q_get (C := "KateDesk$Curve") (T := T_Curve) (N := 10) (ci := 0) E ((hk.cv hK hcv).1) in_Curve rfl 0 (by decide) w_205 rfl rfl d_Curve_twice_1 ?_
  refine lv_aload_n hx hb d_Curve_twice_4 rfl (lv_at hl 0 rfl) ?_
  refine q_get (C := "KateDesk$Curve") (T := T_Curve) (N := 10) (ci := 0) E ((hk.cv hK hcv).1) in_Curve rfl 2 (by decide) w_207 rfl rfl d_Curve_twice_5 ?_
  refine lv_aload_n hx hb d_Curve_twice_8 rfl (lv_at hl 2 rfl) ?_
  refine q_get (C := "KateDesk$Point") (T := T_Point) (N := 3) (ci := 2) E ((hk.pt hK h_a).1) in_Point rfl 1 (by decide) w_50 rfl rfl d_Curve_twice_9 ?_
  refine lv_aload_n hx hb d_Curve_twice_12 rfl (lv_at hl 2 rfl) ?_
  refine q_get (C := "KateDesk$Point") (T := T_Point) (N := 3) (ci := 2) E ((hk.pt hK h_a).1) in_Point rfl 1 (by decide) w_50 rfl rfl d_Curve_twice_13 ?_
  obtain ⟨fa1, ha1, va1⟩ := id v_a2
  obtain ⟨fb1, hb1, vb1⟩ := id v_a2
  refine q_cV (rest := []) E (Q_Field_multiply l g n0 fo (X 1) a2 a2 F mi fa1 fb1 ((P.2.1) * WQ % QJ) ((P.2.1) * WQ % QJ) va1 vb1 (qm_r _).2 (qm_r _).2 (hXA.2.1 1 (by decide)) hmi) w_165 w_4 w_652 w_163 w_164 hd_Field_multiply rfl ⟨by decide, by decide⟩ (OB.recv E.2.2.2.2.2 (by rfl) ((hk.cv hK hcv).2.1.1)) (⟨(hk.cv hK hcv).2.1, (hk.cv hK hcv).2.2 1 (by decide), ha1, hb1, hM⟩) hF hl.1 rfl (Nat.le_of_ble_eq_true rfl) d_Curve_twice_16 ⟨by decide, by decide⟩ (qv (fun H1 locs hq hF => ?_))
  obtain ⟨hq, f9, hf9, hv9⟩ := hq
  rw [lw_mu] at hv9
  have v_a1 := v_a1.off hq ((hXa 1 (by decide)).1)
  have v_a2 := v_a2.off hq ((hXa 1 (by decide)).2.1)
  have v_a3 := v_a3.off hq ((hXa 1 (by decide)).2.2)
  have hM := hq.ajo (hXA.2.1 1 (by decide)) hM
  have hk := hk.tr (hq.mono (fun q h => Or.inl ⟨1, by decide, h⟩))
  have v_X1 : LW g H1 (X 1) (P.2.1 * P.2.1) := ⟨f9, hf9, hv9⟩
  refine lv_aload_n hx hb d_Curve_twice_19 rfl (lv_at hl 0 rfl) ?_
  refine q_get (C := "KateDesk$Curve") (T := T_Curve) (N := 10) (ci := 0) E ((hk.cv hK hcv).1) in_Curve rfl 0 (by decide) w_205 rfl rfl d_Curve_twice_20 ?_
  refine lv_aload_n hx hb d_Curve_twice_23 rfl (lv_at hl 0 rfl) ?_
  refine q_get (C := "KateDesk$Curve") (T := T_Curve) (N := 10) (ci := 0) E ((hk.cv hK hcv).1) in_Curve rfl 3 (by decide) w_208 rfl rfl d_Curve_twice_24 ?_
  refine lv_aload_n hx hb d_Curve_twice_27 rfl (lv_at hl 2 rfl) ?_
  refine q_get (C := "KateDesk$Point") (T := T_Point) (N := 3) (ci := 2) E ((hk.pt hK h_a).1) in_Point rfl 2 (by decide) w_54 rfl rfl d_Curve_twice_28 ?_
  refine lv_aload_n hx hb d_Curve_twice_31 rfl (lv_at hl 2 rfl) ?_
  refine q_get (C := "KateDesk$Point") (T := T_Point) (N := 3) (ci := 2) E ((hk.pt hK h_a).1) in_Point rfl 2 (by decide) w_54 rfl rfl d_Curve_twice_32 ?_
  obtain ⟨fa2, ha2, va2⟩ := id v_a3
  obtain ⟨fb2, hb2, vb2⟩ := id v_a3
  refine q_cV (rest := []) E (Q_Field_multiply l g n0 fo (X 2) a3 a3 F mi fa2 fb2 ((P.2.2) * WQ % QJ) ((P.2.2) * WQ % QJ) va2 vb2 (qm_r _).2 (qm_r _).2 (hXA.2.1 2 (by decide)) hmi) w_165 w_4 w_652 w_163 w_164 hd_Field_multiply rfl ⟨by decide, by decide⟩ (OB.recv E.2.2.2.2.2 (by rfl) ((hk.cv hK hcv).2.1.1)) (⟨(hk.cv hK hcv).2.1, (hk.cv hK hcv).2.2 2 (by decide), ha2, hb2, hM⟩) hF hl.1 rfl (Nat.le_of_ble_eq_true rfl) d_Curve_twice_35 ⟨by decide, by decide⟩ (qv (fun H2 locs hq hF => ?_))
  obtain ⟨hq, f9, hf9, hv9⟩ := hq
  rw [lw_mu] at hv9
  have v_a1 := v_a1.off hq ((hXa 2 (by decide)).1)
  have v_a2 := v_a2.off hq ((hXa 2 (by decide)).2.1)
  have v_a3 := v_a3.off hq ((hXa 2 (by decide)).2.2)
  have v_X1 := v_X1.off hq (hXA.1 1 2 (by decide) (by decide) (by decide))
  have hM := hq.ajo (hXA.2.1 2 (by decide)) hM
  have hk := hk.tr (hq.mono (fun q h => Or.inl ⟨2, by decide, h⟩))
  have v_X2 : LW g H2 (X 2) (P.2.2 * P.2.2) := ⟨f9, hf9, hv9⟩
  refine lv_aload_n hx hb d_Curve_twice_38 rfl (lv_at hl 0 rfl) ?_
  refine q_get (C := "KateDesk$Curve") (T := T_Curve) (N := 10) (ci := 0) E ((hk.cv hK hcv).1) in_Curve rfl 0 (by decide) w_205 rfl rfl d_Curve_twice_39 ?_
  refine lv_aload_n hx hb d_Curve_twice_42 rfl (lv_at hl 0 rfl) ?_
  refine q_get (C := "KateDesk$Curve") (T := T_Curve) (N := 10) (ci := 0) E ((hk.cv hK hcv).1) in_Curve rfl 4 (by decide) w_209 rfl rfl d_Curve_twice_43 ?_
  refine lv_aload_n hx hb d_Curve_twice_46 rfl (lv_at hl 2 rfl) ?_
  refine q_get (C := "KateDesk$Point") (T := T_Point) (N := 3) (ci := 2) E ((hk.pt hK h_a).1) in_Point rfl 0 (by decide) w_46 rfl rfl d_Curve_twice_47 ?_
  refine lv_aload_n hx hb d_Curve_twice_50 rfl (lv_at hl 2 rfl) ?_
  refine q_get (C := "KateDesk$Point") (T := T_Point) (N := 3) (ci := 2) E ((hk.pt hK h_a).1) in_Point rfl 1 (by decide) w_50 rfl rfl d_Curve_twice_51 ?_
  obtain ⟨fa3, ha3, va3⟩ := id v_a1
  obtain ⟨fb3, hb3, vb3⟩ := id v_a2
  refine q_cV (rest := []) E (Q_Field_multiply l g n0 fo (X 3) a1 a2 F mi fa3 fb3 ((P.1) * WQ % QJ) ((P.2.1) * WQ % QJ) va3 vb3 (qm_r _).2 (qm_r _).2 (hXA.2.1 3 (by decide)) hmi) w_165 w_4 w_652 w_163 w_164 hd_Field_multiply rfl ⟨by decide, by decide⟩ (OB.recv E.2.2.2.2.2 (by rfl) ((hk.cv hK hcv).2.1.1)) (⟨(hk.cv hK hcv).2.1, (hk.cv hK hcv).2.2 3 (by decide), ha3, hb3, hM⟩) hF hl.1 rfl (Nat.le_of_ble_eq_true rfl) d_Curve_twice_54 ⟨by decide, by decide⟩ (qv (fun H3 locs hq hF => ?_))
  obtain ⟨hq, f9, hf9, hv9⟩ := hq
  rw [lw_mu] at hv9
  have v_a1 := v_a1.off hq ((hXa 3 (by decide)).1)
  have v_a2 := v_a2.off hq ((hXa 3 (by decide)).2.1)
  have v_a3 := v_a3.off hq ((hXa 3 (by decide)).2.2)
  have v_X1 := v_X1.off hq (hXA.1 1 3 (by decide) (by decide) (by decide))
  have v_X2 := v_X2.off hq (hXA.1 2 3 (by decide) (by decide) (by decide))
  have hM := hq.ajo (hXA.2.1 3 (by decide)) hM
  have hk := hk.tr (hq.mono (fun q h => Or.inl ⟨3, by decide, h⟩))
  have v_X3 : LW g H3 (X 3) (P.1 * P.2.1) := ⟨f9, hf9, hv9⟩
  refine lv_aload_n hx hb d_Curve_twice_57 rfl (lv_at hl 0 rfl) ?_
  refine q_get (C := "KateDesk$Curve") (T := T_Curve) (N := 10) (ci := 0) E ((hk.cv hK hcv).1) in_Curve rfl 0 (by decide) w_205 rfl rfl d_Curve_twice_58 ?_
  refine lv_aload_n hx hb d_Curve_twice_61 rfl (lv_at hl 0 rfl) ?_
  refine q_get (C := "KateDesk$Curve") (T := T_Curve) (N := 10) (ci := 0) E ((hk.cv hK hcv).1) in_Curve rfl 5 (by decide) w_210 rfl rfl d_Curve_twice_62 ?_
  refine lv_aload_n hx hb d_Curve_twice_65 rfl (lv_at hl 2 rfl) ?_
  refine q_get (C := "KateDesk$Point") (T := T_Point) (N := 3) (ci := 2) E ((hk.pt hK h_a).1) in_Point rfl 1 (by decide) w_50 rfl rfl d_Curve_twice_66 ?_
  refine lv_aload_n hx hb d_Curve_twice_69 rfl (lv_at hl 2 rfl) ?_
  refine q_get (C := "KateDesk$Point") (T := T_Point) (N := 3) (ci := 2) E ((hk.pt hK h_a).1) in_Point rfl 2 (by decide) w_54 rfl rfl d_Curve_twice_70 ?_
  obtain ⟨fa4, ha4, va4⟩ := id v_a2
  obtain ⟨fb4, hb4, vb4⟩ := id v_a3
  refine q_cV (rest := []) E (Q_Field_multiply l g n0 fo (X 4) a2 a3 F mi fa4 fb4 ((P.2.1) * WQ % QJ) ((P.2.2) * WQ % QJ) va4 vb4 (qm_r _).2 (qm_r _).2 (hXA.2.1 4 (by decide)) hmi) w_165 w_4 w_652 w_163 w_164 hd_Field_multiply rfl ⟨by decide, by decide⟩ (OB.recv E.2.2.2.2.2 (by rfl) ((hk.cv hK hcv).2.1.1)) (⟨(hk.cv hK hcv).2.1, (hk.cv hK hcv).2.2 4 (by decide), ha4, hb4, hM⟩) hF hl.1 rfl (Nat.le_of_ble_eq_true rfl) d_Curve_twice_73 ⟨by decide, by decide⟩ (qv (fun H4 locs hq hF => ?_))
  obtain ⟨hq, f9, hf9, hv9⟩ := hq
  rw [lw_mu] at hv9
  have v_a1 := v_a1.off hq ((hXa 4 (by decide)).1)
  have v_a2 := v_a2.off hq ((hXa 4 (by decide)).2.1)
  have v_a3 := v_a3.off hq ((hXa 4 (by decide)).2.2)
  have v_X1 := v_X1.off hq (hXA.1 1 4 (by decide) (by decide) (by decide))
  have v_X2 := v_X2.off hq (hXA.1 2 4 (by decide) (by decide) (by decide))
  have v_X3 := v_X3.off hq (hXA.1 3 4 (by decide) (by decide) (by decide))
  have hM := hq.ajo (hXA.2.1 4 (by decide)) hM
  have hk := hk.tr (hq.mono (fun q h => Or.inl ⟨4, by decide, h⟩))
  have v_X4 : LW g H4 (X 4) (P.2.1 * P.2.2) := ⟨f9, hf9, hv9⟩
  refine lv_aload_n hx hb d_Curve_twice_76 rfl (lv_at hl 0 rfl) ?_
  refine lv_aload_n hx hb d_Curve_twice_77 rfl (lv_at hl 0 rfl) ?_
  refine q_get (C := "KateDesk$Curve") (T := T_Curve) (N := 10) (ci := 0) E ((hk.cv hK hcv).1) in_Curve rfl 3 (by decide) w_208 rfl rfl d_Curve_twice_78 ?_
  refine lv_aload_n hx hb d_Curve_twice_81 rfl (lv_at hl 0 rfl) ?_
  refine q_get (C := "KateDesk$Curve") (T := T_Curve) (N := 10) (ci := 0) E ((hk.cv hK hcv).1) in_Curve rfl 3 (by decide) w_208 rfl rfl d_Curve_twice_82 ?_
  refine q_cV (rest := []) E (L_Curve_twelvefold l g n0 o fo F mi X (X 2) (X 2) (P.2.2 * P.2.2) hXA (⟨hXA.2.1 2 (by decide), hXA.1 6 2 (by decide) (by decide) (by decide)⟩) (hXA.1 2 6 (by decide) (by decide) (by decide))) w_706 w_11 w_703 w_705 (bw_s 8 rfl) hd_Curve_twelvefold rfl ⟨by decide, by decide⟩ (OB.recv E.2.2.2.2.2 (by rfl) ((hk.cv hK hcv).1)) (⟨hk.cv hK hcv, (hk.cv hK hcv).2.2 2 (by decide), hM, v_X2⟩) hF hl.1 rfl (Nat.le_of_ble_eq_true rfl) d_Curve_twice_85 ⟨by decide, by decide⟩ (qv (fun H5 locs hq hF => ?_))
  obtain ⟨hq, hv9⟩ := hq
  have v_a1 := v_a1.off hq (fun h => h.elim ((hXa 2 (by decide)).1) (fun h => ((hXa 6 (by decide)).1) h))
  have v_a2 := v_a2.off hq (fun h => h.elim ((hXa 2 (by decide)).2.1) (fun h => ((hXa 6 (by decide)).2.1) h))
  have v_a3 := v_a3.off hq (fun h => h.elim ((hXa 2 (by decide)).2.2) (fun h => ((hXa 6 (by decide)).2.2) h))
  have v_X1 := v_X1.off hq (fun h => h.elim (hXA.1 1 2 (by decide) (by decide) (by decide)) (fun h => (hXA.1 1 6 (by decide) (by decide) (by decide)) h))
  have v_X3 := v_X3.off hq (fun h => h.elim (hXA.1 3 2 (by decide) (by decide) (by decide)) (fun h => (hXA.1 3 6 (by decide) (by decide) (by decide)) h))
  have v_X4 := v_X4.off hq (fun h => h.elim (hXA.1 4 2 (by decide) (by decide) (by decide)) (fun h => (hXA.1 4 6 (by decide) (by decide) (by decide)) h))
  have hM := hq.ajo (fun h => h.elim (hXA.2.1 2 (by decide)) (fun h => (hXA.2.1 6 (by decide)) h)) hM
  have hk := hk.tr (hq.mono (fun q h => h.elim (fun h => Or.inl ⟨2, by decide, h⟩) (fun h => Or.inl ⟨6, by decide, h⟩)))
  have v_X2 : LW g H5 (X 2) (12 * (P.2.2 * P.2.2)) := hv9
  refine lv_aload_n hx hb d_Curve_twice_88 rfl (lv_at hl 0 rfl) ?_
  refine q_get (C := "KateDesk$Curve") (T := T_Curve) (N := 10) (ci := 0) E ((hk.cv hK hcv).1) in_Curve rfl 0 (by decide) w_205 rfl rfl d_Curve_twice_89 ?_
  refine lv_aload_n hx hb d_Curve_twice_92 rfl (lv_at hl 0 rfl) ?_
  refine q_get (C := "KateDesk$Curve") (T := T_Curve) (N := 10) (ci := 0) E ((hk.cv hK hcv).1) in_Curve rfl 8 (by decide) w_213 rfl rfl d_Curve_twice_93 ?_
  refine lv_aload_n hx hb d_Curve_twice_96 rfl (lv_at hl 0 rfl) ?_
  refine q_get (C := "KateDesk$Curve") (T := T_Curve) (N := 10) (ci := 0) E ((hk.cv hK hcv).1) in_Curve rfl 2 (by decide) w_207 rfl rfl d_Curve_twice_97 ?_
  refine lv_aload_n hx hb d_Curve_twice_100 rfl (lv_at hl 0 rfl) ?_
  refine q_get (C := "KateDesk$Curve") (T := T_Curve) (N := 10) (ci := 0) E ((hk.cv hK hcv).1) in_Curve rfl 3 (by decide) w_208 rfl rfl d_Curve_twice_101 ?_
  obtain ⟨fa5, ha5, va5⟩ := id v_X1
  obtain ⟨fb5, hb5, vb5⟩ := id v_X2
  refine q_cV (rest := []) E (V_Field_add l g n0 fo (X 7) (X 1) (X 2) F mi fa5 fb5 kQ ((P.2.1 * P.2.1) * WQ % QJ) ((12 * (P.2.2 * P.2.2)) * WQ % QJ) QJ va5 vb5 kQ_rv (qm_r _).2 (qm_r _).2 (hXA.2.1 7 (by decide)) QJ_2) w_157 w_4 w_653 w_155 w_156 hd_Field_add rfl ⟨by decide, by decide⟩ (OB.recv E.2.2.2.2.2 (by rfl) ((hk.cv hK hcv).2.1.1)) (⟨(hk.cv hK hcv).2.1, (hk.cv hK hcv).2.2 7 (by decide), ha5, hb5, hM⟩) hF hl.1 rfl (Nat.le_of_ble_eq_true rfl) d_Curve_twice_104 ⟨by decide, by decide⟩ (qv (fun H6 locs hq hF => ?_))
  obtain ⟨hq, f9, hf9, hv9⟩ := hq
  rw [lw_ad] at hv9
  have v_a1 := v_a1.off hq ((hXa 7 (by decide)).1)
  have v_a2 := v_a2.off hq ((hXa 7 (by decide)).2.1)
  have v_a3 := v_a3.off hq ((hXa 7 (by decide)).2.2)
  have v_X1 := v_X1.off hq (hXA.1 1 7 (by decide) (by decide) (by decide))
  have v_X2 := v_X2.off hq (hXA.1 2 7 (by decide) (by decide) (by decide))
  have v_X3 := v_X3.off hq (hXA.1 3 7 (by decide) (by decide) (by decide))
  have v_X4 := v_X4.off hq (hXA.1 4 7 (by decide) (by decide) (by decide))
  have hM := hq.ajo (hXA.2.1 7 (by decide)) hM
  have hk := hk.tr (hq.mono (fun q h => Or.inl ⟨7, by decide, h⟩))
  have v_X7 : LW g H6 (X 7) ((P.2.1 * P.2.1) + (12 * (P.2.2 * P.2.2))) := ⟨f9, hf9, hv9⟩
  refine lv_aload_n hx hb d_Curve_twice_107 rfl (lv_at hl 0 rfl) ?_
  refine q_get (C := "KateDesk$Curve") (T := T_Curve) (N := 10) (ci := 0) E ((hk.cv hK hcv).1) in_Curve rfl 0 (by decide) w_205 rfl rfl d_Curve_twice_108 ?_
  refine lv_aload_n hx hb d_Curve_twice_111 rfl (lv_at hl 0 rfl) ?_
  refine q_get (C := "KateDesk$Curve") (T := T_Curve) (N := 10) (ci := 0) E ((hk.cv hK hcv).1) in_Curve rfl 7 (by decide) w_212 rfl rfl d_Curve_twice_112 ?_
  refine lv_aload_n hx hb d_Curve_twice_115 rfl (lv_at hl 0 rfl) ?_
  refine q_get (C := "KateDesk$Curve") (T := T_Curve) (N := 10) (ci := 0) E ((hk.cv hK hcv).1) in_Curve rfl 3 (by decide) w_208 rfl rfl d_Curve_twice_116 ?_
  refine lv_aload_n hx hb d_Curve_twice_119 rfl (lv_at hl 0 rfl) ?_
  refine q_get (C := "KateDesk$Curve") (T := T_Curve) (N := 10) (ci := 0) E ((hk.cv hK hcv).1) in_Curve rfl 3 (by decide) w_208 rfl rfl d_Curve_twice_120 ?_
  obtain ⟨fa6, ha6, va6⟩ := id v_X2
  obtain ⟨fb6, hb6, vb6⟩ := id v_X2
  refine q_cV (rest := []) E (V_Field_add l g n0 fo (X 6) (X 2) (X 2) F mi fa6 fb6 kQ ((12 * (P.2.2 * P.2.2)) * WQ % QJ) ((12 * (P.2.2 * P.2.2)) * WQ % QJ) QJ va6 vb6 kQ_rv (qm_r _).2 (qm_r _).2 (hXA.2.1 6 (by decide)) QJ_2) w_157 w_4 w_653 w_155 w_156 hd_Field_add rfl ⟨by decide, by decide⟩ (OB.recv E.2.2.2.2.2 (by rfl) ((hk.cv hK hcv).2.1.1)) (⟨(hk.cv hK hcv).2.1, (hk.cv hK hcv).2.2 6 (by decide), ha6, hb6, hM⟩) hF hl.1 rfl (Nat.le_of_ble_eq_true rfl) d_Curve_twice_123 ⟨by decide, by decide⟩ (qv (fun H7 locs hq hF => ?_))
  obtain ⟨hq, f9, hf9, hv9⟩ := hq
  rw [lw_ad] at hv9
  have v_a1 := v_a1.off hq ((hXa 6 (by decide)).1)
  have v_a2 := v_a2.off hq ((hXa 6 (by decide)).2.1)
  have v_a3 := v_a3.off hq ((hXa 6 (by decide)).2.2)
  have v_X1 := v_X1.off hq (hXA.1 1 6 (by decide) (by decide) (by decide))
  have v_X2 := v_X2.off hq (hXA.1 2 6 (by decide) (by decide) (by decide))
  have v_X3 := v_X3.off hq (hXA.1 3 6 (by decide) (by decide) (by decide))
  have v_X4 := v_X4.off hq (hXA.1 4 6 (by decide) (by decide) (by decide))
  have v_X7 := v_X7.off hq (hXA.1 7 6 (by decide) (by decide) (by decide))
  have hM := hq.ajo (hXA.2.1 6 (by decide)) hM
  have hk := hk.tr (hq.mono (fun q h => Or.inl ⟨6, by decide, h⟩))
  have v_X6 : LW g H7 (X 6) ((12 * (P.2.2 * P.2.2)) + (12 * (P.2.2 * P.2.2))) := ⟨f9, hf9, hv9⟩
  refine lv_aload_n hx hb d_Curve_twice_126 rfl (lv_at hl 0 rfl) ?_
  refine q_get (C := "KateDesk$Curve") (T := T_Curve) (N := 10) (ci := 0) E ((hk.cv hK hcv).1) in_Curve rfl 0 (by decide) w_205 rfl rfl d_Curve_twice_127 ?_
  refine lv_aload_n hx hb d_Curve_twice_130 rfl (lv_at hl 0 rfl) ?_
  refine q_get (C := "KateDesk$Curve") (T := T_Curve) (N := 10) (ci := 0) E ((hk.cv hK hcv).1) in_Curve rfl 7 (by decide) w_212 rfl rfl d_Curve_twice_131 ?_
  refine lv_aload_n hx hb d_Curve_twice_134 rfl (lv_at hl 0 rfl) ?_
  refine q_get (C := "KateDesk$Curve") (T := T_Curve) (N := 10) (ci := 0) E ((hk.cv hK hcv).1) in_Curve rfl 7 (by decide) w_212 rfl rfl d_Curve_twice_135 ?_
  refine lv_aload_n hx hb d_Curve_twice_138 rfl (lv_at hl 0 rfl) ?_
  refine q_get (C := "KateDesk$Curve") (T := T_Curve) (N := 10) (ci := 0) E ((hk.cv hK hcv).1) in_Curve rfl 3 (by decide) w_208 rfl rfl d_Curve_twice_139 ?_
  obtain ⟨fa7, ha7, va7⟩ := id v_X6
  obtain ⟨fb7, hb7, vb7⟩ := id v_X2
  refine q_cV (rest := []) E (V_Field_add l g n0 fo (X 6) (X 6) (X 2) F mi fa7 fb7 kQ (((12 * (P.2.2 * P.2.2)) + (12 * (P.2.2 * P.2.2))) * WQ % QJ) ((12 * (P.2.2 * P.2.2)) * WQ % QJ) QJ va7 vb7 kQ_rv (qm_r _).2 (qm_r _).2 (hXA.2.1 6 (by decide)) QJ_2) w_157 w_4 w_653 w_155 w_156 hd_Field_add rfl ⟨by decide, by decide⟩ (OB.recv E.2.2.2.2.2 (by rfl) ((hk.cv hK hcv).2.1.1)) (⟨(hk.cv hK hcv).2.1, (hk.cv hK hcv).2.2 6 (by decide), ha7, hb7, hM⟩) hF hl.1 rfl (Nat.le_of_ble_eq_true rfl) d_Curve_twice_142 ⟨by decide, by decide⟩ (qv (fun H8 locs hq hF => ?_))
  obtain ⟨hq, f9, hf9, hv9⟩ := hq
  rw [lw_ad] at hv9
  have v_a1 := v_a1.off hq ((hXa 6 (by decide)).1)
  have v_a2 := v_a2.off hq ((hXa 6 (by decide)).2.1)
  have v_a3 := v_a3.off hq ((hXa 6 (by decide)).2.2)
  have v_X1 := v_X1.off hq (hXA.1 1 6 (by decide) (by decide) (by decide))
  have v_X2 := v_X2.off hq (hXA.1 2 6 (by decide) (by decide) (by decide))
  have v_X3 := v_X3.off hq (hXA.1 3 6 (by decide) (by decide) (by decide))
  have v_X4 := v_X4.off hq (hXA.1 4 6 (by decide) (by decide) (by decide))
  have v_X7 := v_X7.off hq (hXA.1 7 6 (by decide) (by decide) (by decide))
  have hM := hq.ajo (hXA.2.1 6 (by decide)) hM
  have hk := hk.tr (hq.mono (fun q h => Or.inl ⟨6, by decide, h⟩))
  have v_X6 : LW g H8 (X 6) (((12 * (P.2.2 * P.2.2)) + (12 * (P.2.2 * P.2.2))) + (12 * (P.2.2 * P.2.2))) := ⟨f9, hf9, hv9⟩
  refine lv_aload_n hx hb d_Curve_twice_145 rfl (lv_at hl 0 rfl) ?_
  refine q_get (C := "KateDesk$Curve") (T := T_Curve) (N := 10) (ci := 0) E ((hk.cv hK hcv).1) in_Curve rfl 0 (by decide) w_205 rfl rfl d_Curve_twice_146 ?_
  refine lv_aload_n hx hb d_Curve_twice_149 rfl (lv_at hl 0 rfl) ?_
  refine q_get (C := "KateDesk$Curve") (T := T_Curve) (N := 10) (ci := 0) E ((hk.cv hK hcv).1) in_Curve rfl 7 (by decide) w_212 rfl rfl d_Curve_twice_150 ?_
  refine lv_aload_n hx hb d_Curve_twice_153 rfl (lv_at hl 0 rfl) ?_
  refine q_get (C := "KateDesk$Curve") (T := T_Curve) (N := 10) (ci := 0) E ((hk.cv hK hcv).1) in_Curve rfl 2 (by decide) w_207 rfl rfl d_Curve_twice_154 ?_
  refine lv_aload_n hx hb d_Curve_twice_157 rfl (lv_at hl 0 rfl) ?_
  refine q_get (C := "KateDesk$Curve") (T := T_Curve) (N := 10) (ci := 0) E ((hk.cv hK hcv).1) in_Curve rfl 7 (by decide) w_212 rfl rfl d_Curve_twice_158 ?_
  obtain ⟨fa8, ha8, va8⟩ := id v_X1
  obtain ⟨fb8, hb8, vb8⟩ := id v_X6
  refine q_cV (rest := []) E (V_Field_subtract l g n0 fo (X 6) (X 1) (X 6) F mi fa8 fb8 kQ ((P.2.1 * P.2.1) * WQ % QJ) ((((12 * (P.2.2 * P.2.2)) + (12 * (P.2.2 * P.2.2))) + (12 * (P.2.2 * P.2.2))) * WQ % QJ) QJ va8 vb8 kQ_rv (qm_r _).2 (qm_r _).2 (hXA.2.1 6 (by decide))) w_169 w_4 w_707 w_167 w_168 hd_Field_subtract rfl ⟨by decide, by decide⟩ (OB.recv E.2.2.2.2.2 (by rfl) ((hk.cv hK hcv).2.1.1)) (⟨(hk.cv hK hcv).2.1, (hk.cv hK hcv).2.2 6 (by decide), ha8, hb8, hM⟩) hF hl.1 rfl (Nat.le_of_ble_eq_true rfl) d_Curve_twice_161 ⟨by decide, by decide⟩ (qv (fun H9 locs hq hF => ?_))
  obtain ⟨hq, f9, hf9, hv9⟩ := hq
  rw [lw_sb] at hv9
  have v_a1 := v_a1.off hq ((hXa 6 (by decide)).1)
  have v_a2 := v_a2.off hq ((hXa 6 (by decide)).2.1)
  have v_a3 := v_a3.off hq ((hXa 6 (by decide)).2.2)
  have v_X1 := v_X1.off hq (hXA.1 1 6 (by decide) (by decide) (by decide))
  have v_X2 := v_X2.off hq (hXA.1 2 6 (by decide) (by decide) (by decide))
  have v_X3 := v_X3.off hq (hXA.1 3 6 (by decide) (by decide) (by decide))
  have v_X4 := v_X4.off hq (hXA.1 4 6 (by decide) (by decide) (by decide))
  have v_X7 := v_X7.off hq (hXA.1 7 6 (by decide) (by decide) (by decide))
  have hM := hq.ajo (hXA.2.1 6 (by decide)) hM
  have hk := hk.tr (hq.mono (fun q h => Or.inl ⟨6, by decide, h⟩))
  have v_X6 : LW g H9 (X 6) ((P.2.1 * P.2.1) - (((12 * (P.2.2 * P.2.2)) + (12 * (P.2.2 * P.2.2))) + (12 * (P.2.2 * P.2.2)))) := ⟨f9, hf9, hv9⟩
  refine lv_aload_n hx hb d_Curve_twice_164 rfl (lv_at hl 0 rfl) ?_
  refine q_get (C := "KateDesk$Curve") (T := T_Curve) (N := 10) (ci := 0) E ((hk.cv hK hcv).1) in_Curve rfl 0 (by decide) w_205 rfl rfl d_Curve_twice_165 ?_
  refine lv_aload_n hx hb d_Curve_twice_168 rfl (lv_at hl 0 rfl) ?_
  refine q_get (C := "KateDesk$Curve") (T := T_Curve) (N := 10) (ci := 0) E ((hk.cv hK hcv).1) in_Curve rfl 2 (by decide) w_207 rfl rfl d_Curve_twice_169 ?_
  refine lv_aload_n hx hb d_Curve_twice_172 rfl (lv_at hl 0 rfl) ?_
  refine q_get (C := "KateDesk$Curve") (T := T_Curve) (N := 10) (ci := 0) E ((hk.cv hK hcv).1) in_Curve rfl 2 (by decide) w_207 rfl rfl d_Curve_twice_173 ?_
  refine lv_aload_n hx hb d_Curve_twice_176 rfl (lv_at hl 0 rfl) ?_
  refine q_get (C := "KateDesk$Curve") (T := T_Curve) (N := 10) (ci := 0) E ((hk.cv hK hcv).1) in_Curve rfl 2 (by decide) w_207 rfl rfl d_Curve_twice_177 ?_
  obtain ⟨fa9, ha9, va9⟩ := id v_X1
  obtain ⟨fb9, hb9, vb9⟩ := id v_X1
  refine q_cV (rest := []) E (V_Field_add l g n0 fo (X 1) (X 1) (X 1) F mi fa9 fb9 kQ ((P.2.1 * P.2.1) * WQ % QJ) ((P.2.1 * P.2.1) * WQ % QJ) QJ va9 vb9 kQ_rv (qm_r _).2 (qm_r _).2 (hXA.2.1 1 (by decide)) QJ_2) w_157 w_4 w_653 w_155 w_156 hd_Field_add rfl ⟨by decide, by decide⟩ (OB.recv E.2.2.2.2.2 (by rfl) ((hk.cv hK hcv).2.1.1)) (⟨(hk.cv hK hcv).2.1, (hk.cv hK hcv).2.2 1 (by decide), ha9, hb9, hM⟩) hF hl.1 rfl (Nat.le_of_ble_eq_true rfl) d_Curve_twice_180 ⟨by decide, by decide⟩ (qv (fun H10 locs hq hF => ?_))
  obtain ⟨hq, f9, hf9, hv9⟩ := hq
  rw [lw_ad] at hv9
  have v_a1 := v_a1.off hq ((hXa 1 (by decide)).1)
  have v_a2 := v_a2.off hq ((hXa 1 (by decide)).2.1)
  have v_a3 := v_a3.off hq ((hXa 1 (by decide)).2.2)
  have v_X2 := v_X2.off hq (hXA.1 2 1 (by decide) (by decide) (by decide))
  have v_X3 := v_X3.off hq (hXA.1 3 1 (by decide) (by decide) (by decide))
  have v_X4 := v_X4.off hq (hXA.1 4 1 (by decide) (by decide) (by decide))
  have v_X7 := v_X7.off hq (hXA.1 7 1 (by decide) (by decide) (by decide))
  have v_X6 := v_X6.off hq (hXA.1 6 1 (by decide) (by decide) (by decide))
  have hM := hq.ajo (hXA.2.1 1 (by decide)) hM
  have hk := hk.tr (hq.mono (fun q h => Or.inl ⟨1, by decide, h⟩))
  have v_X1 : LW g H10 (X 1) ((P.2.1 * P.2.1) + (P.2.1 * P.2.1)) := ⟨f9, hf9, hv9⟩
  refine lv_aload_n hx hb d_Curve_twice_183 rfl (lv_at hl 0 rfl) ?_
  refine q_get (C := "KateDesk$Curve") (T := T_Curve) (N := 10) (ci := 0) E ((hk.cv hK hcv).1) in_Curve rfl 0 (by decide) w_205 rfl rfl d_Curve_twice_184 ?_
  refine lv_aload_n hx hb d_Curve_twice_187 rfl (lv_at hl 0 rfl) ?_
  refine q_get (C := "KateDesk$Curve") (T := T_Curve) (N := 10) (ci := 0) E ((hk.cv hK hcv).1) in_Curve rfl 2 (by decide) w_207 rfl rfl d_Curve_twice_188 ?_
  refine lv_aload_n hx hb d_Curve_twice_191 rfl (lv_at hl 0 rfl) ?_
  refine q_get (C := "KateDesk$Curve") (T := T_Curve) (N := 10) (ci := 0) E ((hk.cv hK hcv).1) in_Curve rfl 2 (by decide) w_207 rfl rfl d_Curve_twice_192 ?_
  refine lv_aload_n hx hb d_Curve_twice_195 rfl (lv_at hl 0 rfl) ?_
  refine q_get (C := "KateDesk$Curve") (T := T_Curve) (N := 10) (ci := 0) E ((hk.cv hK hcv).1) in_Curve rfl 2 (by decide) w_207 rfl rfl d_Curve_twice_196 ?_
  obtain ⟨fa10, ha10, va10⟩ := id v_X1
  obtain ⟨fb10, hb10, vb10⟩ := id v_X1
  refine q_cV (rest := []) E (V_Field_add l g n0 fo (X 1) (X 1) (X 1) F mi fa10 fb10 kQ (((P.2.1 * P.2.1) + (P.2.1 * P.2.1)) * WQ % QJ) (((P.2.1 * P.2.1) + (P.2.1 * P.2.1)) * WQ % QJ) QJ va10 vb10 kQ_rv (qm_r _).2 (qm_r _).2 (hXA.2.1 1 (by decide)) QJ_2) w_157 w_4 w_653 w_155 w_156 hd_Field_add rfl ⟨by decide, by decide⟩ (OB.recv E.2.2.2.2.2 (by rfl) ((hk.cv hK hcv).2.1.1)) (⟨(hk.cv hK hcv).2.1, (hk.cv hK hcv).2.2 1 (by decide), ha10, hb10, hM⟩) hF hl.1 rfl (Nat.le_of_ble_eq_true rfl) d_Curve_twice_199 ⟨by decide, by decide⟩ (qv (fun H11 locs hq hF => ?_))
  obtain ⟨hq, f9, hf9, hv9⟩ := hq
  rw [lw_ad] at hv9
  have v_a1 := v_a1.off hq ((hXa 1 (by decide)).1)
  have v_a2 := v_a2.off hq ((hXa 1 (by decide)).2.1)
  have v_a3 := v_a3.off hq ((hXa 1 (by decide)).2.2)
  have v_X2 := v_X2.off hq (hXA.1 2 1 (by decide) (by decide) (by decide))
  have v_X3 := v_X3.off hq (hXA.1 3 1 (by decide) (by decide) (by decide))
  have v_X4 := v_X4.off hq (hXA.1 4 1 (by decide) (by decide) (by decide))
  have v_X7 := v_X7.off hq (hXA.1 7 1 (by decide) (by decide) (by decide))
  have v_X6 := v_X6.off hq (hXA.1 6 1 (by decide) (by decide) (by decide))
  have hM := hq.ajo (hXA.2.1 1 (by decide)) hM
  have hk := hk.tr (hq.mono (fun q h => Or.inl ⟨1, by decide, h⟩))
  have v_X1 : LW g H11 (X 1) (((P.2.1 * P.2.1) + (P.2.1 * P.2.1)) + ((P.2.1 * P.2.1) + (P.2.1 * P.2.1))) := ⟨f9, hf9, hv9⟩
  refine lv_aload_n hx hb d_Curve_twice_202 rfl (lv_at hl 0 rfl) ?_
  refine q_get (C := "KateDesk$Curve") (T := T_Curve) (N := 10) (ci := 0) E ((hk.cv hK hcv).1) in_Curve rfl 0 (by decide) w_205 rfl rfl d_Curve_twice_203 ?_
  refine lv_aload_n hx hb d_Curve_twice_206 rfl (lv_at hl 0 rfl) ?_
  refine q_get (C := "KateDesk$Curve") (T := T_Curve) (N := 10) (ci := 0) E ((hk.cv hK hcv).1) in_Curve rfl 2 (by decide) w_207 rfl rfl d_Curve_twice_207 ?_
  refine lv_aload_n hx hb d_Curve_twice_210 rfl (lv_at hl 0 rfl) ?_
  refine q_get (C := "KateDesk$Curve") (T := T_Curve) (N := 10) (ci := 0) E ((hk.cv hK hcv).1) in_Curve rfl 2 (by decide) w_207 rfl rfl d_Curve_twice_211 ?_
  refine lv_aload_n hx hb d_Curve_twice_214 rfl (lv_at hl 0 rfl) ?_
  refine q_get (C := "KateDesk$Curve") (T := T_Curve) (N := 10) (ci := 0) E ((hk.cv hK hcv).1) in_Curve rfl 2 (by decide) w_207 rfl rfl d_Curve_twice_215 ?_
  obtain ⟨fa11, ha11, va11⟩ := id v_X1
  obtain ⟨fb11, hb11, vb11⟩ := id v_X1
  refine q_cV (rest := []) E (V_Field_add l g n0 fo (X 1) (X 1) (X 1) F mi fa11 fb11 kQ ((((P.2.1 * P.2.1) + (P.2.1 * P.2.1)) + ((P.2.1 * P.2.1) + (P.2.1 * P.2.1))) * WQ % QJ) ((((P.2.1 * P.2.1) + (P.2.1 * P.2.1)) + ((P.2.1 * P.2.1) + (P.2.1 * P.2.1))) * WQ % QJ) QJ va11 vb11 kQ_rv (qm_r _).2 (qm_r _).2 (hXA.2.1 1 (by decide)) QJ_2) w_157 w_4 w_653 w_155 w_156 hd_Field_add rfl ⟨by decide, by decide⟩ (OB.recv E.2.2.2.2.2 (by rfl) ((hk.cv hK hcv).2.1.1)) (⟨(hk.cv hK hcv).2.1, (hk.cv hK hcv).2.2 1 (by decide), ha11, hb11, hM⟩) hF hl.1 rfl (Nat.le_of_ble_eq_true rfl) d_Curve_twice_218 ⟨by decide, by decide⟩ (qv (fun H12 locs hq hF => ?_))
  obtain ⟨hq, f9, hf9, hv9⟩ := hq
  rw [lw_ad] at hv9
  have v_a1 := v_a1.off hq ((hXa 1 (by decide)).1)
  have v_a2 := v_a2.off hq ((hXa 1 (by decide)).2.1)
  have v_a3 := v_a3.off hq ((hXa 1 (by decide)).2.2)
  have v_X2 := v_X2.off hq (hXA.1 2 1 (by decide) (by decide) (by decide))
  have v_X3 := v_X3.off hq (hXA.1 3 1 (by decide) (by decide) (by decide))
  have v_X4 := v_X4.off hq (hXA.1 4 1 (by decide) (by decide) (by decide))
  have v_X7 := v_X7.off hq (hXA.1 7 1 (by decide) (by decide) (by decide))
  have v_X6 := v_X6.off hq (hXA.1 6 1 (by decide) (by decide) (by decide))
  have hM := hq.ajo (hXA.2.1 1 (by decide)) hM
  have hk := hk.tr (hq.mono (fun q h => Or.inl ⟨1, by decide, h⟩))
  have v_X1 : LW g H12 (X 1) ((((P.2.1 * P.2.1) + (P.2.1 * P.2.1)) + ((P.2.1 * P.2.1) + (P.2.1 * P.2.1))) + (((P.2.1 * P.2.1) + (P.2.1 * P.2.1)) + ((P.2.1 * P.2.1) + (P.2.1 * P.2.1)))) := ⟨f9, hf9, hv9⟩
  refine lv_aload_n hx hb d_Curve_twice_221 rfl (lv_at hl 0 rfl) ?_
  refine q_get (C := "KateDesk$Curve") (T := T_Curve) (N := 10) (ci := 0) E ((hk.cv hK hcv).1) in_Curve rfl 0 (by decide) w_205 rfl rfl d_Curve_twice_222 ?_
  refine lv_aload_n hx hb d_Curve_twice_225 rfl (lv_at hl 1 rfl) ?_
  refine q_get (C := "KateDesk$Point") (T := T_Point) (N := 3) (ci := 2) E ((hk.pt hK h_t).1) in_Point rfl 2 (by decide) w_54 rfl rfl d_Curve_twice_226 ?_
  refine lv_aload_n hx hb d_Curve_twice_229 rfl (lv_at hl 0 rfl) ?_
  refine q_get (C := "KateDesk$Curve") (T := T_Curve) (N := 10) (ci := 0) E ((hk.cv hK hcv).1) in_Curve rfl 2 (by decide) w_207 rfl rfl d_Curve_twice_230 ?_
  refine lv_aload_n hx hb d_Curve_twice_233 rfl (lv_at hl 0 rfl) ?_
  refine q_get (C := "KateDesk$Curve") (T := T_Curve) (N := 10) (ci := 0) E ((hk.cv hK hcv).1) in_Curve rfl 5 (by decide) w_210 rfl rfl d_Curve_twice_234 ?_
  obtain ⟨fa12, ha12, va12⟩ := id v_X1
  obtain ⟨fb12, hb12, vb12⟩ := id v_X4
  refine q_cV (rest := []) E (Q_Field_multiply l g n0 fo t3 (X 1) (X 4) F mi fa12 fb12 (((((P.2.1 * P.2.1) + (P.2.1 * P.2.1)) + ((P.2.1 * P.2.1) + (P.2.1 * P.2.1))) + (((P.2.1 * P.2.1) + (P.2.1 * P.2.1)) + ((P.2.1 * P.2.1) + (P.2.1 * P.2.1)))) * WQ % QJ) ((P.2.1 * P.2.2) * WQ % QJ) va12 vb12 (qm_r _).2 (qm_r _).2 (htF.2.2) hmi) w_165 w_4 w_652 w_163 w_164 hd_Field_multiply rfl ⟨by decide, by decide⟩ (OB.recv E.2.2.2.2.2 (by rfl) ((hk.cv hK hcv).2.1.1)) (⟨(hk.cv hK hcv).2.1, (hk.pt hK h_t).2.2.2, ha12, hb12, hM⟩) hF hl.1 rfl (Nat.le_of_ble_eq_true rfl) d_Curve_twice_237 ⟨by decide, by decide⟩ (qv (fun H13 locs hq hF => ?_))
  obtain ⟨hq, f9, hf9, hv9⟩ := hq
  rw [lw_mu] at hv9
  have v_X1 := v_X1.off hq ((htX 1 (by decide)).2.2)
  have v_X2 := v_X2.off hq ((htX 2 (by decide)).2.2)
  have v_X3 := v_X3.off hq ((htX 3 (by decide)).2.2)
  have v_X4 := v_X4.off hq ((htX 4 (by decide)).2.2)
  have v_X7 := v_X7.off hq ((htX 7 (by decide)).2.2)
  have v_X6 := v_X6.off hq ((htX 6 (by decide)).2.2)
  have hM := hq.ajo (htF.2.2) hM
  have hk := hk.tr (hq.mono (fun q h => Or.inr (Or.inr (Or.inr (Or.inr h)))))
  have v_t3 : LW g H13 t3 (((((P.2.1 * P.2.1) + (P.2.1 * P.2.1)) + ((P.2.1 * P.2.1) + (P.2.1 * P.2.1))) + (((P.2.1 * P.2.1) + (P.2.1 * P.2.1)) + ((P.2.1 * P.2.1) + (P.2.1 * P.2.1)))) * (P.2.1 * P.2.2)) := ⟨f9, hf9, hv9⟩
  refine lv_aload_n hx hb d_Curve_twice_240 rfl (lv_at hl 0 rfl) ?_
  refine q_get (C := "KateDesk$Curve") (T := T_Curve) (N := 10) (ci := 0) E ((hk.cv hK hcv).1) in_Curve rfl 0 (by decide) w_205 rfl rfl d_Curve_twice_241 ?_
  refine lv_aload_n hx hb d_Curve_twice_244 rfl (lv_at hl 0 rfl) ?_
  refine q_get (C := "KateDesk$Curve") (T := T_Curve) (N := 10) (ci := 0) E ((hk.cv hK hcv).1) in_Curve rfl 2 (by decide) w_207 rfl rfl d_Curve_twice_245 ?_
  refine lv_aload_n hx hb d_Curve_twice_248 rfl (lv_at hl 0 rfl) ?_
  refine q_get (C := "KateDesk$Curve") (T := T_Curve) (N := 10) (ci := 0) E ((hk.cv hK hcv).1) in_Curve rfl 2 (by decide) w_207 rfl rfl d_Curve_twice_249 ?_
  refine lv_aload_n hx hb d_Curve_twice_252 rfl (lv_at hl 0 rfl) ?_
  refine q_get (C := "KateDesk$Curve") (T := T_Curve) (N := 10) (ci := 0) E ((hk.cv hK hcv).1) in_Curve rfl 3 (by decide) w_208 rfl rfl d_Curve_twice_253 ?_
  obtain ⟨fa13, ha13, va13⟩ := id v_X1
  obtain ⟨fb13, hb13, vb13⟩ := id v_X2
  refine q_cV (rest := []) E (Q_Field_multiply l g n0 fo (X 1) (X 1) (X 2) F mi fa13 fb13 (((((P.2.1 * P.2.1) + (P.2.1 * P.2.1)) + ((P.2.1 * P.2.1) + (P.2.1 * P.2.1))) + (((P.2.1 * P.2.1) + (P.2.1 * P.2.1)) + ((P.2.1 * P.2.1) + (P.2.1 * P.2.1)))) * WQ % QJ) ((12 * (P.2.2 * P.2.2)) * WQ % QJ) va13 vb13 (qm_r _).2 (qm_r _).2 (hXA.2.1 1 (by decide)) hmi) w_165 w_4 w_652 w_163 w_164 hd_Field_multiply rfl ⟨by decide, by decide⟩ (OB.recv E.2.2.2.2.2 (by rfl) ((hk.cv hK hcv).2.1.1)) (⟨(hk.cv hK hcv).2.1, (hk.cv hK hcv).2.2 1 (by decide), ha13, hb13, hM⟩) hF hl.1 rfl (Nat.le_of_ble_eq_true rfl) d_Curve_twice_256 ⟨by decide, by decide⟩ (qv (fun H14 locs hq hF => ?_))
  obtain ⟨hq, f9, hf9, hv9⟩ := hq
  rw [lw_mu] at hv9
  have v_X2 := v_X2.off hq (hXA.1 2 1 (by decide) (by decide) (by decide))
  have v_X3 := v_X3.off hq (hXA.1 3 1 (by decide) (by decide) (by decide))
  have v_X4 := v_X4.off hq (hXA.1 4 1 (by decide) (by decide) (by decide))
  have v_X7 := v_X7.off hq (hXA.1 7 1 (by decide) (by decide) (by decide))
  have v_X6 := v_X6.off hq (hXA.1 6 1 (by decide) (by decide) (by decide))
  have v_t3 := v_t3.off hq ((htX 1 (by decide)).2.2.symm)
  have hM := hq.ajo (hXA.2.1 1 (by decide)) hM
  have hk := hk.tr (hq.mono (fun q h => Or.inl ⟨1, by decide, h⟩))
  have v_X1 : LW g H14 (X 1) (((((P.2.1 * P.2.1) + (P.2.1 * P.2.1)) + ((P.2.1 * P.2.1) + (P.2.1 * P.2.1))) + (((P.2.1 * P.2.1) + (P.2.1 * P.2.1)) + ((P.2.1 * P.2.1) + (P.2.1 * P.2.1)))) * (12 * (P.2.2 * P.2.2))) := ⟨f9, hf9, hv9⟩
  refine lv_aload_n hx hb d_Curve_twice_259 rfl (lv_at hl 0 rfl) ?_
  refine q_get (C := "KateDesk$Curve") (T := T_Curve) (N := 10) (ci := 0) E ((hk.cv hK hcv).1) in_Curve rfl 0 (by decide) w_205 rfl rfl d_Curve_twice_260 ?_
  refine lv_aload_n hx hb d_Curve_twice_263 rfl (lv_at hl 0 rfl) ?_
  refine q_get (C := "KateDesk$Curve") (T := T_Curve) (N := 10) (ci := 0) E ((hk.cv hK hcv).1) in_Curve rfl 8 (by decide) w_213 rfl rfl d_Curve_twice_264 ?_
  refine lv_aload_n hx hb d_Curve_twice_267 rfl (lv_at hl 0 rfl) ?_
  refine q_get (C := "KateDesk$Curve") (T := T_Curve) (N := 10) (ci := 0) E ((hk.cv hK hcv).1) in_Curve rfl 7 (by decide) w_212 rfl rfl d_Curve_twice_268 ?_
  refine lv_aload_n hx hb d_Curve_twice_271 rfl (lv_at hl 0 rfl) ?_
  refine q_get (C := "KateDesk$Curve") (T := T_Curve) (N := 10) (ci := 0) E ((hk.cv hK hcv).1) in_Curve rfl 8 (by decide) w_213 rfl rfl d_Curve_twice_272 ?_
  obtain ⟨fa14, ha14, va14⟩ := id v_X6
  obtain ⟨fb14, hb14, vb14⟩ := id v_X7
  refine q_cV (rest := []) E (Q_Field_multiply l g n0 fo (X 7) (X 6) (X 7) F mi fa14 fb14 (((P.2.1 * P.2.1) - (((12 * (P.2.2 * P.2.2)) + (12 * (P.2.2 * P.2.2))) + (12 * (P.2.2 * P.2.2)))) * WQ % QJ) (((P.2.1 * P.2.1) + (12 * (P.2.2 * P.2.2))) * WQ % QJ) va14 vb14 (qm_r _).2 (qm_r _).2 (hXA.2.1 7 (by decide)) hmi) w_165 w_4 w_652 w_163 w_164 hd_Field_multiply rfl ⟨by decide, by decide⟩ (OB.recv E.2.2.2.2.2 (by rfl) ((hk.cv hK hcv).2.1.1)) (⟨(hk.cv hK hcv).2.1, (hk.cv hK hcv).2.2 7 (by decide), ha14, hb14, hM⟩) hF hl.1 rfl (Nat.le_of_ble_eq_true rfl) d_Curve_twice_275 ⟨by decide, by decide⟩ (qv (fun H15 locs hq hF => ?_))
  obtain ⟨hq, f9, hf9, hv9⟩ := hq
  rw [lw_mu] at hv9
  have v_X1 := v_X1.off hq (hXA.1 1 7 (by decide) (by decide) (by decide))
  have v_X2 := v_X2.off hq (hXA.1 2 7 (by decide) (by decide) (by decide))
  have v_X3 := v_X3.off hq (hXA.1 3 7 (by decide) (by decide) (by decide))
  have v_X4 := v_X4.off hq (hXA.1 4 7 (by decide) (by decide) (by decide))
  have v_X6 := v_X6.off hq (hXA.1 6 7 (by decide) (by decide) (by decide))
  have v_t3 := v_t3.off hq ((htX 7 (by decide)).2.2.symm)
  have hM := hq.ajo (hXA.2.1 7 (by decide)) hM
  have hk := hk.tr (hq.mono (fun q h => Or.inl ⟨7, by decide, h⟩))
  have v_X7 : LW g H15 (X 7) (((P.2.1 * P.2.1) - (((12 * (P.2.2 * P.2.2)) + (12 * (P.2.2 * P.2.2))) + (12 * (P.2.2 * P.2.2)))) * ((P.2.1 * P.2.1) + (12 * (P.2.2 * P.2.2)))) := ⟨f9, hf9, hv9⟩
  refine lv_aload_n hx hb d_Curve_twice_278 rfl (lv_at hl 0 rfl) ?_
  refine q_get (C := "KateDesk$Curve") (T := T_Curve) (N := 10) (ci := 0) E ((hk.cv hK hcv).1) in_Curve rfl 0 (by decide) w_205 rfl rfl d_Curve_twice_279 ?_
  refine lv_aload_n hx hb d_Curve_twice_282 rfl (lv_at hl 1 rfl) ?_
  refine q_get (C := "KateDesk$Point") (T := T_Point) (N := 3) (ci := 2) E ((hk.pt hK h_t).1) in_Point rfl 1 (by decide) w_50 rfl rfl d_Curve_twice_283 ?_
  refine lv_aload_n hx hb d_Curve_twice_286 rfl (lv_at hl 0 rfl) ?_
  refine q_get (C := "KateDesk$Curve") (T := T_Curve) (N := 10) (ci := 0) E ((hk.cv hK hcv).1) in_Curve rfl 2 (by decide) w_207 rfl rfl d_Curve_twice_287 ?_
  refine lv_aload_n hx hb d_Curve_twice_290 rfl (lv_at hl 0 rfl) ?_
  refine q_get (C := "KateDesk$Curve") (T := T_Curve) (N := 10) (ci := 0) E ((hk.cv hK hcv).1) in_Curve rfl 8 (by decide) w_213 rfl rfl d_Curve_twice_291 ?_
  obtain ⟨fa15, ha15, va15⟩ := id v_X1
  obtain ⟨fb15, hb15, vb15⟩ := id v_X7
  refine q_cV (rest := []) E (V_Field_add l g n0 fo t2 (X 1) (X 7) F mi fa15 fb15 kQ ((((((P.2.1 * P.2.1) + (P.2.1 * P.2.1)) + ((P.2.1 * P.2.1) + (P.2.1 * P.2.1))) + (((P.2.1 * P.2.1) + (P.2.1 * P.2.1)) + ((P.2.1 * P.2.1) + (P.2.1 * P.2.1)))) * (12 * (P.2.2 * P.2.2))) * WQ % QJ) ((((P.2.1 * P.2.1) - (((12 * (P.2.2 * P.2.2)) + (12 * (P.2.2 * P.2.2))) + (12 * (P.2.2 * P.2.2)))) * ((P.2.1 * P.2.1) + (12 * (P.2.2 * P.2.2)))) * WQ % QJ) QJ va15 vb15 kQ_rv (qm_r _).2 (qm_r _).2 (htF.2.1) QJ_2) w_157 w_4 w_653 w_155 w_156 hd_Field_add rfl ⟨by decide, by decide⟩ (OB.recv E.2.2.2.2.2 (by rfl) ((hk.cv hK hcv).2.1.1)) (⟨(hk.cv hK hcv).2.1, (hk.pt hK h_t).2.2.1, ha15, hb15, hM⟩) hF hl.1 rfl (Nat.le_of_ble_eq_true rfl) d_Curve_twice_294 ⟨by decide, by decide⟩ (qv (fun H16 locs hq hF => ?_))
  obtain ⟨hq, f9, hf9, hv9⟩ := hq
  rw [lw_ad] at hv9
  have v_X1 := v_X1.off hq ((htX 1 (by decide)).2.1)
  have v_X2 := v_X2.off hq ((htX 2 (by decide)).2.1)
  have v_X3 := v_X3.off hq ((htX 3 (by decide)).2.1)
  have v_X4 := v_X4.off hq ((htX 4 (by decide)).2.1)
  have v_X7 := v_X7.off hq ((htX 7 (by decide)).2.1)
  have v_X6 := v_X6.off hq ((htX 6 (by decide)).2.1)
  have v_t3 := v_t3.off hq (htt.2.2.symm)
  have hM := hq.ajo (htF.2.1) hM
  have hk := hk.tr (hq.mono (fun q h => Or.inr (Or.inr (Or.inr (Or.inl h)))))
  have v_t2 : LW g H16 t2 ((((((P.2.1 * P.2.1) + (P.2.1 * P.2.1)) + ((P.2.1 * P.2.1) + (P.2.1 * P.2.1))) + (((P.2.1 * P.2.1) + (P.2.1 * P.2.1)) + ((P.2.1 * P.2.1) + (P.2.1 * P.2.1)))) * (12 * (P.2.2 * P.2.2))) + (((P.2.1 * P.2.1) - (((12 * (P.2.2 * P.2.2)) + (12 * (P.2.2 * P.2.2))) + (12 * (P.2.2 * P.2.2)))) * ((P.2.1 * P.2.1) + (12 * (P.2.2 * P.2.2))))) := ⟨f9, hf9, hv9⟩
  refine lv_aload_n hx hb d_Curve_twice_297 rfl (lv_at hl 0 rfl) ?_
  refine q_get (C := "KateDesk$Curve") (T := T_Curve) (N := 10) (ci := 0) E ((hk.cv hK hcv).1) in_Curve rfl 0 (by decide) w_205 rfl rfl d_Curve_twice_298 ?_
  refine lv_aload_n hx hb d_Curve_twice_301 rfl (lv_at hl 0 rfl) ?_
  refine q_get (C := "KateDesk$Curve") (T := T_Curve) (N := 10) (ci := 0) E ((hk.cv hK hcv).1) in_Curve rfl 7 (by decide) w_212 rfl rfl d_Curve_twice_302 ?_
  refine lv_aload_n hx hb d_Curve_twice_305 rfl (lv_at hl 0 rfl) ?_
  refine q_get (C := "KateDesk$Curve") (T := T_Curve) (N := 10) (ci := 0) E ((hk.cv hK hcv).1) in_Curve rfl 7 (by decide) w_212 rfl rfl d_Curve_twice_306 ?_
  refine lv_aload_n hx hb d_Curve_twice_309 rfl (lv_at hl 0 rfl) ?_
  refine q_get (C := "KateDesk$Curve") (T := T_Curve) (N := 10) (ci := 0) E ((hk.cv hK hcv).1) in_Curve rfl 4 (by decide) w_209 rfl rfl d_Curve_twice_310 ?_
  obtain ⟨fa16, ha16, va16⟩ := id v_X6
  obtain ⟨fb16, hb16, vb16⟩ := id v_X3
  refine q_cV (rest := []) E (Q_Field_multiply l g n0 fo (X 6) (X 6) (X 3) F mi fa16 fb16 (((P.2.1 * P.2.1) - (((12 * (P.2.2 * P.2.2)) + (12 * (P.2.2 * P.2.2))) + (12 * (P.2.2 * P.2.2)))) * WQ % QJ) ((P.1 * P.2.1) * WQ % QJ) va16 vb16 (qm_r _).2 (qm_r _).2 (hXA.2.1 6 (by decide)) hmi) w_165 w_4 w_652 w_163 w_164 hd_Field_multiply rfl ⟨by decide, by decide⟩ (OB.recv E.2.2.2.2.2 (by rfl) ((hk.cv hK hcv).2.1.1)) (⟨(hk.cv hK hcv).2.1, (hk.cv hK hcv).2.2 6 (by decide), ha16, hb16, hM⟩) hF hl.1 rfl (Nat.le_of_ble_eq_true rfl) d_Curve_twice_313 ⟨by decide, by decide⟩ (qv (fun H17 locs hq hF => ?_))
  obtain ⟨hq, f9, hf9, hv9⟩ := hq
  rw [lw_mu] at hv9
  have v_X1 := v_X1.off hq (hXA.1 1 6 (by decide) (by decide) (by decide))
  have v_X2 := v_X2.off hq (hXA.1 2 6 (by decide) (by decide) (by decide))
  have v_X3 := v_X3.off hq (hXA.1 3 6 (by decide) (by decide) (by decide))
  have v_X4 := v_X4.off hq (hXA.1 4 6 (by decide) (by decide) (by decide))
  have v_X7 := v_X7.off hq (hXA.1 7 6 (by decide) (by decide) (by decide))
  have v_t3 := v_t3.off hq ((htX 6 (by decide)).2.2.symm)
  have v_t2 := v_t2.off hq ((htX 6 (by decide)).2.1.symm)
  have hM := hq.ajo (hXA.2.1 6 (by decide)) hM
  have hk := hk.tr (hq.mono (fun q h => Or.inl ⟨6, by decide, h⟩))
  have v_X6 : LW g H17 (X 6) (((P.2.1 * P.2.1) - (((12 * (P.2.2 * P.2.2)) + (12 * (P.2.2 * P.2.2))) + (12 * (P.2.2 * P.2.2)))) * (P.1 * P.2.1)) := ⟨f9, hf9, hv9⟩
  refine lv_aload_n hx hb d_Curve_twice_316 rfl (lv_at hl 0 rfl) ?_
  refine q_get (C := "KateDesk$Curve") (T := T_Curve) (N := 10) (ci := 0) E ((hk.cv hK hcv).1) in_Curve rfl 0 (by decide) w_205 rfl rfl d_Curve_twice_317 ?_
  refine lv_aload_n hx hb d_Curve_twice_320 rfl (lv_at hl 1 rfl) ?_
  refine q_get (C := "KateDesk$Point") (T := T_Point) (N := 3) (ci := 2) E ((hk.pt hK h_t).1) in_Point rfl 0 (by decide) w_46 rfl rfl d_Curve_twice_321 ?_
  refine lv_aload_n hx hb d_Curve_twice_324 rfl (lv_at hl 0 rfl) ?_
  refine q_get (C := "KateDesk$Curve") (T := T_Curve) (N := 10) (ci := 0) E ((hk.cv hK hcv).1) in_Curve rfl 7 (by decide) w_212 rfl rfl d_Curve_twice_325 ?_
  refine lv_aload_n hx hb d_Curve_twice_328 rfl (lv_at hl 0 rfl) ?_
  refine q_get (C := "KateDesk$Curve") (T := T_Curve) (N := 10) (ci := 0) E ((hk.cv hK hcv).1) in_Curve rfl 7 (by decide) w_212 rfl rfl d_Curve_twice_329 ?_
  obtain ⟨fa17, ha17, va17⟩ := id v_X6
  obtain ⟨fb17, hb17, vb17⟩ := id v_X6
  refine q_cV (rest := []) E (V_Field_add l g n0 fo t1 (X 6) (X 6) F mi fa17 fb17 kQ ((((P.2.1 * P.2.1) - (((12 * (P.2.2 * P.2.2)) + (12 * (P.2.2 * P.2.2))) + (12 * (P.2.2 * P.2.2)))) * (P.1 * P.2.1)) * WQ % QJ) ((((P.2.1 * P.2.1) - (((12 * (P.2.2 * P.2.2)) + (12 * (P.2.2 * P.2.2))) + (12 * (P.2.2 * P.2.2)))) * (P.1 * P.2.1)) * WQ % QJ) QJ va17 vb17 kQ_rv (qm_r _).2 (qm_r _).2 (htF.1) QJ_2) w_157 w_4 w_653 w_155 w_156 hd_Field_add rfl ⟨by decide, by decide⟩ (OB.recv E.2.2.2.2.2 (by rfl) ((hk.cv hK hcv).2.1.1)) (⟨(hk.cv hK hcv).2.1, (hk.pt hK h_t).2.1, ha17, hb17, hM⟩) hF hl.1 rfl (Nat.le_of_ble_eq_true rfl) d_Curve_twice_332 ⟨by decide, by decide⟩ (qv (fun H18 locs hq hF => ?_))
  obtain ⟨hq, f9, hf9, hv9⟩ := hq
  rw [lw_ad] at hv9
  have v_X1 := v_X1.off hq ((htX 1 (by decide)).1)
  have v_X2 := v_X2.off hq ((htX 2 (by decide)).1)
  have v_X3 := v_X3.off hq ((htX 3 (by decide)).1)
  have v_X4 := v_X4.off hq ((htX 4 (by decide)).1)
  have v_X7 := v_X7.off hq ((htX 7 (by decide)).1)
  have v_X6 := v_X6.off hq ((htX 6 (by decide)).1)
  have v_t3 := v_t3.off hq (htt.2.1.symm)
  have v_t2 := v_t2.off hq (htt.1.symm)
  have hM := hq.ajo (htF.1) hM
  have hk := hk.tr (hq.mono (fun q h => Or.inr (Or.inr (Or.inl h))))
  have v_t1 : LW g H18 t1 ((((P.2.1 * P.2.1) - (((12 * (P.2.2 * P.2.2)) + (12 * (P.2.2 * P.2.2))) + (12 * (P.2.2 * P.2.2)))) * (P.1 * P.2.1)) + (((P.2.1 * P.2.1) - (((12 * (P.2.2 * P.2.2)) + (12 * (P.2.2 * P.2.2))) + (12 * (P.2.2 * P.2.2)))) * (P.1 * P.2.1))) := ⟨f9, hf9, hv9⟩
  exact q_vret E hr hlk (⟨rfl, hk, v_t1.cg (by unfold DB; grind), v_t2.cg (by unfold DB; grind), v_t3.cg (by unfold DB; grind)⟩) hF d_Curve_twice_335
theorem lw_ng (Y : Int) : (if (0 : Int) < (Y * WQ) % QJ then 0 - (Y * WQ) % QJ + QJ else 0 - (Y * WQ) % QJ) = ((-Y) * WQ) % QJ := by
  rw [if_sb ⟨Int.le_refl 0, QJ_pos⟩ (qm_r _), Int.zero_sub, Int.neg_mul]
  show (-((Y * WQ) % QJ)) % QJ = _
  rw [← Int.zero_sub, Int.sub_emod, Int.emod_emod_of_dvd _ (Int.dvd_refl _), ← Int.sub_emod, Int.zero_sub]
set_option maxHeartbeats 4000000 in
set_option maxRecDepth 100000 in
theorem L_Curve_add (l : Launch) (g : WG) (n0 : Nat → Prop) (o : Nat) (fo : Nat) (F : Nat → Nat) (mi : Int64) (X : Nat → Nat) (t t1 t2 t3 : Nat) (a a1 a2 a3 : Nat) (b b1 b2 b3 : Nat) (mn : Int32) (P R : P3) (hXA : XA F X) (hmi : mi = 268238845) (hXa : ∀ i, i < 9 → a1 ≠ X i ∧ a2 ≠ X i ∧ a3 ≠ X i) (hXb : ∀ i, i < 9 → b1 ≠ X i ∧ b2 ≠ X i ∧ b3 ≠ X i) (h5a : a1 ≠ F 5 ∧ a2 ≠ F 5 ∧ a3 ≠ F 5) (h5b : b1 ≠ F 5 ∧ b2 ≠ F 5 ∧ b3 ≠ F 5) (htX : ∀ i, i < 9 → X i ≠ t1 ∧ X i ≠ t2 ∧ X i ≠ t3) (htF : F 0 ≠ t1 ∧ F 0 ≠ t2 ∧ F 0 ≠ t3) (htt : t1 ≠ t2 ∧ t1 ≠ t3 ∧ t2 ≠ t3) : Ctr l y_Curve_add (.code y_Curve_add prog_2_method_2_code 6 none) 3 162 0 0 n0 g [.ref o, .ref t, .ref a, .ref b, .int mn] (fun H => CV g n0 H o fo F mi X ∧ PT g n0 H t t1 t2 t3 ∧ PT g n0 H a a1 a2 a3 ∧ PT g n0 H b b1 b2 b3 ∧ AJ g H (F 0) 14 kQ ∧ (LW g H a1 P.1 ∧ LW g H a2 P.2.1 ∧ LW g H a3 P.2.2) ∧ LW g H b1 R.1 ∧ LW g H b2 R.2.1 ∧ LW g H b3 R.2.2) (QV (fun H H' => KJ g (fun q => (∃ i, i < 9 ∧ q = X i) ∨ q = F 5 ∨ q = t1 ∨ q = t2 ∨ q = t3) H H' ∧ ∃ R', R' = (if mn = 0 then R else NG R) ∧ LW g H' t1 (AD P R').1 ∧ LW g H' t2 (AD P R').2.1 ∧ LW g H' t3 (AD P R').2.2)) := by
  refine ctr_mk l (lv0 := [(0, .ref o), (1, .ref t), (2, .ref a), (3, .ref b), (4, .int mn)]) (by decide) (Nat.le_of_ble_eq_true rfl) rfl ?_
  intro p e s m below meth c ls E hr hlk hnm hl hP
  have hx := E.1
  have hb := E.2.1
  have hK := E.2.2.2.2.2
  have hF : ∀ q ∈ ([] : List Loc), n0 q.base := fun q hq => absurd hq List.not_mem_nil
  obtain ⟨hcv, h_t, h_a, h_b, hM, ⟨v_a1, v_a2, v_a3⟩, v_b1, v_b2, v_b3⟩ := hP
  have hk : KJ g (fun q => (∃ i, i < 9 ∧ q = X i) ∨ q = F 5 ∨ q = t1 ∨ q = t2 ∨ q = t3) s.heap s.heap := KJ.rf
  refine lv_aload_n hx hb d_Curve_add_0 rfl (lv_at hl 3 rfl) ?_
  refine q_get (C := "KateDesk$Point") (T := T_Point) (N := 3) (ci := 2) E ((hk.pt hK h_b).1) in_Point rfl 1 (by decide) w_50 rfl rfl d_Curve_add_1 ?_
  refine lv_astore (lv' := [(5, .ref b2), (0, .ref o), (1, .ref t), (2, .ref a), (3, .ref b), (4, .int mn)]) hx hb d_Curve_add_4 hl (by decide) rfl (fun ls hl => ?_)
  refine lv_iload hx hb d_Curve_add_6 (lv_at hl 5 rfl) ?_
  have tail : ∀ (H : Heap) (locs : List Loc) (ls : Array Slot) (by0 : Nat) (Y9 : Int), KJ g (fun q => (∃ i, i < 9 ∧ q = X i) ∨ q = F 5 ∨ q = t1 ∨ q = t2 ∨ q = t3) s.heap H → AJ g H (F 0) 14 kQ → LW g H a1 P.1 → LW g H a2 P.2.1 → LW g H a3 P.2.2 → LW g H b1 R.1 → LW g H by0 Y9 → LW g H b3 R.2.2 → (∀ i, i < 8 → by0 ≠ X i) → (R.1, Y9, R.2.2) = (if mn = 0 then R else NG R) → (∀ q ∈ locs, n0 q.base) → lv_has ls 6 [(5, .ref by0), (0, .ref o), (1, .ref t), (2, .ref a), (3, .ref b), (4, .int mn)] → W p l e { frames := 3, cells := 0, slots := 0, locals := 162 } s m [.ref o, .ref t, .ref a, .ref b, .int mn].toArray below meth c H locs 0 0 (MQ below (QcP (QV (fun H H' => KJ g (fun q => (∃ i, i < 9 ∧ q = X i) ∨ q = F 5 ∨ q = t1 ∨ q = t2 ∨ q = t3) H H' ∧ ∃ R', R' = (if mn = 0 then R else NG R) ∧ LW g H' t1 (AD P R').1 ∧ LW g H' t2 (AD P R').2.1 ∧ LW g H' t3 (AD P R').2.2))) [.ref o, .ref t, .ref a, .ref b, .int mn].toArray s 0 0 (fun q => n0 q)) (F0 m 32 ls []) := by
    intro  H   locs   ls   by0   Y9 hk hM v_a1 v_a2 v_a3 v_b1 v_by0 v_b3 hby0 hR9 hF hl
    refine lv_aload_n hx hb d_Curve_add_32 rfl (lv_at hl 1 rfl) ?_
    refine q_get (C := "KateDesk$Curve") (T := T_Curve) (N := 10) (ci := 0) E ((hk.cv hK hcv).1) in_Curve rfl 0 (by decide) w_205 rfl rfl d_Curve_add_33 ?_
    refine lv_aload_n hx hb d_Curve_add_36 rfl (lv_at hl 1 rfl) ?_
    refine q_get (C := "KateDesk$Curve") (T := T_Curve) (N := 10) (ci := 0) E ((hk.cv hK hcv).1) in_Curve rfl 1 (by decide) w_206 rfl rfl d_Curve_add_37 ?_
    refine lv_aload_n hx hb d_Curve_add_40 rfl (lv_at hl 3 rfl) ?_
    refine q_get (C := "KateDesk$Point") (T := T_Point) (N := 3) (ci := 2) E ((hk.pt hK h_a).1) in_Point rfl 0 (by decide) w_46 rfl rfl d_Curve_add_41 ?_
    refine lv_aload_n hx hb d_Curve_add_44 rfl (lv_at hl 4 rfl) ?_
    refine q_get (C := "KateDesk$Point") (T := T_Point) (N := 3) (ci := 2) E ((hk.pt hK h_b).1) in_Point rfl 0 (by decide) w_46 rfl rfl d_Curve_add_45 ?_
    obtain ⟨fa1, ha1, va1⟩ := id v_a1
    obtain ⟨fb1, hb1, vb1⟩ := id v_b1
    refine q_cV (rest := []) E (Q_Field_multiply l g n0 fo (X 0) a1 b1 F mi fa1 fb1 ((P.1) * WQ % QJ) ((R.1) * WQ % QJ) va1 vb1 (qm_r _).2 (qm_r _).2 (hXA.2.1 0 (by decide)) hmi) w_165 w_4 w_652 w_163 w_164 hd_Field_multiply rfl ⟨by decide, by decide⟩ (OB.recv E.2.2.2.2.2 (by rfl) ((hk.cv hK hcv).2.1.1)) (⟨(hk.cv hK hcv).2.1, (hk.cv hK hcv).2.2 0 (by decide), ha1, hb1, hM⟩) hF hl.1 rfl (Nat.le_of_ble_eq_true rfl) d_Curve_add_48 ⟨by decide, by decide⟩ (qv (fun H1 locs hq hF => ?_))
    obtain ⟨hq, f9, hf9, hv9⟩ := hq
    rw [lw_mu] at hv9
    have v_a1 := v_a1.off hq ((hXa 0 (by decide)).1)
    have v_a2 := v_a2.off hq ((hXa 0 (by decide)).2.1)
    have v_a3 := v_a3.off hq ((hXa 0 (by decide)).2.2)
    have v_b1 := v_b1.off hq ((hXb 0 (by decide)).1)
    have v_b3 := v_b3.off hq ((hXb 0 (by decide)).2.2)
    have v_by0 := v_by0.off hq (hby0 0 (by decide))
    have hM := hq.ajo (hXA.2.1 0 (by decide)) hM
    have hk := hk.tr (hq.mono (fun q h => Or.inl ⟨0, by decide, h⟩))
    have v_X0 : LW g H1 (X 0) (P.1 * R.1) := ⟨f9, hf9, hv9⟩
    refine lv_aload_n hx hb d_Curve_add_51 rfl (lv_at hl 1 rfl) ?_
    refine q_get (C := "KateDesk$Curve") (T := T_Curve) (N := 10) (ci := 0) E ((hk.cv hK hcv).1) in_Curve rfl 0 (by decide) w_205 rfl rfl d_Curve_add_52 ?_
    refine lv_aload_n hx hb d_Curve_add_55 rfl (lv_at hl 1 rfl) ?_
    refine q_get (C := "KateDesk$Curve") (T := T_Curve) (N := 10) (ci := 0) E ((hk.cv hK hcv).1) in_Curve rfl 2 (by decide) w_207 rfl rfl d_Curve_add_56 ?_
    refine lv_aload_n hx hb d_Curve_add_59 rfl (lv_at hl 3 rfl) ?_
    refine q_get (C := "KateDesk$Point") (T := T_Point) (N := 3) (ci := 2) E ((hk.pt hK h_a).1) in_Point rfl 1 (by decide) w_50 rfl rfl d_Curve_add_60 ?_
    refine lv_aload hx hb d_Curve_add_63 (lv_at hl 0 rfl) ?_
    obtain ⟨fa2, ha2, va2⟩ := id v_a2
    obtain ⟨fb2, hb2, vb2⟩ := id v_by0
    refine q_cV (rest := []) E (Q_Field_multiply l g n0 fo (X 1) a2 by0 F mi fa2 fb2 ((P.2.1) * WQ % QJ) ((Y9) * WQ % QJ) va2 vb2 (qm_r _).2 (qm_r _).2 (hXA.2.1 1 (by decide)) hmi) w_165 w_4 w_652 w_163 w_164 hd_Field_multiply rfl ⟨by decide, by decide⟩ (OB.recv E.2.2.2.2.2 (by rfl) ((hk.cv hK hcv).2.1.1)) (⟨(hk.cv hK hcv).2.1, (hk.cv hK hcv).2.2 1 (by decide), ha2, hb2, hM⟩) hF hl.1 rfl (Nat.le_of_ble_eq_true rfl) d_Curve_add_65 ⟨by decide, by decide⟩ (qv (fun H2 locs hq hF => ?_))
    obtain ⟨hq, f9, hf9, hv9⟩ := hq
    rw [lw_mu] at hv9
    have v_a1 := v_a1.off hq ((hXa 1 (by decide)).1)
    have v_a2 := v_a2.off hq ((hXa 1 (by decide)).2.1)
    have v_a3 := v_a3.off hq ((hXa 1 (by decide)).2.2)
    have v_b1 := v_b1.off hq ((hXb 1 (by decide)).1)
    have v_b3 := v_b3.off hq ((hXb 1 (by decide)).2.2)
    have v_by0 := v_by0.off hq (hby0 1 (by decide))
    have v_X0 := v_X0.off hq (hXA.1 0 1 (by decide) (by decide) (by decide))
    have hM := hq.ajo (hXA.2.1 1 (by decide)) hM
    have hk := hk.tr (hq.mono (fun q h => Or.inl ⟨1, by decide, h⟩))
    have v_X1 : LW g H2 (X 1) (P.2.1 * Y9) := ⟨f9, hf9, hv9⟩
    refine lv_aload_n hx hb d_Curve_add_68 rfl (lv_at hl 1 rfl) ?_
    refine q_get (C := "KateDesk$Curve") (T := T_Curve) (N := 10) (ci := 0) E ((hk.cv hK hcv).1) in_Curve rfl 0 (by decide) w_205 rfl rfl d_Curve_add_69 ?_
    refine lv_aload_n hx hb d_Curve_add_72 rfl (lv_at hl 1 rfl) ?_
    refine q_get (C := "KateDesk$Curve") (T := T_Curve) (N := 10) (ci := 0) E ((hk.cv hK hcv).1) in_Curve rfl 3 (by decide) w_208 rfl rfl d_Curve_add_73 ?_
    refine lv_aload_n hx hb d_Curve_add_76 rfl (lv_at hl 3 rfl) ?_
    refine q_get (C := "KateDesk$Point") (T := T_Point) (N := 3) (ci := 2) E ((hk.pt hK h_a).1) in_Point rfl 2 (by decide) w_54 rfl rfl d_Curve_add_77 ?_
    refine lv_aload_n hx hb d_Curve_add_80 rfl (lv_at hl 4 rfl) ?_
    refine q_get (C := "KateDesk$Point") (T := T_Point) (N := 3) (ci := 2) E ((hk.pt hK h_b).1) in_Point rfl 2 (by decide) w_54 rfl rfl d_Curve_add_81 ?_
    obtain ⟨fa3, ha3, va3⟩ := id v_a3
    obtain ⟨fb3, hb3, vb3⟩ := id v_b3
    refine q_cV (rest := []) E (Q_Field_multiply l g n0 fo (X 2) a3 b3 F mi fa3 fb3 ((P.2.2) * WQ % QJ) ((R.2.2) * WQ % QJ) va3 vb3 (qm_r _).2 (qm_r _).2 (hXA.2.1 2 (by decide)) hmi) w_165 w_4 w_652 w_163 w_164 hd_Field_multiply rfl ⟨by decide, by decide⟩ (OB.recv E.2.2.2.2.2 (by rfl) ((hk.cv hK hcv).2.1.1)) (⟨(hk.cv hK hcv).2.1, (hk.cv hK hcv).2.2 2 (by decide), ha3, hb3, hM⟩) hF hl.1 rfl (Nat.le_of_ble_eq_true rfl) d_Curve_add_84 ⟨by decide, by decide⟩ (qv (fun H3 locs hq hF => ?_))
    obtain ⟨hq, f9, hf9, hv9⟩ := hq
    rw [lw_mu] at hv9
    have v_a1 := v_a1.off hq ((hXa 2 (by decide)).1)
    have v_a2 := v_a2.off hq ((hXa 2 (by decide)).2.1)
    have v_a3 := v_a3.off hq ((hXa 2 (by decide)).2.2)
    have v_b1 := v_b1.off hq ((hXb 2 (by decide)).1)
    have v_b3 := v_b3.off hq ((hXb 2 (by decide)).2.2)
    have v_by0 := v_by0.off hq (hby0 2 (by decide))
    have v_X0 := v_X0.off hq (hXA.1 0 2 (by decide) (by decide) (by decide))
    have v_X1 := v_X1.off hq (hXA.1 1 2 (by decide) (by decide) (by decide))
    have hM := hq.ajo (hXA.2.1 2 (by decide)) hM
    have hk := hk.tr (hq.mono (fun q h => Or.inl ⟨2, by decide, h⟩))
    have v_X2 : LW g H3 (X 2) (P.2.2 * R.2.2) := ⟨f9, hf9, hv9⟩
    refine lv_aload_n hx hb d_Curve_add_87 rfl (lv_at hl 1 rfl) ?_
    refine lv_aload_n hx hb d_Curve_add_88 rfl (lv_at hl 1 rfl) ?_
    refine q_get (C := "KateDesk$Curve") (T := T_Curve) (N := 10) (ci := 0) E ((hk.cv hK hcv).1) in_Curve rfl 4 (by decide) w_209 rfl rfl d_Curve_add_89 ?_
    refine lv_aload_n hx hb d_Curve_add_92 rfl (lv_at hl 3 rfl) ?_
    refine q_get (C := "KateDesk$Point") (T := T_Point) (N := 3) (ci := 2) E ((hk.pt hK h_a).1) in_Point rfl 0 (by decide) w_46 rfl rfl d_Curve_add_93 ?_
    refine lv_aload_n hx hb d_Curve_add_96 rfl (lv_at hl 3 rfl) ?_
    refine q_get (C := "KateDesk$Point") (T := T_Point) (N := 3) (ci := 2) E ((hk.pt hK h_a).1) in_Point rfl 1 (by decide) w_50 rfl rfl d_Curve_add_97 ?_
    refine lv_aload_n hx hb d_Curve_add_100 rfl (lv_at hl 4 rfl) ?_
    refine q_get (C := "KateDesk$Point") (T := T_Point) (N := 3) (ci := 2) E ((hk.pt hK h_b).1) in_Point rfl 0 (by decide) w_46 rfl rfl d_Curve_add_101 ?_
    refine lv_aload hx hb d_Curve_add_104 (lv_at hl 0 rfl) ?_
    refine lv_aload_n hx hb d_Curve_add_106 rfl (lv_at hl 1 rfl) ?_
    refine q_get (C := "KateDesk$Curve") (T := T_Curve) (N := 10) (ci := 0) E ((hk.cv hK hcv).1) in_Curve rfl 1 (by decide) w_206 rfl rfl d_Curve_add_107 ?_
    refine lv_aload_n hx hb d_Curve_add_110 rfl (lv_at hl 1 rfl) ?_
    refine q_get (C := "KateDesk$Curve") (T := T_Curve) (N := 10) (ci := 0) E ((hk.cv hK hcv).1) in_Curve rfl 2 (by decide) w_207 rfl rfl d_Curve_add_111 ?_
    refine q_cV (rest := []) E (L_Curve_mixed l g n0 o fo F mi X (X 3) a1 a2 b1 by0 (X 0) (X 1) P.1 P.2.1 R.1 Y9 hXA hmi (⟨hXA.2.1 3 (by decide), hXA.1 6 3 (by decide) (by decide) (by decide), hXA.1 7 3 (by decide) (by decide) (by decide)⟩) (⟨(hXb 6 (by decide)).1, hby0 6 (by decide), hXA.1 0 6 (by decide) (by decide) (by decide), hXA.1 1 6 (by decide) (by decide) (by decide)⟩) ⟨hXA.1 0 7 (by decide) (by decide) (by decide), hXA.1 1 7 (by decide) (by decide) (by decide)⟩ ⟨hXA.1 0 3 (by decide) (by decide) (by decide), hXA.1 1 3 (by decide) (by decide) (by decide)⟩) w_716 w_11 w_713 w_715 (bw_s 9 rfl) hd_Curve_mixed rfl ⟨by decide, by decide⟩ (OB.recv E.2.2.2.2.2 (by rfl) ((hk.cv hK hcv).1)) (⟨hk.cv hK hcv, (hk.cv hK hcv).2.2 3 (by decide), hM, v_a1, v_a2, v_b1, v_by0, v_X0, v_X1⟩) hF hl.1 rfl (Nat.le_of_ble_eq_true rfl) d_Curve_add_114 ⟨by decide, by decide⟩ (qv (fun H4 locs hq hF => ?_))
    obtain ⟨hq, hv9⟩ := hq
    have v_a1 := v_a1.off hq (fun h => h.elim ((hXa 3 (by decide)).1) (fun h => h.elim ((hXa 6 (by decide)).1) (fun h => ((hXa 7 (by decide)).1) h)))
    have v_a2 := v_a2.off hq (fun h => h.elim ((hXa 3 (by decide)).2.1) (fun h => h.elim ((hXa 6 (by decide)).2.1) (fun h => ((hXa 7 (by decide)).2.1) h)))
    have v_a3 := v_a3.off hq (fun h => h.elim ((hXa 3 (by decide)).2.2) (fun h => h.elim ((hXa 6 (by decide)).2.2) (fun h => ((hXa 7 (by decide)).2.2) h)))
    have v_b1 := v_b1.off hq (fun h => h.elim ((hXb 3 (by decide)).1) (fun h => h.elim ((hXb 6 (by decide)).1) (fun h => ((hXb 7 (by decide)).1) h)))
    have v_b3 := v_b3.off hq (fun h => h.elim ((hXb 3 (by decide)).2.2) (fun h => h.elim ((hXb 6 (by decide)).2.2) (fun h => ((hXb 7 (by decide)).2.2) h)))
    have v_by0 := v_by0.off hq (fun h => h.elim (hby0 3 (by decide)) (fun h => h.elim (hby0 6 (by decide)) (fun h => (hby0 7 (by decide)) h)))
    have v_X0 := v_X0.off hq (fun h => h.elim (hXA.1 0 3 (by decide) (by decide) (by decide)) (fun h => h.elim (hXA.1 0 6 (by decide) (by decide) (by decide)) (fun h => (hXA.1 0 7 (by decide) (by decide) (by decide)) h)))
    have v_X1 := v_X1.off hq (fun h => h.elim (hXA.1 1 3 (by decide) (by decide) (by decide)) (fun h => h.elim (hXA.1 1 6 (by decide) (by decide) (by decide)) (fun h => (hXA.1 1 7 (by decide) (by decide) (by decide)) h)))
    have v_X2 := v_X2.off hq (fun h => h.elim (hXA.1 2 3 (by decide) (by decide) (by decide)) (fun h => h.elim (hXA.1 2 6 (by decide) (by decide) (by decide)) (fun h => (hXA.1 2 7 (by decide) (by decide) (by decide)) h)))
    have hM := hq.ajo (fun h => h.elim (hXA.2.1 3 (by decide)) (fun h => h.elim (hXA.2.1 6 (by decide)) (fun h => (hXA.2.1 7 (by decide)) h))) hM
    have hk := hk.tr (hq.mono (fun q h => h.elim (fun h => Or.inl ⟨3, by decide, h⟩) (fun h => h.elim (fun h => Or.inl ⟨6, by decide, h⟩) (fun h => Or.inl ⟨7, by decide, h⟩))))
    have v_X3 : LW g H4 (X 3) (ecI 1 P.1 Y9 R.1 P.2.1) := hv9
    refine lv_aload_n hx hb d_Curve_add_117 rfl (lv_at hl 1 rfl) ?_
    refine lv_aload_n hx hb d_Curve_add_118 rfl (lv_at hl 1 rfl) ?_
    refine q_get (C := "KateDesk$Curve") (T := T_Curve) (N := 10) (ci := 0) E ((hk.cv hK hcv).1) in_Curve rfl 5 (by decide) w_210 rfl rfl d_Curve_add_119 ?_
    refine lv_aload_n hx hb d_Curve_add_122 rfl (lv_at hl 3 rfl) ?_
    refine q_get (C := "KateDesk$Point") (T := T_Point) (N := 3) (ci := 2) E ((hk.pt hK h_a).1) in_Point rfl 1 (by decide) w_50 rfl rfl d_Curve_add_123 ?_
    refine lv_aload_n hx hb d_Curve_add_126 rfl (lv_at hl 3 rfl) ?_
    refine q_get (C := "KateDesk$Point") (T := T_Point) (N := 3) (ci := 2) E ((hk.pt hK h_a).1) in_Point rfl 2 (by decide) w_54 rfl rfl d_Curve_add_127 ?_
    refine lv_aload hx hb d_Curve_add_130 (lv_at hl 0 rfl) ?_
    refine lv_aload_n hx hb d_Curve_add_132 rfl (lv_at hl 4 rfl) ?_
    refine q_get (C := "KateDesk$Point") (T := T_Point) (N := 3) (ci := 2) E ((hk.pt hK h_b).1) in_Point rfl 2 (by decide) w_54 rfl rfl d_Curve_add_133 ?_
    refine lv_aload_n hx hb d_Curve_add_136 rfl (lv_at hl 1 rfl) ?_
    refine q_get (C := "KateDesk$Curve") (T := T_Curve) (N := 10) (ci := 0) E ((hk.cv hK hcv).1) in_Curve rfl 2 (by decide) w_207 rfl rfl d_Curve_add_137 ?_
    refine lv_aload_n hx hb d_Curve_add_140 rfl (lv_at hl 1 rfl) ?_
    refine q_get (C := "KateDesk$Curve") (T := T_Curve) (N := 10) (ci := 0) E ((hk.cv hK hcv).1) in_Curve rfl 3 (by decide) w_208 rfl rfl d_Curve_add_141 ?_
    refine q_cV (rest := []) E (L_Curve_mixed l g n0 o fo F mi X (X 4) a2 a3 by0 b3 (X 1) (X 2) P.2.1 P.2.2 Y9 R.2.2 hXA hmi (⟨hXA.2.1 4 (by decide), hXA.1 6 4 (by decide) (by decide) (by decide), hXA.1 7 4 (by decide) (by decide) (by decide)⟩) (⟨hby0 6 (by decide), (hXb 6 (by decide)).2.2, hXA.1 1 6 (by decide) (by decide) (by decide), hXA.1 2 6 (by decide) (by decide) (by decide)⟩) ⟨hXA.1 1 7 (by decide) (by decide) (by decide), hXA.1 2 7 (by decide) (by decide) (by decide)⟩ ⟨hXA.1 1 4 (by decide) (by decide) (by decide), hXA.1 2 4 (by decide) (by decide) (by decide)⟩) w_716 w_11 w_713 w_715 (bw_s 9 rfl) hd_Curve_mixed rfl ⟨by decide, by decide⟩ (OB.recv E.2.2.2.2.2 (by rfl) ((hk.cv hK hcv).1)) (⟨hk.cv hK hcv, (hk.cv hK hcv).2.2 4 (by decide), hM, v_a2, v_a3, v_by0, v_b3, v_X1, v_X2⟩) hF hl.1 rfl (Nat.le_of_ble_eq_true rfl) d_Curve_add_144 ⟨by decide, by decide⟩ (qv (fun H5 locs hq hF => ?_))
    obtain ⟨hq, hv9⟩ := hq
    have v_a1 := v_a1.off hq (fun h => h.elim ((hXa 4 (by decide)).1) (fun h => h.elim ((hXa 6 (by decide)).1) (fun h => ((hXa 7 (by decide)).1) h)))
    have v_a2 := v_a2.off hq (fun h => h.elim ((hXa 4 (by decide)).2.1) (fun h => h.elim ((hXa 6 (by decide)).2.1) (fun h => ((hXa 7 (by decide)).2.1) h)))
    have v_a3 := v_a3.off hq (fun h => h.elim ((hXa 4 (by decide)).2.2) (fun h => h.elim ((hXa 6 (by decide)).2.2) (fun h => ((hXa 7 (by decide)).2.2) h)))
    have v_b1 := v_b1.off hq (fun h => h.elim ((hXb 4 (by decide)).1) (fun h => h.elim ((hXb 6 (by decide)).1) (fun h => ((hXb 7 (by decide)).1) h)))
    have v_b3 := v_b3.off hq (fun h => h.elim ((hXb 4 (by decide)).2.2) (fun h => h.elim ((hXb 6 (by decide)).2.2) (fun h => ((hXb 7 (by decide)).2.2) h)))
    have v_by0 := v_by0.off hq (fun h => h.elim (hby0 4 (by decide)) (fun h => h.elim (hby0 6 (by decide)) (fun h => (hby0 7 (by decide)) h)))
    have v_X0 := v_X0.off hq (fun h => h.elim (hXA.1 0 4 (by decide) (by decide) (by decide)) (fun h => h.elim (hXA.1 0 6 (by decide) (by decide) (by decide)) (fun h => (hXA.1 0 7 (by decide) (by decide) (by decide)) h)))
    have v_X1 := v_X1.off hq (fun h => h.elim (hXA.1 1 4 (by decide) (by decide) (by decide)) (fun h => h.elim (hXA.1 1 6 (by decide) (by decide) (by decide)) (fun h => (hXA.1 1 7 (by decide) (by decide) (by decide)) h)))
    have v_X2 := v_X2.off hq (fun h => h.elim (hXA.1 2 4 (by decide) (by decide) (by decide)) (fun h => h.elim (hXA.1 2 6 (by decide) (by decide) (by decide)) (fun h => (hXA.1 2 7 (by decide) (by decide) (by decide)) h)))
    have v_X3 := v_X3.off hq (fun h => h.elim (hXA.1 3 4 (by decide) (by decide) (by decide)) (fun h => h.elim (hXA.1 3 6 (by decide) (by decide) (by decide)) (fun h => (hXA.1 3 7 (by decide) (by decide) (by decide)) h)))
    have hM := hq.ajo (fun h => h.elim (hXA.2.1 4 (by decide)) (fun h => h.elim (hXA.2.1 6 (by decide)) (fun h => (hXA.2.1 7 (by decide)) h))) hM
    have hk := hk.tr (hq.mono (fun q h => h.elim (fun h => Or.inl ⟨4, by decide, h⟩) (fun h => h.elim (fun h => Or.inl ⟨6, by decide, h⟩) (fun h => Or.inl ⟨7, by decide, h⟩))))
    have v_X4 : LW g H5 (X 4) (ecI 1 P.2.1 R.2.2 Y9 P.2.2) := hv9
    refine lv_aload_n hx hb d_Curve_add_147 rfl (lv_at hl 1 rfl) ?_
    refine lv_aload_n hx hb d_Curve_add_148 rfl (lv_at hl 1 rfl) ?_
    refine q_get (C := "KateDesk$Curve") (T := T_Curve) (N := 10) (ci := 0) E ((hk.cv hK hcv).1) in_Curve rfl 6 (by decide) w_211 rfl rfl d_Curve_add_149 ?_
    refine lv_aload_n hx hb d_Curve_add_152 rfl (lv_at hl 3 rfl) ?_
    refine q_get (C := "KateDesk$Point") (T := T_Point) (N := 3) (ci := 2) E ((hk.pt hK h_a).1) in_Point rfl 0 (by decide) w_46 rfl rfl d_Curve_add_153 ?_
    refine lv_aload_n hx hb d_Curve_add_156 rfl (lv_at hl 3 rfl) ?_
    refine q_get (C := "KateDesk$Point") (T := T_Point) (N := 3) (ci := 2) E ((hk.pt hK h_a).1) in_Point rfl 2 (by decide) w_54 rfl rfl d_Curve_add_157 ?_
    refine lv_aload_n hx hb d_Curve_add_160 rfl (lv_at hl 4 rfl) ?_
    refine q_get (C := "KateDesk$Point") (T := T_Point) (N := 3) (ci := 2) E ((hk.pt hK h_b).1) in_Point rfl 0 (by decide) w_46 rfl rfl d_Curve_add_161 ?_
    refine lv_aload_n hx hb d_Curve_add_164 rfl (lv_at hl 4 rfl) ?_
    refine q_get (C := "KateDesk$Point") (T := T_Point) (N := 3) (ci := 2) E ((hk.pt hK h_b).1) in_Point rfl 2 (by decide) w_54 rfl rfl d_Curve_add_165 ?_
    refine lv_aload_n hx hb d_Curve_add_168 rfl (lv_at hl 1 rfl) ?_
    refine q_get (C := "KateDesk$Curve") (T := T_Curve) (N := 10) (ci := 0) E ((hk.cv hK hcv).1) in_Curve rfl 1 (by decide) w_206 rfl rfl d_Curve_add_169 ?_
    refine lv_aload_n hx hb d_Curve_add_172 rfl (lv_at hl 1 rfl) ?_
    refine q_get (C := "KateDesk$Curve") (T := T_Curve) (N := 10) (ci := 0) E ((hk.cv hK hcv).1) in_Curve rfl 3 (by decide) w_208 rfl rfl d_Curve_add_173 ?_
    refine q_cV (rest := []) E (L_Curve_mixed l g n0 o fo F mi X (X 5) a1 a3 b1 b3 (X 0) (X 2) P.1 P.2.2 R.1 R.2.2 hXA hmi (⟨hXA.2.1 5 (by decide), hXA.1 6 5 (by decide) (by decide) (by decide), hXA.1 7 5 (by decide) (by decide) (by decide)⟩) (⟨(hXb 6 (by decide)).1, (hXb 6 (by decide)).2.2, hXA.1 0 6 (by decide) (by decide) (by decide), hXA.1 2 6 (by decide) (by decide) (by decide)⟩) ⟨hXA.1 0 7 (by decide) (by decide) (by decide), hXA.1 2 7 (by decide) (by decide) (by decide)⟩ ⟨hXA.1 0 5 (by decide) (by decide) (by decide), hXA.1 2 5 (by decide) (by decide) (by decide)⟩) w_716 w_11 w_713 w_715 (bw_s 9 rfl) hd_Curve_mixed rfl ⟨by decide, by decide⟩ (OB.recv E.2.2.2.2.2 (by rfl) ((hk.cv hK hcv).1)) (⟨hk.cv hK hcv, (hk.cv hK hcv).2.2 5 (by decide), hM, v_a1, v_a3, v_b1, v_b3, v_X0, v_X2⟩) hF hl.1 rfl (Nat.le_of_ble_eq_true rfl) d_Curve_add_176 ⟨by decide, by decide⟩ (qv (fun H6 locs hq hF => ?_))
    obtain ⟨hq, hv9⟩ := hq
    have v_a1 := v_a1.off hq (fun h => h.elim ((hXa 5 (by decide)).1) (fun h => h.elim ((hXa 6 (by decide)).1) (fun h => ((hXa 7 (by decide)).1) h)))
    have v_a2 := v_a2.off hq (fun h => h.elim ((hXa 5 (by decide)).2.1) (fun h => h.elim ((hXa 6 (by decide)).2.1) (fun h => ((hXa 7 (by decide)).2.1) h)))
    have v_a3 := v_a3.off hq (fun h => h.elim ((hXa 5 (by decide)).2.2) (fun h => h.elim ((hXa 6 (by decide)).2.2) (fun h => ((hXa 7 (by decide)).2.2) h)))
    have v_b1 := v_b1.off hq (fun h => h.elim ((hXb 5 (by decide)).1) (fun h => h.elim ((hXb 6 (by decide)).1) (fun h => ((hXb 7 (by decide)).1) h)))
    have v_b3 := v_b3.off hq (fun h => h.elim ((hXb 5 (by decide)).2.2) (fun h => h.elim ((hXb 6 (by decide)).2.2) (fun h => ((hXb 7 (by decide)).2.2) h)))
    have v_by0 := v_by0.off hq (fun h => h.elim (hby0 5 (by decide)) (fun h => h.elim (hby0 6 (by decide)) (fun h => (hby0 7 (by decide)) h)))
    have v_X0 := v_X0.off hq (fun h => h.elim (hXA.1 0 5 (by decide) (by decide) (by decide)) (fun h => h.elim (hXA.1 0 6 (by decide) (by decide) (by decide)) (fun h => (hXA.1 0 7 (by decide) (by decide) (by decide)) h)))
    have v_X1 := v_X1.off hq (fun h => h.elim (hXA.1 1 5 (by decide) (by decide) (by decide)) (fun h => h.elim (hXA.1 1 6 (by decide) (by decide) (by decide)) (fun h => (hXA.1 1 7 (by decide) (by decide) (by decide)) h)))
    have v_X2 := v_X2.off hq (fun h => h.elim (hXA.1 2 5 (by decide) (by decide) (by decide)) (fun h => h.elim (hXA.1 2 6 (by decide) (by decide) (by decide)) (fun h => (hXA.1 2 7 (by decide) (by decide) (by decide)) h)))
    have v_X3 := v_X3.off hq (fun h => h.elim (hXA.1 3 5 (by decide) (by decide) (by decide)) (fun h => h.elim (hXA.1 3 6 (by decide) (by decide) (by decide)) (fun h => (hXA.1 3 7 (by decide) (by decide) (by decide)) h)))
    have v_X4 := v_X4.off hq (fun h => h.elim (hXA.1 4 5 (by decide) (by decide) (by decide)) (fun h => h.elim (hXA.1 4 6 (by decide) (by decide) (by decide)) (fun h => (hXA.1 4 7 (by decide) (by decide) (by decide)) h)))
    have hM := hq.ajo (fun h => h.elim (hXA.2.1 5 (by decide)) (fun h => h.elim (hXA.2.1 6 (by decide)) (fun h => (hXA.2.1 7 (by decide)) h))) hM
    have hk := hk.tr (hq.mono (fun q h => h.elim (fun h => Or.inl ⟨5, by decide, h⟩) (fun h => h.elim (fun h => Or.inl ⟨6, by decide, h⟩) (fun h => Or.inl ⟨7, by decide, h⟩))))
    have v_X5 : LW g H6 (X 5) (ecI 1 P.1 R.2.2 R.1 P.2.2) := hv9
    refine lv_aload_n hx hb d_Curve_add_179 rfl (lv_at hl 1 rfl) ?_
    refine q_get (C := "KateDesk$Curve") (T := T_Curve) (N := 10) (ci := 0) E ((hk.cv hK hcv).1) in_Curve rfl 0 (by decide) w_205 rfl rfl d_Curve_add_180 ?_
    refine lv_aload_n hx hb d_Curve_add_183 rfl (lv_at hl 1 rfl) ?_
    refine q_get (C := "KateDesk$Curve") (T := T_Curve) (N := 10) (ci := 0) E ((hk.cv hK hcv).1) in_Curve rfl 7 (by decide) w_212 rfl rfl d_Curve_add_184 ?_
    refine lv_aload_n hx hb d_Curve_add_187 rfl (lv_at hl 1 rfl) ?_
    refine q_get (C := "KateDesk$Curve") (T := T_Curve) (N := 10) (ci := 0) E ((hk.cv hK hcv).1) in_Curve rfl 1 (by decide) w_206 rfl rfl d_Curve_add_188 ?_
    refine lv_aload_n hx hb d_Curve_add_191 rfl (lv_at hl 1 rfl) ?_
    refine q_get (C := "KateDesk$Curve") (T := T_Curve) (N := 10) (ci := 0) E ((hk.cv hK hcv).1) in_Curve rfl 1 (by decide) w_206 rfl rfl d_Curve_add_192 ?_
    obtain ⟨fa4, ha4, va4⟩ := id v_X0
    obtain ⟨fb4, hb4, vb4⟩ := id v_X0
    refine q_cV (rest := []) E (V_Field_add l g n0 fo (X 6) (X 0) (X 0) F mi fa4 fb4 kQ ((P.1 * R.1) * WQ % QJ) ((P.1 * R.1) * WQ % QJ) QJ va4 vb4 kQ_rv (qm_r _).2 (qm_r _).2 (hXA.2.1 6 (by decide)) QJ_2) w_157 w_4 w_653 w_155 w_156 hd_Field_add rfl ⟨by decide, by decide⟩ (OB.recv E.2.2.2.2.2 (by rfl) ((hk.cv hK hcv).2.1.1)) (⟨(hk.cv hK hcv).2.1, (hk.cv hK hcv).2.2 6 (by decide), ha4, hb4, hM⟩) hF hl.1 rfl (Nat.le_of_ble_eq_true rfl) d_Curve_add_195 ⟨by decide, by decide⟩ (qv (fun H7 locs hq hF => ?_))
    obtain ⟨hq, f9, hf9, hv9⟩ := hq
    rw [lw_ad] at hv9
    have v_a1 := v_a1.off hq ((hXa 6 (by decide)).1)
    have v_a2 := v_a2.off hq ((hXa 6 (by decide)).2.1)
    have v_a3 := v_a3.off hq ((hXa 6 (by decide)).2.2)
    have v_b1 := v_b1.off hq ((hXb 6 (by decide)).1)
    have v_b3 := v_b3.off hq ((hXb 6 (by decide)).2.2)
    have v_by0 := v_by0.off hq (hby0 6 (by decide))
    have v_X0 := v_X0.off hq (hXA.1 0 6 (by decide) (by decide) (by decide))
    have v_X1 := v_X1.off hq (hXA.1 1 6 (by decide) (by decide) (by decide))
    have v_X2 := v_X2.off hq (hXA.1 2 6 (by decide) (by decide) (by decide))
    have v_X3 := v_X3.off hq (hXA.1 3 6 (by decide) (by decide) (by decide))
    have v_X4 := v_X4.off hq (hXA.1 4 6 (by decide) (by decide) (by decide))
    have v_X5 := v_X5.off hq (hXA.1 5 6 (by decide) (by decide) (by decide))
    have hM := hq.ajo (hXA.2.1 6 (by decide)) hM
    have hk := hk.tr (hq.mono (fun q h => Or.inl ⟨6, by decide, h⟩))
    have v_X6 : LW g H7 (X 6) ((P.1 * R.1) + (P.1 * R.1)) := ⟨f9, hf9, hv9⟩
    refine lv_aload_n hx hb d_Curve_add_198 rfl (lv_at hl 1 rfl) ?_
    refine q_get (C := "KateDesk$Curve") (T := T_Curve) (N := 10) (ci := 0) E ((hk.cv hK hcv).1) in_Curve rfl 0 (by decide) w_205 rfl rfl d_Curve_add_199 ?_
    refine lv_aload_n hx hb d_Curve_add_202 rfl (lv_at hl 1 rfl) ?_
    refine q_get (C := "KateDesk$Curve") (T := T_Curve) (N := 10) (ci := 0) E ((hk.cv hK hcv).1) in_Curve rfl 1 (by decide) w_206 rfl rfl d_Curve_add_203 ?_
    refine lv_aload_n hx hb d_Curve_add_206 rfl (lv_at hl 1 rfl) ?_
    refine q_get (C := "KateDesk$Curve") (T := T_Curve) (N := 10) (ci := 0) E ((hk.cv hK hcv).1) in_Curve rfl 7 (by decide) w_212 rfl rfl d_Curve_add_207 ?_
    refine lv_aload_n hx hb d_Curve_add_210 rfl (lv_at hl 1 rfl) ?_
    refine q_get (C := "KateDesk$Curve") (T := T_Curve) (N := 10) (ci := 0) E ((hk.cv hK hcv).1) in_Curve rfl 1 (by decide) w_206 rfl rfl d_Curve_add_211 ?_
    obtain ⟨fa5, ha5, va5⟩ := id v_X6
    obtain ⟨fb5, hb5, vb5⟩ := id v_X0
    refine q_cV (rest := []) E (V_Field_add l g n0 fo (X 0) (X 6) (X 0) F mi fa5 fb5 kQ (((P.1 * R.1) + (P.1 * R.1)) * WQ % QJ) ((P.1 * R.1) * WQ % QJ) QJ va5 vb5 kQ_rv (qm_r _).2 (qm_r _).2 (hXA.2.1 0 (by decide)) QJ_2) w_157 w_4 w_653 w_155 w_156 hd_Field_add rfl ⟨by decide, by decide⟩ (OB.recv E.2.2.2.2.2 (by rfl) ((hk.cv hK hcv).2.1.1)) (⟨(hk.cv hK hcv).2.1, (hk.cv hK hcv).2.2 0 (by decide), ha5, hb5, hM⟩) hF hl.1 rfl (Nat.le_of_ble_eq_true rfl) d_Curve_add_214 ⟨by decide, by decide⟩ (qv (fun H8 locs hq hF => ?_))
    obtain ⟨hq, f9, hf9, hv9⟩ := hq
    rw [lw_ad] at hv9
    have v_a1 := v_a1.off hq ((hXa 0 (by decide)).1)
    have v_a2 := v_a2.off hq ((hXa 0 (by decide)).2.1)
    have v_a3 := v_a3.off hq ((hXa 0 (by decide)).2.2)
    have v_b1 := v_b1.off hq ((hXb 0 (by decide)).1)
    have v_b3 := v_b3.off hq ((hXb 0 (by decide)).2.2)
    have v_by0 := v_by0.off hq (hby0 0 (by decide))
    have v_X1 := v_X1.off hq (hXA.1 1 0 (by decide) (by decide) (by decide))
    have v_X2 := v_X2.off hq (hXA.1 2 0 (by decide) (by decide) (by decide))
    have v_X3 := v_X3.off hq (hXA.1 3 0 (by decide) (by decide) (by decide))
    have v_X4 := v_X4.off hq (hXA.1 4 0 (by decide) (by decide) (by decide))
    have v_X5 := v_X5.off hq (hXA.1 5 0 (by decide) (by decide) (by decide))
    have v_X6 := v_X6.off hq (hXA.1 6 0 (by decide) (by decide) (by decide))
    have hM := hq.ajo (hXA.2.1 0 (by decide)) hM
    have hk := hk.tr (hq.mono (fun q h => Or.inl ⟨0, by decide, h⟩))
    have v_X0 : LW g H8 (X 0) (((P.1 * R.1) + (P.1 * R.1)) + (P.1 * R.1)) := ⟨f9, hf9, hv9⟩
    refine lv_aload_n hx hb d_Curve_add_217 rfl (lv_at hl 1 rfl) ?_
    refine lv_aload_n hx hb d_Curve_add_218 rfl (lv_at hl 1 rfl) ?_
    refine q_get (C := "KateDesk$Curve") (T := T_Curve) (N := 10) (ci := 0) E ((hk.cv hK hcv).1) in_Curve rfl 3 (by decide) w_208 rfl rfl d_Curve_add_219 ?_
    refine lv_aload_n hx hb d_Curve_add_222 rfl (lv_at hl 1 rfl) ?_
    refine q_get (C := "KateDesk$Curve") (T := T_Curve) (N := 10) (ci := 0) E ((hk.cv hK hcv).1) in_Curve rfl 3 (by decide) w_208 rfl rfl d_Curve_add_223 ?_
    refine q_cV (rest := []) E (L_Curve_twelvefold l g n0 o fo F mi X (X 2) (X 2) (P.2.2 * R.2.2) hXA (⟨hXA.2.1 2 (by decide), hXA.1 6 2 (by decide) (by decide) (by decide)⟩) (hXA.1 2 6 (by decide) (by decide) (by decide))) w_706 w_11 w_703 w_705 (bw_s 8 rfl) hd_Curve_twelvefold rfl ⟨by decide, by decide⟩ (OB.recv E.2.2.2.2.2 (by rfl) ((hk.cv hK hcv).1)) (⟨hk.cv hK hcv, (hk.cv hK hcv).2.2 2 (by decide), hM, v_X2⟩) hF hl.1 rfl (Nat.le_of_ble_eq_true rfl) d_Curve_add_226 ⟨by decide, by decide⟩ (qv (fun H9 locs hq hF => ?_))
    obtain ⟨hq, hv9⟩ := hq
    have v_a1 := v_a1.off hq (fun h => h.elim ((hXa 2 (by decide)).1) (fun h => ((hXa 6 (by decide)).1) h))
    have v_a2 := v_a2.off hq (fun h => h.elim ((hXa 2 (by decide)).2.1) (fun h => ((hXa 6 (by decide)).2.1) h))
    have v_a3 := v_a3.off hq (fun h => h.elim ((hXa 2 (by decide)).2.2) (fun h => ((hXa 6 (by decide)).2.2) h))
    have v_b1 := v_b1.off hq (fun h => h.elim ((hXb 2 (by decide)).1) (fun h => ((hXb 6 (by decide)).1) h))
    have v_b3 := v_b3.off hq (fun h => h.elim ((hXb 2 (by decide)).2.2) (fun h => ((hXb 6 (by decide)).2.2) h))
    have v_by0 := v_by0.off hq (fun h => h.elim (hby0 2 (by decide)) (fun h => (hby0 6 (by decide)) h))
    have v_X0 := v_X0.off hq (fun h => h.elim (hXA.1 0 2 (by decide) (by decide) (by decide)) (fun h => (hXA.1 0 6 (by decide) (by decide) (by decide)) h))
    have v_X1 := v_X1.off hq (fun h => h.elim (hXA.1 1 2 (by decide) (by decide) (by decide)) (fun h => (hXA.1 1 6 (by decide) (by decide) (by decide)) h))
    have v_X3 := v_X3.off hq (fun h => h.elim (hXA.1 3 2 (by decide) (by decide) (by decide)) (fun h => (hXA.1 3 6 (by decide) (by decide) (by decide)) h))
    have v_X4 := v_X4.off hq (fun h => h.elim (hXA.1 4 2 (by decide) (by decide) (by decide)) (fun h => (hXA.1 4 6 (by decide) (by decide) (by decide)) h))
    have v_X5 := v_X5.off hq (fun h => h.elim (hXA.1 5 2 (by decide) (by decide) (by decide)) (fun h => (hXA.1 5 6 (by decide) (by decide) (by decide)) h))
    have hM := hq.ajo (fun h => h.elim (hXA.2.1 2 (by decide)) (fun h => (hXA.2.1 6 (by decide)) h)) hM
    have hk := hk.tr (hq.mono (fun q h => h.elim (fun h => Or.inl ⟨2, by decide, h⟩) (fun h => Or.inl ⟨6, by decide, h⟩)))
    have v_X2 : LW g H9 (X 2) (12 * (P.2.2 * R.2.2)) := hv9
    refine lv_aload_n hx hb d_Curve_add_229 rfl (lv_at hl 1 rfl) ?_
    refine lv_aload_n hx hb d_Curve_add_230 rfl (lv_at hl 1 rfl) ?_
    refine q_get (C := "KateDesk$Curve") (T := T_Curve) (N := 10) (ci := 0) E ((hk.cv hK hcv).1) in_Curve rfl 6 (by decide) w_211 rfl rfl d_Curve_add_231 ?_
    refine lv_aload_n hx hb d_Curve_add_234 rfl (lv_at hl 1 rfl) ?_
    refine q_get (C := "KateDesk$Curve") (T := T_Curve) (N := 10) (ci := 0) E ((hk.cv hK hcv).1) in_Curve rfl 6 (by decide) w_211 rfl rfl d_Curve_add_235 ?_
    refine q_cV (rest := []) E (L_Curve_twelvefold l g n0 o fo F mi X (X 5) (X 5) (ecI 1 P.1 R.2.2 R.1 P.2.2) hXA (⟨hXA.2.1 5 (by decide), hXA.1 6 5 (by decide) (by decide) (by decide)⟩) (hXA.1 5 6 (by decide) (by decide) (by decide))) w_706 w_11 w_703 w_705 (bw_s 8 rfl) hd_Curve_twelvefold rfl ⟨by decide, by decide⟩ (OB.recv E.2.2.2.2.2 (by rfl) ((hk.cv hK hcv).1)) (⟨hk.cv hK hcv, (hk.cv hK hcv).2.2 5 (by decide), hM, v_X5⟩) hF hl.1 rfl (Nat.le_of_ble_eq_true rfl) d_Curve_add_238 ⟨by decide, by decide⟩ (qv (fun H10 locs hq hF => ?_))
    obtain ⟨hq, hv9⟩ := hq
    have v_a1 := v_a1.off hq (fun h => h.elim ((hXa 5 (by decide)).1) (fun h => ((hXa 6 (by decide)).1) h))
    have v_a2 := v_a2.off hq (fun h => h.elim ((hXa 5 (by decide)).2.1) (fun h => ((hXa 6 (by decide)).2.1) h))
    have v_a3 := v_a3.off hq (fun h => h.elim ((hXa 5 (by decide)).2.2) (fun h => ((hXa 6 (by decide)).2.2) h))
    have v_b1 := v_b1.off hq (fun h => h.elim ((hXb 5 (by decide)).1) (fun h => ((hXb 6 (by decide)).1) h))
    have v_b3 := v_b3.off hq (fun h => h.elim ((hXb 5 (by decide)).2.2) (fun h => ((hXb 6 (by decide)).2.2) h))
    have v_by0 := v_by0.off hq (fun h => h.elim (hby0 5 (by decide)) (fun h => (hby0 6 (by decide)) h))
    have v_X0 := v_X0.off hq (fun h => h.elim (hXA.1 0 5 (by decide) (by decide) (by decide)) (fun h => (hXA.1 0 6 (by decide) (by decide) (by decide)) h))
    have v_X1 := v_X1.off hq (fun h => h.elim (hXA.1 1 5 (by decide) (by decide) (by decide)) (fun h => (hXA.1 1 6 (by decide) (by decide) (by decide)) h))
    have v_X2 := v_X2.off hq (fun h => h.elim (hXA.1 2 5 (by decide) (by decide) (by decide)) (fun h => (hXA.1 2 6 (by decide) (by decide) (by decide)) h))
    have v_X3 := v_X3.off hq (fun h => h.elim (hXA.1 3 5 (by decide) (by decide) (by decide)) (fun h => (hXA.1 3 6 (by decide) (by decide) (by decide)) h))
    have v_X4 := v_X4.off hq (fun h => h.elim (hXA.1 4 5 (by decide) (by decide) (by decide)) (fun h => (hXA.1 4 6 (by decide) (by decide) (by decide)) h))
    have hM := hq.ajo (fun h => h.elim (hXA.2.1 5 (by decide)) (fun h => (hXA.2.1 6 (by decide)) h)) hM
    have hk := hk.tr (hq.mono (fun q h => h.elim (fun h => Or.inl ⟨5, by decide, h⟩) (fun h => Or.inl ⟨6, by decide, h⟩)))
    have v_X5 : LW g H10 (X 5) (12 * (ecI 1 P.1 R.2.2 R.1 P.2.2)) := hv9
    refine lv_aload_n hx hb d_Curve_add_241 rfl (lv_at hl 1 rfl) ?_
    refine q_get (C := "KateDesk$Curve") (T := T_Curve) (N := 10) (ci := 0) E ((hk.cv hK hcv).1) in_Curve rfl 0 (by decide) w_205 rfl rfl d_Curve_add_242 ?_
    refine lv_aload_n hx hb d_Curve_add_245 rfl (lv_at hl 1 rfl) ?_
    refine q_get (C := "KateDesk$Curve") (T := T_Curve) (N := 10) (ci := 0) E ((hk.cv hK hcv).1) in_Curve rfl 7 (by decide) w_212 rfl rfl d_Curve_add_246 ?_
    refine lv_aload_n hx hb d_Curve_add_249 rfl (lv_at hl 1 rfl) ?_
    refine q_get (C := "KateDesk$Curve") (T := T_Curve) (N := 10) (ci := 0) E ((hk.cv hK hcv).1) in_Curve rfl 2 (by decide) w_207 rfl rfl d_Curve_add_250 ?_
    refine lv_aload_n hx hb d_Curve_add_253 rfl (lv_at hl 1 rfl) ?_
    refine q_get (C := "KateDesk$Curve") (T := T_Curve) (N := 10) (ci := 0) E ((hk.cv hK hcv).1) in_Curve rfl 3 (by decide) w_208 rfl rfl d_Curve_add_254 ?_
    obtain ⟨fa6, ha6, va6⟩ := id v_X1
    obtain ⟨fb6, hb6, vb6⟩ := id v_X2
    refine q_cV (rest := []) E (V_Field_subtract l g n0 fo (X 6) (X 1) (X 2) F mi fa6 fb6 kQ ((P.2.1 * Y9) * WQ % QJ) ((12 * (P.2.2 * R.2.2)) * WQ % QJ) QJ va6 vb6 kQ_rv (qm_r _).2 (qm_r _).2 (hXA.2.1 6 (by decide))) w_169 w_4 w_707 w_167 w_168 hd_Field_subtract rfl ⟨by decide, by decide⟩ (OB.recv E.2.2.2.2.2 (by rfl) ((hk.cv hK hcv).2.1.1)) (⟨(hk.cv hK hcv).2.1, (hk.cv hK hcv).2.2 6 (by decide), ha6, hb6, hM⟩) hF hl.1 rfl (Nat.le_of_ble_eq_true rfl) d_Curve_add_257 ⟨by decide, by decide⟩ (qv (fun H11 locs hq hF => ?_))
    obtain ⟨hq, f9, hf9, hv9⟩ := hq
    rw [lw_sb] at hv9
    have v_a1 := v_a1.off hq ((hXa 6 (by decide)).1)
    have v_a2 := v_a2.off hq ((hXa 6 (by decide)).2.1)
    have v_a3 := v_a3.off hq ((hXa 6 (by decide)).2.2)
    have v_b1 := v_b1.off hq ((hXb 6 (by decide)).1)
    have v_b3 := v_b3.off hq ((hXb 6 (by decide)).2.2)
    have v_by0 := v_by0.off hq (hby0 6 (by decide))
    have v_X0 := v_X0.off hq (hXA.1 0 6 (by decide) (by decide) (by decide))
    have v_X1 := v_X1.off hq (hXA.1 1 6 (by decide) (by decide) (by decide))
    have v_X2 := v_X2.off hq (hXA.1 2 6 (by decide) (by decide) (by decide))
    have v_X3 := v_X3.off hq (hXA.1 3 6 (by decide) (by decide) (by decide))
    have v_X4 := v_X4.off hq (hXA.1 4 6 (by decide) (by decide) (by decide))
    have v_X5 := v_X5.off hq (hXA.1 5 6 (by decide) (by decide) (by decide))
    have hM := hq.ajo (hXA.2.1 6 (by decide)) hM
    have hk := hk.tr (hq.mono (fun q h => Or.inl ⟨6, by decide, h⟩))
    have v_X6 : LW g H11 (X 6) ((P.2.1 * Y9) - (12 * (P.2.2 * R.2.2))) := ⟨f9, hf9, hv9⟩
    refine lv_aload_n hx hb d_Curve_add_260 rfl (lv_at hl 1 rfl) ?_
    refine q_get (C := "KateDesk$Curve") (T := T_Curve) (N := 10) (ci := 0) E ((hk.cv hK hcv).1) in_Curve rfl 0 (by decide) w_205 rfl rfl d_Curve_add_261 ?_
    refine lv_aload_n hx hb d_Curve_add_264 rfl (lv_at hl 1 rfl) ?_
    refine q_get (C := "KateDesk$Curve") (T := T_Curve) (N := 10) (ci := 0) E ((hk.cv hK hcv).1) in_Curve rfl 8 (by decide) w_213 rfl rfl d_Curve_add_265 ?_
    refine lv_aload_n hx hb d_Curve_add_268 rfl (lv_at hl 1 rfl) ?_
    refine q_get (C := "KateDesk$Curve") (T := T_Curve) (N := 10) (ci := 0) E ((hk.cv hK hcv).1) in_Curve rfl 2 (by decide) w_207 rfl rfl d_Curve_add_269 ?_
    refine lv_aload_n hx hb d_Curve_add_272 rfl (lv_at hl 1 rfl) ?_
    refine q_get (C := "KateDesk$Curve") (T := T_Curve) (N := 10) (ci := 0) E ((hk.cv hK hcv).1) in_Curve rfl 3 (by decide) w_208 rfl rfl d_Curve_add_273 ?_
    obtain ⟨fa7, ha7, va7⟩ := id v_X1
    obtain ⟨fb7, hb7, vb7⟩ := id v_X2
    refine q_cV (rest := []) E (V_Field_add l g n0 fo (X 7) (X 1) (X 2) F mi fa7 fb7 kQ ((P.2.1 * Y9) * WQ % QJ) ((12 * (P.2.2 * R.2.2)) * WQ % QJ) QJ va7 vb7 kQ_rv (qm_r _).2 (qm_r _).2 (hXA.2.1 7 (by decide)) QJ_2) w_157 w_4 w_653 w_155 w_156 hd_Field_add rfl ⟨by decide, by decide⟩ (OB.recv E.2.2.2.2.2 (by rfl) ((hk.cv hK hcv).2.1.1)) (⟨(hk.cv hK hcv).2.1, (hk.cv hK hcv).2.2 7 (by decide), ha7, hb7, hM⟩) hF hl.1 rfl (Nat.le_of_ble_eq_true rfl) d_Curve_add_276 ⟨by decide, by decide⟩ (qv (fun H12 locs hq hF => ?_))
    obtain ⟨hq, f9, hf9, hv9⟩ := hq
    rw [lw_ad] at hv9
    have v_a1 := v_a1.off hq ((hXa 7 (by decide)).1)
    have v_a2 := v_a2.off hq ((hXa 7 (by decide)).2.1)
    have v_a3 := v_a3.off hq ((hXa 7 (by decide)).2.2)
    have v_b1 := v_b1.off hq ((hXb 7 (by decide)).1)
    have v_b3 := v_b3.off hq ((hXb 7 (by decide)).2.2)
    have v_by0 := v_by0.off hq (hby0 7 (by decide))
    have v_X0 := v_X0.off hq (hXA.1 0 7 (by decide) (by decide) (by decide))
    have v_X1 := v_X1.off hq (hXA.1 1 7 (by decide) (by decide) (by decide))
    have v_X2 := v_X2.off hq (hXA.1 2 7 (by decide) (by decide) (by decide))
    have v_X3 := v_X3.off hq (hXA.1 3 7 (by decide) (by decide) (by decide))
    have v_X4 := v_X4.off hq (hXA.1 4 7 (by decide) (by decide) (by decide))
    have v_X5 := v_X5.off hq (hXA.1 5 7 (by decide) (by decide) (by decide))
    have v_X6 := v_X6.off hq (hXA.1 6 7 (by decide) (by decide) (by decide))
    have hM := hq.ajo (hXA.2.1 7 (by decide)) hM
    have hk := hk.tr (hq.mono (fun q h => Or.inl ⟨7, by decide, h⟩))
    have v_X7 : LW g H12 (X 7) ((P.2.1 * Y9) + (12 * (P.2.2 * R.2.2))) := ⟨f9, hf9, hv9⟩
    refine lv_aload_n hx hb d_Curve_add_279 rfl (lv_at hl 1 rfl) ?_
    refine q_get (C := "KateDesk$Curve") (T := T_Curve) (N := 10) (ci := 0) E ((hk.cv hK hcv).1) in_Curve rfl 0 (by decide) w_205 rfl rfl d_Curve_add_280 ?_
    refine lv_aload_n hx hb d_Curve_add_283 rfl (lv_at hl 1 rfl) ?_
    refine q_get (C := "KateDesk$Curve") (T := T_Curve) (N := 10) (ci := 0) E ((hk.cv hK hcv).1) in_Curve rfl 2 (by decide) w_207 rfl rfl d_Curve_add_284 ?_
    refine lv_aload_n hx hb d_Curve_add_287 rfl (lv_at hl 1 rfl) ?_
    refine q_get (C := "KateDesk$Curve") (T := T_Curve) (N := 10) (ci := 0) E ((hk.cv hK hcv).1) in_Curve rfl 5 (by decide) w_210 rfl rfl d_Curve_add_288 ?_
    refine lv_aload_n hx hb d_Curve_add_291 rfl (lv_at hl 1 rfl) ?_
    refine q_get (C := "KateDesk$Curve") (T := T_Curve) (N := 10) (ci := 0) E ((hk.cv hK hcv).1) in_Curve rfl 6 (by decide) w_211 rfl rfl d_Curve_add_292 ?_
    obtain ⟨fa8, ha8, va8⟩ := id v_X4
    obtain ⟨fb8, hb8, vb8⟩ := id v_X5
    refine q_cV (rest := []) E (Q_Field_multiply l g n0 fo (X 1) (X 4) (X 5) F mi fa8 fb8 ((ecI 1 P.2.1 R.2.2 Y9 P.2.2) * WQ % QJ) ((12 * (ecI 1 P.1 R.2.2 R.1 P.2.2)) * WQ % QJ) va8 vb8 (qm_r _).2 (qm_r _).2 (hXA.2.1 1 (by decide)) hmi) w_165 w_4 w_652 w_163 w_164 hd_Field_multiply rfl ⟨by decide, by decide⟩ (OB.recv E.2.2.2.2.2 (by rfl) ((hk.cv hK hcv).2.1.1)) (⟨(hk.cv hK hcv).2.1, (hk.cv hK hcv).2.2 1 (by decide), ha8, hb8, hM⟩) hF hl.1 rfl (Nat.le_of_ble_eq_true rfl) d_Curve_add_295 ⟨by decide, by decide⟩ (qv (fun H13 locs hq hF => ?_))
    obtain ⟨hq, f9, hf9, hv9⟩ := hq
    rw [lw_mu] at hv9
    have v_a1 := v_a1.off hq ((hXa 1 (by decide)).1)
    have v_a2 := v_a2.off hq ((hXa 1 (by decide)).2.1)
    have v_a3 := v_a3.off hq ((hXa 1 (by decide)).2.2)
    have v_b1 := v_b1.off hq ((hXb 1 (by decide)).1)
    have v_b3 := v_b3.off hq ((hXb 1 (by decide)).2.2)
    have v_by0 := v_by0.off hq (hby0 1 (by decide))
    have v_X0 := v_X0.off hq (hXA.1 0 1 (by decide) (by decide) (by decide))
    have v_X2 := v_X2.off hq (hXA.1 2 1 (by decide) (by decide) (by decide))
    have v_X3 := v_X3.off hq (hXA.1 3 1 (by decide) (by decide) (by decide))
    have v_X4 := v_X4.off hq (hXA.1 4 1 (by decide) (by decide) (by decide))
    have v_X5 := v_X5.off hq (hXA.1 5 1 (by decide) (by decide) (by decide))
    have v_X6 := v_X6.off hq (hXA.1 6 1 (by decide) (by decide) (by decide))
    have v_X7 := v_X7.off hq (hXA.1 7 1 (by decide) (by decide) (by decide))
    have hM := hq.ajo (hXA.2.1 1 (by decide)) hM
    have hk := hk.tr (hq.mono (fun q h => Or.inl ⟨1, by decide, h⟩))
    have v_X1 : LW g H13 (X 1) ((ecI 1 P.2.1 R.2.2 Y9 P.2.2) * (12 * (ecI 1 P.1 R.2.2 R.1 P.2.2))) := ⟨f9, hf9, hv9⟩
    refine lv_aload_n hx hb d_Curve_add_298 rfl (lv_at hl 1 rfl) ?_
    refine q_get (C := "KateDesk$Curve") (T := T_Curve) (N := 10) (ci := 0) E ((hk.cv hK hcv).1) in_Curve rfl 0 (by decide) w_205 rfl rfl d_Curve_add_299 ?_
    refine lv_aload_n hx hb d_Curve_add_302 rfl (lv_at hl 1 rfl) ?_
    refine q_get (C := "KateDesk$Curve") (T := T_Curve) (N := 10) (ci := 0) E ((hk.cv hK hcv).1) in_Curve rfl 3 (by decide) w_208 rfl rfl d_Curve_add_303 ?_
    refine lv_aload_n hx hb d_Curve_add_306 rfl (lv_at hl 1 rfl) ?_
    refine q_get (C := "KateDesk$Curve") (T := T_Curve) (N := 10) (ci := 0) E ((hk.cv hK hcv).1) in_Curve rfl 4 (by decide) w_209 rfl rfl d_Curve_add_307 ?_
    refine lv_aload_n hx hb d_Curve_add_310 rfl (lv_at hl 1 rfl) ?_
    refine q_get (C := "KateDesk$Curve") (T := T_Curve) (N := 10) (ci := 0) E ((hk.cv hK hcv).1) in_Curve rfl 7 (by decide) w_212 rfl rfl d_Curve_add_311 ?_
    obtain ⟨fa9, ha9, va9⟩ := id v_X3
    obtain ⟨fb9, hb9, vb9⟩ := id v_X6
    refine q_cV (rest := []) E (Q_Field_multiply l g n0 fo (X 2) (X 3) (X 6) F mi fa9 fb9 ((ecI 1 P.1 Y9 R.1 P.2.1) * WQ % QJ) (((P.2.1 * Y9) - (12 * (P.2.2 * R.2.2))) * WQ % QJ) va9 vb9 (qm_r _).2 (qm_r _).2 (hXA.2.1 2 (by decide)) hmi) w_165 w_4 w_652 w_163 w_164 hd_Field_multiply rfl ⟨by decide, by decide⟩ (OB.recv E.2.2.2.2.2 (by rfl) ((hk.cv hK hcv).2.1.1)) (⟨(hk.cv hK hcv).2.1, (hk.cv hK hcv).2.2 2 (by decide), ha9, hb9, hM⟩) hF hl.1 rfl (Nat.le_of_ble_eq_true rfl) d_Curve_add_314 ⟨by decide, by decide⟩ (qv (fun H14 locs hq hF => ?_))
    obtain ⟨hq, f9, hf9, hv9⟩ := hq
    rw [lw_mu] at hv9
    have v_a1 := v_a1.off hq ((hXa 2 (by decide)).1)
    have v_a2 := v_a2.off hq ((hXa 2 (by decide)).2.1)
    have v_a3 := v_a3.off hq ((hXa 2 (by decide)).2.2)
    have v_b1 := v_b1.off hq ((hXb 2 (by decide)).1)
    have v_b3 := v_b3.off hq ((hXb 2 (by decide)).2.2)
    have v_by0 := v_by0.off hq (hby0 2 (by decide))
    have v_X0 := v_X0.off hq (hXA.1 0 2 (by decide) (by decide) (by decide))
    have v_X1 := v_X1.off hq (hXA.1 1 2 (by decide) (by decide) (by decide))
    have v_X3 := v_X3.off hq (hXA.1 3 2 (by decide) (by decide) (by decide))
    have v_X4 := v_X4.off hq (hXA.1 4 2 (by decide) (by decide) (by decide))
    have v_X5 := v_X5.off hq (hXA.1 5 2 (by decide) (by decide) (by decide))
    have v_X6 := v_X6.off hq (hXA.1 6 2 (by decide) (by decide) (by decide))
    have v_X7 := v_X7.off hq (hXA.1 7 2 (by decide) (by decide) (by decide))
    have hM := hq.ajo (hXA.2.1 2 (by decide)) hM
    have hk := hk.tr (hq.mono (fun q h => Or.inl ⟨2, by decide, h⟩))
    have v_X2 : LW g H14 (X 2) ((ecI 1 P.1 Y9 R.1 P.2.1) * ((P.2.1 * Y9) - (12 * (P.2.2 * R.2.2)))) := ⟨f9, hf9, hv9⟩
    refine lv_aload_n hx hb d_Curve_add_317 rfl (lv_at hl 1 rfl) ?_
    refine q_get (C := "KateDesk$Curve") (T := T_Curve) (N := 10) (ci := 0) E ((hk.cv hK hcv).1) in_Curve rfl 0 (by decide) w_205 rfl rfl d_Curve_add_318 ?_
    refine lv_aload_n hx hb d_Curve_add_321 rfl (lv_at hl 2 rfl) ?_
    refine q_get (C := "KateDesk$Point") (T := T_Point) (N := 3) (ci := 2) E ((hk.pt hK h_t).1) in_Point rfl 0 (by decide) w_46 rfl rfl d_Curve_add_322 ?_
    refine lv_aload_n hx hb d_Curve_add_325 rfl (lv_at hl 1 rfl) ?_
    refine q_get (C := "KateDesk$Curve") (T := T_Curve) (N := 10) (ci := 0) E ((hk.cv hK hcv).1) in_Curve rfl 3 (by decide) w_208 rfl rfl d_Curve_add_326 ?_
    refine lv_aload_n hx hb d_Curve_add_329 rfl (lv_at hl 1 rfl) ?_
    refine q_get (C := "KateDesk$Curve") (T := T_Curve) (N := 10) (ci := 0) E ((hk.cv hK hcv).1) in_Curve rfl 2 (by decide) w_207 rfl rfl d_Curve_add_330 ?_
    obtain ⟨fa10, ha10, va10⟩ := id v_X2
    obtain ⟨fb10, hb10, vb10⟩ := id v_X1
    refine q_cV (rest := []) E (V_Field_subtract l g n0 fo t1 (X 2) (X 1) F mi fa10 fb10 kQ (((ecI 1 P.1 Y9 R.1 P.2.1) * ((P.2.1 * Y9) - (12 * (P.2.2 * R.2.2)))) * WQ % QJ) (((ecI 1 P.2.1 R.2.2 Y9 P.2.2) * (12 * (ecI 1 P.1 R.2.2 R.1 P.2.2))) * WQ % QJ) QJ va10 vb10 kQ_rv (qm_r _).2 (qm_r _).2 (htF.1)) w_169 w_4 w_707 w_167 w_168 hd_Field_subtract rfl ⟨by decide, by decide⟩ (OB.recv E.2.2.2.2.2 (by rfl) ((hk.cv hK hcv).2.1.1)) (⟨(hk.cv hK hcv).2.1, (hk.pt hK h_t).2.1, ha10, hb10, hM⟩) hF hl.1 rfl (Nat.le_of_ble_eq_true rfl) d_Curve_add_333 ⟨by decide, by decide⟩ (qv (fun H15 locs hq hF => ?_))
    obtain ⟨hq, f9, hf9, hv9⟩ := hq
    rw [lw_sb] at hv9
    have v_X0 := v_X0.off hq ((htX 0 (by decide)).1)
    have v_X1 := v_X1.off hq ((htX 1 (by decide)).1)
    have v_X2 := v_X2.off hq ((htX 2 (by decide)).1)
    have v_X3 := v_X3.off hq ((htX 3 (by decide)).1)
    have v_X4 := v_X4.off hq ((htX 4 (by decide)).1)
    have v_X5 := v_X5.off hq ((htX 5 (by decide)).1)
    have v_X6 := v_X6.off hq ((htX 6 (by decide)).1)
    have v_X7 := v_X7.off hq ((htX 7 (by decide)).1)
    have hM := hq.ajo (htF.1) hM
    have hk := hk.tr (hq.mono (fun q h => Or.inr (Or.inr (Or.inl h))))
    have v_t1 : LW g H15 t1 (((ecI 1 P.1 Y9 R.1 P.2.1) * ((P.2.1 * Y9) - (12 * (P.2.2 * R.2.2)))) - ((ecI 1 P.2.1 R.2.2 Y9 P.2.2) * (12 * (ecI 1 P.1 R.2.2 R.1 P.2.2)))) := ⟨f9, hf9, hv9⟩
    refine lv_aload_n hx hb d_Curve_add_336 rfl (lv_at hl 1 rfl) ?_
    refine q_get (C := "KateDesk$Curve") (T := T_Curve) (N := 10) (ci := 0) E ((hk.cv hK hcv).1) in_Curve rfl 0 (by decide) w_205 rfl rfl d_Curve_add_337 ?_
    refine lv_aload_n hx hb d_Curve_add_340 rfl (lv_at hl 1 rfl) ?_
    refine q_get (C := "KateDesk$Curve") (T := T_Curve) (N := 10) (ci := 0) E ((hk.cv hK hcv).1) in_Curve rfl 2 (by decide) w_207 rfl rfl d_Curve_add_341 ?_
    refine lv_aload_n hx hb d_Curve_add_344 rfl (lv_at hl 1 rfl) ?_
    refine q_get (C := "KateDesk$Curve") (T := T_Curve) (N := 10) (ci := 0) E ((hk.cv hK hcv).1) in_Curve rfl 7 (by decide) w_212 rfl rfl d_Curve_add_345 ?_
    refine lv_aload_n hx hb d_Curve_add_348 rfl (lv_at hl 1 rfl) ?_
    refine q_get (C := "KateDesk$Curve") (T := T_Curve) (N := 10) (ci := 0) E ((hk.cv hK hcv).1) in_Curve rfl 8 (by decide) w_213 rfl rfl d_Curve_add_349 ?_
    obtain ⟨fa11, ha11, va11⟩ := id v_X6
    obtain ⟨fb11, hb11, vb11⟩ := id v_X7
    refine q_cV (rest := []) E (Q_Field_multiply l g n0 fo (X 1) (X 6) (X 7) F mi fa11 fb11 (((P.2.1 * Y9) - (12 * (P.2.2 * R.2.2))) * WQ % QJ) (((P.2.1 * Y9) + (12 * (P.2.2 * R.2.2))) * WQ % QJ) va11 vb11 (qm_r _).2 (qm_r _).2 (hXA.2.1 1 (by decide)) hmi) w_165 w_4 w_652 w_163 w_164 hd_Field_multiply rfl ⟨by decide, by decide⟩ (OB.recv E.2.2.2.2.2 (by rfl) ((hk.cv hK hcv).2.1.1)) (⟨(hk.cv hK hcv).2.1, (hk.cv hK hcv).2.2 1 (by decide), ha11, hb11, hM⟩) hF hl.1 rfl (Nat.le_of_ble_eq_true rfl) d_Curve_add_352 ⟨by decide, by decide⟩ (qv (fun H16 locs hq hF => ?_))
    obtain ⟨hq, f9, hf9, hv9⟩ := hq
    rw [lw_mu] at hv9
    have v_X0 := v_X0.off hq (hXA.1 0 1 (by decide) (by decide) (by decide))
    have v_X2 := v_X2.off hq (hXA.1 2 1 (by decide) (by decide) (by decide))
    have v_X3 := v_X3.off hq (hXA.1 3 1 (by decide) (by decide) (by decide))
    have v_X4 := v_X4.off hq (hXA.1 4 1 (by decide) (by decide) (by decide))
    have v_X5 := v_X5.off hq (hXA.1 5 1 (by decide) (by decide) (by decide))
    have v_X6 := v_X6.off hq (hXA.1 6 1 (by decide) (by decide) (by decide))
    have v_X7 := v_X7.off hq (hXA.1 7 1 (by decide) (by decide) (by decide))
    have v_t1 := v_t1.off hq ((htX 1 (by decide)).1.symm)
    have hM := hq.ajo (hXA.2.1 1 (by decide)) hM
    have hk := hk.tr (hq.mono (fun q h => Or.inl ⟨1, by decide, h⟩))
    have v_X1 : LW g H16 (X 1) (((P.2.1 * Y9) - (12 * (P.2.2 * R.2.2))) * ((P.2.1 * Y9) + (12 * (P.2.2 * R.2.2)))) := ⟨f9, hf9, hv9⟩
    refine lv_aload_n hx hb d_Curve_add_355 rfl (lv_at hl 1 rfl) ?_
    refine q_get (C := "KateDesk$Curve") (T := T_Curve) (N := 10) (ci := 0) E ((hk.cv hK hcv).1) in_Curve rfl 0 (by decide) w_205 rfl rfl d_Curve_add_356 ?_
    refine lv_aload_n hx hb d_Curve_add_359 rfl (lv_at hl 1 rfl) ?_
    refine q_get (C := "KateDesk$Curve") (T := T_Curve) (N := 10) (ci := 0) E ((hk.cv hK hcv).1) in_Curve rfl 3 (by decide) w_208 rfl rfl d_Curve_add_360 ?_
    refine lv_aload_n hx hb d_Curve_add_363 rfl (lv_at hl 1 rfl) ?_
    refine q_get (C := "KateDesk$Curve") (T := T_Curve) (N := 10) (ci := 0) E ((hk.cv hK hcv).1) in_Curve rfl 1 (by decide) w_206 rfl rfl d_Curve_add_364 ?_
    refine lv_aload_n hx hb d_Curve_add_367 rfl (lv_at hl 1 rfl) ?_
    refine q_get (C := "KateDesk$Curve") (T := T_Curve) (N := 10) (ci := 0) E ((hk.cv hK hcv).1) in_Curve rfl 6 (by decide) w_211 rfl rfl d_Curve_add_368 ?_
    obtain ⟨fa12, ha12, va12⟩ := id v_X0
    obtain ⟨fb12, hb12, vb12⟩ := id v_X5
    refine q_cV (rest := []) E (Q_Field_multiply l g n0 fo (X 2) (X 0) (X 5) F mi fa12 fb12 ((((P.1 * R.1) + (P.1 * R.1)) + (P.1 * R.1)) * WQ % QJ) ((12 * (ecI 1 P.1 R.2.2 R.1 P.2.2)) * WQ % QJ) va12 vb12 (qm_r _).2 (qm_r _).2 (hXA.2.1 2 (by decide)) hmi) w_165 w_4 w_652 w_163 w_164 hd_Field_multiply rfl ⟨by decide, by decide⟩ (OB.recv E.2.2.2.2.2 (by rfl) ((hk.cv hK hcv).2.1.1)) (⟨(hk.cv hK hcv).2.1, (hk.cv hK hcv).2.2 2 (by decide), ha12, hb12, hM⟩) hF hl.1 rfl (Nat.le_of_ble_eq_true rfl) d_Curve_add_371 ⟨by decide, by decide⟩ (qv (fun H17 locs hq hF => ?_))
    obtain ⟨hq, f9, hf9, hv9⟩ := hq
    rw [lw_mu] at hv9
    have v_X0 := v_X0.off hq (hXA.1 0 2 (by decide) (by decide) (by decide))
    have v_X1 := v_X1.off hq (hXA.1 1 2 (by decide) (by decide) (by decide))
    have v_X3 := v_X3.off hq (hXA.1 3 2 (by decide) (by decide) (by decide))
    have v_X4 := v_X4.off hq (hXA.1 4 2 (by decide) (by decide) (by decide))
    have v_X5 := v_X5.off hq (hXA.1 5 2 (by decide) (by decide) (by decide))
    have v_X6 := v_X6.off hq (hXA.1 6 2 (by decide) (by decide) (by decide))
    have v_X7 := v_X7.off hq (hXA.1 7 2 (by decide) (by decide) (by decide))
    have v_t1 := v_t1.off hq ((htX 2 (by decide)).1.symm)
    have hM := hq.ajo (hXA.2.1 2 (by decide)) hM
    have hk := hk.tr (hq.mono (fun q h => Or.inl ⟨2, by decide, h⟩))
    have v_X2 : LW g H17 (X 2) ((((P.1 * R.1) + (P.1 * R.1)) + (P.1 * R.1)) * (12 * (ecI 1 P.1 R.2.2 R.1 P.2.2))) := ⟨f9, hf9, hv9⟩
    refine lv_aload_n hx hb d_Curve_add_374 rfl (lv_at hl 1 rfl) ?_
    refine q_get (C := "KateDesk$Curve") (T := T_Curve) (N := 10) (ci := 0) E ((hk.cv hK hcv).1) in_Curve rfl 0 (by decide) w_205 rfl rfl d_Curve_add_375 ?_
    refine lv_aload_n hx hb d_Curve_add_378 rfl (lv_at hl 2 rfl) ?_
    refine q_get (C := "KateDesk$Point") (T := T_Point) (N := 3) (ci := 2) E ((hk.pt hK h_t).1) in_Point rfl 1 (by decide) w_50 rfl rfl d_Curve_add_379 ?_
    refine lv_aload_n hx hb d_Curve_add_382 rfl (lv_at hl 1 rfl) ?_
    refine q_get (C := "KateDesk$Curve") (T := T_Curve) (N := 10) (ci := 0) E ((hk.cv hK hcv).1) in_Curve rfl 2 (by decide) w_207 rfl rfl d_Curve_add_383 ?_
    refine lv_aload_n hx hb d_Curve_add_386 rfl (lv_at hl 1 rfl) ?_
    refine q_get (C := "KateDesk$Curve") (T := T_Curve) (N := 10) (ci := 0) E ((hk.cv hK hcv).1) in_Curve rfl 3 (by decide) w_208 rfl rfl d_Curve_add_387 ?_
    obtain ⟨fa13, ha13, va13⟩ := id v_X1
    obtain ⟨fb13, hb13, vb13⟩ := id v_X2
    refine q_cV (rest := []) E (V_Field_add l g n0 fo t2 (X 1) (X 2) F mi fa13 fb13 kQ ((((P.2.1 * Y9) - (12 * (P.2.2 * R.2.2))) * ((P.2.1 * Y9) + (12 * (P.2.2 * R.2.2)))) * WQ % QJ) (((((P.1 * R.1) + (P.1 * R.1)) + (P.1 * R.1)) * (12 * (ecI 1 P.1 R.2.2 R.1 P.2.2))) * WQ % QJ) QJ va13 vb13 kQ_rv (qm_r _).2 (qm_r _).2 (htF.2.1) QJ_2) w_157 w_4 w_653 w_155 w_156 hd_Field_add rfl ⟨by decide, by decide⟩ (OB.recv E.2.2.2.2.2 (by rfl) ((hk.cv hK hcv).2.1.1)) (⟨(hk.cv hK hcv).2.1, (hk.pt hK h_t).2.2.1, ha13, hb13, hM⟩) hF hl.1 rfl (Nat.le_of_ble_eq_true rfl) d_Curve_add_390 ⟨by decide, by decide⟩ (qv (fun H18 locs hq hF => ?_))
    obtain ⟨hq, f9, hf9, hv9⟩ := hq
    rw [lw_ad] at hv9
    have v_X0 := v_X0.off hq ((htX 0 (by decide)).2.1)
    have v_X1 := v_X1.off hq ((htX 1 (by decide)).2.1)
    have v_X2 := v_X2.off hq ((htX 2 (by decide)).2.1)
    have v_X3 := v_X3.off hq ((htX 3 (by decide)).2.1)
    have v_X4 := v_X4.off hq ((htX 4 (by decide)).2.1)
    have v_X5 := v_X5.off hq ((htX 5 (by decide)).2.1)
    have v_X6 := v_X6.off hq ((htX 6 (by decide)).2.1)
    have v_X7 := v_X7.off hq ((htX 7 (by decide)).2.1)
    have v_t1 := v_t1.off hq (htt.1)
    have hM := hq.ajo (htF.2.1) hM
    have hk := hk.tr (hq.mono (fun q h => Or.inr (Or.inr (Or.inr (Or.inl h)))))
    have v_t2 : LW g H18 t2 ((((P.2.1 * Y9) - (12 * (P.2.2 * R.2.2))) * ((P.2.1 * Y9) + (12 * (P.2.2 * R.2.2)))) + ((((P.1 * R.1) + (P.1 * R.1)) + (P.1 * R.1)) * (12 * (ecI 1 P.1 R.2.2 R.1 P.2.2)))) := ⟨f9, hf9, hv9⟩
    refine lv_aload_n hx hb d_Curve_add_393 rfl (lv_at hl 1 rfl) ?_
    refine q_get (C := "KateDesk$Curve") (T := T_Curve) (N := 10) (ci := 0) E ((hk.cv hK hcv).1) in_Curve rfl 0 (by decide) w_205 rfl rfl d_Curve_add_394 ?_
    refine lv_aload_n hx hb d_Curve_add_397 rfl (lv_at hl 1 rfl) ?_
    refine q_get (C := "KateDesk$Curve") (T := T_Curve) (N := 10) (ci := 0) E ((hk.cv hK hcv).1) in_Curve rfl 2 (by decide) w_207 rfl rfl d_Curve_add_398 ?_
    refine lv_aload_n hx hb d_Curve_add_401 rfl (lv_at hl 1 rfl) ?_
    refine q_get (C := "KateDesk$Curve") (T := T_Curve) (N := 10) (ci := 0) E ((hk.cv hK hcv).1) in_Curve rfl 8 (by decide) w_213 rfl rfl d_Curve_add_402 ?_
    refine lv_aload_n hx hb d_Curve_add_405 rfl (lv_at hl 1 rfl) ?_
    refine q_get (C := "KateDesk$Curve") (T := T_Curve) (N := 10) (ci := 0) E ((hk.cv hK hcv).1) in_Curve rfl 5 (by decide) w_210 rfl rfl d_Curve_add_406 ?_
    obtain ⟨fa14, ha14, va14⟩ := id v_X7
    obtain ⟨fb14, hb14, vb14⟩ := id v_X4
    refine q_cV (rest := []) E (Q_Field_multiply l g n0 fo (X 1) (X 7) (X 4) F mi fa14 fb14 (((P.2.1 * Y9) + (12 * (P.2.2 * R.2.2))) * WQ % QJ) ((ecI 1 P.2.1 R.2.2 Y9 P.2.2) * WQ % QJ) va14 vb14 (qm_r _).2 (qm_r _).2 (hXA.2.1 1 (by decide)) hmi) w_165 w_4 w_652 w_163 w_164 hd_Field_multiply rfl ⟨by decide, by decide⟩ (OB.recv E.2.2.2.2.2 (by rfl) ((hk.cv hK hcv).2.1.1)) (⟨(hk.cv hK hcv).2.1, (hk.cv hK hcv).2.2 1 (by decide), ha14, hb14, hM⟩) hF hl.1 rfl (Nat.le_of_ble_eq_true rfl) d_Curve_add_409 ⟨by decide, by decide⟩ (qv (fun H19 locs hq hF => ?_))
    obtain ⟨hq, f9, hf9, hv9⟩ := hq
    rw [lw_mu] at hv9
    have v_X0 := v_X0.off hq (hXA.1 0 1 (by decide) (by decide) (by decide))
    have v_X2 := v_X2.off hq (hXA.1 2 1 (by decide) (by decide) (by decide))
    have v_X3 := v_X3.off hq (hXA.1 3 1 (by decide) (by decide) (by decide))
    have v_X4 := v_X4.off hq (hXA.1 4 1 (by decide) (by decide) (by decide))
    have v_X5 := v_X5.off hq (hXA.1 5 1 (by decide) (by decide) (by decide))
    have v_X6 := v_X6.off hq (hXA.1 6 1 (by decide) (by decide) (by decide))
    have v_X7 := v_X7.off hq (hXA.1 7 1 (by decide) (by decide) (by decide))
    have v_t1 := v_t1.off hq ((htX 1 (by decide)).1.symm)
    have v_t2 := v_t2.off hq ((htX 1 (by decide)).2.1.symm)
    have hM := hq.ajo (hXA.2.1 1 (by decide)) hM
    have hk := hk.tr (hq.mono (fun q h => Or.inl ⟨1, by decide, h⟩))
    have v_X1 : LW g H19 (X 1) (((P.2.1 * Y9) + (12 * (P.2.2 * R.2.2))) * (ecI 1 P.2.1 R.2.2 Y9 P.2.2)) := ⟨f9, hf9, hv9⟩
    refine lv_aload_n hx hb d_Curve_add_412 rfl (lv_at hl 1 rfl) ?_
    refine q_get (C := "KateDesk$Curve") (T := T_Curve) (N := 10) (ci := 0) E ((hk.cv hK hcv).1) in_Curve rfl 0 (by decide) w_205 rfl rfl d_Curve_add_413 ?_
    refine lv_aload_n hx hb d_Curve_add_416 rfl (lv_at hl 1 rfl) ?_
    refine q_get (C := "KateDesk$Curve") (T := T_Curve) (N := 10) (ci := 0) E ((hk.cv hK hcv).1) in_Curve rfl 3 (by decide) w_208 rfl rfl d_Curve_add_417 ?_
    refine lv_aload_n hx hb d_Curve_add_420 rfl (lv_at hl 1 rfl) ?_
    refine q_get (C := "KateDesk$Curve") (T := T_Curve) (N := 10) (ci := 0) E ((hk.cv hK hcv).1) in_Curve rfl 1 (by decide) w_206 rfl rfl d_Curve_add_421 ?_
    refine lv_aload_n hx hb d_Curve_add_424 rfl (lv_at hl 1 rfl) ?_
    refine q_get (C := "KateDesk$Curve") (T := T_Curve) (N := 10) (ci := 0) E ((hk.cv hK hcv).1) in_Curve rfl 4 (by decide) w_209 rfl rfl d_Curve_add_425 ?_
    obtain ⟨fa15, ha15, va15⟩ := id v_X0
    obtain ⟨fb15, hb15, vb15⟩ := id v_X3
    refine q_cV (rest := []) E (Q_Field_multiply l g n0 fo (X 2) (X 0) (X 3) F mi fa15 fb15 ((((P.1 * R.1) + (P.1 * R.1)) + (P.1 * R.1)) * WQ % QJ) ((ecI 1 P.1 Y9 R.1 P.2.1) * WQ % QJ) va15 vb15 (qm_r _).2 (qm_r _).2 (hXA.2.1 2 (by decide)) hmi) w_165 w_4 w_652 w_163 w_164 hd_Field_multiply rfl ⟨by decide, by decide⟩ (OB.recv E.2.2.2.2.2 (by rfl) ((hk.cv hK hcv).2.1.1)) (⟨(hk.cv hK hcv).2.1, (hk.cv hK hcv).2.2 2 (by decide), ha15, hb15, hM⟩) hF hl.1 rfl (Nat.le_of_ble_eq_true rfl) d_Curve_add_428 ⟨by decide, by decide⟩ (qv (fun H20 locs hq hF => ?_))
    obtain ⟨hq, f9, hf9, hv9⟩ := hq
    rw [lw_mu] at hv9
    have v_X0 := v_X0.off hq (hXA.1 0 2 (by decide) (by decide) (by decide))
    have v_X1 := v_X1.off hq (hXA.1 1 2 (by decide) (by decide) (by decide))
    have v_X3 := v_X3.off hq (hXA.1 3 2 (by decide) (by decide) (by decide))
    have v_X4 := v_X4.off hq (hXA.1 4 2 (by decide) (by decide) (by decide))
    have v_X5 := v_X5.off hq (hXA.1 5 2 (by decide) (by decide) (by decide))
    have v_X6 := v_X6.off hq (hXA.1 6 2 (by decide) (by decide) (by decide))
    have v_X7 := v_X7.off hq (hXA.1 7 2 (by decide) (by decide) (by decide))
    have v_t1 := v_t1.off hq ((htX 2 (by decide)).1.symm)
    have v_t2 := v_t2.off hq ((htX 2 (by decide)).2.1.symm)
    have hM := hq.ajo (hXA.2.1 2 (by decide)) hM
    have hk := hk.tr (hq.mono (fun q h => Or.inl ⟨2, by decide, h⟩))
    have v_X2 : LW g H20 (X 2) ((((P.1 * R.1) + (P.1 * R.1)) + (P.1 * R.1)) * (ecI 1 P.1 Y9 R.1 P.2.1)) := ⟨f9, hf9, hv9⟩
    refine lv_aload_n hx hb d_Curve_add_431 rfl (lv_at hl 1 rfl) ?_
    refine q_get (C := "KateDesk$Curve") (T := T_Curve) (N := 10) (ci := 0) E ((hk.cv hK hcv).1) in_Curve rfl 0 (by decide) w_205 rfl rfl d_Curve_add_432 ?_
    refine lv_aload_n hx hb d_Curve_add_435 rfl (lv_at hl 2 rfl) ?_
    refine q_get (C := "KateDesk$Point") (T := T_Point) (N := 3) (ci := 2) E ((hk.pt hK h_t).1) in_Point rfl 2 (by decide) w_54 rfl rfl d_Curve_add_436 ?_
    refine lv_aload_n hx hb d_Curve_add_439 rfl (lv_at hl 1 rfl) ?_
    refine q_get (C := "KateDesk$Curve") (T := T_Curve) (N := 10) (ci := 0) E ((hk.cv hK hcv).1) in_Curve rfl 2 (by decide) w_207 rfl rfl d_Curve_add_440 ?_
    refine lv_aload_n hx hb d_Curve_add_443 rfl (lv_at hl 1 rfl) ?_
    refine q_get (C := "KateDesk$Curve") (T := T_Curve) (N := 10) (ci := 0) E ((hk.cv hK hcv).1) in_Curve rfl 3 (by decide) w_208 rfl rfl d_Curve_add_444 ?_
    obtain ⟨fa16, ha16, va16⟩ := id v_X1
    obtain ⟨fb16, hb16, vb16⟩ := id v_X2
    refine q_cV (rest := []) E (V_Field_add l g n0 fo t3 (X 1) (X 2) F mi fa16 fb16 kQ ((((P.2.1 * Y9) + (12 * (P.2.2 * R.2.2))) * (ecI 1 P.2.1 R.2.2 Y9 P.2.2)) * WQ % QJ) (((((P.1 * R.1) + (P.1 * R.1)) + (P.1 * R.1)) * (ecI 1 P.1 Y9 R.1 P.2.1)) * WQ % QJ) QJ va16 vb16 kQ_rv (qm_r _).2 (qm_r _).2 (htF.2.2) QJ_2) w_157 w_4 w_653 w_155 w_156 hd_Field_add rfl ⟨by decide, by decide⟩ (OB.recv E.2.2.2.2.2 (by rfl) ((hk.cv hK hcv).2.1.1)) (⟨(hk.cv hK hcv).2.1, (hk.pt hK h_t).2.2.2, ha16, hb16, hM⟩) hF hl.1 rfl (Nat.le_of_ble_eq_true rfl) d_Curve_add_447 ⟨by decide, by decide⟩ (qv (fun H21 locs hq hF => ?_))
    obtain ⟨hq, f9, hf9, hv9⟩ := hq
    rw [lw_ad] at hv9
    have v_X0 := v_X0.off hq ((htX 0 (by decide)).2.2)
    have v_X1 := v_X1.off hq ((htX 1 (by decide)).2.2)
    have v_X2 := v_X2.off hq ((htX 2 (by decide)).2.2)
    have v_X3 := v_X3.off hq ((htX 3 (by decide)).2.2)
    have v_X4 := v_X4.off hq ((htX 4 (by decide)).2.2)
    have v_X5 := v_X5.off hq ((htX 5 (by decide)).2.2)
    have v_X6 := v_X6.off hq ((htX 6 (by decide)).2.2)
    have v_X7 := v_X7.off hq ((htX 7 (by decide)).2.2)
    have v_t1 := v_t1.off hq (htt.2.1)
    have v_t2 := v_t2.off hq (htt.2.2)
    have hM := hq.ajo (htF.2.2) hM
    have hk := hk.tr (hq.mono (fun q h => Or.inr (Or.inr (Or.inr (Or.inr h)))))
    have v_t3 : LW g H21 t3 ((((P.2.1 * Y9) + (12 * (P.2.2 * R.2.2))) * (ecI 1 P.2.1 R.2.2 Y9 P.2.2)) + ((((P.1 * R.1) + (P.1 * R.1)) + (P.1 * R.1)) * (ecI 1 P.1 Y9 R.1 P.2.1))) := ⟨f9, hf9, hv9⟩
    exact q_vret E hr hlk (⟨rfl, hk, (R.1, Y9, R.2.2), hR9, v_t1.cg (by show _ = SX P.1 P.2.1 P.2.2 R.1 Y9 R.2.2; unfold SX ecI; grind), v_t2.cg (by show _ = SY P.1 P.2.1 P.2.2 R.1 Y9 R.2.2; unfold SY ecI; grind), v_t3.cg (by show _ = SZ P.1 P.2.1 P.2.2 R.1 Y9 R.2.2; unfold SZ ecI; grind)⟩) hF d_Curve_add_450
  refine lv_if_eq (tgt := 32) hx hb d_Curve_add_8 (by decide) (fun hc => ?_) (fun hc => ?_)
  rotate_left
  · skip
    refine lv_aload_n hx hb d_Curve_add_11 rfl (lv_at hl 1 rfl) ?_
    refine q_get (C := "KateDesk$Curve") (T := T_Curve) (N := 10) (ci := 0) E ((hk.cv hK hcv).1) in_Curve rfl 0 (by decide) w_205 rfl rfl d_Curve_add_12 ?_
    refine lv_aload_n hx hb d_Curve_add_15 rfl (lv_at hl 1 rfl) ?_
    refine q_get (C := "KateDesk$Curve") (T := T_Curve) (N := 10) (ci := 0) E ((hk.cv hK hcv).1) in_Curve rfl 9 (by decide) w_214 rfl rfl d_Curve_add_16 ?_
    refine lv_aload_n hx hb d_Curve_add_19 rfl (lv_at hl 4 rfl) ?_
    refine q_get (C := "KateDesk$Point") (T := T_Point) (N := 3) (ci := 2) E ((hk.pt hK h_b).1) in_Point rfl 1 (by decide) w_50 rfl rfl d_Curve_add_20 ?_
    obtain ⟨fb2, hb2, vb2⟩ := id v_b2
    refine q_cV (rest := []) E (Q_Field_negate l g n0 fo (X 8) b2 F mi fb2 ((R.2.1 * WQ) % QJ) vb2 (qm_r _).2 (hXA.2.1 8 (by decide)) hXA.2.2.2 h5b.2.1) w_609 w_4 w_712 w_607 w_608 hd_Field_negate rfl ⟨by decide, by decide⟩ (OB.recv E.2.2.2.2.2 (by rfl) hcv.2.1.1) (⟨hcv.2.1, hcv.2.2 8 (by decide), hb2, hM⟩) hF hl.1 rfl (Nat.le_of_ble_eq_true rfl) d_Curve_add_23 ⟨by decide, by decide⟩ (qv (fun H1 locs hq hF => ?_))
    obtain ⟨hq, f9, hf9, hv9⟩ := hq
    have v_a1 := v_a1.off hq (fun h => h.elim ((hXa 8 (by decide)).1) h5a.1)
    have v_a2 := v_a2.off hq (fun h => h.elim ((hXa 8 (by decide)).2.1) h5a.2.1)
    have v_a3 := v_a3.off hq (fun h => h.elim ((hXa 8 (by decide)).2.2) h5a.2.2)
    have v_b1 := v_b1.off hq (fun h => h.elim ((hXb 8 (by decide)).1) h5b.1)
    have v_b3 := v_b3.off hq (fun h => h.elim ((hXb 8 (by decide)).2.2) h5b.2.2)
    have hM := hq.ajo (fun h => h.elim (hXA.2.1 8 (by decide)) hXA.2.2.2) hM
    have hk := hk.tr (hq.mono (fun q h => h.elim (fun h => Or.inl ⟨8, by decide, h⟩) (fun h => Or.inr (Or.inl h))))
    rw [lw_ng] at hv9
    refine lv_aload_n hx hb d_Curve_add_26 rfl (lv_at hl 1 rfl) ?_
    refine q_get (C := "KateDesk$Curve") (T := T_Curve) (N := 10) (ci := 0) E ((hk.cv hK hcv).1) in_Curve rfl 9 (by decide) w_214 rfl rfl d_Curve_add_27 ?_
    refine lv_astore (lv' := [(5, .ref (X 8)), (0, .ref o), (1, .ref t), (2, .ref a), (3, .ref b), (4, .int mn)]) hx hb d_Curve_add_30 hl (by decide) rfl (fun ls hl => ?_)
    have hl : lv_has ls 6 [(5, .ref (X 8)), (0, .ref o), (1, .ref t), (2, .ref a), (3, .ref b), (4, .int mn)] := lv_sub hl [0, 1, 2, 3, 4, 5] rfl
    exact tail _ _ ls _ (-R.2.1) hk hM v_a1 v_a2 v_a3 v_b1 ⟨f9, hf9, hv9⟩ v_b3 (fun i hi => hXA.1 8 i (by decide) (by omega) (by omega)) (by rw [if_neg hc]; rfl) hF hl
  have hl : lv_has ls 6 [(5, .ref b2), (0, .ref o), (1, .ref t), (2, .ref a), (3, .ref b), (4, .int mn)] := lv_sub hl [0, 1, 2, 3, 4, 5] rfl
  exact tail s.heap [] ls _ R.2.1 hk hM v_a1 v_a2 v_a3 v_b1 v_b2 v_b3 (fun i hi => (hXb i (by omega)).2.1) (by rw [if_pos hc]) hF hl
