/-! the byte forms with values -/
theorem lw_4 (X : Int) : X * X * X + (1 + 1 + (1 + 1)) = X * X * X + 4 := by omega
/-- minus y, as a number below Q -/
def ngQ (y : Int) : Int := if 0 < y then 0 - y + QJ else 0 - y
/-- the rows of the forms lie apart -/
def FAP (F X : Nat → Nat) (r1 r2 r3 r4 : Nat) : Prop := XA F X ∧ (F 0 ≠ r1 ∧ F 0 ≠ r2 ∧ F 0 ≠ r3 ∧ F 0 ≠ r4) ∧ (r1 ≠ F 5 ∧ r2 ≠ F 5 ∧ r3 ≠ F 5 ∧ r4 ≠ F 5) ∧ (r1 ≠ r2 ∧ r1 ≠ r3 ∧ r1 ≠ r4 ∧ r2 ≠ r3 ∧ r2 ≠ r4 ∧ r3 ≠ r4) ∧ (∀ i, i < 9 → X i ≠ r1 ∧ X i ≠ r2 ∧ X i ≠ r3 ∧ X i ≠ r4) ∧ F 1 ≠ F 5
set_option maxHeartbeats 4000000 in
set_option maxRecDepth 100000 in
theorem L_Curve_squareOfY (l : Launch) (g : WG) (n0 : Nat → Prop) (o : Nat) (fo : Nat) (F : Nat → Nat) (mi : Int64) (X : Nat → Nat) (t a : Nat) (A : Int) (hXA : XA F X) (hmi : mi = 268238845) (hT : F 0 ≠ t) (hTX : X 6 ≠ t ∧ X 7 ≠ t) (ha : a ≠ X 6) (h1 : F 1 ≠ X 6 ∧ F 1 ≠ X 7) : Ctr l y_Curve_squareOfY (.code y_Curve_squareOfY prog_2_method_8_code 3 none) 2 135 0 0 n0 g [.ref o, .ref t, .ref a] (fun H => CV g n0 H o fo F mi X ∧ J14 g n0 H t ∧ AJ g H (F 0) 14 kQ ∧ LW g H a A ∧ LW g H (F 1) 1) (QV (fun H H' => KJ g (fun q => q = X 6 ∨ q = X 7 ∨ q = t) H H' ∧ LW g H' t (A * A * A + 4))) := by
  refine ctr_mk l (lv0 := [(0, .ref o), (1, .ref t), (2, .ref a)]) (by decide) (Nat.le_of_ble_eq_true rfl) rfl ?_
  intro p e s m below meth c ls E hr hlk hnm hl hP
  have hx := E.1
  have hb := E.2.1
  have hK := E.2.2.2.2.2
  have hF : ∀ q ∈ ([] : List Loc), n0 q.base := fun q hq => absurd hq List.not_mem_nil
  obtain ⟨hcv, h_t, hM, v_a, v_F1⟩ := hP
  have hk : KJ g (fun q => q = X 6 ∨ q = X 7 ∨ q = t) s.heap s.heap := KJ.rf
  refine lv_aload_n hx hb d_Curve_squareOfY_0 rfl (lv_at hl 0 rfl) ?_
  refine q_get (C := "KateDesk$Curve") (T := T_Curve) (N := 10) (ci := 0) E ((hk.cv hK hcv).1) in_Curve rfl 0 (by decide) w_205 rfl rfl d_Curve_squareOfY_1 ?_
  refine lv_aload_n hx hb d_Curve_squareOfY_4 rfl (lv_at hl 0 rfl) ?_
  refine q_get (C := "KateDesk$Curve") (T := T_Curve) (N := 10) (ci := 0) E ((hk.cv hK hcv).1) in_Curve rfl 7 (by decide) w_212 rfl rfl d_Curve_squareOfY_5 ?_
  refine lv_aload_n hx hb d_Curve_squareOfY_8 rfl (lv_at hl 2 rfl) ?_
  refine lv_aload_n hx hb d_Curve_squareOfY_9 rfl (lv_at hl 2 rfl) ?_
  obtain ⟨fa1, ha1, va1⟩ := id v_a
  obtain ⟨fb1, hb1, vb1⟩ := id v_a
  refine q_cV (rest := []) E (Q_Field_multiply l g n0 fo (X 6) a a F mi fa1 fb1 ((A) * WQ % QJ) ((A) * WQ % QJ) va1 vb1 (qm_r _).2 (qm_r _).2 (hXA.2.1 6 (by decide)) hmi) w_165 w_4 w_652 w_163 w_164 hd_Field_multiply rfl ⟨by decide, by decide⟩ (OB.recv E.2.2.2.2.2 (by rfl) ((hk.cv hK hcv).2.1.1)) (⟨(hk.cv hK hcv).2.1, (hk.cv hK hcv).2.2 6 (by decide), ha1, hb1, hM⟩) hF hl.1 rfl (Nat.le_of_ble_eq_true rfl) d_Curve_squareOfY_10 ⟨by decide, by decide⟩ (qv (fun H1 locs hq hF => ?_))
  obtain ⟨hq, f9, hf9, hv9⟩ := hq
  rw [lw_mu] at hv9
  have v_a := v_a.off hq (ha)
  have v_F1 := v_F1.off hq (h1.1)
  have hM := hq.ajo (hXA.2.1 6 (by decide)) hM
  have hk := hk.tr (hq.mono (fun q h => Or.inl h))
  have v_X6 : LW g H1 (X 6) (A * A) := ⟨f9, hf9, hv9⟩
  refine lv_aload_n hx hb d_Curve_squareOfY_13 rfl (lv_at hl 0 rfl) ?_
  refine q_get (C := "KateDesk$Curve") (T := T_Curve) (N := 10) (ci := 0) E ((hk.cv hK hcv).1) in_Curve rfl 0 (by decide) w_205 rfl rfl d_Curve_squareOfY_14 ?_
  refine lv_aload_n hx hb d_Curve_squareOfY_17 rfl (lv_at hl 0 rfl) ?_
  refine q_get (C := "KateDesk$Curve") (T := T_Curve) (N := 10) (ci := 0) E ((hk.cv hK hcv).1) in_Curve rfl 7 (by decide) w_212 rfl rfl d_Curve_squareOfY_18 ?_
  refine lv_aload_n hx hb d_Curve_squareOfY_21 rfl (lv_at hl 0 rfl) ?_
  refine q_get (C := "KateDesk$Curve") (T := T_Curve) (N := 10) (ci := 0) E ((hk.cv hK hcv).1) in_Curve rfl 7 (by decide) w_212 rfl rfl d_Curve_squareOfY_22 ?_
  refine lv_aload_n hx hb d_Curve_squareOfY_25 rfl (lv_at hl 2 rfl) ?_
  obtain ⟨fa2, ha2, va2⟩ := id v_X6
  obtain ⟨fb2, hb2, vb2⟩ := id v_a
  refine q_cV (rest := []) E (Q_Field_multiply l g n0 fo (X 6) (X 6) a F mi fa2 fb2 ((A * A) * WQ % QJ) ((A) * WQ % QJ) va2 vb2 (qm_r _).2 (qm_r _).2 (hXA.2.1 6 (by decide)) hmi) w_165 w_4 w_652 w_163 w_164 hd_Field_multiply rfl ⟨by decide, by decide⟩ (OB.recv E.2.2.2.2.2 (by rfl) ((hk.cv hK hcv).2.1.1)) (⟨(hk.cv hK hcv).2.1, (hk.cv hK hcv).2.2 6 (by decide), ha2, hb2, hM⟩) hF hl.1 rfl (Nat.le_of_ble_eq_true rfl) d_Curve_squareOfY_26 ⟨by decide, by decide⟩ (qv (fun H2 locs hq hF => ?_))
  obtain ⟨hq, f9, hf9, hv9⟩ := hq
  rw [lw_mu] at hv9
  have v_F1 := v_F1.off hq (h1.1)
  have hM := hq.ajo (hXA.2.1 6 (by decide)) hM
  have hk := hk.tr (hq.mono (fun q h => Or.inl h))
  have v_X6 : LW g H2 (X 6) ((A * A) * A) := ⟨f9, hf9, hv9⟩
  refine lv_aload_n hx hb d_Curve_squareOfY_29 rfl (lv_at hl 0 rfl) ?_
  refine q_get (C := "KateDesk$Curve") (T := T_Curve) (N := 10) (ci := 0) E ((hk.cv hK hcv).1) in_Curve rfl 0 (by decide) w_205 rfl rfl d_Curve_squareOfY_30 ?_
  refine lv_aload_n hx hb d_Curve_squareOfY_33 rfl (lv_at hl 0 rfl) ?_
  refine q_get (C := "KateDesk$Curve") (T := T_Curve) (N := 10) (ci := 0) E ((hk.cv hK hcv).1) in_Curve rfl 8 (by decide) w_213 rfl rfl d_Curve_squareOfY_34 ?_
  refine lv_aload_n hx hb d_Curve_squareOfY_37 rfl (lv_at hl 0 rfl) ?_
  refine q_get (C := "KateDesk$Curve") (T := T_Curve) (N := 10) (ci := 0) E ((hk.cv hK hcv).1) in_Curve rfl 0 (by decide) w_205 rfl rfl d_Curve_squareOfY_38 ?_
  refine q_get (C := "KateDesk$Field") (T := T_Field) (N := 7) (ci := 1) E ((hk.cv hK hcv).2.1.1) in_Field rfl 1 (by decide) w_176 rfl rfl d_Curve_squareOfY_41 ?_
  refine lv_aload_n hx hb d_Curve_squareOfY_44 rfl (lv_at hl 0 rfl) ?_
  refine q_get (C := "KateDesk$Curve") (T := T_Curve) (N := 10) (ci := 0) E ((hk.cv hK hcv).1) in_Curve rfl 0 (by decide) w_205 rfl rfl d_Curve_squareOfY_45 ?_
  refine q_get (C := "KateDesk$Field") (T := T_Field) (N := 7) (ci := 1) E ((hk.cv hK hcv).2.1.1) in_Field rfl 1 (by decide) w_176 rfl rfl d_Curve_squareOfY_48 ?_
  obtain ⟨fa3, ha3, va3⟩ := id v_F1
  obtain ⟨fb3, hb3, vb3⟩ := id v_F1
  refine q_cV (rest := []) E (V_Field_add l g n0 fo (X 7) (F 1) (F 1) F mi fa3 fb3 kQ ((1) * WQ % QJ) ((1) * WQ % QJ) QJ va3 vb3 kQ_rv (qm_r _).2 (qm_r _).2 (hXA.2.1 7 (by decide)) QJ_2) w_157 w_4 w_653 w_155 w_156 hd_Field_add rfl ⟨by decide, by decide⟩ (OB.recv E.2.2.2.2.2 (by rfl) ((hk.cv hK hcv).2.1.1)) (⟨(hk.cv hK hcv).2.1, (hk.cv hK hcv).2.2 7 (by decide), ha3, hb3, hM⟩) hF hl.1 rfl (Nat.le_of_ble_eq_true rfl) d_Curve_squareOfY_51 ⟨by decide, by decide⟩ (qv (fun H3 locs hq hF => ?_))
  obtain ⟨hq, f9, hf9, hv9⟩ := hq
  rw [lw_ad] at hv9
  have v_X6 := v_X6.off hq (hXA.1 6 7 (by decide) (by decide) (by decide))
  have hM := hq.ajo (hXA.2.1 7 (by decide)) hM
  have hk := hk.tr (hq.mono (fun q h => Or.inr (Or.inl h)))
  have v_X7 : LW g H3 (X 7) (1 + 1) := ⟨f9, hf9, hv9⟩
  refine lv_aload_n hx hb d_Curve_squareOfY_54 rfl (lv_at hl 0 rfl) ?_
  refine q_get (C := "KateDesk$Curve") (T := T_Curve) (N := 10) (ci := 0) E ((hk.cv hK hcv).1) in_Curve rfl 0 (by decide) w_205 rfl rfl d_Curve_squareOfY_55 ?_
  refine lv_aload_n hx hb d_Curve_squareOfY_58 rfl (lv_at hl 0 rfl) ?_
  refine q_get (C := "KateDesk$Curve") (T := T_Curve) (N := 10) (ci := 0) E ((hk.cv hK hcv).1) in_Curve rfl 8 (by decide) w_213 rfl rfl d_Curve_squareOfY_59 ?_
  refine lv_aload_n hx hb d_Curve_squareOfY_62 rfl (lv_at hl 0 rfl) ?_
  refine q_get (C := "KateDesk$Curve") (T := T_Curve) (N := 10) (ci := 0) E ((hk.cv hK hcv).1) in_Curve rfl 8 (by decide) w_213 rfl rfl d_Curve_squareOfY_63 ?_
  refine lv_aload_n hx hb d_Curve_squareOfY_66 rfl (lv_at hl 0 rfl) ?_
  refine q_get (C := "KateDesk$Curve") (T := T_Curve) (N := 10) (ci := 0) E ((hk.cv hK hcv).1) in_Curve rfl 8 (by decide) w_213 rfl rfl d_Curve_squareOfY_67 ?_
  obtain ⟨fa4, ha4, va4⟩ := id v_X7
  obtain ⟨fb4, hb4, vb4⟩ := id v_X7
  refine q_cV (rest := []) E (V_Field_add l g n0 fo (X 7) (X 7) (X 7) F mi fa4 fb4 kQ ((1 + 1) * WQ % QJ) ((1 + 1) * WQ % QJ) QJ va4 vb4 kQ_rv (qm_r _).2 (qm_r _).2 (hXA.2.1 7 (by decide)) QJ_2) w_157 w_4 w_653 w_155 w_156 hd_Field_add rfl ⟨by decide, by decide⟩ (OB.recv E.2.2.2.2.2 (by rfl) ((hk.cv hK hcv).2.1.1)) (⟨(hk.cv hK hcv).2.1, (hk.cv hK hcv).2.2 7 (by decide), ha4, hb4, hM⟩) hF hl.1 rfl (Nat.le_of_ble_eq_true rfl) d_Curve_squareOfY_70 ⟨by decide, by decide⟩ (qv (fun H4 locs hq hF => ?_))
  obtain ⟨hq, f9, hf9, hv9⟩ := hq
  rw [lw_ad] at hv9
  have v_X6 := v_X6.off hq (hXA.1 6 7 (by decide) (by decide) (by decide))
  have hM := hq.ajo (hXA.2.1 7 (by decide)) hM
  have hk := hk.tr (hq.mono (fun q h => Or.inr (Or.inl h)))
  have v_X7 : LW g H4 (X 7) ((1 + 1) + (1 + 1)) := ⟨f9, hf9, hv9⟩
  refine lv_aload_n hx hb d_Curve_squareOfY_73 rfl (lv_at hl 0 rfl) ?_
  refine q_get (C := "KateDesk$Curve") (T := T_Curve) (N := 10) (ci := 0) E ((hk.cv hK hcv).1) in_Curve rfl 0 (by decide) w_205 rfl rfl d_Curve_squareOfY_74 ?_
  refine lv_aload_n hx hb d_Curve_squareOfY_77 rfl (lv_at hl 1 rfl) ?_
  refine lv_aload_n hx hb d_Curve_squareOfY_78 rfl (lv_at hl 0 rfl) ?_
  refine q_get (C := "KateDesk$Curve") (T := T_Curve) (N := 10) (ci := 0) E ((hk.cv hK hcv).1) in_Curve rfl 7 (by decide) w_212 rfl rfl d_Curve_squareOfY_79 ?_
  refine lv_aload_n hx hb d_Curve_squareOfY_82 rfl (lv_at hl 0 rfl) ?_
  refine q_get (C := "KateDesk$Curve") (T := T_Curve) (N := 10) (ci := 0) E ((hk.cv hK hcv).1) in_Curve rfl 8 (by decide) w_213 rfl rfl d_Curve_squareOfY_83 ?_
  obtain ⟨fa5, ha5, va5⟩ := id v_X6
  obtain ⟨fb5, hb5, vb5⟩ := id v_X7
  refine q_cV (rest := []) E (V_Field_add l g n0 fo t (X 6) (X 7) F mi fa5 fb5 kQ (((A * A) * A) * WQ % QJ) (((1 + 1) + (1 + 1)) * WQ % QJ) QJ va5 vb5 kQ_rv (qm_r _).2 (qm_r _).2 (hT) QJ_2) w_157 w_4 w_653 w_155 w_156 hd_Field_add rfl ⟨by decide, by decide⟩ (OB.recv E.2.2.2.2.2 (by rfl) ((hk.cv hK hcv).2.1.1)) (⟨(hk.cv hK hcv).2.1, hk.j h_t, ha5, hb5, hM⟩) hF hl.1 rfl (Nat.le_of_ble_eq_true rfl) d_Curve_squareOfY_86 ⟨by decide, by decide⟩ (qv (fun H5 locs hq hF => ?_))
  obtain ⟨hq, f9, hf9, hv9⟩ := hq
  rw [lw_ad] at hv9
  have hM := hq.ajo (hT) hM
  have hk := hk.tr (hq.mono (fun q h => Or.inr (Or.inr h)))
  have v_t : LW g H5 t (((A * A) * A) + ((1 + 1) + (1 + 1))) := ⟨f9, hf9, hv9⟩
  exact q_vret E hr hlk (⟨rfl, hk, v_t.cg (by grind)⟩) hF d_Curve_squareOfY_89
set_option maxHeartbeats 4000000 in
set_option maxRecDepth 100000 in
theorem L_Forms_isGreater (l : Launch) (g : WG) (n0 : Nat → Prop) (o cu fi : Nat) (F : Nat → Nat) (mi : Int64) (X : Nat → Nat) (r1 r2 r3 r4 : Nat) (y : Nat) (fy : Nat → Int64) (y0 : Int) (hfy : RV fy y0) (hyQ : y0 < QJ) (hA9 : FAP F X r1 r2 r3 r4) (hy5 : y ≠ F 5) (hy3 : y ≠ r3) : Ctr l y_Forms_isGreater (.code y_Forms_isGreater prog_4_method_7_code 2 (some FieldType.boolean)) 3 66 0 0 n0 g [.ref o, .ref y] (fun H => FMX g n0 H o cu fi F mi X r1 r2 r3 r4 ∧ AJ g H (F 0) 14 kQ ∧ AJ g H y 14 fy) (QI (fun r H H' => ((r = 1 ∧ ngQ y0 < y0) ∨ (r = 0 ∧ y0 ≤ ngQ y0)) ∧ KJ g (fun q => q = r3 ∨ q = F 5) H H')) := by
  refine ctr_mk l (lv0 := [(0, .ref o), (1, .ref y)]) (by decide) (Nat.le_of_ble_eq_true rfl) rfl ?_
  intro p e s m below meth c ls E hr hlk hnm hl hP
  have hx := E.1
  have hb := E.2.1
  have hK := E.2.2.2.2.2
  have hF : ∀ q ∈ ([] : List Loc), n0 q.base := fun q hq => absurd hq List.not_mem_nil
  obtain ⟨hfm, hM, hY⟩ := hP
  have hk : KJ g (fun q => q = r3 ∨ q = F 5) s.heap s.heap := KJ.rf
  refine lv_aload_n hx hb d_Forms_isGreater_0 rfl (lv_at hl 0 rfl) ?_
  refine q_get (C := "KateDesk$Forms") (T := T_Forms) (N := 6) (ci := 6) E ((hk.fmx hK hfm).1) in_Forms rfl 0 (by decide) w_272 rfl rfl d_Forms_isGreater_1 ?_
  refine lv_aload_n hx hb d_Forms_isGreater_4 rfl (lv_at hl 0 rfl) ?_
  refine q_get (C := "KateDesk$Forms") (T := T_Forms) (N := 6) (ci := 6) E ((hk.fmx hK hfm).1) in_Forms rfl 4 (by decide) w_276 rfl rfl d_Forms_isGreater_5 ?_
  refine lv_aload_n hx hb d_Forms_isGreater_8 rfl (lv_at hl 1 rfl) ?_
  refine q_cV (rest := []) E (Q_Field_negate l g n0 fi r3 y F mi fy y0 hfy hyQ hA9.2.1.2.2.1 hA9.1.2.2.2 hy5) w_609 w_4 w_664 w_607 w_608 hd_Field_negate rfl ⟨by decide, by decide⟩ (OB.recv E.2.2.2.2.2 (by rfl) ((hk.fmx hK hfm).2.1.2.1.1)) (⟨(hk.fmx hK hfm).2.1.2.1, (hk.fmx hK hfm).2.2.2.2.1, hY, hM⟩) hF hl.1 rfl (Nat.le_of_ble_eq_true rfl) d_Forms_isGreater_9 ⟨by decide, by decide⟩ (qv (fun H1 locs hq hF => ?_))
  obtain ⟨hq, f9, hf9, hv9⟩ := hq
  have hY := hq.ajo (fun h => h.elim hy3 hy5) hY
  have hk := hk.tr hq
  refine lv_aload_n hx hb d_Forms_isGreater_12 rfl (lv_at hl 0 rfl) ?_
  refine q_get (C := "KateDesk$Forms") (T := T_Forms) (N := 6) (ci := 6) E ((hk.fmx hK hfm).1) in_Forms rfl 4 (by decide) w_276 rfl rfl d_Forms_isGreater_13 ?_
  refine lv_aload_n hx hb d_Forms_isGreater_16 rfl (lv_at hl 1 rfl) ?_
  refine q_cS (rest := []) E (X_Limbs_less l g n0 r3 y f9 fy hv9.1 hfy.1) w_512 w_5 w_647 w_511 hd_Limbs_less rfl ⟨by decide, by decide⟩ (⟨hf9, hY⟩) hF hl.1 rfl (Nat.le_of_ble_eq_true rfl) d_Forms_isGreater_17 ⟨by decide, by decide⟩ (qi (fun r H2 locs hq hF => ?_))
  obtain ⟨hr9, hq⟩ := hq
  have hq := hq.symm
  subst hq
  rw [hv9.2, hfy.2] at hr9
  exact q_zret E hr (by rcases hr9 with h | h <;> rw [h.1] <;> rfl) hlk (⟨r, rfl, hr9, hk⟩) hF d_Forms_isGreater_20
set_option maxHeartbeats 4000000 in
set_option maxRecDepth 100000 in
theorem L_Forms_findY (l : Launch) (g : WG) (n0 : Nat → Prop) (o cu fi : Nat) (F : Nat → Nat) (mi : Int64) (X : Nat → Nat) (r1 r2 r3 r4 : Nat) (t : Nat) (gr : Int32) (S9 : Int) (E9 : Nat) (f1 : Nat → Int64) (hf1 : RV f1 (E9 : Int)) (hgr : gr = 0 ∨ gr = 1) (hmi : mi = 268238845) (hA9 : FAP F X r1 r2 r3 r4) (hT : F 0 ≠ t ∧ t ≠ F 5 ∧ r1 ≠ t ∧ r2 ≠ t ∧ r3 ≠ t ∧ r4 ≠ t) (h2t : F 2 ≠ t ∧ F 2 ≠ F 5) : Ctr l y_Forms_findY (.code y_Forms_findY prog_4_method_6_code 3 none) 4 160 0 0 n0 g [.ref o, .ref t, .int gr] (fun H => FMX g n0 H o cu fi F mi X r1 r2 r3 r4 ∧ J14 g n0 H t ∧ AJ g H (F 0) 14 kQ ∧ AJ g H r1 14 f1 ∧ LW g H r2 S9 ∧ (∃ f, AJ g H (F 1) 14 f ∧ RV f WQ) ∧ ∃ f, AJ g H (F 2) 14 f ∧ RV f 1) (QV (fun H H' => KJ g (fun q => q = t ∨ q = F 5 ∨ q = r3 ∨ q = r4) H H' ∧ ∃ Y, LW g H' t Y ∧ ((ngQ (S9 ^ E9 % QJ) < S9 ^ E9 % QJ ↔ gr = 1) → Y = S9 ^ E9) ∧ (¬ (ngQ (S9 ^ E9 % QJ) < S9 ^ E9 % QJ ↔ gr = 1) → Y = -(S9 ^ E9)))) := by
  refine ctr_mk l (lv0 := [(0, .ref o), (1, .ref t), (2, .int gr)]) (by decide) (Nat.le_of_ble_eq_true rfl) rfl ?_
  intro p e s m below meth c ls E hr hlk hnm hl hP
  have hx := E.1
  have hb := E.2.1
  have hK := E.2.2.2.2.2
  have hF : ∀ q ∈ ([] : List Loc), n0 q.base := fun q hq => absurd hq List.not_mem_nil
  obtain ⟨hfm, h_t, hM, hR1, ⟨fs, hfs, hvs⟩, h1, f2, hf2, hv2⟩ := hP
  have hk : KJ g (fun q => q = t ∨ q = F 5 ∨ q = r3 ∨ q = r4) s.heap s.heap := KJ.rf
  refine lv_aload_n hx hb d_Forms_findY_0 rfl (lv_at hl 0 rfl) ?_
  refine q_get (C := "KateDesk$Forms") (T := T_Forms) (N := 6) (ci := 6) E ((hk.fmx hK hfm).1) in_Forms rfl 0 (by decide) w_272 rfl rfl d_Forms_findY_1 ?_
  refine lv_aload_n hx hb d_Forms_findY_4 rfl (lv_at hl 1 rfl) ?_
  refine lv_aload_n hx hb d_Forms_findY_5 rfl (lv_at hl 0 rfl) ?_
  refine q_get (C := "KateDesk$Forms") (T := T_Forms) (N := 6) (ci := 6) E ((hk.fmx hK hfm).1) in_Forms rfl 3 (by decide) w_275 rfl rfl d_Forms_findY_6 ?_
  refine lv_aload_n hx hb d_Forms_findY_9 rfl (lv_at hl 0 rfl) ?_
  refine q_get (C := "KateDesk$Forms") (T := T_Forms) (N := 6) (ci := 6) E ((hk.fmx hK hfm).1) in_Forms rfl 2 (by decide) w_274 rfl rfl d_Forms_findY_10 ?_
  refine q_cV (rest := []) E (Q_Field_raise l g n0 fi t r2 r1 F mi fs f1 S9 E9 hvs hf1 hT.1 hA9.1.2.2.2 hT.2.1 hT.2.2.1 hA9.2.2.1.1 hA9.2.2.2.2.2 hmi) w_574 w_4 w_658 w_572 w_573 hd_Field_raise rfl ⟨by decide, by decide⟩ (OB.recv E.2.2.2.2.2 (by rfl) ((hk.fmx hK hfm).2.1.2.1.1)) (⟨(hk.fmx hK hfm).2.1.2.1, hk.j h_t, hfs, hR1, hM, h1⟩) hF hl.1 rfl (Nat.le_of_ble_eq_true rfl) d_Forms_findY_13 ⟨by decide, by decide⟩ (qv (fun H1 locs hq hF => ?_))
  obtain ⟨hq, f9, hf9, hv9⟩ := hq
  have hM := hq.ajo (fun h => h.elim hT.1 hA9.1.2.2.2) hM
  have hf2 := hq.ajo (fun h => h.elim h2t.1 h2t.2) hf2
  have hk := hk.tr (hq.mono (fun q h => h.elim Or.inl (fun h => Or.inr (Or.inl h))))
  refine lv_aload_n hx hb d_Forms_findY_16 rfl (lv_at hl 0 rfl) ?_
  refine q_get (C := "KateDesk$Forms") (T := T_Forms) (N := 6) (ci := 6) E ((hk.fmx hK hfm).1) in_Forms rfl 0 (by decide) w_272 rfl rfl d_Forms_findY_17 ?_
  refine lv_aload_n hx hb d_Forms_findY_20 rfl (lv_at hl 0 rfl) ?_
  refine q_get (C := "KateDesk$Forms") (T := T_Forms) (N := 6) (ci := 6) E ((hk.fmx hK hfm).1) in_Forms rfl 5 (by decide) w_277 rfl rfl d_Forms_findY_21 ?_
  refine lv_aload_n hx hb d_Forms_findY_24 rfl (lv_at hl 1 rfl) ?_
  refine q_cV (rest := []) E (Q_Field_lower l g n0 fi r4 t F mi f9 ((S9 ^ E9 * WQ) % QJ) hv9 (qm_r _).2 hA9.2.1.2.2.2 hmi) w_589 w_4 w_659 w_587 w_588 hd_Field_lower rfl ⟨by decide, by decide⟩ (OB.recv E.2.2.2.2.2 (by rfl) ((hk.fmx hK hfm).2.1.2.1.1)) (⟨(hk.fmx hK hfm).2.1.2.1, (hk.fmx hK hfm).2.2.2.2.2, hf9, hM, f2, hf2, hv2⟩) hF hl.1 rfl (Nat.le_of_ble_eq_true rfl) d_Forms_findY_25 ⟨by decide, by decide⟩ (qv (fun H2 locs hq hF => ?_))
  obtain ⟨hq, fp, hfp, hvp⟩ := hq
  have hvp : RV fp (S9 ^ E9 % QJ) := by
    have e : ((S9 ^ E9 * WQ) % QJ * WIQ) % QJ = S9 ^ E9 % QJ := by
      rw [Int.mul_emod, Int.emod_emod_of_dvd _ (Int.dvd_refl _), ← Int.mul_emod, Int.mul_assoc, qww_r]
    rw [e] at hvp
    exact hvp
  have hM := hq.ajo hA9.2.1.2.2.2 hM
  have hf9 := hq.ajo hT.2.2.2.2.2.symm hf9
  have hk := hk.tr (hq.mono (fun q h => Or.inr (Or.inr (Or.inr h))))
  refine lv_aload_n hx hb d_Forms_findY_28 rfl (lv_at hl 0 rfl) ?_
  refine lv_aload_n hx hb d_Forms_findY_29 rfl (lv_at hl 0 rfl) ?_
  refine q_get (C := "KateDesk$Forms") (T := T_Forms) (N := 6) (ci := 6) E ((hk.fmx hK hfm).1) in_Forms rfl 5 (by decide) w_277 rfl rfl d_Forms_findY_30 ?_
  refine q_cV (rest := []) E (L_Forms_isGreater l g n0 o cu fi F mi X r1 r2 r3 r4 r4 fp (S9 ^ E9 % QJ) hvp (qm_r _).2 hA9 hA9.2.2.1.2.2.2 hA9.2.2.2.1.2.2.2.2.2.symm) w_663 w_13 w_660 w_662 (bw_s 6 rfl) hd_Forms_isGreater rfl ⟨by decide, by decide⟩ (OB.recv E.2.2.2.2.2 (by rfl) ((hk.fmx hK hfm).1)) (⟨(hk.fmx hK hfm), hM, hfp⟩) hF hl.1 rfl (Nat.le_of_ble_eq_true rfl) d_Forms_findY_33 ⟨by decide, by decide⟩ (qi (fun rg H3 locs hq hF => ?_))
  obtain ⟨hrg, hq⟩ := hq
  have hM := hq.ajo (fun h => h.elim hA9.2.1.2.2.1 hA9.1.2.2.2) hM
  have hf9 := hq.ajo (fun h => h.elim hT.2.2.2.2.1.symm hT.2.1) hf9
  have hk := hk.tr (hq.mono (fun q h => h.elim (fun h => Or.inr (Or.inr (Or.inl h))) (fun h => Or.inr (Or.inl h))))
  refine lv_iload_n hx hb d_Forms_findY_36 rfl (lv_at hl 2 rfl) ?_
  refine lv_icmp_eq (tgt := 49) hx hb d_Forms_findY_37 (by decide) (fun hc => ?_) (fun hc => ?_)
  rotate_left
  · skip
    have hiff : ¬ (ngQ (S9 ^ E9 % QJ) < S9 ^ E9 % QJ ↔ gr = 1) := by
      intro h
      rcases hrg with ⟨h1, h2⟩ | ⟨h1, h2⟩
      · exact hc (h1.trans (h.mp h2).symm)
      · rcases hgr with g0 | g1
        · exact hc (h1.trans g0.symm)
        · exact absurd (h.mpr g1) (Int.not_lt.mpr h2)
    refine lv_aload_n hx hb d_Forms_findY_40 rfl (lv_at hl 0 rfl) ?_
    refine q_get (C := "KateDesk$Forms") (T := T_Forms) (N := 6) (ci := 6) E ((hk.fmx hK hfm).1) in_Forms rfl 0 (by decide) w_272 rfl rfl d_Forms_findY_41 ?_
    refine lv_aload_n hx hb d_Forms_findY_44 rfl (lv_at hl 1 rfl) ?_
    refine lv_aload_n hx hb d_Forms_findY_45 rfl (lv_at hl 1 rfl) ?_
    refine q_cV (rest := []) E (Q_Field_negate l g n0 fi t t F mi f9 ((S9 ^ E9 * WQ) % QJ) hv9 (qm_r _).2 hT.1 hA9.1.2.2.2 hT.2.1) w_609 w_4 w_664 w_607 w_608 hd_Field_negate rfl ⟨by decide, by decide⟩ (OB.recv E.2.2.2.2.2 (by rfl) ((hk.fmx hK hfm).2.1.2.1.1)) (⟨(hk.fmx hK hfm).2.1.2.1, hk.j h_t, hf9, hM⟩) hF hl.1 rfl (Nat.le_of_ble_eq_true rfl) d_Forms_findY_46 ⟨by decide, by decide⟩ (qv (fun H4 locs hq hF => ?_))
    obtain ⟨hq, fn, hfn, hvn⟩ := hq
    rw [lw_ng] at hvn
    have hk := hk.tr (hq.mono (fun q h => h.elim Or.inl (fun h => Or.inr (Or.inl h))))
    exact q_vret E hr hlk (⟨rfl, hk, -(S9 ^ E9), ⟨_, hfn, hvn⟩, fun h => absurd h hiff, fun _ => rfl⟩) hF d_Forms_findY_49
  have hiff : ngQ (S9 ^ E9 % QJ) < S9 ^ E9 % QJ ↔ gr = 1 := by
    rcases hrg with ⟨h1, h2⟩ | ⟨h1, h2⟩
    · exact ⟨fun _ => by rw [← hc, h1], fun _ => h2⟩
    · refine ⟨fun h => absurd h (Int.not_lt.mpr h2), fun h => ?_⟩
      rw [h1, h] at hc
      exact absurd hc (by decide)
  exact q_vret E hr hlk (⟨rfl, hk, S9 ^ E9, ⟨_, hf9, hv9⟩, fun _ => rfl, fun h => absurd hiff h⟩) hF d_Forms_findY_49
