/-- the curve: its field, its nine rows -/
def CV (g : WG) (n0 : Nat → Prop) (H : Heap) (o fo : Nat) (F : Nat → Nat) (mi : Int64) (X : Nat → Nat) : Prop := OB g H o 0 [.ref fo, .ref (X 0), .ref (X 1), .ref (X 2), .ref (X 3), .ref (X 4), .ref (X 5), .ref (X 6), .ref (X 7), .ref (X 8)] ∧ FD g n0 H fo F mi ∧ ∀ k, k < 9 → J14 g n0 H (X k)
theorem KJ.cv {g : WG} {S : Nat → Prop} {n0 : Nat → Prop} {H H' : Heap} {U : State} (h : KJ g S H H') (hK : KW g U) {o fo : Nat} {F : Nat → Nat} {mi : Int64} {X : Nat → Nat} (hf : CV g n0 H o fo F mi X) : CV g n0 H' o fo F mi X := ⟨h.ob hK hf.1, h.fd hK hf.2.1, fun k hk => h.j (hf.2.2 k hk)⟩
/-- the modulus: no limb below 0, the lowest not 0 -/
def MD (g : WG) (H : Heap) (a : Nat) : Prop := ∃ f, AJ g H a 14 f ∧ (∀ i, i < 14 → ¬ f i < 0) ∧ f 0 ≠ 0
theorem KJ.md {g : WG} {S : Nat → Prop} {H H' : Heap} (h : KJ g S H H') {a : Nat} (hq : ¬ S a) (hm : MD g H a) : MD g H' a := by
  obtain ⟨f, h1, h2⟩ := hm
  exact ⟨f, h.ajo hq h1, h2⟩
abbrev y_Curve_mixed : MethodName := ⟨"KateDesk$Curve", "mixed", "([J[J[J[J[J[J[J)V"⟩
theorem hd_Curve_mixed : y_Curve_mixed.cls ≠ "java/lang/invoke/MethodHandle" ∧ y_Curve_mixed.cls ≠ "java/lang/invoke/VarHandle" ∧ (parseMethodDescriptor y_Curve_mixed.desc).map (fun d => d.parameters.length) = some 7 := by decide +kernel
theorem d_Curve_mixed_0 : decode prog_2_method_3_code 0 = .ok (.aload_n 0, 1) := by decide +kernel
theorem d_Curve_mixed_1 : decode prog_2_method_3_code 1 = .ok (.getfield 39, 3) := by decide +kernel
theorem d_Curve_mixed_4 : decode prog_2_method_3_code 4 = .ok (.aload_n 0, 1) := by decide +kernel
theorem d_Curve_mixed_5 : decode prog_2_method_3_code 5 = .ok (.getfield 30, 3) := by decide +kernel
theorem d_Curve_mixed_8 : decode prog_2_method_3_code 8 = .ok (.aload_n 2, 1) := by decide +kernel
theorem d_Curve_mixed_9 : decode prog_2_method_3_code 9 = .ok (.aload_n 3, 1) := by decide +kernel
theorem d_Curve_mixed_10 : decode prog_2_method_3_code 10 = .ok (.invokevirtual 68, 3) := by decide +kernel
theorem d_Curve_mixed_13 : decode prog_2_method_3_code 13 = .ok (.aload_n 0, 1) := by decide +kernel
theorem d_Curve_mixed_14 : decode prog_2_method_3_code 14 = .ok (.getfield 39, 3) := by decide +kernel
theorem d_Curve_mixed_17 : decode prog_2_method_3_code 17 = .ok (.aload_n 0, 1) := by decide +kernel
theorem d_Curve_mixed_18 : decode prog_2_method_3_code 18 = .ok (.getfield 33, 3) := by decide +kernel
theorem d_Curve_mixed_21 : decode prog_2_method_3_code 21 = .ok (.aload 4, 2) := by decide +kernel
theorem d_Curve_mixed_23 : decode prog_2_method_3_code 23 = .ok (.aload 5, 2) := by decide +kernel
theorem d_Curve_mixed_25 : decode prog_2_method_3_code 25 = .ok (.invokevirtual 68, 3) := by decide +kernel
theorem d_Curve_mixed_28 : decode prog_2_method_3_code 28 = .ok (.aload_n 0, 1) := by decide +kernel
theorem d_Curve_mixed_29 : decode prog_2_method_3_code 29 = .ok (.getfield 39, 3) := by decide +kernel
theorem d_Curve_mixed_32 : decode prog_2_method_3_code 32 = .ok (.aload_n 1, 1) := by decide +kernel
theorem d_Curve_mixed_33 : decode prog_2_method_3_code 33 = .ok (.aload_n 0, 1) := by decide +kernel
theorem d_Curve_mixed_34 : decode prog_2_method_3_code 34 = .ok (.getfield 30, 3) := by decide +kernel
theorem d_Curve_mixed_37 : decode prog_2_method_3_code 37 = .ok (.aload_n 0, 1) := by decide +kernel
theorem d_Curve_mixed_38 : decode prog_2_method_3_code 38 = .ok (.getfield 33, 3) := by decide +kernel
theorem d_Curve_mixed_41 : decode prog_2_method_3_code 41 = .ok (.invokevirtual 57, 3) := by decide +kernel
theorem d_Curve_mixed_44 : decode prog_2_method_3_code 44 = .ok (.aload_n 0, 1) := by decide +kernel
theorem d_Curve_mixed_45 : decode prog_2_method_3_code 45 = .ok (.getfield 39, 3) := by decide +kernel
theorem d_Curve_mixed_48 : decode prog_2_method_3_code 48 = .ok (.aload_n 1, 1) := by decide +kernel
theorem d_Curve_mixed_49 : decode prog_2_method_3_code 49 = .ok (.aload_n 1, 1) := by decide +kernel
theorem d_Curve_mixed_50 : decode prog_2_method_3_code 50 = .ok (.aload 6, 2) := by decide +kernel
theorem d_Curve_mixed_52 : decode prog_2_method_3_code 52 = .ok (.invokevirtual 74, 3) := by decide +kernel
theorem d_Curve_mixed_55 : decode prog_2_method_3_code 55 = .ok (.aload_n 0, 1) := by decide +kernel
theorem d_Curve_mixed_56 : decode prog_2_method_3_code 56 = .ok (.getfield 39, 3) := by decide +kernel
theorem d_Curve_mixed_59 : decode prog_2_method_3_code 59 = .ok (.aload_n 1, 1) := by decide +kernel
theorem d_Curve_mixed_60 : decode prog_2_method_3_code 60 = .ok (.aload_n 1, 1) := by decide +kernel
theorem d_Curve_mixed_61 : decode prog_2_method_3_code 61 = .ok (.aload 7, 2) := by decide +kernel
theorem d_Curve_mixed_63 : decode prog_2_method_3_code 63 = .ok (.invokevirtual 74, 3) := by decide +kernel
theorem d_Curve_mixed_66 : decode prog_2_method_3_code 66 = .ok (.return_, 1) := by decide +kernel
abbrev y_Curve_twelvefold : MethodName := ⟨"KateDesk$Curve", "twelvefold", "([J[J)V"⟩
theorem hd_Curve_twelvefold : y_Curve_twelvefold.cls ≠ "java/lang/invoke/MethodHandle" ∧ y_Curve_twelvefold.cls ≠ "java/lang/invoke/VarHandle" ∧ (parseMethodDescriptor y_Curve_twelvefold.desc).map (fun d => d.parameters.length) = some 2 := by decide +kernel
theorem d_Curve_twelvefold_0 : decode prog_2_method_4_code 0 = .ok (.aload_n 0, 1) := by decide +kernel
theorem d_Curve_twelvefold_1 : decode prog_2_method_4_code 1 = .ok (.getfield 39, 3) := by decide +kernel
theorem d_Curve_twelvefold_4 : decode prog_2_method_4_code 4 = .ok (.aload_n 0, 1) := by decide +kernel
theorem d_Curve_twelvefold_5 : decode prog_2_method_4_code 5 = .ok (.getfield 30, 3) := by decide +kernel
theorem d_Curve_twelvefold_8 : decode prog_2_method_4_code 8 = .ok (.aload_n 2, 1) := by decide +kernel
theorem d_Curve_twelvefold_9 : decode prog_2_method_4_code 9 = .ok (.aload_n 2, 1) := by decide +kernel
theorem d_Curve_twelvefold_10 : decode prog_2_method_4_code 10 = .ok (.invokevirtual 68, 3) := by decide +kernel
theorem d_Curve_twelvefold_13 : decode prog_2_method_4_code 13 = .ok (.aload_n 0, 1) := by decide +kernel
theorem d_Curve_twelvefold_14 : decode prog_2_method_4_code 14 = .ok (.getfield 39, 3) := by decide +kernel
theorem d_Curve_twelvefold_17 : decode prog_2_method_4_code 17 = .ok (.aload_n 0, 1) := by decide +kernel
theorem d_Curve_twelvefold_18 : decode prog_2_method_4_code 18 = .ok (.getfield 30, 3) := by decide +kernel
theorem d_Curve_twelvefold_21 : decode prog_2_method_4_code 21 = .ok (.aload_n 0, 1) := by decide +kernel
theorem d_Curve_twelvefold_22 : decode prog_2_method_4_code 22 = .ok (.getfield 30, 3) := by decide +kernel
theorem d_Curve_twelvefold_25 : decode prog_2_method_4_code 25 = .ok (.aload_n 2, 1) := by decide +kernel
theorem d_Curve_twelvefold_26 : decode prog_2_method_4_code 26 = .ok (.invokevirtual 68, 3) := by decide +kernel
theorem d_Curve_twelvefold_29 : decode prog_2_method_4_code 29 = .ok (.aload_n 0, 1) := by decide +kernel
theorem d_Curve_twelvefold_30 : decode prog_2_method_4_code 30 = .ok (.getfield 39, 3) := by decide +kernel
theorem d_Curve_twelvefold_33 : decode prog_2_method_4_code 33 = .ok (.aload_n 0, 1) := by decide +kernel
theorem d_Curve_twelvefold_34 : decode prog_2_method_4_code 34 = .ok (.getfield 30, 3) := by decide +kernel
theorem d_Curve_twelvefold_37 : decode prog_2_method_4_code 37 = .ok (.aload_n 0, 1) := by decide +kernel
theorem d_Curve_twelvefold_38 : decode prog_2_method_4_code 38 = .ok (.getfield 30, 3) := by decide +kernel
theorem d_Curve_twelvefold_41 : decode prog_2_method_4_code 41 = .ok (.aload_n 0, 1) := by decide +kernel
theorem d_Curve_twelvefold_42 : decode prog_2_method_4_code 42 = .ok (.getfield 30, 3) := by decide +kernel
theorem d_Curve_twelvefold_45 : decode prog_2_method_4_code 45 = .ok (.invokevirtual 68, 3) := by decide +kernel
theorem d_Curve_twelvefold_48 : decode prog_2_method_4_code 48 = .ok (.aload_n 0, 1) := by decide +kernel
theorem d_Curve_twelvefold_49 : decode prog_2_method_4_code 49 = .ok (.getfield 39, 3) := by decide +kernel
theorem d_Curve_twelvefold_52 : decode prog_2_method_4_code 52 = .ok (.aload_n 1, 1) := by decide +kernel
theorem d_Curve_twelvefold_53 : decode prog_2_method_4_code 53 = .ok (.aload_n 0, 1) := by decide +kernel
theorem d_Curve_twelvefold_54 : decode prog_2_method_4_code 54 = .ok (.getfield 30, 3) := by decide +kernel
theorem d_Curve_twelvefold_57 : decode prog_2_method_4_code 57 = .ok (.aload_n 0, 1) := by decide +kernel
theorem d_Curve_twelvefold_58 : decode prog_2_method_4_code 58 = .ok (.getfield 30, 3) := by decide +kernel
theorem d_Curve_twelvefold_61 : decode prog_2_method_4_code 61 = .ok (.invokevirtual 68, 3) := by decide +kernel
theorem d_Curve_twelvefold_64 : decode prog_2_method_4_code 64 = .ok (.return_, 1) := by decide +kernel
abbrev y_Curve_equal : MethodName := ⟨"KateDesk$Curve", "equal", "(LKateDesk$Point;LKateDesk$Point;)Z"⟩
theorem hd_Curve_equal : y_Curve_equal.cls ≠ "java/lang/invoke/MethodHandle" ∧ y_Curve_equal.cls ≠ "java/lang/invoke/VarHandle" ∧ (parseMethodDescriptor y_Curve_equal.desc).map (fun d => d.parameters.length) = some 2 := by decide +kernel
theorem d_Curve_equal_0 : decode prog_2_method_6_code 0 = .ok (.aload_n 0, 1) := by decide +kernel
theorem d_Curve_equal_1 : decode prog_2_method_6_code 1 = .ok (.aload_n 1, 1) := by decide +kernel
theorem d_Curve_equal_2 : decode prog_2_method_6_code 2 = .ok (.getfield 54, 3) := by decide +kernel
theorem d_Curve_equal_5 : decode prog_2_method_6_code 5 = .ok (.aload_n 1, 1) := by decide +kernel
theorem d_Curve_equal_6 : decode prog_2_method_6_code 6 = .ok (.getfield 61, 3) := by decide +kernel
theorem d_Curve_equal_9 : decode prog_2_method_6_code 9 = .ok (.aload_n 2, 1) := by decide +kernel
theorem d_Curve_equal_10 : decode prog_2_method_6_code 10 = .ok (.getfield 54, 3) := by decide +kernel
theorem d_Curve_equal_13 : decode prog_2_method_6_code 13 = .ok (.aload_n 2, 1) := by decide +kernel
theorem d_Curve_equal_14 : decode prog_2_method_6_code 14 = .ok (.getfield 61, 3) := by decide +kernel
theorem d_Curve_equal_17 : decode prog_2_method_6_code 17 = .ok (.invokevirtual 77, 3) := by decide +kernel
theorem d_Curve_equal_20 : decode prog_2_method_6_code 20 = .ok (.ifCond .eq 30, 3) := by decide +kernel
theorem d_Curve_equal_23 : decode prog_2_method_6_code 23 = .ok (.aload_n 0, 1) := by decide +kernel
theorem d_Curve_equal_24 : decode prog_2_method_6_code 24 = .ok (.aload_n 1, 1) := by decide +kernel
theorem d_Curve_equal_25 : decode prog_2_method_6_code 25 = .ok (.getfield 43, 3) := by decide +kernel
theorem d_Curve_equal_28 : decode prog_2_method_6_code 28 = .ok (.aload_n 1, 1) := by decide +kernel
theorem d_Curve_equal_29 : decode prog_2_method_6_code 29 = .ok (.getfield 61, 3) := by decide +kernel
theorem d_Curve_equal_32 : decode prog_2_method_6_code 32 = .ok (.aload_n 2, 1) := by decide +kernel
theorem d_Curve_equal_33 : decode prog_2_method_6_code 33 = .ok (.getfield 43, 3) := by decide +kernel
theorem d_Curve_equal_36 : decode prog_2_method_6_code 36 = .ok (.aload_n 2, 1) := by decide +kernel
theorem d_Curve_equal_37 : decode prog_2_method_6_code 37 = .ok (.getfield 61, 3) := by decide +kernel
theorem d_Curve_equal_40 : decode prog_2_method_6_code 40 = .ok (.invokevirtual 77, 3) := by decide +kernel
theorem d_Curve_equal_43 : decode prog_2_method_6_code 43 = .ok (.ifCond .eq 7, 3) := by decide +kernel
theorem d_Curve_equal_46 : decode prog_2_method_6_code 46 = .ok (.iconst 1, 1) := by decide +kernel
theorem d_Curve_equal_47 : decode prog_2_method_6_code 47 = .ok (.goto 4, 3) := by decide +kernel
theorem d_Curve_equal_50 : decode prog_2_method_6_code 50 = .ok (.iconst 0, 1) := by decide +kernel
theorem d_Curve_equal_51 : decode prog_2_method_6_code 51 = .ok (.ireturn, 1) := by decide +kernel
abbrev y_Curve_equalRatios : MethodName := ⟨"KateDesk$Curve", "equalRatios", "([J[J[J[J)Z"⟩
theorem hd_Curve_equalRatios : y_Curve_equalRatios.cls ≠ "java/lang/invoke/MethodHandle" ∧ y_Curve_equalRatios.cls ≠ "java/lang/invoke/VarHandle" ∧ (parseMethodDescriptor y_Curve_equalRatios.desc).map (fun d => d.parameters.length) = some 4 := by decide +kernel
theorem d_Curve_equalRatios_0 : decode prog_2_method_7_code 0 = .ok (.aload_n 0, 1) := by decide +kernel
theorem d_Curve_equalRatios_1 : decode prog_2_method_7_code 1 = .ok (.getfield 39, 3) := by decide +kernel
theorem d_Curve_equalRatios_4 : decode prog_2_method_7_code 4 = .ok (.aload_n 0, 1) := by decide +kernel
theorem d_Curve_equalRatios_5 : decode prog_2_method_7_code 5 = .ok (.getfield 30, 3) := by decide +kernel
theorem d_Curve_equalRatios_8 : decode prog_2_method_7_code 8 = .ok (.aload_n 1, 1) := by decide +kernel
theorem d_Curve_equalRatios_9 : decode prog_2_method_7_code 9 = .ok (.aload 4, 2) := by decide +kernel
theorem d_Curve_equalRatios_11 : decode prog_2_method_7_code 11 = .ok (.invokevirtual 57, 3) := by decide +kernel
theorem d_Curve_equalRatios_14 : decode prog_2_method_7_code 14 = .ok (.aload_n 0, 1) := by decide +kernel
theorem d_Curve_equalRatios_15 : decode prog_2_method_7_code 15 = .ok (.getfield 39, 3) := by decide +kernel
theorem d_Curve_equalRatios_18 : decode prog_2_method_7_code 18 = .ok (.aload_n 0, 1) := by decide +kernel
theorem d_Curve_equalRatios_19 : decode prog_2_method_7_code 19 = .ok (.getfield 33, 3) := by decide +kernel
theorem d_Curve_equalRatios_22 : decode prog_2_method_7_code 22 = .ok (.aload_n 3, 1) := by decide +kernel
theorem d_Curve_equalRatios_23 : decode prog_2_method_7_code 23 = .ok (.aload_n 2, 1) := by decide +kernel
theorem d_Curve_equalRatios_24 : decode prog_2_method_7_code 24 = .ok (.invokevirtual 57, 3) := by decide +kernel
theorem d_Curve_equalRatios_27 : decode prog_2_method_7_code 27 = .ok (.aload_n 0, 1) := by decide +kernel
theorem d_Curve_equalRatios_28 : decode prog_2_method_7_code 28 = .ok (.getfield 30, 3) := by decide +kernel
theorem d_Curve_equalRatios_31 : decode prog_2_method_7_code 31 = .ok (.aload_n 0, 1) := by decide +kernel
theorem d_Curve_equalRatios_32 : decode prog_2_method_7_code 32 = .ok (.getfield 33, 3) := by decide +kernel
theorem d_Curve_equalRatios_35 : decode prog_2_method_7_code 35 = .ok (.invokestatic 81, 3) := by decide +kernel
theorem d_Curve_equalRatios_38 : decode prog_2_method_7_code 38 = .ok (.ireturn, 1) := by decide +kernel
set_option maxHeartbeats 4000000 in
set_option maxRecDepth 100000 in
/-- both are 0 -/
theorem z_Curve_equalRatios (l : Launch) (g : WG) (n0 : Nat → Prop) (o : Nat) (fo : Nat) (F : Nat → Nat) (mi : Int64) (X : Nat → Nat) (a az b bz : Nat) (h67 : X 6 ≠ X 7) (hm6 : F 0 ≠ X 6) (hm7 : F 0 ≠ X 7) (hz6 : az ≠ X 6) : Ctr l y_Curve_equalRatios (.code y_Curve_equalRatios prog_2_method_7_code 5 (some FieldType.boolean)) 2 135 0 0 n0 g [.ref o, .ref a, .ref az, .ref b, .ref bz] (fun H => CV g n0 H o fo F mi X ∧ MD g H (F 0) ∧ J14 g n0 H a ∧ AJ g H az 14 (fun _ => 0) ∧ J14 g n0 H b ∧ AJ g H bz 14 (fun _ => 0)) (QI (fun r H H' => r = 1 ∧ KJ g (fun q => q = X 6 ∨ q = X 7) H H')) := by
  refine ctr_mk l (lv0 := [(0, .ref o), (1, .ref a), (2, .ref az), (3, .ref b), (4, .ref bz)]) (by decide) (Nat.le_of_ble_eq_true rfl) rfl ?_
  intro p e s m below meth c ls E hr hlk hnm hl hP
  have hx := E.1
  have hb := E.2.1
  have hK := E.2.2.2.2.2
  have hF : ∀ q ∈ ([] : List Loc), n0 q.base := fun q hq => absurd hq List.not_mem_nil
  obtain ⟨hcv, ⟨f, hf, hf0, hf1⟩, h_a, h_az, h_b, h_bz⟩ := hP
  have hk : KJ g (fun q => q = X 6 ∨ q = X 7) s.heap s.heap := KJ.rf
  refine lv_aload_n hx hb d_Curve_equalRatios_0 rfl (lv_at hl 0 rfl) ?_
  refine q_get (C := "KateDesk$Curve") (T := T_Curve) (N := 10) (ci := 0) E ((hk.cv hK hcv).1) in_Curve rfl 0 (by decide) w_205 rfl rfl d_Curve_equalRatios_1 ?_
  refine lv_aload_n hx hb d_Curve_equalRatios_4 rfl (lv_at hl 0 rfl) ?_
  refine q_get (C := "KateDesk$Curve") (T := T_Curve) (N := 10) (ci := 0) E ((hk.cv hK hcv).1) in_Curve rfl 7 (by decide) w_212 rfl rfl d_Curve_equalRatios_5 ?_
  refine lv_aload_n hx hb d_Curve_equalRatios_8 rfl (lv_at hl 1 rfl) ?_
  refine lv_aload hx hb d_Curve_equalRatios_9 (lv_at hl 4 rfl) ?_
  refine q_cV (rest := []) E (z_Field_multiply l g n0 fo (X 6) a bz F mi f hf0 hf1 hm6) w_165 w_4 w_652 w_163 w_164 hd_Field_multiply rfl ⟨by decide, by decide⟩ (OB.recv E.2.2.2.2.2 (by rfl) hcv.2.1.1) (⟨hcv.2.1, hcv.2.2 6 (by decide), h_a, h_bz, hf⟩) hF hl.1 rfl (Nat.le_of_ble_eq_true rfl) d_Curve_equalRatios_11 ⟨by decide, by decide⟩ (qv (fun H1 locs hq hF => ?_))
  have hk1 := hq.1
  have hz1 := hq.2
  have hk := hk.tr (hq.1.mono (fun q h => Or.inl h))
  refine lv_aload_n hx hb d_Curve_equalRatios_14 rfl (lv_at hl 0 rfl) ?_
  refine q_get (C := "KateDesk$Curve") (T := T_Curve) (N := 10) (ci := 0) E ((hk.cv hK hcv).1) in_Curve rfl 0 (by decide) w_205 rfl rfl d_Curve_equalRatios_15 ?_
  refine lv_aload_n hx hb d_Curve_equalRatios_18 rfl (lv_at hl 0 rfl) ?_
  refine q_get (C := "KateDesk$Curve") (T := T_Curve) (N := 10) (ci := 0) E ((hk.cv hK hcv).1) in_Curve rfl 8 (by decide) w_213 rfl rfl d_Curve_equalRatios_19 ?_
  refine lv_aload_n hx hb d_Curve_equalRatios_22 rfl (lv_at hl 3 rfl) ?_
  refine lv_aload_n hx hb d_Curve_equalRatios_23 rfl (lv_at hl 2 rfl) ?_
  refine q_cV (rest := []) E (z_Field_multiply l g n0 fo (X 7) b az F mi f hf0 hf1 hm7) w_165 w_4 w_652 w_163 w_164 hd_Field_multiply rfl ⟨by decide, by decide⟩ (OB.recv E.2.2.2.2.2 (by rfl) ((hk1.fd hK hcv.2.1).1)) (⟨hk1.fd hK hcv.2.1, hk1.j (hcv.2.2 7 (by decide)), hk1.j h_b, hk1.ajo hz6 h_az, hk1.ajo hm6 hf⟩) hF hl.1 rfl (Nat.le_of_ble_eq_true rfl) d_Curve_equalRatios_24 ⟨by decide, by decide⟩ (qv (fun H2 locs hq hF => ?_))
  have hz1 := hq.1.ajo h67 hz1
  have hk := hk.tr (hq.1.mono (fun q h => Or.inr h))
  have hz2 := hq.2
  refine lv_aload_n hx hb d_Curve_equalRatios_27 rfl (lv_at hl 0 rfl) ?_
  refine q_get (C := "KateDesk$Curve") (T := T_Curve) (N := 10) (ci := 0) E ((hk.cv hK hcv).1) in_Curve rfl 7 (by decide) w_212 rfl rfl d_Curve_equalRatios_28 ?_
  refine lv_aload_n hx hb d_Curve_equalRatios_31 rfl (lv_at hl 0 rfl) ?_
  refine q_get (C := "KateDesk$Curve") (T := T_Curve) (N := 10) (ci := 0) E ((hk.cv hK hcv).1) in_Curve rfl 8 (by decide) w_213 rfl rfl d_Curve_equalRatios_32 ?_
  refine q_cS (rest := []) E (z_Limbs_equal l g n0 (X 6) (X 7)) w_669 w_5 w_815 w_668 hd_Limbs_equal rfl ⟨by decide, by decide⟩ (⟨hz1, hz2⟩) hF hl.1 rfl (Nat.le_of_ble_eq_true rfl) d_Curve_equalRatios_35 ⟨by decide, by decide⟩ (qi (fun r H3 locs hq hF => ?_))
  obtain ⟨rfl, hq⟩ := hq
  subst hq
  exact q_zret E hr rfl hlk (⟨1, rfl, rfl, hk⟩) hF d_Curve_equalRatios_38
set_option maxHeartbeats 4000000 in
set_option maxRecDepth 100000 in
/-- nothing and nothing -/
theorem z_Curve_equal (l : Launch) (g : WG) (n0 : Nat → Prop) (o : Nat) (fo : Nat) (F : Nat → Nat) (mi : Int64) (X : Nat → Nat) (a a1 a2 a3 : Nat) (b b1 b2 b3 : Nat) (h67 : X 6 ≠ X 7) (hm6 : F 0 ≠ X 6) (hm7 : F 0 ≠ X 7) (ha6 : a3 ≠ X 6) (ha7 : a3 ≠ X 7) (hb6 : b3 ≠ X 6) (hb7 : b3 ≠ X 7) : Ctr l y_Curve_equal (.code y_Curve_equal prog_2_method_6_code 3 (some FieldType.boolean)) 3 159 0 0 n0 g [.ref o, .ref a, .ref b] (fun H => CV g n0 H o fo F mi X ∧ MD g H (F 0) ∧ PT g n0 H a a1 a2 a3 ∧ PT g n0 H b b1 b2 b3 ∧ AJ g H a3 14 (fun _ => 0) ∧ AJ g H b3 14 (fun _ => 0)) (QI (fun r H H' => r = 1 ∧ KJ g (fun q => q = X 6 ∨ q = X 7) H H')) := by
  refine ctr_mk l (lv0 := [(0, .ref o), (1, .ref a), (2, .ref b)]) (by decide) (Nat.le_of_ble_eq_true rfl) rfl ?_
  intro p e s m below meth c ls E hr hlk hnm hl hP
  have hx := E.1
  have hb := E.2.1
  have hK := E.2.2.2.2.2
  have hF : ∀ q ∈ ([] : List Loc), n0 q.base := fun q hq => absurd hq List.not_mem_nil
  obtain ⟨hcv, hmd, h_a, h_b, h_az, h_bz⟩ := hP
  have hk : KJ g (fun q => q = X 6 ∨ q = X 7) s.heap s.heap := KJ.rf
  refine lv_aload_n hx hb d_Curve_equal_0 rfl (lv_at hl 0 rfl) ?_
  refine lv_aload_n hx hb d_Curve_equal_1 rfl (lv_at hl 1 rfl) ?_
  refine q_get (C := "KateDesk$Point") (T := T_Point) (N := 3) (ci := 2) E ((hk.pt hK h_a).1) in_Point rfl 0 (by decide) w_46 rfl rfl d_Curve_equal_2 ?_
  refine lv_aload_n hx hb d_Curve_equal_5 rfl (lv_at hl 1 rfl) ?_
  refine q_get (C := "KateDesk$Point") (T := T_Point) (N := 3) (ci := 2) E ((hk.pt hK h_a).1) in_Point rfl 2 (by decide) w_54 rfl rfl d_Curve_equal_6 ?_
  refine lv_aload_n hx hb d_Curve_equal_9 rfl (lv_at hl 2 rfl) ?_
  refine q_get (C := "KateDesk$Point") (T := T_Point) (N := 3) (ci := 2) E ((hk.pt hK h_b).1) in_Point rfl 0 (by decide) w_46 rfl rfl d_Curve_equal_10 ?_
  refine lv_aload_n hx hb d_Curve_equal_13 rfl (lv_at hl 2 rfl) ?_
  refine q_get (C := "KateDesk$Point") (T := T_Point) (N := 3) (ci := 2) E ((hk.pt hK h_b).1) in_Point rfl 2 (by decide) w_54 rfl rfl d_Curve_equal_14 ?_
  refine q_cV (rest := []) E (z_Curve_equalRatios l g n0 o fo F mi X a1 a3 b1 b3 h67 hm6 hm7 ha6) w_814 w_11 w_811 w_813 (bw_s 10 rfl) hd_Curve_equalRatios rfl ⟨by decide, by decide⟩ (OB.recv E.2.2.2.2.2 (by rfl) ((hk.cv hK hcv).1)) (⟨hk.cv hK hcv, hk.md (fun h => h.elim hm6 hm7) hmd, (hk.pt hK h_a).2.1, hk.ajo (fun h => h.elim ha6 ha7) h_az, (hk.pt hK h_b).2.1, hk.ajo (fun h => h.elim hb6 hb7) h_bz⟩) hF hl.1 rfl (Nat.le_of_ble_eq_true rfl) d_Curve_equal_17 ⟨by decide, by decide⟩ (qi (fun r1 H1 locs hq hF => ?_))
  obtain ⟨rfl, hq⟩ := hq
  have hk := hk.tr hq
  refine lv_if_eq (tgt := 50) hx hb d_Curve_equal_20 (by decide) (fun h9 => absurd h9 (by decide)) (fun _ => ?_)
  refine lv_aload_n hx hb d_Curve_equal_23 rfl (lv_at hl 0 rfl) ?_
  refine lv_aload_n hx hb d_Curve_equal_24 rfl (lv_at hl 1 rfl) ?_
  refine q_get (C := "KateDesk$Point") (T := T_Point) (N := 3) (ci := 2) E ((hk.pt hK h_a).1) in_Point rfl 1 (by decide) w_50 rfl rfl d_Curve_equal_25 ?_
  refine lv_aload_n hx hb d_Curve_equal_28 rfl (lv_at hl 1 rfl) ?_
  refine q_get (C := "KateDesk$Point") (T := T_Point) (N := 3) (ci := 2) E ((hk.pt hK h_a).1) in_Point rfl 2 (by decide) w_54 rfl rfl d_Curve_equal_29 ?_
  refine lv_aload_n hx hb d_Curve_equal_32 rfl (lv_at hl 2 rfl) ?_
  refine q_get (C := "KateDesk$Point") (T := T_Point) (N := 3) (ci := 2) E ((hk.pt hK h_b).1) in_Point rfl 1 (by decide) w_50 rfl rfl d_Curve_equal_33 ?_
  refine lv_aload_n hx hb d_Curve_equal_36 rfl (lv_at hl 2 rfl) ?_
  refine q_get (C := "KateDesk$Point") (T := T_Point) (N := 3) (ci := 2) E ((hk.pt hK h_b).1) in_Point rfl 2 (by decide) w_54 rfl rfl d_Curve_equal_37 ?_
  refine q_cV (rest := []) E (z_Curve_equalRatios l g n0 o fo F mi X a2 a3 b2 b3 h67 hm6 hm7 ha6) w_814 w_11 w_811 w_813 (bw_s 10 rfl) hd_Curve_equalRatios rfl ⟨by decide, by decide⟩ (OB.recv E.2.2.2.2.2 (by rfl) ((hk.cv hK hcv).1)) (⟨hk.cv hK hcv, hk.md (fun h => h.elim hm6 hm7) hmd, (hk.pt hK h_a).2.2.1, hk.ajo (fun h => h.elim ha6 ha7) h_az, (hk.pt hK h_b).2.2.1, hk.ajo (fun h => h.elim hb6 hb7) h_bz⟩) hF hl.1 rfl (Nat.le_of_ble_eq_true rfl) d_Curve_equal_40 ⟨by decide, by decide⟩ (qi (fun r2 H2 locs hq hF => ?_))
  obtain ⟨rfl, hq⟩ := hq
  have hk := hk.tr hq
  refine lv_if_eq (tgt := 50) hx hb d_Curve_equal_43 (by decide) (fun h9 => absurd h9 (by decide)) (fun _ => ?_)
  refine lv_iconst (v := nI 1) hx hb d_Curve_equal_46 (by decide) ?_
  refine lv_goto (tgt := 51) hx hb d_Curve_equal_47 (by decide) ?_
  exact q_zret E hr rfl hlk (⟨_, rfl, rfl, hk⟩) hF d_Curve_equal_51
