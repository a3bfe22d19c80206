/-- the sums: the curve, 64 points, 16 rows of digits, a point of its own -/
def SU (g : WG) (n0 : Nat → Prop) (H : Heap) (o cu od dg sm s1 s2 s3 fo : Nat) (F : Nat → Nat) (mi : Int64) (X O O1 O2 O3 DG : Nat → Nat) : Prop :=
  OB g H o 4 [.ref cu, .ref od, .ref dg, .ref sm] ∧ CV g n0 H cu fo F mi X ∧ PT g n0 H sm s1 s2 s3 ∧ AR g.2.2.2.2.1 H od 64 O ∧ (∀ k, k < 64 → PT g n0 H (O k) (O1 k) (O2 k) (O3 k)) ∧ AR g.2.2.2.2.2.2 H dg 16 DG ∧ ∀ k, k < 16 → n0 (DG k) ∧ ∃ f, AB g H (DG k) 257 f
theorem KJ.su {g : WG} {S : Nat → Prop} {n0 : Nat → Prop} {H H' : Heap} {U : State} (h : KJ g S H H') (hK : KW g U) {o cu od dg sm s1 s2 s3 fo : Nat} {F : Nat → Nat} {mi : Int64} {X O O1 O2 O3 DG : Nat → Nat} (hf : SU g n0 H o cu od dg sm s1 s2 s3 fo F mi X O O1 O2 O3 DG) : SU g n0 H' o cu od dg sm s1 s2 s3 fo F mi X O O1 O2 O3 DG :=
  ⟨h.ob hK hf.1, h.cv hK hf.2.1, h.pt hK hf.2.2.1, h.arP hK hf.2.2.2.1, fun k hk => h.pt hK (hf.2.2.2.2.1 k hk), h.arB hK hf.2.2.2.2.2.1, fun k hk => ⟨(hf.2.2.2.2.2.2 k hk).1, (hf.2.2.2.2.2.2 k hk).2.elim (fun f hf => h.ab hf hK.jb)⟩⟩
theorem updB_z {f : Nat → Int32} {i : Nat} {v : Int32} (h : ∀ j, j < i → f j = v) : ∀ j, j < i + 1 → upd f i v j = v := by
  intro j hj
  by_cases e : j = i
  · simp [upd, e]
  · simp only [upd, e, if_false]; exact h j (by omega)
theorem aj_ne {g : WG} {H : Heap} {a b N M : Nat} {f : Nat → Int64} {f1 : Nat → Int32} (h : AJ g H a N f) (hne : g.2.1 ≠ g.2.2.1) (h1 : AB g H b M f1) : a ≠ b := fun e => by subst e; exact h.notAB hne h1
theorem pt_le {g : WG} {n0 : Nat → Prop} {H : Heap} {o x y z : Nat} (h : PT g n0 H o x y z) : ∀ q, (q = x ∨ q = y ∨ q = z) → n0 q := by
  intro q hq
  rcases hq with rfl | rfl | rfl
  · exact h.2.1.1
  · exact h.2.2.1.1
  · exact h.2.2.2.1
abbrev y_Point_becomeNothing : MethodName := ⟨"KateDesk$Point", "becomeNothing", "()V"⟩
theorem hd_Point_becomeNothing : y_Point_becomeNothing.cls ≠ "java/lang/invoke/MethodHandle" ∧ y_Point_becomeNothing.cls ≠ "java/lang/invoke/VarHandle" ∧ (parseMethodDescriptor y_Point_becomeNothing.desc).map (fun d => d.parameters.length) = some 0 := by decide +kernel
theorem d_Point_becomeNothing_0 : decode prog_6_method_2_code 0 = .ok (.aload_n 0, 1) := by decide +kernel
theorem d_Point_becomeNothing_1 : decode prog_6_method_2_code 1 = .ok (.getfield 9, 3) := by decide +kernel
theorem d_Point_becomeNothing_4 : decode prog_6_method_2_code 4 = .ok (.invokestatic 21, 3) := by decide +kernel
theorem d_Point_becomeNothing_7 : decode prog_6_method_2_code 7 = .ok (.aload_n 0, 1) := by decide +kernel
theorem d_Point_becomeNothing_8 : decode prog_6_method_2_code 8 = .ok (.getfield 15, 3) := by decide +kernel
theorem d_Point_becomeNothing_11 : decode prog_6_method_2_code 11 = .ok (.invokestatic 21, 3) := by decide +kernel
theorem d_Point_becomeNothing_14 : decode prog_6_method_2_code 14 = .ok (.aload_n 0, 1) := by decide +kernel
theorem d_Point_becomeNothing_15 : decode prog_6_method_2_code 15 = .ok (.getfield 18, 3) := by decide +kernel
theorem d_Point_becomeNothing_18 : decode prog_6_method_2_code 18 = .ok (.invokestatic 21, 3) := by decide +kernel
theorem d_Point_becomeNothing_21 : decode prog_6_method_2_code 21 = .ok (.aload_n 0, 1) := by decide +kernel
theorem d_Point_becomeNothing_22 : decode prog_6_method_2_code 22 = .ok (.getfield 15, 3) := by decide +kernel
theorem d_Point_becomeNothing_25 : decode prog_6_method_2_code 25 = .ok (.iconst 0, 1) := by decide +kernel
theorem d_Point_becomeNothing_26 : decode prog_6_method_2_code 26 = .ok (.lconst 1, 1) := by decide +kernel
theorem d_Point_becomeNothing_27 : decode prog_6_method_2_code 27 = .ok (.lastore, 1) := by decide +kernel
theorem d_Point_becomeNothing_28 : decode prog_6_method_2_code 28 = .ok (.return_, 1) := by decide +kernel
abbrev y_Point_copy : MethodName := ⟨"KateDesk$Point", "copy", "(LKateDesk$Point;)V"⟩
theorem hd_Point_copy : y_Point_copy.cls ≠ "java/lang/invoke/MethodHandle" ∧ y_Point_copy.cls ≠ "java/lang/invoke/VarHandle" ∧ (parseMethodDescriptor y_Point_copy.desc).map (fun d => d.parameters.length) = some 1 := by decide +kernel
theorem d_Point_copy_0 : decode prog_6_method_3_code 0 = .ok (.aload_n 0, 1) := by decide +kernel
theorem d_Point_copy_1 : decode prog_6_method_3_code 1 = .ok (.getfield 9, 3) := by decide +kernel
theorem d_Point_copy_4 : decode prog_6_method_3_code 4 = .ok (.aload_n 1, 1) := by decide +kernel
theorem d_Point_copy_5 : decode prog_6_method_3_code 5 = .ok (.getfield 9, 3) := by decide +kernel
theorem d_Point_copy_8 : decode prog_6_method_3_code 8 = .ok (.invokestatic 25, 3) := by decide +kernel
theorem d_Point_copy_11 : decode prog_6_method_3_code 11 = .ok (.aload_n 0, 1) := by decide +kernel
theorem d_Point_copy_12 : decode prog_6_method_3_code 12 = .ok (.getfield 15, 3) := by decide +kernel
theorem d_Point_copy_15 : decode prog_6_method_3_code 15 = .ok (.aload_n 1, 1) := by decide +kernel
theorem d_Point_copy_16 : decode prog_6_method_3_code 16 = .ok (.getfield 15, 3) := by decide +kernel
theorem d_Point_copy_19 : decode prog_6_method_3_code 19 = .ok (.invokestatic 25, 3) := by decide +kernel
theorem d_Point_copy_22 : decode prog_6_method_3_code 22 = .ok (.aload_n 0, 1) := by decide +kernel
theorem d_Point_copy_23 : decode prog_6_method_3_code 23 = .ok (.getfield 18, 3) := by decide +kernel
theorem d_Point_copy_26 : decode prog_6_method_3_code 26 = .ok (.aload_n 1, 1) := by decide +kernel
theorem d_Point_copy_27 : decode prog_6_method_3_code 27 = .ok (.getfield 18, 3) := by decide +kernel
theorem d_Point_copy_30 : decode prog_6_method_3_code 30 = .ok (.invokestatic 25, 3) := by decide +kernel
theorem d_Point_copy_33 : decode prog_6_method_3_code 33 = .ok (.return_, 1) := by decide +kernel
abbrev y_Point_isNothing : MethodName := ⟨"KateDesk$Point", "isNothing", "()Z"⟩
theorem hd_Point_isNothing : y_Point_isNothing.cls ≠ "java/lang/invoke/MethodHandle" ∧ y_Point_isNothing.cls ≠ "java/lang/invoke/VarHandle" ∧ (parseMethodDescriptor y_Point_isNothing.desc).map (fun d => d.parameters.length) = some 0 := by decide +kernel
theorem d_Point_isNothing_0 : decode prog_6_method_4_code 0 = .ok (.aload_n 0, 1) := by decide +kernel
theorem d_Point_isNothing_1 : decode prog_6_method_4_code 1 = .ok (.getfield 18, 3) := by decide +kernel
theorem d_Point_isNothing_4 : decode prog_6_method_4_code 4 = .ok (.invokestatic 29, 3) := by decide +kernel
theorem d_Point_isNothing_7 : decode prog_6_method_4_code 7 = .ok (.ireturn, 1) := by decide +kernel
abbrev y_Arrays_fill0 : MethodName := ⟨"java/util/Arrays", "fill", "([BB)V"⟩
theorem hd_Arrays_fill0 : y_Arrays_fill0.cls ≠ "java/lang/invoke/MethodHandle" ∧ y_Arrays_fill0.cls ≠ "java/lang/invoke/VarHandle" ∧ (parseMethodDescriptor y_Arrays_fill0.desc).map (fun d => d.parameters.length) = some 2 := by decide +kernel
theorem d_Arrays_fill0_0 : decode prog_23_method_109_code 0 = .ok (.iconst 0, 1) := by decide +kernel
theorem d_Arrays_fill0_1 : decode prog_23_method_109_code 1 = .ok (.istore_n 2, 1) := by decide +kernel
theorem d_Arrays_fill0_2 : decode prog_23_method_109_code 2 = .ok (.aload_n 0, 1) := by decide +kernel
theorem d_Arrays_fill0_3 : decode prog_23_method_109_code 3 = .ok (.arraylength, 1) := by decide +kernel
theorem d_Arrays_fill0_4 : decode prog_23_method_109_code 4 = .ok (.istore_n 3, 1) := by decide +kernel
theorem d_Arrays_fill0_5 : decode prog_23_method_109_code 5 = .ok (.iload_n 2, 1) := by decide +kernel
theorem d_Arrays_fill0_6 : decode prog_23_method_109_code 6 = .ok (.iload_n 3, 1) := by decide +kernel
theorem d_Arrays_fill0_7 : decode prog_23_method_109_code 7 = .ok (.if_icmp .ge 13, 3) := by decide +kernel
theorem d_Arrays_fill0_10 : decode prog_23_method_109_code 10 = .ok (.aload_n 0, 1) := by decide +kernel
theorem d_Arrays_fill0_11 : decode prog_23_method_109_code 11 = .ok (.iload_n 2, 1) := by decide +kernel
theorem d_Arrays_fill0_12 : decode prog_23_method_109_code 12 = .ok (.iload_n 1, 1) := by decide +kernel
theorem d_Arrays_fill0_13 : decode prog_23_method_109_code 13 = .ok (.bastore, 1) := by decide +kernel
theorem d_Arrays_fill0_14 : decode prog_23_method_109_code 14 = .ok (.iinc 2 1, 3) := by decide +kernel
theorem d_Arrays_fill0_17 : decode prog_23_method_109_code 17 = .ok (.goto (-12), 3) := by decide +kernel
theorem d_Arrays_fill0_20 : decode prog_23_method_109_code 20 = .ok (.return_, 1) := by decide +kernel
set_option maxHeartbeats 4000000 in
set_option maxRecDepth 100000 in
theorem c_Point_becomeNothing (l : Launch) (g : WG) (n0 : Nat → Prop) (o p1 p2 p3 : Nat) (h32 : p3 ≠ p2) : Ctr l y_Point_becomeNothing (.code y_Point_becomeNothing prog_6_method_2_code 1 none) 2 44 0 0 n0 g [.ref o] (fun H => PT g n0 H o p1 p2 p3) (QV (fun H H' => KJ g (fun q => q = p1 ∨ q = p2 ∨ q = p3) H H' ∧ AJ g H' p3 14 (fun _ => 0))) := by
  refine ctr_mk l (lv0 := [(0, .ref o)]) (by decide) (Nat.le_of_ble_eq_true rfl) rfl ?_
  intro p e s m below meth c ls E hr hlk hnm hl hP
  have hx := E.1
  have hb := E.2.1
  have hK := E.2.2.2.2.2
  have hF : ∀ q ∈ ([] : List Loc), n0 q.base := fun q hq => absurd hq List.not_mem_nil
  have hk : KJ g (fun q => q = p1 ∨ q = p2 ∨ q = p3) s.heap s.heap := KJ.rf
  refine lv_aload_n hx hb d_Point_becomeNothing_0 rfl (lv_at hl 0 rfl) ?_
  refine q_get (C := "KateDesk$Point") (T := T_Point) (N := 3) (ci := 2) E ((hk.pt hK hP).1) in_Point rfl 0 (by decide) w_45 rfl rfl d_Point_becomeNothing_1 ?_
  refine q_cS (rest := []) E (c_Limbs_clear l g n0 p1) w_498 w_5 w_636 w_497 hd_Limbs_clear rfl ⟨by decide, by decide⟩ ((hk.pt hK hP).2.1) hF hl.1 rfl (Nat.le_of_ble_eq_true rfl) d_Point_becomeNothing_4 ⟨by decide, by decide⟩ (qv (fun H1 locs hq hF => ?_))
  have hz := hq.2
  have hq := hq.1
  have hk := hk.tr (hq.mono (fun q h => Or.inl h))
  refine lv_aload_n hx hb d_Point_becomeNothing_7 rfl (lv_at hl 0 rfl) ?_
  refine q_get (C := "KateDesk$Point") (T := T_Point) (N := 3) (ci := 2) E ((hk.pt hK hP).1) in_Point rfl 1 (by decide) w_49 rfl rfl d_Point_becomeNothing_8 ?_
  refine q_cS (rest := []) E (c_Limbs_clear l g n0 p2) w_498 w_5 w_636 w_497 hd_Limbs_clear rfl ⟨by decide, by decide⟩ ((hk.pt hK hP).2.2.1) hF hl.1 rfl (Nat.le_of_ble_eq_true rfl) d_Point_becomeNothing_11 ⟨by decide, by decide⟩ (qv (fun H2 locs hq hF => ?_))
  have hz := hq.2
  have hq := hq.1
  have hk := hk.tr (hq.mono (fun q h => Or.inr (Or.inl h)))
  refine lv_aload_n hx hb d_Point_becomeNothing_14 rfl (lv_at hl 0 rfl) ?_
  refine q_get (C := "KateDesk$Point") (T := T_Point) (N := 3) (ci := 2) E ((hk.pt hK hP).1) in_Point rfl 2 (by decide) w_53 rfl rfl d_Point_becomeNothing_15 ?_
  refine q_cS (rest := []) E (c_Limbs_clear l g n0 p3) w_498 w_5 w_636 w_497 hd_Limbs_clear rfl ⟨by decide, by decide⟩ ((hk.pt hK hP).2.2.2) hF hl.1 rfl (Nat.le_of_ble_eq_true rfl) d_Point_becomeNothing_18 ⟨by decide, by decide⟩ (qv (fun H3 locs hq hF => ?_))
  have hz := hq.2
  have hq := hq.1
  have hk := hk.tr (hq.mono (fun q h => Or.inr (Or.inr h)))
  refine lv_aload_n hx hb d_Point_becomeNothing_21 rfl (lv_at hl 0 rfl) ?_
  refine q_get (C := "KateDesk$Point") (T := T_Point) (N := 3) (ci := 2) E ((hk.pt hK hP).1) in_Point rfl 1 (by decide) w_49 rfl rfl d_Point_becomeNothing_22 ?_
  refine lv_iconst (v := nI 0) hx hb d_Point_becomeNothing_25 (by decide) ?_
  refine lv_lconst (v := 1) hx hb d_Point_becomeNothing_26 (by decide) ?_
  refine q_lastS E ((hk.pt hK hP).2.2.1) hF 0 rfl (by decide) d_Point_becomeNothing_27 (fun H4 locs hq hF => ?_)
  have hz := hq.ajo h32 hz
  have hk := hk.tr (hq.mono (fun q h => Or.inr (Or.inl h)))
  exact q_vret E hr hlk (⟨rfl, hk, hz⟩) hF d_Point_becomeNothing_28
set_option maxHeartbeats 4000000 in
set_option maxRecDepth 100000 in
theorem c_Point_copy (l : Launch) (g : WG) (n0 : Nat → Prop) (t t1 t2 t3 : Nat) (b b1 b2 b3 : Nat) : Ctr l y_Point_copy (.code y_Point_copy prog_6_method_3_code 2 none) 2 81 0 0 n0 g [.ref t, .ref b] (fun H => PT g n0 H t t1 t2 t3 ∧ PT g n0 H b b1 b2 b3) (QV (fun H H' => KJ g (fun q => q = t1 ∨ q = t2 ∨ q = t3) H H' ∧ ∀ f, b3 ≠ t1 → b3 ≠ t2 → AJ g H b3 14 f → AJ g H' t3 14 f)) := by
  refine ctr_mk l (lv0 := [(0, .ref t), (1, .ref b)]) (by decide) (Nat.le_of_ble_eq_true rfl) rfl ?_
  intro p e s m below meth c ls E hr hlk hnm hl hP
  have hx := E.1
  have hb := E.2.1
  have hK := E.2.2.2.2.2
  have hF : ∀ q ∈ ([] : List Loc), n0 q.base := fun q hq => absurd hq List.not_mem_nil
  obtain ⟨h_t, h_b⟩ := hP
  have hk : KJ g (fun q => q = t1 ∨ q = t2 ∨ q = t3) s.heap s.heap := KJ.rf
  have hk12 : KJ g (fun q => q = t1 ∨ q = t2) s.heap s.heap := KJ.rf
  refine lv_aload_n hx hb d_Point_copy_0 rfl (lv_at hl 0 rfl) ?_
  refine q_get (C := "KateDesk$Point") (T := T_Point) (N := 3) (ci := 2) E ((hk.pt hK h_t).1) in_Point rfl 0 (by decide) w_45 rfl rfl d_Point_copy_1 ?_
  refine lv_aload_n hx hb d_Point_copy_4 rfl (lv_at hl 1 rfl) ?_
  refine q_get (C := "KateDesk$Point") (T := T_Point) (N := 3) (ci := 2) E ((hk.pt hK h_b).1) in_Point rfl 0 (by decide) w_45 rfl rfl d_Point_copy_5 ?_
  obtain ⟨f0, hf0⟩ := ((hk.pt hK h_b).2.1).2
  refine q_cS (rest := []) E (c_Limbs_copy l g n0 t1 b1 f0) w_146 w_5 w_698 w_145 hd_Limbs_copy rfl ⟨by decide, by decide⟩ (⟨(hk.pt hK h_t).2.1, hf0⟩) hF hl.1 rfl (Nat.le_of_ble_eq_true rfl) d_Point_copy_8 ⟨by decide, by decide⟩ (qv (fun H1 locs hq hF => ?_))
  have hz := hq.2
  have hq := hq.1
  have hk12 := hk12.tr (hq.mono (fun q h => Or.inl h))
  have hk := hk.tr (hq.mono (fun q h => Or.inl h))
  refine lv_aload_n hx hb d_Point_copy_11 rfl (lv_at hl 0 rfl) ?_
  refine q_get (C := "KateDesk$Point") (T := T_Point) (N := 3) (ci := 2) E ((hk.pt hK h_t).1) in_Point rfl 1 (by decide) w_49 rfl rfl d_Point_copy_12 ?_
  refine lv_aload_n hx hb d_Point_copy_15 rfl (lv_at hl 1 rfl) ?_
  refine q_get (C := "KateDesk$Point") (T := T_Point) (N := 3) (ci := 2) E ((hk.pt hK h_b).1) in_Point rfl 1 (by decide) w_49 rfl rfl d_Point_copy_16 ?_
  obtain ⟨f1, hf1⟩ := ((hk.pt hK h_b).2.2.1).2
  refine q_cS (rest := []) E (c_Limbs_copy l g n0 t2 b2 f1) w_146 w_5 w_698 w_145 hd_Limbs_copy rfl ⟨by decide, by decide⟩ (⟨(hk.pt hK h_t).2.2.1, hf1⟩) hF hl.1 rfl (Nat.le_of_ble_eq_true rfl) d_Point_copy_19 ⟨by decide, by decide⟩ (qv (fun H2 locs hq hF => ?_))
  have hz := hq.2
  have hq := hq.1
  have hk12 := hk12.tr (hq.mono (fun q h => Or.inr h))
  have hk := hk.tr (hq.mono (fun q h => Or.inr (Or.inl h)))
  refine lv_aload_n hx hb d_Point_copy_22 rfl (lv_at hl 0 rfl) ?_
  refine q_get (C := "KateDesk$Point") (T := T_Point) (N := 3) (ci := 2) E ((hk.pt hK h_t).1) in_Point rfl 2 (by decide) w_53 rfl rfl d_Point_copy_23 ?_
  refine lv_aload_n hx hb d_Point_copy_26 rfl (lv_at hl 1 rfl) ?_
  refine q_get (C := "KateDesk$Point") (T := T_Point) (N := 3) (ci := 2) E ((hk.pt hK h_b).1) in_Point rfl 2 (by decide) w_53 rfl rfl d_Point_copy_27 ?_
  obtain ⟨f2, hf2⟩ := ((hk.pt hK h_b).2.2.2).2
  refine q_cS (rest := []) E (c_Limbs_copy l g n0 t3 b3 f2) w_146 w_5 w_698 w_145 hd_Limbs_copy rfl ⟨by decide, by decide⟩ (⟨(hk.pt hK h_t).2.2.2, hf2⟩) hF hl.1 rfl (Nat.le_of_ble_eq_true rfl) d_Point_copy_30 ⟨by decide, by decide⟩ (qv (fun H3 locs hq hF => ?_))
  have hz := hq.2
  have hq := hq.1
  have hk := hk.tr (hq.mono (fun q h => Or.inr (Or.inr h)))
  exact q_vret E hr hlk (⟨rfl, hk, fun f e1 e2 hf => hz.ext (fun j hj => (hf2.same (hk12.ajo (fun h => h.elim e1 e2) hf)).2 j hj)⟩) hF d_Point_copy_33
set_option maxHeartbeats 4000000 in
set_option maxRecDepth 100000 in
theorem z_Point_isNothing (l : Launch) (g : WG) (n0 : Nat → Prop) (o p1 p2 p3 : Nat) : Ctr l y_Point_isNothing (.code y_Point_isNothing prog_6_method_4_code 1 (some FieldType.boolean)) 1 21 0 0 n0 g [.ref o] (fun H => PT g n0 H o p1 p2 p3 ∧ AJ g H p3 14 (fun _ => 0)) (QI (fun r H H' => r = 1 ∧ H' = H)) := by
  refine ctr_mk l (lv0 := [(0, .ref o)]) (by decide) (Nat.le_of_ble_eq_true rfl) rfl ?_
  intro p e s m below meth c ls E hr hlk hnm hl hP
  have hx := E.1
  have hb := E.2.1
  have hK := E.2.2.2.2.2
  have hF : ∀ q ∈ ([] : List Loc), n0 q.base := fun q hq => absurd hq List.not_mem_nil
  refine lv_aload_n hx hb d_Point_isNothing_0 rfl (lv_at hl 0 rfl) ?_
  refine q_get (C := "KateDesk$Point") (T := T_Point) (N := 3) (ci := 2) E hP.1.1 in_Point rfl 2 (by decide) w_53 rfl rfl d_Point_isNothing_1 ?_
  refine q_cS (rest := []) E (z_Limbs_isZero l g n0 p3) w_548 w_5 w_729 w_547 hd_Limbs_isZero rfl ⟨by decide, by decide⟩ hP.2 hF hl.1 rfl (Nat.le_of_ble_eq_true rfl) d_Point_isNothing_4 ⟨by decide, by decide⟩ (qi (fun r H1 locs hq hF => ?_))
  obtain ⟨rfl, hq⟩ := hq
  subst hq
  exact q_zret E hr rfl hlk (⟨1, rfl, rfl, rfl⟩) hF d_Point_isNothing_7
set_option maxHeartbeats 4000000 in
set_option maxRecDepth 100000 in
/-- every place becomes v -/
theorem c_Arrays_fill0 (l : Launch) (g : WG) (n0 : Nat → Prop) (a N : Nat) (v : Int32) (f : Nat → Int32) (hN : N < 2 ^ 31) : Ctr l y_Arrays_fill0 (.code y_Arrays_fill0 prog_23_method_109_code 4 none) 0 0 0 0 n0 g [.ref a, .int v] (fun H => n0 a ∧ AB g H a N f) (QV (fun H H' => KJ g (fun q => q = a) H H' ∧ AB g H' a N (fun _ => vp_nar .byte v))) := by
  refine ctr_mk l (lv0 := [(0, .ref a), (1, .int v)]) (by decide) (Nat.le_of_ble_eq_true rfl) rfl ?_
  intro p e s m below meth c ls E hr hlk hnm hl hP
  have hx := E.1
  have hb := E.2.1
  have hK := E.2.2.2.2.2
  have hF : ∀ q ∈ ([] : List Loc), n0 q.base := fun q hq => absurd hq List.not_mem_nil
  obtain ⟨ha, hA⟩ := hP
  have loop : ∀ (k : Nat) (i : Nat) (H : Heap) (locs : List Loc) (ls : Array Slot) (f : Nat → Int32), i + k = N → KJ g (fun q => q = a) s.heap H → AB g H a N f → (∀ j, j < i → f j = vp_nar .byte v) → (∀ q ∈ locs, n0 q.base) → lv_has ls 4 [(2, .int (nI i)), (3, .int (nI N)), (0, .ref a), (1, .int v)] → W p l e { frames := 0, cells := 0, slots := 0, locals := 0 } s m [.ref a, .int v].toArray below meth c H locs 0 0 (MQ below (QcP (QV (fun H H' => KJ g (fun q => q = a) H H' ∧ AB g H' a N (fun _ => vp_nar .byte v)))) [.ref a, .int v].toArray s 0 0 (fun q => n0 q)) (F0 m 5 ls []) := by
    intro k
    induction k with
    | zero =>
      intro  i   H   locs   ls   f hi hk hf hv hF hl
      obtain rfl : i = N := by omega
      refine lv_iload_n hx hb d_Arrays_fill0_5 rfl (lv_at hl 0 rfl) ?_
      refine lv_iload_n hx hb d_Arrays_fill0_6 rfl (lv_at hl 1 rfl) ?_
      refine lv_icmp_ge (tgt := 20) hx hb d_Arrays_fill0_7 (by decide) (fun _ => ?_) (fun h9 => absurd (nI_le (Nat.le_refl _) hN) h9)
      exact q_vret E hr hlk (⟨rfl, hk, hf.ext (fun j hj => hv j hj)⟩) hF d_Arrays_fill0_20
    | succ k ih =>
      intro  i   H   locs   ls   f hi hk hf hv hF hl
      have hiN : i < N := by omega
      refine lv_iload_n hx hb d_Arrays_fill0_5 rfl (lv_at hl 0 rfl) ?_
      refine lv_iload_n hx hb d_Arrays_fill0_6 rfl (lv_at hl 1 rfl) ?_
      refine lv_icmp_ge (tgt := 20) hx hb d_Arrays_fill0_7 (by decide) (fun h9 => absurd h9 (nI_ge hiN hN)) (fun _ => ?_)
      refine lv_aload_n hx hb d_Arrays_fill0_10 rfl (lv_at hl 2 rfl) ?_
      refine lv_iload_n hx hb d_Arrays_fill0_11 rfl (lv_at hl 0 rfl) ?_
      refine lv_iload_n hx hb d_Arrays_fill0_12 rfl (lv_at hl 3 rfl) ?_
      refine q_bast E hf ha hF i rfl hiN hN d_Arrays_fill0_13 (fun H' locs' hq hf' hF => ?_)
      have hk := hk.tr hq
      refine lv_iinc (k := 0) (v := nI (i + 1)) (lv' := [(2, .int (nI (i + 1))), (3, .int (nI N)), (0, .ref a), (1, .int v)]) hx hb d_Arrays_fill0_14 hl rfl (i_inc i) (by decide) rfl (fun ls hl => ?_)
      refine lv_goto (tgt := 5) hx hb d_Arrays_fill0_17 (by decide) ?_
      have hl : lv_has ls 4 [(2, .int (nI (i + 1))), (3, .int (nI N)), (0, .ref a), (1, .int v)] := lv_sub hl [0, 1, 2, 3] rfl
      exact ih (i + 1) H' locs' ls _ (by omega) hk hf' (updB_z hv) hF hl
  refine lv_iconst (v := nI 0) hx hb d_Arrays_fill0_0 (by decide) ?_
  refine lv_istore_n (lv' := [(2, .int (nI 0)), (0, .ref a), (1, .int v)]) hx hb d_Arrays_fill0_1 rfl hl (by decide) rfl (fun ls hl => ?_)
  refine lv_aload_n hx hb d_Arrays_fill0_2 rfl (lv_at hl 1 rfl) ?_
  refine q_alenB E hA d_Arrays_fill0_3 ?_
  refine lv_istore_n (lv' := [(3, .int (nI N)), (2, .int (nI 0)), (0, .ref a), (1, .int v)]) hx hb d_Arrays_fill0_4 rfl hl (by decide) rfl (fun ls hl => ?_)
  have hl : lv_has ls 4 [(2, .int (nI 0)), (3, .int (nI N)), (0, .ref a), (1, .int v)] := lv_sub hl [1, 0, 2, 3] rfl
  exact loop N 0 s.heap [] ls f (by omega) KJ.rf hA (fun j hj => absurd hj (Nat.not_lt_zero _)) hF hl
