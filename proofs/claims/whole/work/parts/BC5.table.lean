theorem RV_z9 : RV (fun _ => 0) ((0 * WQ) % QJ) := ⟨fun _ _ => dg_0, VL_z14.trans (by decide +kernel)⟩
theorem RV_19 : RV (vp_updL (fun _ => 0) 0 1) ((WIQ * WQ) % QJ) := ⟨by
  have h : ∀ k : Fin 14, 0 ≤ (vp_updL (fun _ => 0) 0 1 k.val).toInt ∧ (vp_updL (fun _ => 0) 0 1 k.val).toInt < 268435456 := by decide +kernel
  exact fun k hk => h ⟨k, hk⟩, by decide +kernel⟩
/-- nothing, as the class lays it down -/
def PN : P3 := (0, WIQ, 0)
theorem PN_PE : PE PN PZ0 := ⟨WIQ, by
  unfold nq
  decide +kernel, by
  rw [show PN.1 = 0 from rfl, show PZ0.1 = 0 from rfl, Int.mul_zero]
  exact cq.rf _, by
  rw [show PN.2.1 = WIQ from rfl, show PZ0.2.1 = 1 from rfl, Int.mul_one]
  exact cq.rf _, by
  rw [show PN.2.2 = 0 from rfl, show PZ0.2.2 = 0 from rfl, Int.mul_zero]
  exact cq.rf _⟩
theorem lw_z {Z : Int} : (Z * WQ) % QJ = 0 ↔ cq Z 0 := by
  constructor
  · intro h
    rcases q_mul0 (a := Z) (b := WQ) (h.trans q_z.symm) with k | k
    · exact k
    · exact absurd k (by unfold cq; decide +kernel)
  · intro h
    exact (h.z_l WQ).trans q_z
theorem LW_0 {g : WG} {H : Heap} {r : Nat} (h : AJ g H r 14 (fun _ => 0)) : LW g H r 0 := ⟨_, h, RV_z9⟩
set_option maxHeartbeats 4000000 in
set_option maxRecDepth 100000 in
theorem L_Point_copy (l : Launch) (g : WG) (n0 : Nat → Prop) (t t1 t2 t3 : Nat) (b b1 b2 b3 : Nat) (P : P3) (ht : t1 ≠ t2 ∧ t1 ≠ t3 ∧ t2 ≠ t3) (hb9 : b2 ≠ t1 ∧ b3 ≠ t1 ∧ b3 ≠ t2) : Ctr l y_Point_copy (.code y_Point_copy prog_6_method_3_code 2 none) 2 81 0 0 n0 g [.ref t, .ref b] (fun H => PT g n0 H t t1 t2 t3 ∧ PT g n0 H b b1 b2 b3 ∧ LPt g H b1 b2 b3 P) (QV (fun H H' => KJ g (fun q => q = t1 ∨ q = t2 ∨ q = t3) H H' ∧ LPt g H' t1 t2 t3 P)) := by
  refine ctr_mk l (lv0 := [(0, .ref t), (1, .ref b)]) (by decide) (Nat.le_of_ble_eq_true rfl) rfl ?_
  intro p e s m below meth c ls E hr hlk hnm hl hP
  have hx := E.1
  have hb := E.2.1
  have hK := E.2.2.2.2.2
  have hF : ∀ q ∈ ([] : List Loc), n0 q.base := fun q hq => absurd hq List.not_mem_nil
  obtain ⟨h_t, h_b, ⟨f1, hf1, hv1⟩, ⟨f2, hf2, hv2⟩, ⟨f3, hf3, hv3⟩⟩ := hP
  have hk : KJ g (fun q => q = t1 ∨ q = t2 ∨ q = t3) s.heap s.heap := KJ.rf
  refine lv_aload_n hx hb d_Point_copy_0 rfl (lv_at hl 0 rfl) ?_
  refine q_get (C := "KateDesk$Point") (T := T_Point) (N := 3) (ci := 2) E ((hk.pt hK h_t).1) in_Point rfl 0 (by decide) w_45 rfl rfl d_Point_copy_1 ?_
  refine lv_aload_n hx hb d_Point_copy_4 rfl (lv_at hl 1 rfl) ?_
  refine q_get (C := "KateDesk$Point") (T := T_Point) (N := 3) (ci := 2) E ((hk.pt hK h_b).1) in_Point rfl 0 (by decide) w_45 rfl rfl d_Point_copy_5 ?_
  refine q_cS (rest := []) E (c_Limbs_copy l g n0 t1 b1 f1) w_146 w_5 w_698 w_145 hd_Limbs_copy rfl ⟨by decide, by decide⟩ (⟨(hk.pt hK h_t).2.1, hf1⟩) hF hl.1 rfl (Nat.le_of_ble_eq_true rfl) d_Point_copy_8 ⟨by decide, by decide⟩ (qv (fun H1 locs hq hF => ?_))
  have hf2 := hq.1.ajo hb9.1 hf2
  have hf3 := hq.1.ajo hb9.2.1 hf3
  have ht1 := hq.2
  have hk := hk.tr (hq.1.mono (fun q h => Or.inl h))
  refine lv_aload_n hx hb d_Point_copy_11 rfl (lv_at hl 0 rfl) ?_
  refine q_get (C := "KateDesk$Point") (T := T_Point) (N := 3) (ci := 2) E ((hk.pt hK h_t).1) in_Point rfl 1 (by decide) w_49 rfl rfl d_Point_copy_12 ?_
  refine lv_aload_n hx hb d_Point_copy_15 rfl (lv_at hl 1 rfl) ?_
  refine q_get (C := "KateDesk$Point") (T := T_Point) (N := 3) (ci := 2) E ((hk.pt hK h_b).1) in_Point rfl 1 (by decide) w_49 rfl rfl d_Point_copy_16 ?_
  refine q_cS (rest := []) E (c_Limbs_copy l g n0 t2 b2 f2) w_146 w_5 w_698 w_145 hd_Limbs_copy rfl ⟨by decide, by decide⟩ (⟨(hk.pt hK h_t).2.2.1, hf2⟩) hF hl.1 rfl (Nat.le_of_ble_eq_true rfl) d_Point_copy_19 ⟨by decide, by decide⟩ (qv (fun H2 locs hq hF => ?_))
  have hf3 := hq.1.ajo hb9.2.2 hf3
  have ht1 := hq.1.ajo ht.1 ht1
  have ht2 := hq.2
  have hk := hk.tr (hq.1.mono (fun q h => Or.inr (Or.inl h)))
  refine lv_aload_n hx hb d_Point_copy_22 rfl (lv_at hl 0 rfl) ?_
  refine q_get (C := "KateDesk$Point") (T := T_Point) (N := 3) (ci := 2) E ((hk.pt hK h_t).1) in_Point rfl 2 (by decide) w_53 rfl rfl d_Point_copy_23 ?_
  refine lv_aload_n hx hb d_Point_copy_26 rfl (lv_at hl 1 rfl) ?_
  refine q_get (C := "KateDesk$Point") (T := T_Point) (N := 3) (ci := 2) E ((hk.pt hK h_b).1) in_Point rfl 2 (by decide) w_53 rfl rfl d_Point_copy_27 ?_
  refine q_cS (rest := []) E (c_Limbs_copy l g n0 t3 b3 f3) w_146 w_5 w_698 w_145 hd_Limbs_copy rfl ⟨by decide, by decide⟩ (⟨(hk.pt hK h_t).2.2.2, hf3⟩) hF hl.1 rfl (Nat.le_of_ble_eq_true rfl) d_Point_copy_30 ⟨by decide, by decide⟩ (qv (fun H3 locs hq hF => ?_))
  have ht1 := hq.1.ajo ht.2.1 ht1
  have ht2 := hq.1.ajo ht.2.2 ht2
  have ht3 := hq.2
  have hk := hk.tr (hq.1.mono (fun q h => Or.inr (Or.inr h)))
  exact q_vret E hr hlk (⟨rfl, hk, ⟨_, ht1, hv1⟩, ⟨_, ht2, hv2⟩, ⟨_, ht3, hv3⟩⟩) hF d_Point_copy_33
set_option maxHeartbeats 4000000 in
set_option maxRecDepth 100000 in
theorem L_Point_becomeNothing (l : Launch) (g : WG) (n0 : Nat → Prop) (o p1 p2 p3 : Nat) (hp9 : p1 ≠ p2 ∧ p1 ≠ p3 ∧ p2 ≠ p3) : Ctr l y_Point_becomeNothing (.code y_Point_becomeNothing prog_6_method_2_code 1 none) 2 44 0 0 n0 g [.ref o] (fun H => PT g n0 H o p1 p2 p3) (QV (fun H H' => KJ g (fun q => q = p1 ∨ q = p2 ∨ q = p3) H H' ∧ LPt g H' p1 p2 p3 PN)) := by
  refine ctr_mk l (lv0 := [(0, .ref o)]) (by decide) (Nat.le_of_ble_eq_true rfl) rfl ?_
  intro p e s m below meth c ls E hr hlk hnm hl hP
  have hx := E.1
  have hb := E.2.1
  have hK := E.2.2.2.2.2
  have hF : ∀ q ∈ ([] : List Loc), n0 q.base := fun q hq => absurd hq List.not_mem_nil
  have hk : KJ g (fun q => q = p1 ∨ q = p2 ∨ q = p3) s.heap s.heap := KJ.rf
  refine lv_aload_n hx hb d_Point_becomeNothing_0 rfl (lv_at hl 0 rfl) ?_
  refine q_get (C := "KateDesk$Point") (T := T_Point) (N := 3) (ci := 2) E ((hk.pt hK hP).1) in_Point rfl 0 (by decide) w_45 rfl rfl d_Point_becomeNothing_1 ?_
  refine q_cS (rest := []) E (c_Limbs_clear l g n0 p1) w_498 w_5 w_636 w_497 hd_Limbs_clear rfl ⟨by decide, by decide⟩ ((hk.pt hK hP).2.1) hF hl.1 rfl (Nat.le_of_ble_eq_true rfl) d_Point_becomeNothing_4 ⟨by decide, by decide⟩ (qv (fun H1 locs hq hF => ?_))
  have hz1 : AJ g H1 p1 14 (fun _ => 0) := hq.2
  have hk := hk.tr (hq.1.mono (fun q h => Or.inl h))
  refine lv_aload_n hx hb d_Point_becomeNothing_7 rfl (lv_at hl 0 rfl) ?_
  refine q_get (C := "KateDesk$Point") (T := T_Point) (N := 3) (ci := 2) E ((hk.pt hK hP).1) in_Point rfl 1 (by decide) w_49 rfl rfl d_Point_becomeNothing_8 ?_
  refine q_cS (rest := []) E (c_Limbs_clear l g n0 p2) w_498 w_5 w_636 w_497 hd_Limbs_clear rfl ⟨by decide, by decide⟩ ((hk.pt hK hP).2.2.1) hF hl.1 rfl (Nat.le_of_ble_eq_true rfl) d_Point_becomeNothing_11 ⟨by decide, by decide⟩ (qv (fun H2 locs hq hF => ?_))
  have hz1 := hq.1.ajo hp9.1 hz1
  have hz2 : AJ g H2 p2 14 (fun _ => 0) := hq.2
  have hk := hk.tr (hq.1.mono (fun q h => Or.inr (Or.inl h)))
  refine lv_aload_n hx hb d_Point_becomeNothing_14 rfl (lv_at hl 0 rfl) ?_
  refine q_get (C := "KateDesk$Point") (T := T_Point) (N := 3) (ci := 2) E ((hk.pt hK hP).1) in_Point rfl 2 (by decide) w_53 rfl rfl d_Point_becomeNothing_15 ?_
  refine q_cS (rest := []) E (c_Limbs_clear l g n0 p3) w_498 w_5 w_636 w_497 hd_Limbs_clear rfl ⟨by decide, by decide⟩ ((hk.pt hK hP).2.2.2) hF hl.1 rfl (Nat.le_of_ble_eq_true rfl) d_Point_becomeNothing_18 ⟨by decide, by decide⟩ (qv (fun H3 locs hq hF => ?_))
  have hz1 := hq.1.ajo hp9.2.1 hz1
  have hz2 := hq.1.ajo hp9.2.2 hz2
  have hz3 : AJ g H3 p3 14 (fun _ => 0) := hq.2
  have hk := hk.tr (hq.1.mono (fun q h => Or.inr (Or.inr h)))
  refine lv_aload_n hx hb d_Point_becomeNothing_21 rfl (lv_at hl 0 rfl) ?_
  refine q_get (C := "KateDesk$Point") (T := T_Point) (N := 3) (ci := 2) E ((hk.pt hK hP).1) in_Point rfl 1 (by decide) w_49 rfl rfl d_Point_becomeNothing_22 ?_
  refine lv_iconst (v := nI 0) hx hb d_Point_becomeNothing_25 (by decide) ?_
  refine lv_lconst (v := 1) hx hb d_Point_becomeNothing_26 (by decide) ?_
  refine q_last E hz2 hP.2.2.1.1 hF 0 rfl (by decide) (by decide) d_Point_becomeNothing_27 (fun H4 locs hq hz2b hF => ?_)
  have hz1 := hq.ajo hp9.1 hz1
  have hz3 := hq.ajo hp9.2.2.symm hz3
  have hk := hk.tr (hq.mono (fun q h => Or.inr (Or.inl h)))
  exact q_vret E hr hlk (⟨rfl, hk, LW_0 hz1, ⟨_, hz2b, RV_19⟩, LW_0 hz3⟩) hF d_Point_becomeNothing_28
set_option maxHeartbeats 4000000 in
set_option maxRecDepth 100000 in
theorem L_Point_isNothing (l : Launch) (g : WG) (n0 : Nat → Prop) (o p1 p2 p3 : Nat) (Z : Int) : Ctr l y_Point_isNothing (.code y_Point_isNothing prog_6_method_4_code 1 (some FieldType.boolean)) 1 21 0 0 n0 g [.ref o] (fun H => PT g n0 H o p1 p2 p3 ∧ LW g H p3 Z) (QI (fun r H H' => ((r = 1 ∧ cq Z 0) ∨ (r = 0 ∧ ¬ cq Z 0)) ∧ H' = H)) := by
  refine ctr_mk l (lv0 := [(0, .ref o)]) (by decide) (Nat.le_of_ble_eq_true rfl) rfl ?_
  intro p e s m below meth c ls E hr hlk hnm hl hP
  have hx := E.1
  have hb := E.2.1
  have hK := E.2.2.2.2.2
  have hF : ∀ q ∈ ([] : List Loc), n0 q.base := fun q hq => absurd hq List.not_mem_nil
  obtain ⟨h_p, f, hf, hv⟩ := hP
  refine lv_aload_n hx hb d_Point_isNothing_0 rfl (lv_at hl 0 rfl) ?_
  refine q_get (C := "KateDesk$Point") (T := T_Point) (N := 3) (ci := 2) E h_p.1 in_Point rfl 2 (by decide) w_53 rfl rfl d_Point_isNothing_1 ?_
  refine q_cS (rest := []) E (V_Limbs_isZero l g n0 p3 f ((Z * WQ) % QJ) hv) w_548 w_5 w_729 w_547 hd_Limbs_isZero rfl ⟨by decide, by decide⟩ hf hF hl.1 rfl (Nat.le_of_ble_eq_true rfl) d_Point_isNothing_4 ⟨by decide, by decide⟩ (qi (fun r H1 locs hq hF => ?_))
  obtain ⟨hr9, hq⟩ := hq
  have hq := hq.symm
  subst hq
  exact q_zret E hr (by rcases hr9 with h | h <;> rw [h.1] <;> rfl) hlk (⟨r, rfl, hr9.imp (fun h => ⟨h.1, lw_z.mp h.2⟩) (fun h => ⟨h.1, fun z => h.2 (lw_z.mpr z)⟩), rfl⟩) hF d_Point_isNothing_7
set_option maxHeartbeats 4000000 in
set_option maxRecDepth 100000 in
theorem L_Sums_tabulate (l : Launch) (g : WG) (n0 : Nat → Prop) (o cu od dg sm s1 s2 s3 : Nat) (fo : Nat) (F : Nat → Nat) (mi : Int64) (X : Nat → Nat) (O O1 O2 O3 : Nat → Nat) (t : Nat) (b b1 b2 b3 : Nat) (P : P3) (hPC : onC P) (ht : t < 16) (hmi : mi = 268238845) (hA9 : SAP F X O1 O2 O3 s1 s2 s3) (hXb : ∀ i, i < 9 → b1 ≠ X i ∧ b2 ≠ X i ∧ b3 ≠ X i) (hOb : ∀ k, k < 64 → (b1 ≠ O1 k ∧ b1 ≠ O2 k ∧ b1 ≠ O3 k) ∧ (b2 ≠ O1 k ∧ b2 ≠ O2 k ∧ b2 ≠ O3 k) ∧ b3 ≠ O1 k ∧ b3 ≠ O2 k ∧ b3 ≠ O3 k) : Ctr l y_Sums_tabulate (.code y_Sums_tabulate prog_9_method_3_code 5 none) 4 187 0 0 n0 g [.ref o, .int (nI t), .ref b] (fun H => SO g n0 H o cu od dg sm s1 s2 s3 fo F mi X O O1 O2 O3 ∧ PT g n0 H b b1 b2 b3 ∧ AJ g H (F 0) 14 kQ ∧ LPt g H b1 b2 b3 P) (QV (fun H H' => KJ g (fun q => (∃ i, i < 9 ∧ q = X i) ∨ q = F 5 ∨ q = s1 ∨ q = s2 ∨ q = s3 ∨ ∃ k, t * 4 ≤ k ∧ k < t * 4 + 4 ∧ (q = O1 k ∨ q = O2 k ∨ q = O3 k)) H H' ∧ AJ g H' (F 0) 14 kQ ∧ ∀ m9 : Nat, m9 < 4 → ∃ W, RP P (2 * (m9 : Int) + 1) W ∧ LPt g H' (O1 (t * 4 + m9)) (O2 (t * 4 + m9)) (O3 (t * 4 + m9)) W)) := by
  refine ctr_mk l (lv0 := [(0, .ref o), (1, .int (nI t)), (2, .ref b)]) (by decide) (Nat.le_of_ble_eq_true rfl) rfl ?_
  intro p e s m below meth c ls E hr hlk hnm hl hP
  have hx := E.1
  have hb := E.2.1
  have hK := E.2.2.2.2.2
  have hF : ∀ q ∈ ([] : List Loc), n0 q.base := fun q hq => absurd hq List.not_mem_nil
  obtain ⟨hso, h_b, hM, hLb⟩ := hP
  obtain ⟨hXA, hOX, hFO, hO5, hOO, hOD, hsX, hFs, hs5, hss, hsO⟩ := hA9
  have hk : KJ g (fun q => (∃ i, i < 9 ∧ q = X i) ∨ q = F 5 ∨ q = s1 ∨ q = s2 ∨ q = s3 ∨ ∃ k, t * 4 ≤ k ∧ k < t * 4 + 4 ∧ (q = O1 k ∨ q = O2 k ∨ q = O3 k)) s.heap s.heap := KJ.rf
  refine lv_iload_n hx hb d_Sums_tabulate_0 rfl (lv_at hl 1 rfl) ?_
  refine lv_iconst (v := nI 4) hx hb d_Sums_tabulate_1 (by decide) ?_
  refine lv_imul hx hb d_Sums_tabulate_2 ?_
  refine lv_topi (fun t9 e9 => ?_)
  obtain rfl : t9 = nI (t * 4) := e9.trans (pk_mul t 4)
  refine lv_istore_n (lv' := [(3, .int (nI (t * 4))), (0, .ref o), (1, .int (nI t)), (2, .ref b)]) hx hb d_Sums_tabulate_3 rfl hl (by decide) rfl (fun ls hl => ?_)
  refine lv_aload_n hx hb d_Sums_tabulate_4 rfl (lv_at hl 1 rfl) ?_
  refine q_get (C := "KateDesk$Sums") (T := T_Sums) (N := 4) (ci := 4) E ((hk.so hK hso).1) in_Sums rfl 1 (by decide) w_248 rfl rfl d_Sums_tabulate_5 ?_
  refine lv_iload_n hx hb d_Sums_tabulate_8 rfl (lv_at hl 0 rfl) ?_
  refine q_aald (t := 3) E rfl rfl ((hk.so hK hso).2.2.2.1) (t * 4) rfl (by omega) (by decide) d_Sums_tabulate_9 ?_
  refine lv_aload_n hx hb d_Sums_tabulate_10 rfl (lv_at hl 3 rfl) ?_
  refine q_cV (rest := []) E (L_Point_copy l g n0 (O (t * 4)) (O1 (t * 4)) (O2 (t * 4)) (O3 (t * 4)) b b1 b2 b3 P ⟨(hOO _ _ (by omega) (by omega)).1, (hOO _ _ (by omega) (by omega)).2.1, (hOO _ _ (by omega) (by omega)).2.2⟩ ⟨(hOb _ (by omega)).2.1.1, (hOb _ (by omega)).2.2.1, (hOb _ (by omega)).2.2.2.1⟩) w_697 w_2 w_694 w_695 w_696 hd_Point_copy rfl ⟨by decide, by decide⟩ (OB.recv E.2.2.2.2.2 (by rfl) (((hk.so hK hso).2.2.2.2 (t * 4) (by omega)).1)) (⟨(hk.so hK hso).2.2.2.2 (t * 4) (by omega), hk.pt hK h_b, hLb⟩) hF hl.1 rfl (Nat.le_of_ble_eq_true rfl) d_Sums_tabulate_11 ⟨by decide, by decide⟩ (qv (fun H1 locs hq hF => ?_))
  obtain ⟨hq, hW0⟩ := hq
  have hM := hq.ajo (fun h => h.elim (hFO _ (by omega)).1 (fun h => h.elim (hFO _ (by omega)).2.1 (hFO _ (by omega)).2.2)) hM
  have hLb := hLb.off hq (fun h => h.elim (hOb _ (by omega)).1.1 (fun h => h.elim (hOb _ (by omega)).1.2.1 (hOb _ (by omega)).1.2.2)) (fun h => h.elim (hOb _ (by omega)).2.1.1 (fun h => h.elim (hOb _ (by omega)).2.1.2.1 (hOb _ (by omega)).2.1.2.2)) (fun h => h.elim (hOb _ (by omega)).2.2.1 (fun h => h.elim (hOb _ (by omega)).2.2.2.1 (hOb _ (by omega)).2.2.2.2))
  have hk := hk.tr (hq.mono (fun q h => Or.inr (Or.inr (Or.inr (Or.inr (Or.inr ⟨t * 4, Nat.le_refl _, by omega, h⟩))))))
  refine lv_aload_n hx hb d_Sums_tabulate_14 rfl (lv_at hl 1 rfl) ?_
  refine q_get (C := "KateDesk$Sums") (T := T_Sums) (N := 4) (ci := 4) E ((hk.so hK hso).1) in_Sums rfl 0 (by decide) w_247 rfl rfl d_Sums_tabulate_15 ?_
  refine lv_aload_n hx hb d_Sums_tabulate_18 rfl (lv_at hl 1 rfl) ?_
  refine q_get (C := "KateDesk$Sums") (T := T_Sums) (N := 4) (ci := 4) E ((hk.so hK hso).1) in_Sums rfl 3 (by decide) w_250 rfl rfl d_Sums_tabulate_19 ?_
  refine lv_aload_n hx hb d_Sums_tabulate_22 rfl (lv_at hl 3 rfl) ?_
  refine q_cV (rest := []) E (L_Curve_twice l g n0 cu fo F mi X sm s1 s2 s3 b b1 b2 b3 P hXA hmi hXb (fun i hi => ⟨(hsX i hi).1.symm, (hsX i hi).2.1.symm, (hsX i hi).2.2.symm⟩) hFs hss) w_702 w_11 w_699 w_700 w_701 hd_Curve_twice rfl ⟨by decide, by decide⟩ (OB.recv E.2.2.2.2.2 (by rfl) ((hk.so hK hso).2.1.1)) (⟨(hk.so hK hso).2.1, (hk.so hK hso).2.2.1, hk.pt hK h_b, hM, hLb⟩) hF hl.1 rfl (Nat.le_of_ble_eq_true rfl) d_Sums_tabulate_23 ⟨by decide, by decide⟩ (qv (fun H2 locs hq hF => ?_))
  obtain ⟨hq, hT2⟩ := hq
  have hT2 : LPt g H2 s1 s2 s3 (DB P) := hT2
  have hR2 := (RP_1 hPC).db hPC
  have hM := hq.ajo (fun h => h.elim (fun h => by obtain ⟨i, hi, e⟩ := h; exact hXA.2.1 i hi e) (fun h => h.elim hXA.2.2.2 (fun h => h.elim hFs.1 (fun h => h.elim hFs.2.1 hFs.2.2)))) hM
  have hW0 := hW0.off hq (fun h => h.elim (fun h => by obtain ⟨i, hi, e⟩ := h; exact (hOX (t * 4) i (by omega) hi).1 e) (fun h => h.elim (hO5 (t * 4) (by omega)).1 (fun h => h.elim (fun e => (hsO (t * 4) (by omega)).1.1 e.symm) (fun h => h.elim (fun e => (hsO (t * 4) (by omega)).2.1.1 e.symm) (fun e => (hsO (t * 4) (by omega)).2.2.1 e.symm))))) (fun h => h.elim (fun h => by obtain ⟨i, hi, e⟩ := h; exact (hOX (t * 4) i (by omega) hi).2.1 e) (fun h => h.elim (hO5 (t * 4) (by omega)).2.1 (fun h => h.elim (fun e => (hsO (t * 4) (by omega)).1.2.1 e.symm) (fun h => h.elim (fun e => (hsO (t * 4) (by omega)).2.1.2.1 e.symm) (fun e => (hsO (t * 4) (by omega)).2.2.2.1 e.symm))))) (fun h => h.elim (fun h => by obtain ⟨i, hi, e⟩ := h; exact (hOX (t * 4) i (by omega) hi).2.2 e) (fun h => h.elim (hO5 (t * 4) (by omega)).2.2 (fun h => h.elim (fun e => (hsO (t * 4) (by omega)).1.2.2 e.symm) (fun h => h.elim (fun e => (hsO (t * 4) (by omega)).2.1.2.2 e.symm) (fun e => (hsO (t * 4) (by omega)).2.2.2.2 e.symm)))))
  have hk := hk.tr (hq.mono (fun q h => h.elim Or.inl (fun h => h.elim (fun h => Or.inr (Or.inl h)) (fun h => h.elim (fun h => Or.inr (Or.inr (Or.inl h))) (fun h => h.elim (fun h => Or.inr (Or.inr (Or.inr (Or.inl h)))) (fun h => Or.inr (Or.inr (Or.inr (Or.inr (Or.inl h)))))))))) 
  refine lv_iload_n hx hb d_Sums_tabulate_26 rfl (lv_at hl 0 rfl) ?_
  refine lv_iconst (v := nI 1) hx hb d_Sums_tabulate_27 (by decide) ?_
  refine lv_iadd hx hb d_Sums_tabulate_28 ?_
  refine lv_topi (fun t9 e9 => ?_)
  obtain rfl : t9 = nI (t * 4 + 1) := e9.trans (nI_add _ _)
  refine lv_istore (lv' := [(4, .int (nI (t * 4 + 1))), (3, .int (nI (t * 4))), (0, .ref o), (1, .int (nI t)), (2, .ref b)]) hx hb d_Sums_tabulate_29 hl (by decide) rfl (fun ls hl => ?_)
  have hl : lv_has ls 5 [(4, .int (nI (t * 4 + 1))), (3, .int (nI (t * 4))), (0, .ref o)] := lv_sub hl [0, 1, 2] rfl
  have loop : ∀ (k : Nat) (i : Nat) (H : Heap) (locs : List Loc) (ls : Array Slot), i + k = t * 4 + 4 → t * 4 + 1 ≤ i → KJ g (fun q => (∃ i, i < 9 ∧ q = X i) ∨ q = F 5 ∨ q = s1 ∨ q = s2 ∨ q = s3 ∨ ∃ k, t * 4 ≤ k ∧ k < t * 4 + 4 ∧ (q = O1 k ∨ q = O2 k ∨ q = O3 k)) s.heap H → AJ g H (F 0) 14 kQ → LPt g H s1 s2 s3 (DB P) → (∀ m9 : Nat, m9 < i - t * 4 → ∃ W, RP P (2 * (m9 : Int) + 1) W ∧ LPt g H (O1 (t * 4 + m9)) (O2 (t * 4 + m9)) (O3 (t * 4 + m9)) W) → (∀ q ∈ locs, n0 q.base) → lv_has ls 5 [(4, .int (nI i)), (3, .int (nI (t * 4))), (0, .ref o)] → W p l e { frames := 4, cells := 0, slots := 0, locals := 187 } s m [.ref o, .int (nI t), .ref b].toArray below meth c H locs 0 0 (MQ below (QcP (QV (fun H H' => KJ g (fun q => (∃ i, i < 9 ∧ q = X i) ∨ q = F 5 ∨ q = s1 ∨ q = s2 ∨ q = s3 ∨ ∃ k, t * 4 ≤ k ∧ k < t * 4 + 4 ∧ (q = O1 k ∨ q = O2 k ∨ q = O3 k)) H H' ∧ AJ g H' (F 0) 14 kQ ∧ ∀ m9 : Nat, m9 < 4 → ∃ W, RP P (2 * (m9 : Int) + 1) W ∧ LPt g H' (O1 (t * 4 + m9)) (O2 (t * 4 + m9)) (O3 (t * 4 + m9)) W))) [.ref o, .int (nI t), .ref b].toArray s 0 0 (fun q => n0 q)) (F0 m 31 ls []) := by
    intro k
    induction k with
    | zero =>
      intro  i   H   locs   ls hi hi2 hk hM hT2 hT hF hl
      obtain rfl : i = t * 4 + 4 := by omega
      refine lv_iload hx hb d_Sums_tabulate_31 (lv_at hl 0 rfl) ?_
      refine lv_iload_n hx hb d_Sums_tabulate_33 rfl (lv_at hl 1 rfl) ?_
      refine lv_iconst (v := nI 4) hx hb d_Sums_tabulate_34 (by decide) ?_
      refine lv_iadd hx hb d_Sums_tabulate_35 ?_
      refine lv_topi (fun t9 e9 => ?_)
      obtain rfl : t9 = nI (t * 4 + 4) := e9.trans (nI_add _ _)
      refine lv_icmp_ge (tgt := 73) hx hb d_Sums_tabulate_36 (by decide) (fun _ => ?_) (fun h9 => absurd (nI_le (Nat.le_refl _) (by omega)) h9)
      exact q_vret E hr hlk (⟨rfl, hk, hM, fun m9 hm => hT m9 (by omega)⟩) hF d_Sums_tabulate_73
    | succ k ih =>
      intro  i   H   locs   ls hi hi2 hk hM hT2 hT hF hl
      refine lv_iload hx hb d_Sums_tabulate_31 (lv_at hl 0 rfl) ?_
      refine lv_iload_n hx hb d_Sums_tabulate_33 rfl (lv_at hl 1 rfl) ?_
      refine lv_iconst (v := nI 4) hx hb d_Sums_tabulate_34 (by decide) ?_
      refine lv_iadd hx hb d_Sums_tabulate_35 ?_
      refine lv_topi (fun t9 e9 => ?_)
      obtain rfl : t9 = nI (t * 4 + 4) := e9.trans (nI_add _ _)
      refine lv_icmp_ge (tgt := 73) hx hb d_Sums_tabulate_36 (by decide) (fun h9 => absurd h9 (nI_ge (by omega) (by omega))) (fun _ => ?_)
      obtain ⟨m1, hm1⟩ : ∃ m1, i = t * 4 + m1 + 1 := ⟨i - t * 4 - 1, by omega⟩
      obtain ⟨W1, hRW, hLW⟩ := hT m1 (by omega)
      have e1 : t * 4 + m1 = i - 1 := by omega
      rw [e1] at hLW
      refine lv_aload_n hx hb d_Sums_tabulate_39 rfl (lv_at hl 2 rfl) ?_
      refine q_get (C := "KateDesk$Sums") (T := T_Sums) (N := 4) (ci := 4) E ((hk.so hK hso).1) in_Sums rfl 0 (by decide) w_247 rfl rfl d_Sums_tabulate_40 ?_
      refine lv_aload_n hx hb d_Sums_tabulate_43 rfl (lv_at hl 2 rfl) ?_
      refine q_get (C := "KateDesk$Sums") (T := T_Sums) (N := 4) (ci := 4) E ((hk.so hK hso).1) in_Sums rfl 1 (by decide) w_248 rfl rfl d_Sums_tabulate_44 ?_
      refine lv_iload hx hb d_Sums_tabulate_47 (lv_at hl 0 rfl) ?_
      refine q_aald (t := 3) E rfl rfl ((hk.so hK hso).2.2.2.1) i rfl (by omega) (by decide) d_Sums_tabulate_49 ?_
      refine lv_aload_n hx hb d_Sums_tabulate_50 rfl (lv_at hl 2 rfl) ?_
      refine q_get (C := "KateDesk$Sums") (T := T_Sums) (N := 4) (ci := 4) E ((hk.so hK hso).1) in_Sums rfl 1 (by decide) w_248 rfl rfl d_Sums_tabulate_51 ?_
      refine lv_iload hx hb d_Sums_tabulate_54 (lv_at hl 0 rfl) ?_
      refine lv_iconst (v := nI 1) hx hb d_Sums_tabulate_56 (by decide) ?_
      refine lv_isub hx hb d_Sums_tabulate_57 ?_
      refine lv_topi (fun t9 e9 => ?_)
      obtain rfl : t9 = nI (i - 1) := e9.trans (pk_sub (by omega))
      refine q_aald (t := 3) E rfl rfl ((hk.so hK hso).2.2.2.1) (i - 1) rfl (by omega) (by decide) d_Sums_tabulate_58 ?_
      refine lv_aload_n hx hb d_Sums_tabulate_59 rfl (lv_at hl 2 rfl) ?_
      refine q_get (C := "KateDesk$Sums") (T := T_Sums) (N := 4) (ci := 4) E ((hk.so hK hso).1) in_Sums rfl 3 (by decide) w_250 rfl rfl d_Sums_tabulate_60 ?_
      refine lv_iconst (v := nI 0) hx hb d_Sums_tabulate_63 (by decide) ?_
      refine q_cV (rest := []) E (L_Curve_add l g n0 cu fo F mi X (O i) (O1 i) (O2 i) (O3 i) (O (i - 1)) (O1 (i - 1)) (O2 (i - 1)) (O3 (i - 1)) sm s1 s2 s3 (nI 0) W1 (DB P) hXA hmi (fun q hq => hOX _ q (by omega) hq) hsX (hO5 _ (by omega)) hs5 (fun q hq => ⟨(hOX i q (by omega) hq).1.symm, (hOX i q (by omega) hq).2.1.symm, (hOX i q (by omega) hq).2.2.symm⟩) (hFO i (by omega)) ⟨(hOO _ _ (by omega) (by omega)).1, (hOO _ _ (by omega) (by omega)).2.1, (hOO _ _ (by omega) (by omega)).2.2⟩) w_711 w_11 w_708 w_709 w_710 hd_Curve_add rfl ⟨by decide, by decide⟩ (OB.recv E.2.2.2.2.2 (by rfl) ((hk.so hK hso).2.1.1)) (⟨(hk.so hK hso).2.1, (hk.so hK hso).2.2.2.2 i (by omega), (hk.so hK hso).2.2.2.2 (i - 1) (by omega), (hk.so hK hso).2.2.1, hM, hLW, hT2⟩) hF hl.1 rfl (Nat.le_of_ble_eq_true rfl) d_Sums_tabulate_64 ⟨by decide, by decide⟩ (qv (fun H1 locs hq hF => ?_))
      obtain ⟨hq, R9, hR9, hT9⟩ := hq
      rw [if_pos (show nI 0 = 0 from rfl)] at hR9
      subst hR9
      have hT9 : LPt g H1 (O1 i) (O2 i) (O3 i) (AD W1 (DB P)) := hT9
      have hRN := RP.add hPC hRW hR2
      have hM := hq.ajo (fun h => h.elim (fun h => by obtain ⟨q, hq, e⟩ := h; exact hXA.2.1 q hq e) (fun h => h.elim hXA.2.2.2 (fun h => h.elim (hFO i (by omega)).1 (fun h => h.elim (hFO i (by omega)).2.1 (hFO i (by omega)).2.2)))) hM
      have hT2 := hT2.off hq (fun h => h.elim (fun h => by obtain ⟨q, hq, e⟩ := h; exact (hsX q hq).1 e) (fun h => h.elim hs5.1 (fun h => h.elim (hsO i (by omega)).1.1 (fun h => h.elim (hsO i (by omega)).1.2.1 (hsO i (by omega)).1.2.2)))) (fun h => h.elim (fun h => by obtain ⟨q, hq, e⟩ := h; exact (hsX q hq).2.1 e) (fun h => h.elim hs5.2.1 (fun h => h.elim (hsO i (by omega)).2.1.1 (fun h => h.elim (hsO i (by omega)).2.1.2.1 (hsO i (by omega)).2.1.2.2)))) (fun h => h.elim (fun h => by obtain ⟨q, hq, e⟩ := h; exact (hsX q hq).2.2 e) (fun h => h.elim hs5.2.2 (fun h => h.elim (hsO i (by omega)).2.2.1 (fun h => h.elim (hsO i (by omega)).2.2.2.1 (hsO i (by omega)).2.2.2.2))))
      have hT : ∀ m9 : Nat, m9 < i + 1 - t * 4 → ∃ W, RP P (2 * (m9 : Int) + 1) W ∧ LPt g H1 (O1 (t * 4 + m9)) (O2 (t * 4 + m9)) (O3 (t * 4 + m9)) W := by
        intro m9 hm9
        by_cases c : m9 = m1 + 1
        · subst c
          refine ⟨AD W1 (DB P), ?_, ?_⟩
          · exact (by rw [show 2 * ((m1 + 1 : Nat) : Int) + 1 = 2 * (m1 : Int) + 1 + 2 * 1 by omega]; exact hRN)
          · rw [show t * 4 + (m1 + 1) = i by omega]; exact hT9
        · obtain ⟨W, hw1, hw2⟩ := hT m9 (by omega)
          have c9 : t * 4 + m9 ≠ i := by omega
          have h64 : t * 4 + m9 < 64 := by omega
          have hi64 : i < 64 := by omega
          exact ⟨W, hw1, hw2.off hq (fun h => h.elim (fun h => by obtain ⟨q, hq, e⟩ := h; exact (hOX (t * 4 + m9) q h64 hq).1 e) (fun h => h.elim (hO5 (t * 4 + m9) h64).1 (fun h => h.elim (hOD _ _ h64 hi64 c9).1 (fun h => h.elim (hOO (t * 4 + m9) i h64 hi64).1 (hOO (t * 4 + m9) i h64 hi64).2.1)))) (fun h => h.elim (fun h => by obtain ⟨q, hq, e⟩ := h; exact (hOX (t * 4 + m9) q h64 hq).2.1 e) (fun h => h.elim (hO5 (t * 4 + m9) h64).2.1 (fun h => h.elim (hOO i (t * 4 + m9) hi64 h64).1.symm (fun h => h.elim (hOD _ _ h64 hi64 c9).2.1 (hOO (t * 4 + m9) i h64 hi64).2.2)))) (fun h => h.elim (fun h => by obtain ⟨q, hq, e⟩ := h; exact (hOX (t * 4 + m9) q h64 hq).2.2 e) (fun h => h.elim (hO5 (t * 4 + m9) h64).2.2 (fun h => h.elim (hOO i (t * 4 + m9) hi64 h64).2.1.symm (fun h => h.elim (hOO i (t * 4 + m9) hi64 h64).2.2.symm (hOD _ _ h64 hi64 c9).2.2))))⟩
      have hk := hk.tr (hq.mono (fun q h => h.elim Or.inl (fun h => h.elim (fun h => Or.inr (Or.inl h)) (fun h => Or.inr (Or.inr (Or.inr (Or.inr (Or.inr ⟨i, by omega, by omega, h⟩))))))))
      refine lv_iinc (k := 0) (v := nI (i + 1)) (lv' := [(4, .int (nI (i + 1))), (3, .int (nI (t * 4))), (0, .ref o)]) hx hb d_Sums_tabulate_67 hl rfl (i_inc i) (by decide) rfl (fun ls hl => ?_)
      refine lv_goto (tgt := 31) hx hb d_Sums_tabulate_70 (by decide) ?_
      have hl : lv_has ls 5 [(4, .int (nI (i + 1))), (3, .int (nI (t * 4))), (0, .ref o)] := lv_sub hl [0, 1, 2] rfl
      exact ih (i + 1) H1 locs ls (by omega) (by omega) hk hM hT2 hT hF hl
  exact loop 3 (t * 4 + 1) _ _ ls (by omega) (by omega) hk hM hT2 (fun m9 hm => by have e0 : m9 = 0 := (by omega); subst e0; exact ⟨P, RP_1 hPC, hW0⟩) hF hl
