/-- what the desk's constructor lays down for good -/
def CR (g : WG) (H : Heap) (b : Nat) : Prop := AJ g H (kFr b 0) 14 kR ∧ (∃ f, AJ g H (kFr b 1) 14 f ∧ RV f WR) ∧ (∃ f, AJ g H (kFr b 2) 14 f ∧ RV f 1) ∧ (∃ f, AJ g H (kFr b 3) 14 f ∧ RV f W2R) ∧ (∃ f, AJ g H (kFr b 4) 14 f ∧ RV f (RI - 2)) ∧ (∃ f, AJ g H (kY b 0) 14 f ∧ RV f ((7 * WR) % RI)) ∧ ∃ f, AJ g H (kY b 1) 14 f ∧ RV f 1
/-- places that no call writes -/
def kC (b q : Nat) : Prop := q = b + 168 ∨ (b + 163 ≤ q ∧ q ≤ b + 166) ∨ q = b + 471 ∨ q = b + 472
theorem CR.kj {g : WG} {S : Nat → Prop} {H H' : Heap} {b : Nat} (h : CR g H b) (hk : KJ g S H H') (hS : ∀ q, S q → ¬ kC b q) : CR g H' b := by
  have e : ∀ q, kC b q → ¬ S q := fun q h1 h2 => hS q h2 h1
  have c0 : kC b (kFr b 0) := Or.inl rfl
  have c1 : kC b (kFr b 1) := Or.inr (Or.inl (show b + 163 ≤ b + 163 ∧ b + 163 ≤ b + 166 by omega))
  have c2 : kC b (kFr b 2) := Or.inr (Or.inl (show b + 163 ≤ b + 164 ∧ b + 164 ≤ b + 166 by omega))
  have c3 : kC b (kFr b 3) := Or.inr (Or.inl (show b + 163 ≤ b + 165 ∧ b + 165 ≤ b + 166 by omega))
  have c4 : kC b (kFr b 4) := Or.inr (Or.inl (show b + 163 ≤ b + 166 ∧ b + 166 ≤ b + 166 by omega))
  have c5 : kC b (kY b 0) := Or.inr (Or.inr (Or.inl rfl))
  have c6 : kC b (kY b 1) := Or.inr (Or.inr (Or.inr rfl))
  exact ⟨hk.ajo (e _ c0) h.1, h.2.1.imp (fun f hf => ⟨hk.ajo (e _ c1) hf.1, hf.2⟩), h.2.2.1.imp (fun f hf => ⟨hk.ajo (e _ c2) hf.1, hf.2⟩), h.2.2.2.1.imp (fun f hf => ⟨hk.ajo (e _ c3) hf.1, hf.2⟩), h.2.2.2.2.1.imp (fun f hf => ⟨hk.ajo (e _ c4) hf.1, hf.2⟩), h.2.2.2.2.2.1.imp (fun f hf => ⟨hk.ajo (e _ c5) hf.1, hf.2⟩), h.2.2.2.2.2.2.imp (fun f hf => ⟨hk.ajo (e _ c6) hf.1, hf.2⟩)⟩
/-- the exponent of unity k -/
def eU (k : Nat) : Nat := (RN - 1) / 2 ^ k
theorem eU_I (k : Nat) : (RI - 1) / 2 ^ k = (eU k : Int) := by
  rw [← cast_p2, show RI - 1 = ((RN - 1 : Nat) : Int) by decide +kernel]
  exact (Int.natCast_ediv _ _).symm
theorem eU_r (k : Nat) : (eU k : Int) < RI := by
  have h : eU k ≤ RN - 1 := Nat.div_le_self _ _
  have h2 : ((RN - 1 : Nat) : Int) < RI := by decide +kernel
  omega
theorem neg_1 : (if (0 : Int) < 1 then 0 - 1 + RI else 0 - 1) = RI - 1 := by decide +kernel
set_option maxHeartbeats 4000000 in
set_option maxRecDepth 100000 in
theorem R_Polys_rootExponent (l : Launch) (g : WG) (n0 : Nat → Prop) (b : Nat) (mr : Int64) (hmr : mr = 268435455) (k : Nat) (hk32 : k ≤ 32) : Ctr l y_Polys_rootExponent (.code y_Polys_rootExponent prog_7_method_3_code 2 none) 3 66 0 0 n0 g [.ref (b + 470), .int (nI k)] (fun H => PO g n0 H (b + 470) (b + 162) (b + 478) (kFr b) mr (kY b) (kV b) ∧ CR g H b) (QV (fun H H' => KJ g (fun q => q = kY b 6 ∨ q = kFr b 5 ∨ q = kY b 2) H H' ∧ ∃ f', AJ g H' (kY b 2) 14 f' ∧ RV f' (eU k : Int))) := by
  refine ctr_mk l (lv0 := [(0, .ref (b + 470)), (1, .int (nI k))]) (by decide) (Nat.le_of_ble_eq_true rfl) rfl ?_
  intro p e s m below meth c ls E hr hlk hnm hl hP
  have hx := E.1
  have hb := E.2.1
  have hK := E.2.2.2.2.2
  have hF : ∀ q ∈ ([] : List Loc), n0 q.base := fun q hq => absurd hq List.not_mem_nil
  obtain ⟨hpo, hcr⟩ := hP
  have hmi := hmr
  have hk : KJ g (fun q => q = kY b 6 ∨ q = kFr b 5 ∨ q = kY b 2) s.heap s.heap := KJ.rf
  obtain ⟨f1, hf1, hv1⟩ := hcr.2.2.2.2.2.2
  refine lv_aload_n hx hb d_Polys_rootExponent_0 rfl (lv_at hl 0 rfl) ?_
  refine q_get (C := "KateDesk$Polynomials") (T := T_Polys) (N := 9) (ci := 7) E ((hk.po hK hpo).1) in_Polys rfl 0 (by decide) w_303 rfl rfl d_Polys_rootExponent_1 ?_
  refine lv_aload_n hx hb d_Polys_rootExponent_4 rfl (lv_at hl 0 rfl) ?_
  refine q_get (C := "KateDesk$Polynomials") (T := T_Polys) (N := 9) (ci := 7) E ((hk.po hK hpo).1) in_Polys rfl 7 (by decide) w_310 rfl rfl d_Polys_rootExponent_5 ?_
  refine lv_aload_n hx hb d_Polys_rootExponent_8 rfl (lv_at hl 0 rfl) ?_
  refine q_get (C := "KateDesk$Polynomials") (T := T_Polys) (N := 9) (ci := 7) E ((hk.po hK hpo).1) in_Polys rfl 2 (by decide) w_305 rfl rfl d_Polys_rootExponent_9 ?_
  refine q_cV (rest := []) E (R_Field_negate l g n0 (b + 162) (kY b 6) (kY b 1) (kFr b) mr f1 1 hv1 (by decide) (show b + 168 ≠ b + 477 by omega) (show b + 168 ≠ b + 167 by omega) (show b + 472 ≠ b + 167 by omega)) w_609 w_4 w_606 w_607 w_608 hd_Field_negate rfl ⟨by decide, by decide⟩ (OB.recv E.2.2.2.2.2 (by rfl) hpo.2.1.1) (⟨hpo.2.1, ((hk.po hK hpo).2.2.1 6 (by decide)), hf1, hcr.1⟩) hF hl.1 rfl (Nat.le_of_ble_eq_true rfl) d_Polys_rootExponent_12 ⟨by decide, by decide⟩ (qv (fun H1 locs hq hF => ?_))
  obtain ⟨hq, f2, hf2, hv2⟩ := hq
  rw [neg_1] at hv2
  have hk : KJ g (fun q => q = kY b 6 ∨ q = kFr b 5 ∨ q = kY b 2) s.heap _ := hq.mono (fun q h => h.elim Or.inl (fun h => Or.inr (Or.inl h)))
  refine lv_aload_n hx hb d_Polys_rootExponent_15 rfl (lv_at hl 0 rfl) ?_
  refine q_get (C := "KateDesk$Polynomials") (T := T_Polys) (N := 9) (ci := 7) E ((hk.po hK hpo).1) in_Polys rfl 3 (by decide) w_306 rfl rfl d_Polys_rootExponent_16 ?_
  refine lv_aload_n hx hb d_Polys_rootExponent_19 rfl (lv_at hl 0 rfl) ?_
  refine q_get (C := "KateDesk$Polynomials") (T := T_Polys) (N := 9) (ci := 7) E ((hk.po hK hpo).1) in_Polys rfl 7 (by decide) w_310 rfl rfl d_Polys_rootExponent_20 ?_
  refine lv_iload_n hx hb d_Polys_rootExponent_23 rfl (lv_at hl 1 rfl) ?_
  refine q_cS (rest := []) E (V_Limbs_shiftRight l g n0 (kY b 2) (kY b 6) k f2 (RI - 1) hv2 (by omega) (show b + 477 ≠ b + 473 by omega)) w_268 w_5 w_611 w_267 hd_Limbs_shiftRight rfl ⟨by decide, by decide⟩ (⟨((hk.po hK hpo).2.2.1 2 (by decide)), hf2⟩) hF hl.1 rfl (Nat.le_of_ble_eq_true rfl) d_Polys_rootExponent_24 ⟨by decide, by decide⟩ (qv (fun H2 locs hq hF => ?_))
  obtain ⟨hq, f3, hf3, hv3⟩ := hq
  rw [eU_I] at hv3
  exact q_vret E hr hlk (⟨rfl, hk.tr (hq.mono (fun q h => Or.inr (Or.inr h))), f3, hf3, hv3⟩) hF d_Polys_rootExponent_27
theorem nc_RE {b : Nat} : ∀ q, q = kY b 6 ∨ q = kFr b 5 ∨ q = kY b 2 → ¬ kC b q := by
  intro q h
  have h : q = b + 477 ∨ q = b + 167 ∨ q = b + 473 := h
  unfold kC
  omega
set_option maxHeartbeats 4000000 in
set_option maxRecDepth 100000 in
theorem R_Polys_liftedRoot (l : Launch) (g : WG) (n0 : Nat → Prop) (b : Nat) (mr : Int64) (hmr : mr = 268435455) (t k : Nat) (hk32 : k ≤ 32) (ht : t = b + 161 ∨ t = b + 474) : Ctr l y_Polys_liftedRoot (.code y_Polys_liftedRoot prog_7_method_2_code 3 none) 4 160 0 0 n0 g [.ref (b + 470), .ref t, .int (nI k)] (fun H => PO g n0 H (b + 470) (b + 162) (b + 478) (kFr b) mr (kY b) (kV b) ∧ CR g H b ∧ n0 t ∧ ∃ ft, AJ g H t 14 ft) (QV (fun H H' => KJ g (fun q => (q = kY b 6 ∨ q = kFr b 5 ∨ q = kY b 2) ∨ q = t) H H' ∧ ∃ f', AJ g H' t 14 f' ∧ RV f' ((7 ^ eU k * WR) % RI))) := by
  refine ctr_mk l (lv0 := [(0, .ref (b + 470)), (1, .ref t), (2, .int (nI k))]) (by decide) (Nat.le_of_ble_eq_true rfl) rfl ?_
  intro p e s m below meth c ls E hr hlk hnm hl hP
  have hx := E.1
  have hb := E.2.1
  have hK := E.2.2.2.2.2
  have hF : ∀ q ∈ ([] : List Loc), n0 q.base := fun q hq => absurd hq List.not_mem_nil
  obtain ⟨hpo, hcr, hnt, hft⟩ := hP
  have hmi := hmr
  have hk : KJ g (fun q => q = kY b 6 ∨ q = kFr b 5 ∨ q = kY b 2) s.heap s.heap := KJ.rf
  refine lv_aload_n hx hb d_Polys_liftedRoot_0 rfl (lv_at hl 0 rfl) ?_
  refine lv_iload_n hx hb d_Polys_liftedRoot_1 rfl (lv_at hl 2 rfl) ?_
  refine q_cV (rest := []) E (R_Polys_rootExponent l g n0 b mr hmr k hk32) w_605 w_14 w_602 w_604 (bw_s 3 rfl) hd_Polys_rootExponent rfl ⟨by decide, by decide⟩ (OB.recv E.2.2.2.2.2 (by rfl) hpo.1) (⟨hpo, hcr⟩) hF hl.1 rfl (Nat.le_of_ble_eq_true rfl) d_Polys_liftedRoot_2 ⟨by decide, by decide⟩ (qv (fun H1 locs hq hF => ?_))
  obtain ⟨hq, f2, hf2, hv2⟩ := hq
  have hk := hq
  have hcr := hcr.kj hk nc_RE
  obtain ⟨f7, hf7, hv7⟩ := hcr.2.2.2.2.2.1
  refine lv_aload_n hx hb d_Polys_liftedRoot_5 rfl (lv_at hl 0 rfl) ?_
  refine q_get (C := "KateDesk$Polynomials") (T := T_Polys) (N := 9) (ci := 7) E ((hk.po hK hpo).1) in_Polys rfl 0 (by decide) w_303 rfl rfl d_Polys_liftedRoot_6 ?_
  refine lv_aload_n hx hb d_Polys_liftedRoot_9 rfl (lv_at hl 1 rfl) ?_
  refine lv_aload_n hx hb d_Polys_liftedRoot_10 rfl (lv_at hl 0 rfl) ?_
  refine q_get (C := "KateDesk$Polynomials") (T := T_Polys) (N := 9) (ci := 7) E ((hk.po hK hpo).1) in_Polys rfl 1 (by decide) w_304 rfl rfl d_Polys_liftedRoot_11 ?_
  refine lv_aload_n hx hb d_Polys_liftedRoot_14 rfl (lv_at hl 0 rfl) ?_
  refine q_get (C := "KateDesk$Polynomials") (T := T_Polys) (N := 9) (ci := 7) E ((hk.po hK hpo).1) in_Polys rfl 3 (by decide) w_306 rfl rfl d_Polys_liftedRoot_15 ?_
  refine q_cV (rest := []) E (R_Field_raise l g n0 (b + 162) t (kY b 0) (kY b 2) (kFr b) mr f7 f2 7 (eU k) hv7 hv2 (show b + 168 ≠ t by omega) (show b + 168 ≠ b + 167 by omega) (show t ≠ b + 167 by omega) (show b + 473 ≠ t by omega) (show b + 473 ≠ b + 167 by omega) (show b + 163 ≠ b + 167 by omega) hmr) w_574 w_4 w_612 w_572 w_573 hd_Field_raise rfl ⟨by decide, by decide⟩ (OB.recv E.2.2.2.2.2 (by rfl) ((hk.po hK hpo).2.1.1)) (⟨(hk.po hK hpo).2.1, ⟨hnt, hft.elim (fun f h => hk.aj h)⟩, hf7, hf2, hcr.1, hcr.2.1⟩) hF hl.1 rfl (Nat.le_of_ble_eq_true rfl) d_Polys_liftedRoot_18 ⟨by decide, by decide⟩ (qv (fun H2 locs hq hF => ?_))
  obtain ⟨hq, f3, hf3, hv3⟩ := hq
  exact q_vret E hr hlk (⟨rfl, (hk.mono (fun q h => Or.inl h)).tr (hq.mono (fun q h => h.elim Or.inr (fun h => Or.inl (Or.inr (Or.inl h))))), f3, hf3, hv3⟩) hF d_Polys_liftedRoot_21
theorem nc_5 {b : Nat} : ∀ q, q = kY b 5 ∨ q = kFr b 5 → ¬ kC b q := by
  intro q h
  have h : q = b + 476 ∨ q = b + 167 := h
  unfold kC
  omega
theorem neg_r (k : Nat) : (if (0 : Int) < (eU k : Int) then 0 - (eU k : Int) + RI else 0 - (eU k : Int)) < RI := by
  have := RI_pos
  split <;> omega
theorem neg_m {x : Int} : ((if 0 < x then 0 - x + RI else 0 - x) * WR) % RI = ((0 - x) * WR) % RI := by
  split
  · rw [Int.add_mul, Int.mul_comm RI WR]
    exact Int.add_mul_emod_self_right _ _ _
  · rfl
set_option maxHeartbeats 4000000 in
set_option maxRecDepth 100000 in
theorem R_Polys_findShare (l : Launch) (g : WG) (n0 : Nat → Prop) (b : Nat) (mr : Int64) (hmr : mr = 268435455) (k : Nat) (hk32 : k ≤ 32) : Ctr l y_Polys_findShare (.code y_Polys_findShare prog_7_method_4_code 2 none) 4 157 0 0 n0 g [.ref (b + 470), .int (nI k)] (fun H => PO g n0 H (b + 470) (b + 162) (b + 478) (kFr b) mr (kY b) (kV b) ∧ CR g H b) (QV (fun H H' => KJ g (fun q => (q = kY b 6 ∨ q = kFr b 5 ∨ q = kY b 2) ∨ q = kY b 5) H H' ∧ ∃ f', AJ g H' (kY b 5) 14 f' ∧ RV f' (((0 - (eU k : Int)) * WR) % RI))) := by
  refine ctr_mk l (lv0 := [(0, .ref (b + 470)), (1, .int (nI k))]) (by decide) (Nat.le_of_ble_eq_true rfl) rfl ?_
  intro p e s m below meth c ls E hr hlk hnm hl hP
  have hx := E.1
  have hb := E.2.1
  have hK := E.2.2.2.2.2
  have hF : ∀ q ∈ ([] : List Loc), n0 q.base := fun q hq => absurd hq List.not_mem_nil
  obtain ⟨hpo, hcr⟩ := hP
  have hmi := hmr
  have hk : KJ g (fun q => (q = kY b 6 ∨ q = kFr b 5 ∨ q = kY b 2) ∨ q = kY b 5) s.heap s.heap := KJ.rf
  refine lv_aload_n hx hb d_Polys_findShare_0 rfl (lv_at hl 0 rfl) ?_
  refine lv_iload_n hx hb d_Polys_findShare_1 rfl (lv_at hl 1 rfl) ?_
  refine q_cV (rest := []) E (R_Polys_rootExponent l g n0 b mr hmr k hk32) w_605 w_14 w_602 w_604 (bw_s 3 rfl) hd_Polys_rootExponent rfl ⟨by decide, by decide⟩ (OB.recv E.2.2.2.2.2 (by rfl) hpo.1) (⟨hpo, hcr⟩) hF hl.1 rfl (Nat.le_of_ble_eq_true rfl) d_Polys_findShare_2 ⟨by decide, by decide⟩ (qv (fun H1 locs hq hF => ?_))
  obtain ⟨hq, f2, hf2, hv2⟩ := hq
  have hk : KJ g (fun q => (q = kY b 6 ∨ q = kFr b 5 ∨ q = kY b 2) ∨ q = kY b 5) s.heap _ := hq.mono (fun q h => Or.inl h)
  have hcr := hcr.kj hq nc_RE
  refine lv_aload_n hx hb d_Polys_findShare_5 rfl (lv_at hl 0 rfl) ?_
  refine q_get (C := "KateDesk$Polynomials") (T := T_Polys) (N := 9) (ci := 7) E ((hk.po hK hpo).1) in_Polys rfl 0 (by decide) w_303 rfl rfl d_Polys_findShare_6 ?_
  refine lv_aload_n hx hb d_Polys_findShare_9 rfl (lv_at hl 0 rfl) ?_
  refine q_get (C := "KateDesk$Polynomials") (T := T_Polys) (N := 9) (ci := 7) E ((hk.po hK hpo).1) in_Polys rfl 6 (by decide) w_309 rfl rfl d_Polys_findShare_10 ?_
  refine lv_aload_n hx hb d_Polys_findShare_13 rfl (lv_at hl 0 rfl) ?_
  refine q_get (C := "KateDesk$Polynomials") (T := T_Polys) (N := 9) (ci := 7) E ((hk.po hK hpo).1) in_Polys rfl 3 (by decide) w_306 rfl rfl d_Polys_findShare_14 ?_
  refine q_cV (rest := []) E (R_Field_negate l g n0 (b + 162) (kY b 5) (kY b 2) (kFr b) mr f2 (eU k : Int) hv2 (eU_r k) (show b + 168 ≠ b + 476 by omega) (show b + 168 ≠ b + 167 by omega) (show b + 473 ≠ b + 167 by omega)) w_609 w_4 w_606 w_607 w_608 hd_Field_negate rfl ⟨by decide, by decide⟩ (OB.recv E.2.2.2.2.2 (by rfl) ((hk.po hK hpo).2.1.1)) (⟨(hk.po hK hpo).2.1, ((hk.po hK hpo).2.2.1 5 (by decide)), hf2, hcr.1⟩) hF hl.1 rfl (Nat.le_of_ble_eq_true rfl) d_Polys_findShare_17 ⟨by decide, by decide⟩ (qv (fun H2 locs hq hF => ?_))
  obtain ⟨hq, f3, hf3, hv3⟩ := hq
  have hcr := hcr.kj hq nc_5
  have hk := hk.tr (hq.mono (fun q h => h.elim Or.inr (fun h => Or.inl (Or.inr (Or.inl h)))))
  refine lv_aload_n hx hb d_Polys_findShare_20 rfl (lv_at hl 0 rfl) ?_
  refine q_get (C := "KateDesk$Polynomials") (T := T_Polys) (N := 9) (ci := 7) E ((hk.po hK hpo).1) in_Polys rfl 0 (by decide) w_303 rfl rfl d_Polys_findShare_21 ?_
  refine lv_aload_n hx hb d_Polys_findShare_24 rfl (lv_at hl 0 rfl) ?_
  refine q_get (C := "KateDesk$Polynomials") (T := T_Polys) (N := 9) (ci := 7) E ((hk.po hK hpo).1) in_Polys rfl 6 (by decide) w_309 rfl rfl d_Polys_findShare_25 ?_
  refine lv_aload_n hx hb d_Polys_findShare_28 rfl (lv_at hl 0 rfl) ?_
  refine q_get (C := "KateDesk$Polynomials") (T := T_Polys) (N := 9) (ci := 7) E ((hk.po hK hpo).1) in_Polys rfl 6 (by decide) w_309 rfl rfl d_Polys_findShare_29 ?_
  refine q_cV (rest := []) E (R_Field_lift l g n0 (b + 162) (kY b 5) (kY b 5) (kFr b) mr f3 _ hv3 (neg_r k) (show b + 168 ≠ b + 476 by omega) hmr) w_302 w_4 w_299 w_300 w_301 hd_Field_lift rfl ⟨by decide, by decide⟩ (OB.recv E.2.2.2.2.2 (by rfl) ((hk.po hK hpo).2.1.1)) (⟨(hk.po hK hpo).2.1, ((hk.po hK hpo).2.2.1 5 (by decide)), hf3, hcr.1, hcr.2.2.2.1⟩) hF hl.1 rfl (Nat.le_of_ble_eq_true rfl) d_Polys_findShare_32 ⟨by decide, by decide⟩ (qv (fun H3 locs hq hF => ?_))
  obtain ⟨hq, f4, hf4, hv4⟩ := hq
  rw [neg_m] at hv4
  exact q_vret E hr hlk (⟨rfl, hk.tr (hq.mono (fun q h => Or.inr h)), f4, hf4, hv4⟩) hF d_Polys_findShare_35
