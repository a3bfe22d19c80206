theorem SCA.ext {g : WG} {H : Heap} {b : Nat} {A A' : Nat → Int} (h : SCA g H b A) (e : ∀ k, k < 32 → A k = A' k) : SCA g H b A' := fun k hk => by rw [← e k hk]; exact h k hk
def evA (A : Nat → Int) (a k9 i q : Nat) : Int := if a ≤ q ∧ q < a + i then hvS A a ((7 ^ eU k9) ^ (q - a)) (2 ^ k9) 0 else A q
def ivA (A : Nat → Int) (a k9 i q : Nat) : Int := if a ≤ q ∧ q < a + i then (hvS A a ((7 ^ eU k9) ^ ((2 ^ k9 - (q - a)) % 2 ^ k9)) (2 ^ k9) 0 * (0 - (eU k9 : Int))) % RI else A q
theorem ev_nx {A : Nat → Int} {a k9 i : Nat} (k : Nat) : updI (evA A a k9 i) (a + i) (hvS A a ((7 ^ eU k9) ^ i) (2 ^ k9) 0) k = evA A a k9 (i + 1) k := by
  unfold updI evA
  by_cases e : k = a + i
  · subst e
    rw [if_pos rfl, if_pos (by omega), Nat.add_sub_cancel_left]
  · rw [if_neg e]
    by_cases c : a ≤ k ∧ k < a + i
    · rw [if_pos c, if_pos (by omega)]
    · rw [if_neg c, if_neg (by omega)]
theorem iv_nx {A : Nat → Int} {a k9 i : Nat} (k : Nat) : updI (ivA A a k9 i) (a + i) ((hvS A a ((7 ^ eU k9) ^ ((2 ^ k9 - i) % 2 ^ k9)) (2 ^ k9) 0 * (0 - (eU k9 : Int))) % RI) k = ivA A a k9 (i + 1) k := by
  unfold updI ivA
  by_cases e : k = a + i
  · subst e
    rw [if_pos rfl, if_pos (by omega), Nat.add_sub_cancel_left]
  · rw [if_neg e]
    by_cases c : a ≤ k ∧ k < a + i
    · rw [if_pos c, if_pos (by omega)]
    · rw [if_neg c, if_neg (by omega)]
theorem iv_ix : ∀ k, k < 5 → ∀ i, i < 2 ^ k → (nI (2 ^ k) - nI i) &&& (nI (2 ^ k) - nI 1) = nI ((2 ^ k - i) % 2 ^ k) := by decide +kernel
def kWS (b q : Nat) : Prop := kW b q ∨ (b + 2 ≤ q ∧ q ≤ b + 33)
theorem kWS_C {b : Nat} : ∀ q, kWS b q → ¬ kC b q := by
  intro q h
  unfold kWS kW at h
  unfold kC
  omega
theorem sc_WS {b k : Nat} (hk : k < 32) : ∀ q, q = kSc b k → kWS b q := by
  intro q h
  subst h
  exact Or.inr (by unfold kSc; omega)
theorem v_ne {b j k : Nat} (hk : k < 32) : kV b j ≠ kSc b k := by unfold kV kSc; omega
set_option maxHeartbeats 4000000 in
set_option maxRecDepth 100000 in
theorem R_Polys_evaluate (l : Launch) (g : WG) (n0 : Nat → Prop) (b : Nat) (mr : Int64) (hmr : mr = 268435455) (a k9 : Nat) (A : Nat → Int) (hk5 : k9 < 5) (han : a + 2 ^ k9 ≤ 32) : Ctr l y_Polys_evaluate (.code y_Polys_evaluate prog_7_method_6_code 5 none) 6 208 0 0 n0 g [.ref (b + 470), .ref (b + 1), .int (nI a), .int (nI k9)] (fun H => PO g n0 H (b + 470) (b + 162) (b + 478) (kFr b) mr (kY b) (kV b) ∧ CR g H b ∧ RS g n0 H (b + 1) 32 (kSc b) ∧ SCA g H b A) (QV (fun H H' => KJ g (kWS b) H H' ∧ SCA g H' b (evA A a k9 (2 ^ k9)))) := by
  refine ctr_mk l (lv0 := [(0, .ref (b + 470)), (1, .ref (b + 1)), (2, .int (nI a)), (3, .int (nI k9))]) (by decide) (Nat.le_of_ble_eq_true rfl) rfl ?_
  intro p e s m below meth c ls E hr hlk hnm hl hP
  have hx := E.1
  have hb := E.2.1
  have hK := E.2.2.2.2.2
  have hF : ∀ q ∈ ([] : List Loc), n0 q.base := fun q hq => absurd hq List.not_mem_nil
  obtain ⟨hpo, hcr, hrs, hsc⟩ := hP
  obtain ⟨hp1, hp16⟩ := pw16 hk5
  have loop : ∀ (k : Nat) (i : Nat) (H : Heap) (locs : List Loc) (ls : Array Slot), i + k = 2 ^ k9 → KJ g (kWS b) s.heap H → SCA g H b (evA A a k9 i) → (∀ j, j < 2 ^ k9 → ∃ f, AJ g H (kV b j) 14 f ∧ RV f (hvS A a ((7 ^ eU k9) ^ j) (2 ^ k9) 0) ∧ hvS A a ((7 ^ eU k9) ^ j) (2 ^ k9) 0 < RI) → (∀ q ∈ locs, n0 q.base) → lv_has ls 5 [(4, .int (nI i)), (0, .ref (b + 470)), (1, .ref (b + 1)), (2, .int (nI a)), (3, .int (nI k9))] → W p l e { frames := 6, cells := 0, slots := 0, locals := 208 } s m [.ref (b + 470), .ref (b + 1), .int (nI a), .int (nI k9)].toArray below meth c H locs 0 0 (MQ below (QcP (QV (fun H H' => KJ g (kWS b) H H' ∧ SCA g H' b (evA A a k9 (2 ^ k9))))) [.ref (b + 470), .ref (b + 1), .int (nI a), .int (nI k9)].toArray s 0 0 (fun q => n0 q)) (F0 m 10 ls []) := by
    intro k
    induction k with
    | zero =>
      intro  i   H   locs   ls hi hk hsa hvs hF hl
      obtain rfl : 2 ^ k9 = i := by omega
      refine lv_iload hx hb d_Polys_evaluate_10 (lv_at hl 0 rfl) ?_
      refine lv_iconst (v := nI 1) hx hb d_Polys_evaluate_12 (by decide) ?_
      refine lv_iload_n hx hb d_Polys_evaluate_13 rfl (lv_at hl 4 rfl) ?_
      refine lv_ishl hx hb d_Polys_evaluate_14 ?_
      refine lv_topi (fun t9 e9 => ?_)
      obtain rfl : t9 = nI (2 ^ k9) := e9.trans (sh1 k9 hk5)
      refine lv_icmp_ge (tgt := 40) hx hb d_Polys_evaluate_15 (by decide) (fun _ => ?_) (fun h9 => absurd (nI_le (Nat.le_refl _) (by omega)) h9)
      exact q_vret E hr hlk (⟨rfl, hk, hsa⟩) hF d_Polys_evaluate_40
    | succ k ih =>
      intro  i   H   locs   ls hi hk hsa hvs hF hl
      refine lv_iload hx hb d_Polys_evaluate_10 (lv_at hl 0 rfl) ?_
      refine lv_iconst (v := nI 1) hx hb d_Polys_evaluate_12 (by decide) ?_
      refine lv_iload_n hx hb d_Polys_evaluate_13 rfl (lv_at hl 4 rfl) ?_
      refine lv_ishl hx hb d_Polys_evaluate_14 ?_
      refine lv_topi (fun t9 e9 => ?_)
      obtain rfl : t9 = nI (2 ^ k9) := e9.trans (sh1 k9 hk5)
      refine lv_icmp_ge (tgt := 40) hx hb d_Polys_evaluate_15 (by decide) (fun h9 => absurd h9 (nI_ge (by omega) (by omega))) (fun _ => ?_)
      refine lv_aload_n hx hb d_Polys_evaluate_18 rfl (lv_at hl 2 rfl) ?_
      refine lv_iload_n hx hb d_Polys_evaluate_19 rfl (lv_at hl 3 rfl) ?_
      refine lv_iload hx hb d_Polys_evaluate_20 (lv_at hl 0 rfl) ?_
      refine lv_iadd hx hb d_Polys_evaluate_22 ?_
      refine q_aald (t := 4) E rfl rfl ((hk.rs hK hrs).1) (a + i) (nI_add _ _) (by omega) (by decide) d_Polys_evaluate_23 ?_
      refine lv_aload_n hx hb d_Polys_evaluate_24 rfl (lv_at hl 1 rfl) ?_
      refine q_get (C := "KateDesk$Polynomials") (T := T_Polys) (N := 9) (ci := 7) E ((hk.po hK hpo).1) in_Polys rfl 8 (by decide) w_311 rfl rfl d_Polys_evaluate_25 ?_
      refine lv_iload hx hb d_Polys_evaluate_28 (lv_at hl 0 rfl) ?_
      refine q_aald (t := 4) E rfl rfl ((hk.po hK hpo).2.2.2.1) i rfl (by omega) (by decide) d_Polys_evaluate_30 ?_
      obtain ⟨fv, hfv, hvv, hv9⟩ := hvs i (by omega)
      refine q_cS (rest := []) E (c_Limbs_copy l g n0 (kSc b (a + i)) (kV b i) fv) w_146 w_5 w_856 w_145 hd_Limbs_copy rfl ⟨by decide, by decide⟩ (⟨(hk.rs hK hrs).2 (a + i) (by omega), hfv⟩) hF hl.1 rfl (Nat.le_of_ble_eq_true rfl) d_Polys_evaluate_31 ⟨by decide, by decide⟩ (qv (fun H1 locs hq hF => ?_))
      obtain ⟨hq, hg⟩ := hq
      have hsa := (hsa.set hq hg hvv hv9).ext (fun k _ => ev_nx k)
      have hvs : (∀ j, j < 2 ^ k9 → ∃ f, AJ g H1 (kV b j) 14 f ∧ RV f (hvS A a ((7 ^ eU k9) ^ j) (2 ^ k9) 0) ∧ hvS A a ((7 ^ eU k9) ^ j) (2 ^ k9) 0 < RI) := fun j hj => (hvs j hj).imp (fun f hf => ⟨hq.ajo (v_ne (by omega)) hf.1, hf.2⟩)
      have hk := hk.tr (hq.mono (sc_WS (by omega)))
      refine lv_iinc (k := 0) (v := nI (i + 1)) (lv' := [(4, .int (nI (i + 1))), (0, .ref (b + 470)), (1, .ref (b + 1)), (2, .int (nI a)), (3, .int (nI k9))]) hx hb d_Polys_evaluate_34 hl rfl (i_inc i) (by decide) rfl (fun ls hl => ?_)
      refine lv_goto (tgt := 10) hx hb d_Polys_evaluate_37 (by decide) ?_
      have hl : lv_has ls 5 [(4, .int (nI (i + 1))), (0, .ref (b + 470)), (1, .ref (b + 1)), (2, .int (nI a)), (3, .int (nI k9))] := lv_sub hl [0, 1, 2, 3, 4] rfl
      exact ih (i + 1) _ _ ls (by omega) hk hsa hvs hF hl
  refine lv_aload_n hx hb d_Polys_evaluate_0 rfl (lv_at hl 0 rfl) ?_
  refine lv_aload_n hx hb d_Polys_evaluate_1 rfl (lv_at hl 1 rfl) ?_
  refine lv_iload_n hx hb d_Polys_evaluate_2 rfl (lv_at hl 2 rfl) ?_
  refine lv_iload_n hx hb d_Polys_evaluate_3 rfl (lv_at hl 3 rfl) ?_
  refine q_cV (rest := []) E (R_Polys_findValues l g n0 b mr hmr a k9 A hk5 han) w_878 w_14 w_875 w_877 (bw_s 13 rfl) hd_Polys_findValues rfl ⟨by decide, by decide⟩ (OB.recv E.2.2.2.2.2 (by rfl) hpo.1) (⟨hpo, hcr, hrs, hsc⟩) hF hl.1 rfl (Nat.le_of_ble_eq_true rfl) d_Polys_evaluate_4 ⟨by decide, by decide⟩ (qv (fun H1 locs hq hF => ?_))
  obtain ⟨hq, hvs⟩ := hq
  have hsa : SCA g _ b (evA A a k9 0) := (hsc.kj hq kW_S).ext (fun k _ => by unfold evA; rw [if_neg (by omega)])
  refine lv_iconst (v := nI 0) hx hb d_Polys_evaluate_7 (by decide) ?_
  refine lv_istore (lv' := [(4, .int (nI 0)), (0, .ref (b + 470)), (1, .ref (b + 1)), (2, .int (nI a)), (3, .int (nI k9))]) hx hb d_Polys_evaluate_8 hl (by decide) rfl (fun ls hl => ?_)
  have hl : lv_has ls 5 [(4, .int (nI 0)), (0, .ref (b + 470)), (1, .ref (b + 1)), (2, .int (nI a)), (3, .int (nI k9))] := lv_sub hl [0, 1, 2, 3, 4] rfl
  exact loop (2 ^ k9) 0 _ _ ls (by omega) (hq.mono (fun q h => Or.inl h)) hsa hvs hF hl
set_option maxHeartbeats 4000000 in
set_option maxRecDepth 100000 in
theorem R_Polys_interpolate (l : Launch) (g : WG) (n0 : Nat → Prop) (b : Nat) (mr : Int64) (hmr : mr = 268435455) (a k9 : Nat) (A : Nat → Int) (hk5 : k9 < 5) (han : a + 2 ^ k9 ≤ 32) : Ctr l y_Polys_interpolate (.code y_Polys_interpolate prog_7_method_7_code 6 none) 6 208 0 0 n0 g [.ref (b + 470), .ref (b + 1), .int (nI a), .int (nI k9)] (fun H => PO g n0 H (b + 470) (b + 162) (b + 478) (kFr b) mr (kY b) (kV b) ∧ CR g H b ∧ RS g n0 H (b + 1) 32 (kSc b) ∧ SCA g H b A) (QV (fun H H' => KJ g (kWS b) H H' ∧ SCA g H' b (ivA A a k9 (2 ^ k9)))) := by
  refine ctr_mk l (lv0 := [(0, .ref (b + 470)), (1, .ref (b + 1)), (2, .int (nI a)), (3, .int (nI k9))]) (by decide) (Nat.le_of_ble_eq_true rfl) rfl ?_
  intro p e s m below meth c ls E hr hlk hnm hl hP
  have hx := E.1
  have hb := E.2.1
  have hK := E.2.2.2.2.2
  have hF : ∀ q ∈ ([] : List Loc), n0 q.base := fun q hq => absurd hq List.not_mem_nil
  obtain ⟨hpo, hcr, hrs, hsc⟩ := hP
  obtain ⟨hp1, hp16⟩ := pw16 hk5
  have loop : ∀ (k : Nat) (i : Nat) (H : Heap) (locs : List Loc) (ls : Array Slot), i + k = 2 ^ k9 → KJ g (kWS b) s.heap H → SCA g H b (ivA A a k9 i) → (∀ j, j < 2 ^ k9 → ∃ f, AJ g H (kV b j) 14 f ∧ RV f (hvS A a ((7 ^ eU k9) ^ j) (2 ^ k9) 0) ∧ hvS A a ((7 ^ eU k9) ^ j) (2 ^ k9) 0 < RI) → (∃ f, AJ g H (kY b 5) 14 f ∧ RV f (((0 - (eU k9 : Int)) * WR) % RI)) → (∀ q ∈ locs, n0 q.base) → lv_has ls 6 [(5, .int (nI i)), (0, .ref (b + 470)), (1, .ref (b + 1)), (2, .int (nI a)), (4, .int (nI (2 ^ k9)))] → W p l e { frames := 6, cells := 0, slots := 0, locals := 208 } s m [.ref (b + 470), .ref (b + 1), .int (nI a), .int (nI k9)].toArray below meth c H locs 0 0 (MQ below (QcP (QV (fun H H' => KJ g (kWS b) H H' ∧ SCA g H' b (ivA A a k9 (2 ^ k9))))) [.ref (b + 470), .ref (b + 1), .int (nI a), .int (nI k9)].toArray s 0 0 (fun q => n0 q)) (F0 m 20 ls []) := by
    intro k
    induction k with
    | zero =>
      intro  i   H   locs   ls hi hk hsa hvs hsh hF hl
      obtain rfl : 2 ^ k9 = i := by omega
      refine lv_iload hx hb d_Polys_interpolate_20 (lv_at hl 0 rfl) ?_
      refine lv_iload hx hb d_Polys_interpolate_22 (lv_at hl 4 rfl) ?_
      refine lv_icmp_ge (tgt := 65) hx hb d_Polys_interpolate_24 (by decide) (fun _ => ?_) (fun h9 => absurd (nI_le (Nat.le_refl _) (by omega)) h9)
      exact q_vret E hr hlk (⟨rfl, hk, hsa⟩) hF d_Polys_interpolate_65
    | succ k ih =>
      intro  i   H   locs   ls hi hk hsa hvs hsh hF hl
      refine lv_iload hx hb d_Polys_interpolate_20 (lv_at hl 0 rfl) ?_
      refine lv_iload hx hb d_Polys_interpolate_22 (lv_at hl 4 rfl) ?_
      refine lv_icmp_ge (tgt := 65) hx hb d_Polys_interpolate_24 (by decide) (fun h9 => absurd h9 (nI_ge (by omega) (by omega))) (fun _ => ?_)
      refine lv_aload_n hx hb d_Polys_interpolate_27 rfl (lv_at hl 1 rfl) ?_
      refine q_get (C := "KateDesk$Polynomials") (T := T_Polys) (N := 9) (ci := 7) E ((hk.po hK hpo).1) in_Polys rfl 0 (by decide) w_303 rfl rfl d_Polys_interpolate_28 ?_
      refine lv_aload_n hx hb d_Polys_interpolate_31 rfl (lv_at hl 2 rfl) ?_
      refine lv_iload_n hx hb d_Polys_interpolate_32 rfl (lv_at hl 3 rfl) ?_
      refine lv_iload hx hb d_Polys_interpolate_33 (lv_at hl 0 rfl) ?_
      refine lv_iadd hx hb d_Polys_interpolate_35 ?_
      refine q_aald (t := 4) E rfl rfl ((hk.rs hK hrs).1) (a + i) (nI_add _ _) (by omega) (by decide) d_Polys_interpolate_36 ?_
      refine lv_aload_n hx hb d_Polys_interpolate_37 rfl (lv_at hl 1 rfl) ?_
      refine q_get (C := "KateDesk$Polynomials") (T := T_Polys) (N := 9) (ci := 7) E ((hk.po hK hpo).1) in_Polys rfl 8 (by decide) w_311 rfl rfl d_Polys_interpolate_38 ?_
      refine lv_iload hx hb d_Polys_interpolate_41 (lv_at hl 4 rfl) ?_
      refine lv_iload hx hb d_Polys_interpolate_43 (lv_at hl 0 rfl) ?_
      refine lv_isub hx hb d_Polys_interpolate_45 ?_
      refine lv_iload hx hb d_Polys_interpolate_46 (lv_at hl 4 rfl) ?_
      refine lv_iconst (v := nI 1) hx hb d_Polys_interpolate_48 (by decide) ?_
      refine lv_isub hx hb d_Polys_interpolate_49 ?_
      refine lv_iand hx hb d_Polys_interpolate_50 ?_
      have hm9 : (2 ^ k9 - i) % 2 ^ k9 < 2 ^ k9 := Nat.mod_lt _ (by omega)
      refine lv_topi (fun t9 e9 => ?_)
      obtain rfl : t9 = nI ((2 ^ k9 - i) % 2 ^ k9) := e9.trans (iv_ix k9 hk5 i (by omega))
      refine q_aald (t := 4) E rfl rfl ((hk.po hK hpo).2.2.2.1) ((2 ^ k9 - i) % 2 ^ k9) rfl (by omega) (by decide) d_Polys_interpolate_51 ?_
      refine lv_aload_n hx hb d_Polys_interpolate_52 rfl (lv_at hl 1 rfl) ?_
      refine q_get (C := "KateDesk$Polynomials") (T := T_Polys) (N := 9) (ci := 7) E ((hk.po hK hpo).1) in_Polys rfl 6 (by decide) w_309 rfl rfl d_Polys_interpolate_53 ?_
      obtain ⟨fv, hfv, hvv, hv9⟩ := hvs _ hm9
      obtain ⟨fs, hfs, hvsh⟩ := id hsh
      refine q_cV (rest := []) E (R_Field_multiply l g n0 (b + 162) (kSc b (a + i)) (kV b ((2 ^ k9 - i) % 2 ^ k9)) (kY b 5) (kFr b) mr fv fs (hvS A a ((7 ^ eU k9) ^ ((2 ^ k9 - i) % 2 ^ k9)) (2 ^ k9) 0) (((0 - (eU k9 : Int)) * WR) % RI) hvv hvsh hv9 ((rm_r _).2) (show b + 168 ≠ kSc b (a + i) by unfold kSc; omega) hmr) w_165 w_4 w_854 w_163 w_164 hd_Field_multiply rfl ⟨by decide, by decide⟩ (OB.recv E.2.2.2.2.2 (by rfl) ((hk.po hK hpo).2.1.1)) (⟨(hk.po hK hpo).2.1, (hk.rs hK hrs).2 (a + i) (by omega), hfv, hfs, (hcr.kj hk kWS_C).1⟩) hF hl.1 rfl (Nat.le_of_ble_eq_true rfl) d_Polys_interpolate_56 ⟨by decide, by decide⟩ (qv (fun H1 locs hq hF => ?_))
      obtain ⟨hq, g1, hg1, hw1⟩ := hq
      rw [lz_mul] at hw1
      have hsa := (hsa.set hq hg1 hw1 (rm_r _).2).ext (fun k _ => iv_nx k)
      have hvs : (∀ j, j < 2 ^ k9 → ∃ f, AJ g H1 (kV b j) 14 f ∧ RV f (hvS A a ((7 ^ eU k9) ^ j) (2 ^ k9) 0) ∧ hvS A a ((7 ^ eU k9) ^ j) (2 ^ k9) 0 < RI) := fun j hj => (hvs j hj).imp (fun f hf => ⟨hq.ajo (v_ne (by omega)) hf.1, hf.2⟩)
      have hsh : ∃ f, AJ g H1 (kY b 5) 14 f ∧ RV f (((0 - (eU k9 : Int)) * WR) % RI) := hsh.imp (fun f hf => ⟨hq.ajo (show ¬ b + 476 = kSc b (a + i) by unfold kSc; omega) hf.1, hf.2⟩)
      have hk := hk.tr (hq.mono (sc_WS (by omega)))
      refine lv_iinc (k := 0) (v := nI (i + 1)) (lv' := [(5, .int (nI (i + 1))), (0, .ref (b + 470)), (1, .ref (b + 1)), (2, .int (nI a)), (4, .int (nI (2 ^ k9)))]) hx hb d_Polys_interpolate_59 hl rfl (i_inc i) (by decide) rfl (fun ls hl => ?_)
      refine lv_goto (tgt := 20) hx hb d_Polys_interpolate_62 (by decide) ?_
      have hl : lv_has ls 6 [(5, .int (nI (i + 1))), (0, .ref (b + 470)), (1, .ref (b + 1)), (2, .int (nI a)), (4, .int (nI (2 ^ k9)))] := lv_sub hl [0, 1, 2, 3, 4] rfl
      exact ih (i + 1) _ _ ls (by omega) hk hsa hvs hsh hF hl
  refine lv_iconst (v := nI 1) hx hb d_Polys_interpolate_0 (by decide) ?_
  refine lv_iload_n hx hb d_Polys_interpolate_1 rfl (lv_at hl 3 rfl) ?_
  refine lv_ishl hx hb d_Polys_interpolate_2 ?_
  refine lv_topi (fun t9 e9 => ?_)
  obtain rfl : t9 = nI (2 ^ k9) := e9.trans (sh1 k9 hk5)
  refine lv_istore (lv' := [(4, .int (nI (2 ^ k9))), (0, .ref (b + 470)), (1, .ref (b + 1)), (2, .int (nI a)), (3, .int (nI k9))]) hx hb d_Polys_interpolate_3 hl (by decide) rfl (fun ls hl => ?_)
  refine lv_aload_n hx hb d_Polys_interpolate_5 rfl (lv_at hl 1 rfl) ?_
  refine lv_aload_n hx hb d_Polys_interpolate_6 rfl (lv_at hl 2 rfl) ?_
  refine lv_iload_n hx hb d_Polys_interpolate_7 rfl (lv_at hl 3 rfl) ?_
  refine lv_iload_n hx hb d_Polys_interpolate_8 rfl (lv_at hl 4 rfl) ?_
  refine q_cV (rest := []) E (R_Polys_findValues l g n0 b mr hmr a k9 A hk5 han) w_878 w_14 w_875 w_877 (bw_s 13 rfl) hd_Polys_findValues rfl ⟨by decide, by decide⟩ (OB.recv E.2.2.2.2.2 (by rfl) hpo.1) (⟨hpo, hcr, hrs, hsc⟩) hF hl.1 rfl (Nat.le_of_ble_eq_true rfl) d_Polys_interpolate_9 ⟨by decide, by decide⟩ (qv (fun H1 locs hq hF => ?_))
  obtain ⟨hk, hvs⟩ := hq
  refine lv_aload_n hx hb d_Polys_interpolate_12 rfl (lv_at hl 1 rfl) ?_
  refine lv_iload_n hx hb d_Polys_interpolate_13 rfl (lv_at hl 4 rfl) ?_
  refine q_cV (rest := []) E (R_Polys_findShare l g n0 b mr hmr k9 (by omega)) w_883 w_14 w_880 w_882 (bw_s 14 rfl) hd_Polys_findShare rfl ⟨by decide, by decide⟩ (OB.recv E.2.2.2.2.2 (by rfl) ((hk.po hK hpo).1)) (⟨hk.po hK hpo, hcr.kj hk kW_C⟩) hF hl.1 rfl (Nat.le_of_ble_eq_true rfl) d_Polys_interpolate_14 ⟨by decide, by decide⟩ (qv (fun H2 locs hq hF => ?_))
  obtain ⟨hq, f5, hf5, hv5⟩ := hq
  have hqW : ∀ q, (q = kY b 6 ∨ q = kFr b 5 ∨ q = kY b 2) ∨ q = kY b 5 → kW b q := re_W (show kW b (b + 476) from Or.inr (Or.inl (by omega)))
  have hvs : (∀ j, j < 2 ^ k9 → ∃ f, AJ g H2 (kV b j) 14 f ∧ RV f (hvS A a ((7 ^ eU k9) ^ j) (2 ^ k9) 0) ∧ hvS A a ((7 ^ eU k9) ^ j) (2 ^ k9) 0 < RI) := fun j hj => (hvs j hj).imp (fun f hf => ⟨hq.ajo (fun h => by have h : (kV b j = b + 477 ∨ kV b j = b + 167 ∨ kV b j = b + 473) ∨ kV b j = b + 476 := h; unfold kV at h; omega) hf.1, hf.2⟩)
  have hk := hk.tr (hq.mono hqW)
  have hsa : SCA g _ b (ivA A a k9 0) := (hsc.kj hk kW_S).ext (fun k _ => by unfold ivA; rw [if_neg (by omega)])
  refine lv_iconst (v := nI 0) hx hb d_Polys_interpolate_17 (by decide) ?_
  refine lv_istore (lv' := [(5, .int (nI 0)), (4, .int (nI (2 ^ k9))), (0, .ref (b + 470)), (1, .ref (b + 1)), (2, .int (nI a)), (3, .int (nI k9))]) hx hb d_Polys_interpolate_18 hl (by decide) rfl (fun ls hl => ?_)
  have hl : lv_has ls 6 [(5, .int (nI 0)), (0, .ref (b + 470)), (1, .ref (b + 1)), (2, .int (nI a)), (4, .int (nI (2 ^ k9)))] := lv_sub hl [0, 2, 3, 4, 1] rfl
  exact loop (2 ^ k9) 0 _ _ ls (by omega) (hk.mono (fun q h => Or.inl h)) hsa hvs ⟨_, hf5, hv5⟩ hF hl
set_option maxHeartbeats 4000000 in
set_option maxRecDepth 100000 in
theorem R_Polys_basis (l : Launch) (g : WG) (n0 : Nat → Prop) (b : Nat) (mr : Int64) (hmr : mr = 268435455) (a k9 i9 : Nat) (Z : Int) (fz : Nat → Int64) (hk5 : k9 < 5) (hi9 : i9 < 2 ^ k9) (ha : a < 32) (hvz : RV fz ((Z * WR) % RI)) : Ctr l y_Polys_basis (.code y_Polys_basis prog_7_method_9_code 7 none) 5 182 0 0 n0 g [.ref (b + 470), .ref (kSc b a), .int (nI k9), .int (nI i9), .ref (b + 161)] (fun H => PO g n0 H (b + 470) (b + 162) (b + 478) (kFr b) mr (kY b) (kV b) ∧ CR g H b ∧ J14 g n0 H (kSc b a) ∧ AJ g H (b + 161) 14 fz) (QV (fun H H' => KJ g (fun q => kW b q ∨ q = kSc b a) H H' ∧ ∃ f, AJ g H' (kSc b a) 14 f ∧ RV f ((geS (Z * (7 ^ eU k9) ^ (2 ^ k9 - i9)) (2 ^ k9) 0 * (0 - (eU k9 : Int))) % RI))) := by
  refine ctr_mk l (lv0 := [(0, .ref (b + 470)), (1, .ref (kSc b a)), (2, .int (nI k9)), (3, .int (nI i9)), (4, .ref (b + 161))]) (by decide) (Nat.le_of_ble_eq_true rfl) rfl ?_
  intro p e s m below meth c ls E hr hlk hnm hl hP
  have hx := E.1
  have hb := E.2.1
  have hK := E.2.2.2.2.2
  have hF : ∀ q ∈ ([] : List Loc), n0 q.base := fun q hq => absurd hq List.not_mem_nil
  obtain ⟨hpo, hcr, hjt, hfz⟩ := hP
  obtain ⟨hp1, hp16⟩ := pw16 hk5
  have nC : ∀ q, kW b q ∨ q = kSc b a → ¬ kC b q := fun q h => h.elim (kW_C q) (fun h => by subst h; unfold kC kSc; omega)
  have loop2 : ∀ (k : Nat) (i : Nat) (H : Heap) (locs : List Loc) (ls : Array Slot) (v1 : Int) (fv : Nat → Int64), i + k = 2 ^ k9 → KJ g (fun q => kW b q ∨ q = kSc b a) s.heap H → AJ g H (kSc b a) 14 fv → RV fv v1 → v1 < RI → geS (Z * (7 ^ eU k9) ^ (2 ^ k9 - i9)) (2 ^ k9 - i) v1 = geS (Z * (7 ^ eU k9) ^ (2 ^ k9 - i9)) (2 ^ k9) 0 → (∃ f, AJ g H (kY b 5) 14 f ∧ RV f (((0 - (eU k9 : Int)) * WR) % RI)) → (∃ f, AJ g H (kY b 4) 14 f ∧ RV f (((Z * (7 ^ eU k9) ^ (2 ^ k9 - i9)) * WR) % RI)) → (∀ q ∈ locs, n0 q.base) → lv_has ls 7 [(6, .int (nI i)), (0, .ref (b + 470)), (1, .ref (kSc b a)), (5, .int (nI (2 ^ k9)))] → W p l e { frames := 5, cells := 0, slots := 0, locals := 182 } s m [.ref (b + 470), .ref (kSc b a), .int (nI k9), .int (nI i9), .ref (b + 161)].toArray below meth c H locs 0 0 (MQ below (QcP (QV (fun H H' => KJ g (fun q => kW b q ∨ q = kSc b a) H H' ∧ ∃ f, AJ g H' (kSc b a) 14 f ∧ RV f ((geS (Z * (7 ^ eU k9) ^ (2 ^ k9 - i9)) (2 ^ k9) 0 * (0 - (eU k9 : Int))) % RI)))) [.ref (b + 470), .ref (kSc b a), .int (nI k9), .int (nI i9), .ref (b + 161)].toArray s 0 0 (fun q => n0 q)) (F0 m 70 ls []) := by
    intro k
    induction k with
    | zero =>
      intro  i   H   locs   ls   v1   fv hi hk hfv hvv hv1 hdv hsh hpl hF hl
      obtain rfl : 2 ^ k9 = i := by omega
      refine lv_iload hx hb d_Polys_basis_70 (lv_at hl 0 rfl) ?_
      refine lv_iload hx hb d_Polys_basis_72 (lv_at hl 3 rfl) ?_
      refine lv_icmp_ge (tgt := 109) hx hb d_Polys_basis_74 (by decide) (fun _ => ?_) (fun h9 => absurd (nI_le (Nat.le_refl _) (by omega)) h9)
      refine lv_aload_n hx hb d_Polys_basis_109 rfl (lv_at hl 1 rfl) ?_
      refine q_get (C := "KateDesk$Polynomials") (T := T_Polys) (N := 9) (ci := 7) E ((hk.po hK hpo).1) in_Polys rfl 0 (by decide) w_303 rfl rfl d_Polys_basis_110 ?_
      refine lv_aload_n hx hb d_Polys_basis_113 rfl (lv_at hl 2 rfl) ?_
      refine lv_aload_n hx hb d_Polys_basis_114 rfl (lv_at hl 2 rfl) ?_
      refine lv_aload_n hx hb d_Polys_basis_115 rfl (lv_at hl 1 rfl) ?_
      refine q_get (C := "KateDesk$Polynomials") (T := T_Polys) (N := 9) (ci := 7) E ((hk.po hK hpo).1) in_Polys rfl 6 (by decide) w_309 rfl rfl d_Polys_basis_116 ?_
      obtain ⟨fs, hfs, hvsh⟩ := id hsh
      have hdv : v1 = geS (Z * (7 ^ eU k9) ^ (2 ^ k9 - i9)) (2 ^ k9) 0 := by rw [← hdv, Nat.sub_self]; rfl
      refine q_cV (rest := []) E (R_Field_multiply l g n0 (b + 162) (kSc b a) (kSc b a) (kY b 5) (kFr b) mr fv fs v1 (((0 - (eU k9 : Int)) * WR) % RI) hvv hvsh hv1 ((rm_r _).2) (show b + 168 ≠ kSc b a by unfold kSc; omega) hmr) w_165 w_4 w_854 w_163 w_164 hd_Field_multiply rfl ⟨by decide, by decide⟩ (OB.recv E.2.2.2.2.2 (by rfl) ((hk.po hK hpo).2.1.1)) (⟨(hk.po hK hpo).2.1, hk.j hjt, hfv, hfs, (hcr.kj hk nC).1⟩) hF hl.1 rfl (Nat.le_of_ble_eq_true rfl) d_Polys_basis_119 ⟨by decide, by decide⟩ (qv (fun H1 locs hq hF => ?_))
      obtain ⟨hq, g1, hg1, hw1⟩ := hq
      rw [lz_mul, hdv] at hw1
      exact q_vret E hr hlk (⟨rfl, hk.tr (hq.mono (fun q h => Or.inr h)), _, hg1, hw1⟩) hF d_Polys_basis_122
    | succ k ih =>
      intro  i   H   locs   ls   v1   fv hi hk hfv hvv hv1 hdv hsh hpl hF hl
      refine lv_iload hx hb d_Polys_basis_70 (lv_at hl 0 rfl) ?_
      refine lv_iload hx hb d_Polys_basis_72 (lv_at hl 3 rfl) ?_
      refine lv_icmp_ge (tgt := 109) hx hb d_Polys_basis_74 (by decide) (fun h9 => absurd h9 (nI_ge (by omega) (by omega))) (fun _ => ?_)
      refine lv_aload_n hx hb d_Polys_basis_77 rfl (lv_at hl 1 rfl) ?_
      refine q_get (C := "KateDesk$Polynomials") (T := T_Polys) (N := 9) (ci := 7) E ((hk.po hK hpo).1) in_Polys rfl 0 (by decide) w_303 rfl rfl d_Polys_basis_78 ?_
      refine lv_aload_n hx hb d_Polys_basis_81 rfl (lv_at hl 2 rfl) ?_
      refine lv_aload_n hx hb d_Polys_basis_82 rfl (lv_at hl 2 rfl) ?_
      refine lv_aload_n hx hb d_Polys_basis_83 rfl (lv_at hl 1 rfl) ?_
      refine q_get (C := "KateDesk$Polynomials") (T := T_Polys) (N := 9) (ci := 7) E ((hk.po hK hpo).1) in_Polys rfl 5 (by decide) w_308 rfl rfl d_Polys_basis_84 ?_
      obtain ⟨fp, hfp, hvp⟩ := id hpl
      refine q_cV (rest := []) E (R_Field_multiply l g n0 (b + 162) (kSc b a) (kSc b a) (kY b 4) (kFr b) mr fv fp v1 (((Z * (7 ^ eU k9) ^ (2 ^ k9 - i9)) * WR) % RI) hvv hvp hv1 ((rm_r _).2) (show b + 168 ≠ kSc b a by unfold kSc; omega) hmr) w_165 w_4 w_854 w_163 w_164 hd_Field_multiply rfl ⟨by decide, by decide⟩ (OB.recv E.2.2.2.2.2 (by rfl) ((hk.po hK hpo).2.1.1)) (⟨(hk.po hK hpo).2.1, hk.j hjt, hfv, hfp, (hcr.kj hk nC).1⟩) hF hl.1 rfl (Nat.le_of_ble_eq_true rfl) d_Polys_basis_87 ⟨by decide, by decide⟩ (qv (fun H1 locs hq hF => ?_))
      obtain ⟨hq, g1, hg1, hw1⟩ := hq
      rw [lz_mul] at hw1
      have hsh : (∃ f, AJ g H1 (kY b 5) 14 f ∧ RV f (((0 - (eU k9 : Int)) * WR) % RI)) := hsh.imp (fun f hf => ⟨hq.ajo (show ¬ b + 476 = kSc b a by unfold kSc; omega) hf.1, hf.2⟩)
      have hpl : (∃ f, AJ g H1 (kY b 4) 14 f ∧ RV f (((Z * (7 ^ eU k9) ^ (2 ^ k9 - i9)) * WR) % RI)) := hpl.imp (fun f hf => ⟨hq.ajo (show ¬ b + 475 = kSc b a by unfold kSc; omega) hf.1, hf.2⟩)
      have hk : KJ g (fun q => kW b q ∨ q = kSc b a) s.heap _ := hk.tr (hq.mono (fun q h => Or.inr h))
      refine lv_aload_n hx hb d_Polys_basis_90 rfl (lv_at hl 1 rfl) ?_
      refine q_get (C := "KateDesk$Polynomials") (T := T_Polys) (N := 9) (ci := 7) E ((hk.po hK hpo).1) in_Polys rfl 0 (by decide) w_303 rfl rfl d_Polys_basis_91 ?_
      refine lv_aload_n hx hb d_Polys_basis_94 rfl (lv_at hl 2 rfl) ?_
      refine lv_aload_n hx hb d_Polys_basis_95 rfl (lv_at hl 2 rfl) ?_
      refine lv_aload_n hx hb d_Polys_basis_96 rfl (lv_at hl 1 rfl) ?_
      refine q_get (C := "KateDesk$Polynomials") (T := T_Polys) (N := 9) (ci := 7) E ((hk.po hK hpo).1) in_Polys rfl 2 (by decide) w_305 rfl rfl d_Polys_basis_97 ?_
      obtain ⟨f1, hf1, hv9⟩ := (hcr.kj hk nC).2.2.2.2.2.2
      refine q_cV (rest := []) E (V_Field_add l g n0 (b + 162) (kSc b a) (kSc b a) (kY b 1) (kFr b) mr g1 f1 kR ((v1 * (Z * (7 ^ eU k9) ^ (2 ^ k9 - i9))) % RI) 1 RI hw1 hv9 kR_rv ((rm_r _).2) (by decide) (show b + 168 ≠ kSc b a by unfold kSc; omega) RI_2) w_157 w_4 w_855 w_155 w_156 hd_Field_add rfl ⟨by decide, by decide⟩ (OB.recv E.2.2.2.2.2 (by rfl) ((hk.po hK hpo).2.1.1)) (⟨(hk.po hK hpo).2.1, hk.j hjt, hg1, hf1, (hcr.kj hk nC).1⟩) hF hl.1 rfl (Nat.le_of_ble_eq_true rfl) d_Polys_basis_100 ⟨by decide, by decide⟩ (qv (fun H2 locs hq hF => ?_))
      obtain ⟨hq, g2, hg2, hw2⟩ := hq
      rw [add_m (rm_r _) ⟨by decide, by decide⟩, add_e] at hw2
      have hsh : (∃ f, AJ g H2 (kY b 5) 14 f ∧ RV f (((0 - (eU k9 : Int)) * WR) % RI)) := hsh.imp (fun f hf => ⟨hq.ajo (show ¬ b + 476 = kSc b a by unfold kSc; omega) hf.1, hf.2⟩)
      have hpl : (∃ f, AJ g H2 (kY b 4) 14 f ∧ RV f (((Z * (7 ^ eU k9) ^ (2 ^ k9 - i9)) * WR) % RI)) := hpl.imp (fun f hf => ⟨hq.ajo (show ¬ b + 475 = kSc b a by unfold kSc; omega) hf.1, hf.2⟩)
      have hk : KJ g (fun q => kW b q ∨ q = kSc b a) s.heap _ := hk.tr (hq.mono (fun q h => Or.inr h))
      refine lv_iinc (k := 0) (v := nI (i + 1)) (lv' := [(6, .int (nI (i + 1))), (0, .ref (b + 470)), (1, .ref (kSc b a)), (5, .int (nI (2 ^ k9)))]) hx hb d_Polys_basis_103 hl rfl (i_inc i) (by decide) rfl (fun ls hl => ?_)
      refine lv_goto (tgt := 70) hx hb d_Polys_basis_106 (by decide) ?_
      have hl : lv_has ls 7 [(6, .int (nI (i + 1))), (0, .ref (b + 470)), (1, .ref (kSc b a)), (5, .int (nI (2 ^ k9)))] := lv_sub hl [0, 1, 2, 3] rfl
      exact ih (i + 1) _ _ ls _ _ (by omega) hk hg2 hw2 (rm_r _).2 (by rw [← hdv, show 2 ^ k9 - i = (2 ^ k9 - (i + 1)) + 1 by omega]; rfl) hsh hpl hF hl
  have loop1 : ∀ (k : Nat) (j9 : Nat) (H : Heap) (locs : List Loc) (ls : Array Slot), j9 + k = 2 ^ k9 → i9 ≤ j9 → KJ g (fun q => kW b q ∨ q = kSc b a) s.heap H → (∃ f, AJ g H (kY b 3) 14 f ∧ RV f ((7 ^ eU k9 * WR) % RI)) → (∃ f, AJ g H (kY b 4) 14 f ∧ RV f ((Z * (7 ^ eU k9) ^ (j9 - i9) * WR) % RI)) → (∀ q ∈ locs, n0 q.base) → lv_has ls 7 [(6, .int (nI j9)), (0, .ref (b + 470)), (1, .ref (kSc b a)), (2, .int (nI k9)), (5, .int (nI (2 ^ k9)))] → W p l e { frames := 5, cells := 0, slots := 0, locals := 182 } s m [.ref (b + 470), .ref (kSc b a), .int (nI k9), .int (nI i9), .ref (b + 161)].toArray below meth c H locs 0 0 (MQ below (QcP (QV (fun H H' => KJ g (fun q => kW b q ∨ q = kSc b a) H H' ∧ ∃ f, AJ g H' (kSc b a) 14 f ∧ RV f ((geS (Z * (7 ^ eU k9) ^ (2 ^ k9 - i9)) (2 ^ k9) 0 * (0 - (eU k9 : Int))) % RI)))) [.ref (b + 470), .ref (kSc b a), .int (nI k9), .int (nI i9), .ref (b + 161)].toArray s 0 0 (fun q => n0 q)) (F0 m 26 ls []) := by
    intro k
    induction k with
    | zero =>
      intro  j9   H   locs   ls hi hij hk hro hpl hF hl
      obtain rfl : 2 ^ k9 = j9 := by omega
      refine lv_iload hx hb d_Polys_basis_26 (lv_at hl 0 rfl) ?_
      refine lv_iload hx hb d_Polys_basis_28 (lv_at hl 4 rfl) ?_
      refine lv_icmp_ge (tgt := 58) hx hb d_Polys_basis_30 (by decide) (fun _ => ?_) (fun h9 => absurd (nI_le (Nat.le_refl _) (by omega)) h9)
      refine lv_aload_n hx hb d_Polys_basis_58 rfl (lv_at hl 1 rfl) ?_
      refine lv_iload_n hx hb d_Polys_basis_59 rfl (lv_at hl 3 rfl) ?_
      refine q_cV (rest := []) E (R_Polys_findShare l g n0 b mr hmr k9 (by omega)) w_883 w_14 w_880 w_882 (bw_s 14 rfl) hd_Polys_findShare rfl ⟨by decide, by decide⟩ (OB.recv E.2.2.2.2.2 (by rfl) ((hk.po hK hpo).1)) (⟨hk.po hK hpo, hcr.kj hk nC⟩) hF hl.1 rfl (Nat.le_of_ble_eq_true rfl) d_Polys_basis_60 ⟨by decide, by decide⟩ (qv (fun H1 locs hq hF => ?_))
      obtain ⟨hq, f5, hf5, hv5⟩ := hq
      have hpl : (∃ f, AJ g H1 (kY b 4) 14 f ∧ RV f (((Z * (7 ^ eU k9) ^ (2 ^ k9 - i9)) * WR) % RI)) := hpl.imp (fun f hf => ⟨hq.ajo (fun h => by have h : (b + 475 = b + 477 ∨ b + 475 = b + 167 ∨ b + 475 = b + 473) ∨ b + 475 = b + 476 := h; omega) hf.1, hf.2⟩)
      have hk : KJ g (fun q => kW b q ∨ q = kSc b a) s.heap _ := hk.tr (hq.mono (fun q h => Or.inl (re_W (show kW b (b + 476) from Or.inr (Or.inl (by omega))) q h)))
      refine lv_aload_n hx hb d_Polys_basis_63 rfl (lv_at hl 2 rfl) ?_
      refine q_cS (rest := []) E (c_Limbs_clear l g n0 (kSc b a)) w_498 w_5 w_853 w_497 hd_Limbs_clear rfl ⟨by decide, by decide⟩ (hk.j hjt) hF hl.1 rfl (Nat.le_of_ble_eq_true rfl) d_Polys_basis_64 ⟨by decide, by decide⟩ (qv (fun H2 locs hq hF => ?_))
      obtain ⟨hq, hfv⟩ := hq
      have hsh : (∃ f, AJ g H1 (kY b 5) 14 f ∧ RV f (((0 - (eU k9 : Int)) * WR) % RI)) := ⟨_, hf5, hv5⟩
      have hsh : (∃ f, AJ g H2 (kY b 5) 14 f ∧ RV f (((0 - (eU k9 : Int)) * WR) % RI)) := hsh.imp (fun f hf => ⟨hq.ajo (show ¬ b + 476 = kSc b a by unfold kSc; omega) hf.1, hf.2⟩)
      have hpl : (∃ f, AJ g H2 (kY b 4) 14 f ∧ RV f (((Z * (7 ^ eU k9) ^ (2 ^ k9 - i9)) * WR) % RI)) := hpl.imp (fun f hf => ⟨hq.ajo (show ¬ b + 475 = kSc b a by unfold kSc; omega) hf.1, hf.2⟩)
      have hk : KJ g (fun q => kW b q ∨ q = kSc b a) s.heap _ := hk.tr (hq.mono (fun q h => Or.inr h))
      refine lv_iconst (v := nI 0) hx hb d_Polys_basis_67 (by decide) ?_
      refine lv_istore (lv' := [(6, .int (nI 0)), (0, .ref (b + 470)), (1, .ref (kSc b a)), (2, .int (nI k9)), (5, .int (nI (2 ^ k9)))]) hx hb d_Polys_basis_68 hl (by decide) rfl (fun ls hl => ?_)
      have hl : lv_has ls 7 [(6, .int (nI 0)), (0, .ref (b + 470)), (1, .ref (kSc b a)), (5, .int (nI (2 ^ k9)))] := lv_sub hl [0, 1, 2, 4] rfl
      exact loop2 (2 ^ k9) 0 _ _ ls 0 _ (by omega) hk hfv ⟨fun _ _ => dg_0, VL_z14⟩ RI_pos rfl hsh hpl hF hl
    | succ k ih =>
      intro  j9   H   locs   ls hi hij hk hro hpl hF hl
      refine lv_iload hx hb d_Polys_basis_26 (lv_at hl 0 rfl) ?_
      refine lv_iload hx hb d_Polys_basis_28 (lv_at hl 4 rfl) ?_
      refine lv_icmp_ge (tgt := 58) hx hb d_Polys_basis_30 (by decide) (fun h9 => absurd h9 (nI_ge (by omega) (by omega))) (fun _ => ?_)
      refine lv_aload_n hx hb d_Polys_basis_33 rfl (lv_at hl 1 rfl) ?_
      refine q_get (C := "KateDesk$Polynomials") (T := T_Polys) (N := 9) (ci := 7) E ((hk.po hK hpo).1) in_Polys rfl 0 (by decide) w_303 rfl rfl d_Polys_basis_34 ?_
      refine lv_aload_n hx hb d_Polys_basis_37 rfl (lv_at hl 1 rfl) ?_
      refine q_get (C := "KateDesk$Polynomials") (T := T_Polys) (N := 9) (ci := 7) E ((hk.po hK hpo).1) in_Polys rfl 5 (by decide) w_308 rfl rfl d_Polys_basis_38 ?_
      refine lv_aload_n hx hb d_Polys_basis_41 rfl (lv_at hl 1 rfl) ?_
      refine q_get (C := "KateDesk$Polynomials") (T := T_Polys) (N := 9) (ci := 7) E ((hk.po hK hpo).1) in_Polys rfl 5 (by decide) w_308 rfl rfl d_Polys_basis_42 ?_
      refine lv_aload_n hx hb d_Polys_basis_45 rfl (lv_at hl 1 rfl) ?_
      refine q_get (C := "KateDesk$Polynomials") (T := T_Polys) (N := 9) (ci := 7) E ((hk.po hK hpo).1) in_Polys rfl 4 (by decide) w_307 rfl rfl d_Polys_basis_46 ?_
      obtain ⟨fp, hfp, hvp⟩ := id hpl
      obtain ⟨fo, hfo, hvo⟩ := hro
      refine q_cV (rest := []) E (R_Field_multiply l g n0 (b + 162) (kY b 4) (kY b 4) (kY b 3) (kFr b) mr fp fo ((Z * (7 ^ eU k9) ^ (j9 - i9) * WR) % RI) ((7 ^ eU k9 * WR) % RI) hvp hvo ((rm_r _).2) ((rm_r _).2) (show b + 168 ≠ b + 475 by omega) hmr) w_165 w_4 w_854 w_163 w_164 hd_Field_multiply rfl ⟨by decide, by decide⟩ (OB.recv E.2.2.2.2.2 (by rfl) ((hk.po hK hpo).2.1.1)) (⟨(hk.po hK hpo).2.1, ((hk.po hK hpo).2.2.1 4 (by decide)), hfp, hfo, (hcr.kj hk nC).1⟩) hF hl.1 rfl (Nat.le_of_ble_eq_true rfl) d_Polys_basis_49 ⟨by decide, by decide⟩ (qv (fun H1 locs hq hF => ?_))
      obtain ⟨hq, g1, hg1, hw1⟩ := hq
      rw [pl_mul, Int.mul_assoc Z, ← Int.pow_succ, show (j9 - i9).succ = j9 + 1 - i9 by omega] at hw1
      have hfo := hq.ajo (show ¬ b + 474 = b + 475 by omega) hfo
      have hk : KJ g (fun q => kW b q ∨ q = kSc b a) s.heap _ := hk.tr (hq.mono (fun q h => Or.inl (Or.inr (Or.inl (by have h : q = b + 475 := h; omega)))))
      refine lv_iinc (k := 0) (v := nI (j9 + 1)) (lv' := [(6, .int (nI (j9 + 1))), (0, .ref (b + 470)), (1, .ref (kSc b a)), (2, .int (nI k9)), (5, .int (nI (2 ^ k9)))]) hx hb d_Polys_basis_52 hl rfl (i_inc j9) (by decide) rfl (fun ls hl => ?_)
      refine lv_goto (tgt := 26) hx hb d_Polys_basis_55 (by decide) ?_
      have hl : lv_has ls 7 [(6, .int (nI (j9 + 1))), (0, .ref (b + 470)), (1, .ref (kSc b a)), (2, .int (nI k9)), (5, .int (nI (2 ^ k9)))] := lv_sub hl [0, 1, 2, 3, 4] rfl
      exact ih (j9 + 1) _ _ ls (by omega) (by omega) hk ⟨_, hfo, hvo⟩ ⟨_, hg1, hw1⟩ hF hl
  have hk : KJ g (fun q => kW b q ∨ q = kSc b a) s.heap s.heap := KJ.rf
  refine lv_iconst (v := nI 1) hx hb d_Polys_basis_0 (by decide) ?_
  refine lv_iload_n hx hb d_Polys_basis_1 rfl (lv_at hl 2 rfl) ?_
  refine lv_ishl hx hb d_Polys_basis_2 ?_
  refine lv_topi (fun t9 e9 => ?_)
  obtain rfl : t9 = nI (2 ^ k9) := e9.trans (sh1 k9 hk5)
  refine lv_istore (lv' := [(5, .int (nI (2 ^ k9))), (0, .ref (b + 470)), (1, .ref (kSc b a)), (2, .int (nI k9)), (3, .int (nI i9)), (4, .ref (b + 161))]) hx hb d_Polys_basis_3 hl (by decide) rfl (fun ls hl => ?_)
  refine lv_aload_n hx hb d_Polys_basis_5 rfl (lv_at hl 1 rfl) ?_
  refine lv_aload_n hx hb d_Polys_basis_6 rfl (lv_at hl 1 rfl) ?_
  refine q_get (C := "KateDesk$Polynomials") (T := T_Polys) (N := 9) (ci := 7) E ((hk.po hK hpo).1) in_Polys rfl 4 (by decide) w_307 rfl rfl d_Polys_basis_7 ?_
  refine lv_iload_n hx hb d_Polys_basis_10 rfl (lv_at hl 3 rfl) ?_
  refine q_cV (rest := []) E (R_Polys_liftedRoot l g n0 b mr hmr (kY b 3) k9 (by omega) (Or.inr rfl)) w_601 w_14 w_879 w_599 w_600 hd_Polys_liftedRoot rfl ⟨by decide, by decide⟩ (OB.recv E.2.2.2.2.2 (by rfl) hpo.1) (⟨hpo, hcr, ((hk.po hK hpo).2.2.1 3 (by decide))⟩) hF hl.1 rfl (Nat.le_of_ble_eq_true rfl) d_Polys_basis_11 ⟨by decide, by decide⟩ (qv (fun H1 locs hq hF => ?_))
  obtain ⟨hq, f3, hf3, hv3⟩ := hq
  have hfz := hq.ajo (fun h => by have h : (b + 161 = b + 477 ∨ b + 161 = b + 167 ∨ b + 161 = b + 473) ∨ b + 161 = b + 474 := h; omega) hfz
  have hk : KJ g (fun q => kW b q ∨ q = kSc b a) s.heap _ := hq.mono (fun q h => Or.inl (re_W (show kW b (b + 474) from Or.inr (Or.inl (by omega))) q h))
  refine lv_aload_n hx hb d_Polys_basis_14 rfl (lv_at hl 1 rfl) ?_
  refine q_get (C := "KateDesk$Polynomials") (T := T_Polys) (N := 9) (ci := 7) E ((hk.po hK hpo).1) in_Polys rfl 5 (by decide) w_308 rfl rfl d_Polys_basis_15 ?_
  refine lv_aload hx hb d_Polys_basis_18 (lv_at hl 5 rfl) ?_
  refine q_cS (rest := []) E (c_Limbs_copy l g n0 (kY b 4) (b + 161) fz) w_146 w_5 w_856 w_145 hd_Limbs_copy rfl ⟨by decide, by decide⟩ (⟨((hk.po hK hpo).2.2.1 4 (by decide)), hfz⟩) hF hl.1 rfl (Nat.le_of_ble_eq_true rfl) d_Polys_basis_20 ⟨by decide, by decide⟩ (qv (fun H2 locs hq hF => ?_))
  obtain ⟨hq, hf4⟩ := hq
  have hf3 := hq.ajo (show ¬ b + 474 = b + 475 by omega) hf3
  have hk : KJ g (fun q => kW b q ∨ q = kSc b a) s.heap _ := hk.tr (hq.mono (fun q h => Or.inl (Or.inr (Or.inl (by have h : q = b + 475 := h; omega)))))
  refine lv_iload_n hx hb d_Polys_basis_23 rfl (lv_at hl 4 rfl) ?_
  refine lv_istore (lv' := [(6, .int (nI i9)), (5, .int (nI (2 ^ k9))), (0, .ref (b + 470)), (1, .ref (kSc b a)), (2, .int (nI k9)), (3, .int (nI i9)), (4, .ref (b + 161))]) hx hb d_Polys_basis_24 hl (by decide) rfl (fun ls hl => ?_)
  have hl : lv_has ls 7 [(6, .int (nI i9)), (0, .ref (b + 470)), (1, .ref (kSc b a)), (2, .int (nI k9)), (5, .int (nI (2 ^ k9)))] := lv_sub hl [0, 2, 3, 4, 1] rfl
  exact loop1 (2 ^ k9 - i9) i9 _ _ ls (by omega) (Nat.le_refl _) hk ⟨_, hf3, hv3⟩ ⟨_, hf4, by rw [Nat.sub_self, Int.pow_zero, Int.mul_one]; exact hvz⟩ hF hl
