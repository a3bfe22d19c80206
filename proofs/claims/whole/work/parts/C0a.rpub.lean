/-- what a method that sets scalars may write -/
def kSW (b q : Nat) : Prop := kW b q ∨ (b + 2 ≤ q ∧ q ≤ b + 33) ∨ q = b + 160 ∨ q = b + 161
def nFS (b q : Nat) : Prop := kSW b q ∨ q = b + 148
theorem kSW_F {b : Nat} : ∀ q, kSW b q → nFS b q := fun q h => Or.inl h
theorem kSW_C {b : Nat} : ∀ q, kSW b q → ¬ kC b q := by
  intro q h
  unfold kSW kW at h
  unfold kC
  omega
theorem kSW_D {b k : Nat} (hk : k < 16) : ¬ kSW b (kDG b k) := by unfold kSW kW kDG; omega
theorem sw_sc {b k : Nat} (hk : k < 32) : ∀ q, q = kSc b k → kSW b q := fun q h => Or.inr (Or.inl (by subst h; unfold kSc; omega))
theorem sw_160 {b : Nat} : ∀ q, q = b + 160 → kSW b q := fun q h => Or.inr (Or.inr (Or.inl h))
theorem sw_161 {b : Nat} : ∀ q, q = b + 161 → kSW b q := fun q h => Or.inr (Or.inr (Or.inr h))
theorem sw_r5 {b : Nat} : ∀ q, q = b + 161 ∨ q = kFr b 5 → kSW b q := fun q h => h.elim (sw_161 q) (fun h => Or.inl (Or.inl h))
theorem sw_W {b : Nat} : ∀ q, kW b q → kSW b q := fun q h => Or.inl h
theorem sw_WS {b : Nat} : ∀ q, kWS b q → kSW b q := fun q h => h.elim Or.inl (fun h => Or.inr (Or.inl h))
theorem DX0.kjD {g : WG} {H H' : Heap} {U : State} {b p : Nat} {mr mq : Int64} {S : Nat → Prop} (d : DX0 g H b p mr mq) (hK : KW g U) (h : KJ g S H H') (hS : ∀ k, k < 16 → ¬ S (kDG b k)) : DX0 g H' b p mr mq := ⟨h.ob hK d.ob, h.fd hK d.fr, h.so hK d.so, h.arB hK d.dr, fun k hk => (d.dg k hk).imp (fun f hf => ⟨h.abo (hS k hk) hf.1, hf.2⟩), h.po hK d.po, h.rs hK d.rs, h.arP hK d.pa, fun k hk => h.pt hK (d.pt k hk), h.arP hK d.pw, fun k hk => h.pt hK (d.pq k hk), h.pt hK d.hp, h.pt hK d.mu, h.j d.hs, h.j d.fa, h.fmx hK d.fm, h.pt hK d.ge⟩
/-- a desk after a method that sets scalars -/
def DSS (g : WG) (H0 H : Heap) (b p t w : Nat) (mr mq : Int64) : Prop := FRM (nFS b) H0 H ∧ DX0 g H b p mr mq ∧ RW9 g H (b + 148) (b + 149) t ∧ RW9 g H (b + 150) (b + 151) w ∧ p ≤ 16 ∧ t ≤ 96 ∧ w ≤ 96
theorem DSS.of {g : WG} {H H' : Heap} {U : State} {b p t w : Nat} {mr mq : Int64} (d : DS g H H b p t w mr mq) (hK : KW g U) (h : KJ g (kSW b) H H') : DSS g H H' b p t w mr mq := ⟨h.frq kSW_F, d.2.1.kjD hK h (fun k hk => kSW_D hk), h.rw9 hK d.2.2.1, h.rw9 hK d.2.2.2.1, d.2.2.2.2⟩
theorem sca_off {b : Nat} {P : Nat → Prop} (h : ∀ q, P q → q = b + 160 ∨ q = b + 161 ∨ kW b q) : ∀ q, P q → ¬ (b + 2 ≤ q ∧ q ≤ b + 33) := by
  intro q hq
  rcases h q hq with h | h | h
  · omega
  · omega
  · exact kW_S q h
theorem lw_e (x : Int) : (((x * WR) % RI) * WIR) % RI = x % RI := by
  rw [Int.mul_emod, Int.emod_emod_of_dvd _ (Int.dvd_refl _), ← Int.mul_emod, Int.mul_assoc, ww_r]
theorem sub_m {x y : Int} (hx : 0 ≤ x ∧ x < RI) (hy : 0 ≤ y ∧ y < RI) : (if x < y then x - y + RI else x - y) = (x - y + RI) % RI := by
  have hr := RI_pos
  split
  · rw [Int.emod_eq_of_lt (by omega) (by omega)]
  · rw [Int.add_emod_right, Int.emod_eq_of_lt (by omega) (by omega)]
theorem SCA.set2 {g : WG} {S : Nat → Prop} {H H' : Heap} {b j : Nat} {A : Nat → Int} {f : Nat → Int64} {v : Int} (h : SCA g H b A) (hk : KJ g S H H') (hS : ∀ q, S q → ¬ (b + 2 ≤ q ∧ q ≤ b + 33) ∨ q = kSc b j) (hA : AJ g H' (kSc b j) 14 f) (hv : RV f v) (hv2 : v < RI) : SCA g H' b (updI A j v) := by
  intro k hk1
  by_cases e : k = j
  · subst e
    exact ⟨f, hA, by unfold updI; rw [if_pos rfl]; exact hv, by unfold updI; rw [if_pos rfl]; exact hv2⟩
  · obtain ⟨f2, h1, h2⟩ := h k hk1
    refine ⟨f2, hk.ajo (fun hs => (hS _ hs).elim (fun q => q (by unfold kSc; omega)) (fun q => e (by unfold kSc at q; omega))) h1, ?_⟩
    unfold updI
    rw [if_neg e]
    exact h2
set_option maxHeartbeats 4000000 in
set_option maxRecDepth 100000 in
theorem R_Field_invert (l : Launch) (g : WG) (n0 : Nat → Prop) (b : Nat) (mr : Int64) (hmr : mr = 268435455) (t a : Nat) (fa : Nat → Int64) (X : Int) (hfa : RV fa ((X * WR) % RI)) (ht : t = b + 161 ∨ t = b + 160) : Ctr l y_Field_invert (.code y_Field_invert prog_3_method_12_code 3 none) 3 160 0 0 n0 g [.ref (b + 162), .ref t, .ref a] (fun H => FD g n0 H (b + 162) (kFr b) mr ∧ (n0 t ∧ ∃ ft, AJ g H t 14 ft) ∧ AJ g H a 14 fa ∧ CR g H b) (QV (fun H H' => KJ g (fun q => q = t ∨ q = kFr b 5) H H' ∧ ∃ f', AJ g H' t 14 f' ∧ RV f' ((X ^ (RN - 2) * WR) % RI))) := by
  refine ctr_mk l (lv0 := [(0, .ref (b + 162)), (1, .ref t), (2, .ref a)]) (by decide) (Nat.le_of_ble_eq_true rfl) rfl ?_
  intro p e s m below meth c ls E hr hlk hnm hl hP
  have hx := E.1
  have hb := E.2.1
  have hK := E.2.2.2.2.2
  have hF : ∀ q ∈ ([] : List Loc), n0 q.base := fun q hq => absurd hq List.not_mem_nil
  obtain ⟨hfd, hnt, hA, hcr⟩ := hP
  obtain ⟨f4, h4, v4⟩ := hcr.2.2.2.2.1
  have v4 : RV f4 ((RN - 2 : Nat) : Int) := by rw [show ((RN - 2 : Nat) : Int) = RI - 2 by decide +kernel]; exact v4
  refine lv_aload_n hx hb d_Field_invert_0 rfl (lv_at hl 0 rfl) ?_
  refine lv_aload_n hx hb d_Field_invert_1 rfl (lv_at hl 1 rfl) ?_
  refine lv_aload_n hx hb d_Field_invert_2 rfl (lv_at hl 2 rfl) ?_
  refine lv_aload_n hx hb d_Field_invert_3 rfl (lv_at hl 0 rfl) ?_
  refine q_get (C := "KateDesk$Field") (T := T_Field) (N := 7) (ci := 1) E hfd.1 in_Field rfl 4 (by decide) w_180 rfl rfl d_Field_invert_4 ?_
  refine q_cV (rest := []) E (R_Field_raise l g n0 (b + 162) t a (kFr b 4) (kFr b) mr fa f4 X (RN - 2) hfa v4 (show b + 168 ≠ t by omega) (show b + 168 ≠ b + 167 by omega) (show t ≠ b + 167 by omega) (show b + 166 ≠ t by omega) (show b + 166 ≠ b + 167 by omega) (show b + 163 ≠ b + 167 by omega) hmr) w_574 w_4 w_571 w_572 w_573 hd_Field_raise rfl ⟨by decide, by decide⟩ (OB.recv E.2.2.2.2.2 (by rfl) hfd.1) (⟨hfd, hnt, hA, h4, hcr.1, hcr.2.1⟩) hF hl.1 rfl (Nat.le_of_ble_eq_true rfl) d_Field_invert_7 ⟨by decide, by decide⟩ (qv (fun H1 locs hq hF => ?_))
  exact q_vret E hr hlk (⟨rfl, hq⟩) hF d_Field_invert_10
set_option maxHeartbeats 4000000 in
set_option maxRecDepth 100000 in
theorem R_Desk_set (l : Launch) (g : WG) (b pn tn wn : Nat) (mr mq : Int64) (hmr : mr = 268435455) (A : Nat → Int) (a : Nat) (v : Int64) (ha : a < 32) (hv : ¬ v < 0) : Ctr l y_Desk_set (.code y_Desk_set prog_1_method_4_code 4 none) 3 66 0 0 (nD b) g [.ref b, .int (nI a), .long v] (fun H => DS g H H b pn tn wn mr mq ∧ CR g H b ∧ SCA g H b A) (QV (fun H H' => DSS g H H' b pn tn wn mr mq ∧ CR g H' b ∧ SCA g H' b (updI A a v.toInt))) := by
  refine ctr_mk l (lv0 := [(0, .ref b), (1, .int (nI a)), (2, .long v)]) (by decide) (Nat.le_of_ble_eq_true rfl) rfl ?_
  intro p e s m below meth c ls E hr hlk hnm hl hP
  have hx := E.1
  have hb := E.2.1
  have hK := E.2.2.2.2.2
  have hF : ∀ q ∈ ([] : List Loc), nD b q.base := fun q hq => absurd hq List.not_mem_nil
  obtain ⟨hd, hcr, hsa⟩ := hP
  have hk : KJ g (kSW b) s.heap s.heap := KJ.rf
  refine lv_iload_n hx hb d_Desk_set_0 rfl (lv_at hl 1 rfl) ?_
  refine lv_iconst (v := nI 1) hx hb d_Desk_set_1 (by decide) ?_
  refine q_cS (rest := []) E (c_Desk_needScalars l g (nD b) (nI a) (nI 1) (okS_of (by decide) ha)) w_494 w_1 w_492 w_493 hd_Desk_needScalars rfl ⟨by decide, by decide⟩ trivial hF hl.1 rfl (Nat.le_of_ble_eq_true rfl) d_Desk_set_2 ⟨by decide, by decide⟩ (qv (fun H1 locs hq hF => ?_))
  have hq := hq.symm
  subst hq
  refine lv_lload_n hx hb d_Desk_set_5 rfl (lv_at hl 2 rfl) ?_
  refine lv_lconst (v := 0) hx hb d_Desk_set_6 (by decide) ?_
  refine W.lcmp hx hb d_Desk_set_7 ?_
  refine lv_if_ge (tgt := 21) hx hb d_Desk_set_8 (by decide) (fun _ => ?_) (fun h9 => absurd (s_ge hv) h9)
  refine lv_aload_n hx hb d_Desk_set_21 rfl (lv_at hl 0 rfl) ?_
  refine q_get (C := "KateDesk") (T := T_Desk) (N := 16) (ci := 5) E (hk.ob hK hd.x.ob) in_Desk rfl 5 (by decide) w_344 rfl rfl d_Desk_set_22 ?_
  refine lv_iload_n hx hb d_Desk_set_25 rfl (lv_at hl 1 rfl) ?_
  refine q_aald (t := 4) E rfl rfl ((hk.rs hK hd.x.rs.nd).1) a rfl ha (by decide) d_Desk_set_26 ?_
  refine lv_lload_n hx hb d_Desk_set_27 rfl (lv_at hl 2 rfl) ?_
  refine q_cS (rest := []) E (V_Limbs_fromLong l g (nD b) (kSc b a) v (v_nn hv)) w_523 w_5 w_521 w_522 hd_Limbs_fromLong rfl ⟨by decide, by decide⟩ ((hk.rs hK hd.x.rs.nd).2 a ha) hF hl.1 rfl (Nat.le_of_ble_eq_true rfl) d_Desk_set_28 ⟨by decide, by decide⟩ (qv (fun H2 locs hq hF => ?_))
  obtain ⟨hq, g1, hN, vN⟩ := hq
  have hsa := hsa.set hq hN vN (v_RI _)
  have hk := hk.tr (hq.mono (sw_sc ha))
  exact q_vret E hr hlk (⟨rfl, DSS.of hd hK hk, (hcr.kj hk kSW_C), hsa⟩) hF d_Desk_set_31
set_option maxHeartbeats 4000000 in
set_option maxRecDepth 100000 in
theorem R_Desk_power (l : Launch) (g : WG) (b pn tn wn : Nat) (mr mq : Int64) (hmr : mr = 268435455) (A : Nat → Int) (a a2 : Nat) (v : Int64) (ha : a < 32) (h2 : a2 < 32) (hv : ¬ v < 0) : Ctr l y_Desk_power (.code y_Desk_power prog_1_method_7_code 5 none) 3 160 0 0 (nD b) g [.ref b, .int (nI a), .int (nI a2), .long v] (fun H => DS g H H b pn tn wn mr mq ∧ CR g H b ∧ SCA g H b A) (QV (fun H H' => DSS g H H' b pn tn wn mr mq ∧ CR g H' b ∧ SCA g H' b (updI A a ((A a2) ^ v.toInt.toNat % RI)))) := by
  refine ctr_mk l (lv0 := [(0, .ref b), (1, .int (nI a)), (2, .int (nI a2)), (3, .long v)]) (by decide) (Nat.le_of_ble_eq_true rfl) rfl ?_
  intro p e s m below meth c ls E hr hlk hnm hl hP
  have hx := E.1
  have hb := E.2.1
  have hK := E.2.2.2.2.2
  have hF : ∀ q ∈ ([] : List Loc), nD b q.base := fun q hq => absurd hq List.not_mem_nil
  obtain ⟨hd, hcr, hsa⟩ := hP
  have hk : KJ g (kSW b) s.heap s.heap := KJ.rf
  refine lv_iload_n hx hb d_Desk_power_0 rfl (lv_at hl 1 rfl) ?_
  refine lv_iconst (v := nI 1) hx hb d_Desk_power_1 (by decide) ?_
  refine q_cS (rest := []) E (c_Desk_needScalars l g (nD b) (nI a) (nI 1) (okS_of (by decide) ha)) w_494 w_1 w_492 w_493 hd_Desk_needScalars rfl ⟨by decide, by decide⟩ trivial hF hl.1 rfl (Nat.le_of_ble_eq_true rfl) d_Desk_power_2 ⟨by decide, by decide⟩ (qv (fun H1 locs hq hF => ?_))
  have hq := hq.symm
  subst hq
  refine lv_iload_n hx hb d_Desk_power_5 rfl (lv_at hl 2 rfl) ?_
  refine lv_iconst (v := nI 1) hx hb d_Desk_power_6 (by decide) ?_
  refine q_cS (rest := []) E (c_Desk_needScalars l g (nD b) (nI a2) (nI 1) (okS_of (by decide) h2)) w_494 w_1 w_492 w_493 hd_Desk_needScalars rfl ⟨by decide, by decide⟩ trivial hF hl.1 rfl (Nat.le_of_ble_eq_true rfl) d_Desk_power_7 ⟨by decide, by decide⟩ (qv (fun H2 locs hq hF => ?_))
  have hq := hq.symm
  subst hq
  refine lv_lload_n hx hb d_Desk_power_10 rfl (lv_at hl 3 rfl) ?_
  refine lv_lconst (v := 0) hx hb d_Desk_power_11 (by decide) ?_
  refine W.lcmp hx hb d_Desk_power_12 ?_
  refine lv_if_ge (tgt := 26) hx hb d_Desk_power_13 (by decide) (fun _ => ?_) (fun h9 => absurd (s_ge hv) h9)
  refine lv_aload_n hx hb d_Desk_power_26 rfl (lv_at hl 0 rfl) ?_
  refine q_get (C := "KateDesk") (T := T_Desk) (N := 16) (ci := 5) E (hk.ob hK hd.x.ob) in_Desk rfl 14 (by decide) w_353 rfl rfl d_Desk_power_27 ?_
  refine lv_lload_n hx hb d_Desk_power_30 rfl (lv_at hl 3 rfl) ?_
  refine q_cS (rest := []) E (V_Limbs_fromLong l g (nD b) (b + 160) v (v_nn hv)) w_523 w_5 w_521 w_522 hd_Limbs_fromLong rfl ⟨by decide, by decide⟩ ((hk.j hd.x.hs).nd) hF hl.1 rfl (Nat.le_of_ble_eq_true rfl) d_Desk_power_31 ⟨by decide, by decide⟩ (qv (fun H3 locs hq hF => ?_))
  obtain ⟨hq, g1, hN, vN⟩ := hq
  have hsa := hsa.kj hq (fun q h => by have h : q = b + 160 := h; omega)
  have hk := hk.tr (hq.mono sw_160)
  have h160 := hN
  have v160 := vN
  refine lv_aload_n hx hb d_Desk_power_34 rfl (lv_at hl 0 rfl) ?_
  refine q_get (C := "KateDesk") (T := T_Desk) (N := 16) (ci := 5) E (hk.ob hK hd.x.ob) in_Desk rfl 0 (by decide) w_339 rfl rfl d_Desk_power_35 ?_
  refine lv_aload_n hx hb d_Desk_power_38 rfl (lv_at hl 0 rfl) ?_
  refine q_get (C := "KateDesk") (T := T_Desk) (N := 16) (ci := 5) E (hk.ob hK hd.x.ob) in_Desk rfl 15 (by decide) w_354 rfl rfl d_Desk_power_39 ?_
  refine lv_aload_n hx hb d_Desk_power_42 rfl (lv_at hl 0 rfl) ?_
  refine q_get (C := "KateDesk") (T := T_Desk) (N := 16) (ci := 5) E (hk.ob hK hd.x.ob) in_Desk rfl 5 (by decide) w_344 rfl rfl d_Desk_power_43 ?_
  refine lv_iload_n hx hb d_Desk_power_46 rfl (lv_at hl 2 rfl) ?_
  refine q_aald (t := 4) E rfl rfl ((hk.rs hK hd.x.rs.nd).1) a2 rfl h2 (by decide) d_Desk_power_47 ?_
  obtain ⟨fs2, as2, vs2, rs2⟩ := hsa a2 h2
  refine q_cV (rest := []) E (R_Field_lift l g (nD b) (b + 162) (b + 161) (kSc b a2) (kFr b) mr fs2 (A a2) vs2 rs2 (show b + 168 ≠ b + 161 by omega) hmr) w_302 w_4 w_336 w_300 w_301 hd_Field_lift rfl ⟨by decide, by decide⟩ (OB.recv E.2.2.2.2.2 (by rfl) ((hk.fd hK hd.x.fr.nd).1)) (⟨hk.fd hK hd.x.fr.nd, (hk.j hd.x.fa).nd, as2, (hcr.kj hk kSW_C).1, (hcr.kj hk kSW_C).2.2.2.1⟩) hF hl.1 rfl (Nat.le_of_ble_eq_true rfl) d_Desk_power_48 ⟨by decide, by decide⟩ (qv (fun H4 locs hq hF => ?_))
  obtain ⟨hq, g3, hN, vN⟩ := hq
  have h160 := hq.ajo (show ¬ b + 160 = b + 161 by omega) h160
  have hsa := hsa.kj hq (fun q h => by have h : q = b + 161 := h; omega)
  have hk := hk.tr (hq.mono sw_161)
  have h161 := hN
  have v161 := vN
  refine lv_aload_n hx hb d_Desk_power_51 rfl (lv_at hl 0 rfl) ?_
  refine q_get (C := "KateDesk") (T := T_Desk) (N := 16) (ci := 5) E (hk.ob hK hd.x.ob) in_Desk rfl 0 (by decide) w_339 rfl rfl d_Desk_power_52 ?_
  refine lv_aload_n hx hb d_Desk_power_55 rfl (lv_at hl 0 rfl) ?_
  refine q_get (C := "KateDesk") (T := T_Desk) (N := 16) (ci := 5) E (hk.ob hK hd.x.ob) in_Desk rfl 15 (by decide) w_354 rfl rfl d_Desk_power_56 ?_
  refine lv_aload_n hx hb d_Desk_power_59 rfl (lv_at hl 0 rfl) ?_
  refine q_get (C := "KateDesk") (T := T_Desk) (N := 16) (ci := 5) E (hk.ob hK hd.x.ob) in_Desk rfl 15 (by decide) w_354 rfl rfl d_Desk_power_60 ?_
  refine lv_aload_n hx hb d_Desk_power_63 rfl (lv_at hl 0 rfl) ?_
  refine q_get (C := "KateDesk") (T := T_Desk) (N := 16) (ci := 5) E (hk.ob hK hd.x.ob) in_Desk rfl 14 (by decide) w_353 rfl rfl d_Desk_power_64 ?_
  refine q_cV (rest := []) E (R_Field_raise l g (nD b) (b + 162) (b + 161) (b + 161) (b + 160) (kFr b) mr g3 g1 (A a2) v.toInt.toNat v161 (show RV _ ((v.toInt.toNat : Nat) : Int) by rw [Int.toNat_of_nonneg (v_nn hv)]; exact v160) (show b + 168 ≠ b + 161 by omega) (show b + 168 ≠ b + 167 by omega) (show b + 161 ≠ b + 167 by omega) (show b + 160 ≠ b + 161 by omega) (show b + 160 ≠ b + 167 by omega) (show b + 163 ≠ b + 167 by omega) hmr) w_574 w_4 w_585 w_572 w_573 hd_Field_raise rfl ⟨by decide, by decide⟩ (OB.recv E.2.2.2.2.2 (by rfl) ((hk.fd hK hd.x.fr.nd).1)) (⟨hk.fd hK hd.x.fr.nd, (hk.j hd.x.fa).nd, h161, h160, (hcr.kj hk kSW_C).1, (hcr.kj hk kSW_C).2.1⟩) hF hl.1 rfl (Nat.le_of_ble_eq_true rfl) d_Desk_power_67 ⟨by decide, by decide⟩ (qv (fun H5 locs hq hF => ?_))
  obtain ⟨hq, g4, hN, vN⟩ := hq
  have hsa := hsa.kj hq (fun q h => by have h : q = b + 161 ∨ q = b + 167 := h; omega)
  have hk := hk.tr (hq.mono sw_r5)
  have h161 := hN
  have v161 := vN
  refine lv_aload_n hx hb d_Desk_power_70 rfl (lv_at hl 0 rfl) ?_
  refine q_get (C := "KateDesk") (T := T_Desk) (N := 16) (ci := 5) E (hk.ob hK hd.x.ob) in_Desk rfl 0 (by decide) w_339 rfl rfl d_Desk_power_71 ?_
  refine lv_aload_n hx hb d_Desk_power_74 rfl (lv_at hl 0 rfl) ?_
  refine q_get (C := "KateDesk") (T := T_Desk) (N := 16) (ci := 5) E (hk.ob hK hd.x.ob) in_Desk rfl 5 (by decide) w_344 rfl rfl d_Desk_power_75 ?_
  refine lv_iload_n hx hb d_Desk_power_78 rfl (lv_at hl 1 rfl) ?_
  refine q_aald (t := 4) E rfl rfl ((hk.rs hK hd.x.rs.nd).1) a rfl ha (by decide) d_Desk_power_79 ?_
  refine lv_aload_n hx hb d_Desk_power_80 rfl (lv_at hl 0 rfl) ?_
  refine q_get (C := "KateDesk") (T := T_Desk) (N := 16) (ci := 5) E (hk.ob hK hd.x.ob) in_Desk rfl 15 (by decide) w_354 rfl rfl d_Desk_power_81 ?_
  refine q_cV (rest := []) E (R_Field_lower l g (nD b) (b + 162) (kSc b a) (b + 161) (kFr b) mr g4 (((A a2) ^ v.toInt.toNat * WR) % RI) v161 ((rm_r _).2) (show b + 168 ≠ kSc b a by unfold kSc; omega) hmr) w_589 w_4 w_586 w_587 w_588 hd_Field_lower rfl ⟨by decide, by decide⟩ (OB.recv E.2.2.2.2.2 (by rfl) ((hk.fd hK hd.x.fr.nd).1)) (⟨hk.fd hK hd.x.fr.nd, ((hk.rs hK hd.x.rs.nd).2 a ha), h161, (hcr.kj hk kSW_C).1, (hcr.kj hk kSW_C).2.2.1⟩) hF hl.1 rfl (Nat.le_of_ble_eq_true rfl) d_Desk_power_84 ⟨by decide, by decide⟩ (qv (fun H6 locs hq hF => ?_))
  obtain ⟨hq, g5, hN, vN⟩ := hq
  rw [lw_e] at vN
  have h161 := hq.ajo (show ¬ b + 161 = kSc b a by unfold kSc; omega) h161
  have hsa := hsa.set hq hN vN (rm_r _).2
  have hk := hk.tr (hq.mono (sw_sc ha))
  exact q_vret E hr hlk (⟨rfl, DSS.of hd hK hk, (hcr.kj hk kSW_C), hsa⟩) hF d_Desk_power_87
set_option maxHeartbeats 4000000 in
set_option maxRecDepth 100000 in
theorem R_Desk_unity (l : Launch) (g : WG) (b pn tn wn : Nat) (mr mq : Int64) (hmr : mr = 268435455) (A : Nat → Int) (a k : Nat) (ha : a < 32) (hk32 : k ≤ 32) : Ctr l y_Desk_unity (.code y_Desk_unity prog_1_method_8_code 3 none) 5 182 0 0 (nD b) g [.ref b, .int (nI a), .int (nI k)] (fun H => DS g H H b pn tn wn mr mq ∧ CR g H b ∧ SCA g H b A) (QV (fun H H' => DSS g H H' b pn tn wn mr mq ∧ CR g H' b ∧ SCA g H' b (updI A a (7 ^ eU k % RI)))) := by
  refine ctr_mk l (lv0 := [(0, .ref b), (1, .int (nI a)), (2, .int (nI k))]) (by decide) (Nat.le_of_ble_eq_true rfl) rfl ?_
  intro p e s m below meth c ls E hr hlk hnm hl hP
  have hx := E.1
  have hb := E.2.1
  have hK := E.2.2.2.2.2
  have hF : ∀ q ∈ ([] : List Loc), nD b q.base := fun q hq => absurd hq List.not_mem_nil
  obtain ⟨hd, hcr, hsa⟩ := hP
  have hk : KJ g (kSW b) s.heap s.heap := KJ.rf
  refine lv_iload_n hx hb d_Desk_unity_0 rfl (lv_at hl 1 rfl) ?_
  refine lv_iconst (v := nI 1) hx hb d_Desk_unity_1 (by decide) ?_
  refine q_cS (rest := []) E (c_Desk_needScalars l g (nD b) (nI a) (nI 1) (okS_of (by decide) ha)) w_494 w_1 w_492 w_493 hd_Desk_needScalars rfl ⟨by decide, by decide⟩ trivial hF hl.1 rfl (Nat.le_of_ble_eq_true rfl) d_Desk_unity_2 ⟨by decide, by decide⟩ (qv (fun H1 locs hq hF => ?_))
  have hq := hq.symm
  subst hq
  refine lv_iload_n hx hb d_Desk_unity_5 rfl (lv_at hl 2 rfl) ?_
  refine lv_if_lt (tgt := 15) hx hb d_Desk_unity_6 (by decide) (fun h9 => absurd h9 (nI_pos (by omega))) (fun _ => ?_)
  refine lv_iload_n hx hb d_Desk_unity_9 rfl (lv_at hl 2 rfl) ?_
  refine lv_bipush (v := nI 32) hx hb d_Desk_unity_10 (by decide) ?_
  refine lv_icmp_le (tgt := 25) hx hb d_Desk_unity_12 (by decide) (fun _ => ?_) (fun h9 => absurd (nI_le hk32 (by decide)) h9)
  refine lv_aload_n hx hb d_Desk_unity_25 rfl (lv_at hl 0 rfl) ?_
  refine q_get (C := "KateDesk") (T := T_Desk) (N := 16) (ci := 5) E (hk.ob hK hd.x.ob) in_Desk rfl 4 (by decide) w_343 rfl rfl d_Desk_unity_26 ?_
  refine lv_aload_n hx hb d_Desk_unity_29 rfl (lv_at hl 0 rfl) ?_
  refine q_get (C := "KateDesk") (T := T_Desk) (N := 16) (ci := 5) E (hk.ob hK hd.x.ob) in_Desk rfl 15 (by decide) w_354 rfl rfl d_Desk_unity_30 ?_
  refine lv_iload_n hx hb d_Desk_unity_33 rfl (lv_at hl 2 rfl) ?_
  refine q_cV (rest := []) E (R_Polys_liftedRoot l g (nD b) b mr hmr (b + 161) k hk32 (Or.inl rfl)) w_601 w_14 w_598 w_599 w_600 hd_Polys_liftedRoot rfl ⟨by decide, by decide⟩ (OB.recv E.2.2.2.2.2 (by rfl) ((hk.po hK hd.x.po.nd).1)) (⟨hk.po hK hd.x.po.nd, (hcr.kj hk kSW_C), (hk.j hd.x.fa).nd⟩) hF hl.1 rfl (Nat.le_of_ble_eq_true rfl) d_Desk_unity_34 ⟨by decide, by decide⟩ (qv (fun H2 locs hq hF => ?_))
  obtain ⟨hq, g1, hN, vN⟩ := hq
  have hq : KJ g (fun q => kW b q ∨ q = b + 161) _ _ := hq.mono (fun q h => h.elim (fun h => Or.inl (re_W (show kW b (b + 473) from Or.inr (Or.inl (by omega))) q (Or.inl h))) Or.inr)
  have hsa := hsa.kj hq (fun q h => h.elim (kW_S q) (fun h => by omega))
  have hk := hk.tr (hq.mono (fun q h => h.elim (sw_W q) (sw_161 q)))
  have h161 := hN
  have v161 := vN
  refine lv_aload_n hx hb d_Desk_unity_37 rfl (lv_at hl 0 rfl) ?_
  refine q_get (C := "KateDesk") (T := T_Desk) (N := 16) (ci := 5) E (hk.ob hK hd.x.ob) in_Desk rfl 0 (by decide) w_339 rfl rfl d_Desk_unity_38 ?_
  refine lv_aload_n hx hb d_Desk_unity_41 rfl (lv_at hl 0 rfl) ?_
  refine q_get (C := "KateDesk") (T := T_Desk) (N := 16) (ci := 5) E (hk.ob hK hd.x.ob) in_Desk rfl 5 (by decide) w_344 rfl rfl d_Desk_unity_42 ?_
  refine lv_iload_n hx hb d_Desk_unity_45 rfl (lv_at hl 1 rfl) ?_
  refine q_aald (t := 4) E rfl rfl ((hk.rs hK hd.x.rs.nd).1) a rfl ha (by decide) d_Desk_unity_46 ?_
  refine lv_aload_n hx hb d_Desk_unity_47 rfl (lv_at hl 0 rfl) ?_
  refine q_get (C := "KateDesk") (T := T_Desk) (N := 16) (ci := 5) E (hk.ob hK hd.x.ob) in_Desk rfl 15 (by decide) w_354 rfl rfl d_Desk_unity_48 ?_
  refine q_cV (rest := []) E (R_Field_lower l g (nD b) (b + 162) (kSc b a) (b + 161) (kFr b) mr g1 ((7 ^ eU k * WR) % RI) v161 ((rm_r _).2) (show b + 168 ≠ kSc b a by unfold kSc; omega) hmr) w_589 w_4 w_586 w_587 w_588 hd_Field_lower rfl ⟨by decide, by decide⟩ (OB.recv E.2.2.2.2.2 (by rfl) ((hk.fd hK hd.x.fr.nd).1)) (⟨hk.fd hK hd.x.fr.nd, ((hk.rs hK hd.x.rs.nd).2 a ha), h161, (hcr.kj hk kSW_C).1, (hcr.kj hk kSW_C).2.2.1⟩) hF hl.1 rfl (Nat.le_of_ble_eq_true rfl) d_Desk_unity_51 ⟨by decide, by decide⟩ (qv (fun H3 locs hq hF => ?_))
  obtain ⟨hq, g2, hN, vN⟩ := hq
  rw [lw_e] at vN
  have h161 := hq.ajo (show ¬ b + 161 = kSc b a by unfold kSc; omega) h161
  have hsa := hsa.set hq hN vN (rm_r _).2
  have hk := hk.tr (hq.mono (sw_sc ha))
  exact q_vret E hr hlk (⟨rfl, DSS.of hd hK hk, (hcr.kj hk kSW_C), hsa⟩) hF d_Desk_unity_54
set_option maxHeartbeats 4000000 in
set_option maxRecDepth 100000 in
theorem R_Desk_reckon0 (l : Launch) (g : WG) (b pn tn wn : Nat) (mr mq : Int64) (hmr : mr = 268435455) (A : Nat → Int) (a a2 a3 : Nat) (ha : a < 32) (h2 : a2 < 32) (h3 : a3 < 32) : Ctr l y_Desk_reckon (.code y_Desk_reckon prog_1_method_6_code 5 none) 4 182 0 0 (nD b) g [.ref b, .int (nI 0), .int (nI a), .int (nI a2), .int (nI a3)] (fun H => DS g H H b pn tn wn mr mq ∧ CR g H b ∧ SCA g H b A) (QV (fun H H' => DSS g H H' b pn tn wn mr mq ∧ CR g H' b ∧ SCA g H' b (updI A a (rkV 0 (A a2) (A a3))))) := by
  refine ctr_mk l (lv0 := [(0, .ref b), (1, .int (nI 0)), (2, .int (nI a)), (3, .int (nI a2)), (4, .int (nI a3))]) (by decide) (Nat.le_of_ble_eq_true rfl) rfl ?_
  intro p e s m below meth c ls E hr hlk hnm hl hP
  have hx := E.1
  have hb := E.2.1
  have hK := E.2.2.2.2.2
  have hF : ∀ q ∈ ([] : List Loc), nD b q.base := fun q hq => absurd hq List.not_mem_nil
  obtain ⟨hd, hcr, hsa⟩ := hP
  have hk : KJ g (kSW b) s.heap s.heap := KJ.rf
  refine lv_iload_n hx hb d_Desk_reckon_0 rfl (lv_at hl 1 rfl) ?_
  refine q_cS (rest := []) E (c_Desk_needKind l g (nD b) (nI 0) (⟨by decide, by decide⟩)) w_544 w_1 w_542 w_543 hd_Desk_needKind rfl ⟨by decide, by decide⟩ trivial hF hl.1 rfl (Nat.le_of_ble_eq_true rfl) d_Desk_reckon_1 ⟨by decide, by decide⟩ (qv (fun H1 locs hq hF => ?_))
  have hq := hq.symm
  subst hq
  refine lv_iload_n hx hb d_Desk_reckon_4 rfl (lv_at hl 2 rfl) ?_
  refine lv_iconst (v := nI 1) hx hb d_Desk_reckon_5 (by decide) ?_
  refine q_cS (rest := []) E (c_Desk_needScalars l g (nD b) (nI a) (nI 1) (okS_of (by decide) ha)) w_494 w_1 w_492 w_493 hd_Desk_needScalars rfl ⟨by decide, by decide⟩ trivial hF hl.1 rfl (Nat.le_of_ble_eq_true rfl) d_Desk_reckon_6 ⟨by decide, by decide⟩ (qv (fun H2 locs hq hF => ?_))
  have hq := hq.symm
  subst hq
  refine lv_iload_n hx hb d_Desk_reckon_9 rfl (lv_at hl 3 rfl) ?_
  refine lv_iconst (v := nI 1) hx hb d_Desk_reckon_10 (by decide) ?_
  refine q_cS (rest := []) E (c_Desk_needScalars l g (nD b) (nI a2) (nI 1) (okS_of (by decide) h2)) w_494 w_1 w_492 w_493 hd_Desk_needScalars rfl ⟨by decide, by decide⟩ trivial hF hl.1 rfl (Nat.le_of_ble_eq_true rfl) d_Desk_reckon_11 ⟨by decide, by decide⟩ (qv (fun H3 locs hq hF => ?_))
  have hq := hq.symm
  subst hq
  refine lv_iload hx hb d_Desk_reckon_14 (lv_at hl 4 rfl) ?_
  refine lv_iconst (v := nI 1) hx hb d_Desk_reckon_16 (by decide) ?_
  refine q_cS (rest := []) E (c_Desk_needScalars l g (nD b) (nI a3) (nI 1) (okS_of (by decide) h3)) w_494 w_1 w_492 w_493 hd_Desk_needScalars rfl ⟨by decide, by decide⟩ trivial hF hl.1 rfl (Nat.le_of_ble_eq_true rfl) d_Desk_reckon_17 ⟨by decide, by decide⟩ (qv (fun H4 locs hq hF => ?_))
  have hq := hq.symm
  subst hq
  refine lv_iload_n hx hb d_Desk_reckon_20 rfl (lv_at hl 1 rfl) ?_
  refine lv_iconst (v := nI 3) hx hb d_Desk_reckon_21 (by decide) ?_
  refine lv_icmp_ne (tgt := 48) hx hb d_Desk_reckon_22 (by decide) (fun _ => ?_) (fun h9 => absurd h9 (by decide))
  refine lv_iload_n hx hb d_Desk_reckon_48 rfl (lv_at hl 1 rfl) ?_
  refine lv_if_ne (tgt := 81) hx hb d_Desk_reckon_49 (by decide) (fun h9 => absurd (rfl) h9) (fun _ => ?_)
  refine lv_aload_n hx hb d_Desk_reckon_52 rfl (lv_at hl 0 rfl) ?_
  refine q_get (C := "KateDesk") (T := T_Desk) (N := 16) (ci := 5) E (hk.ob hK hd.x.ob) in_Desk rfl 0 (by decide) w_339 rfl rfl d_Desk_reckon_53 ?_
  refine lv_aload_n hx hb d_Desk_reckon_56 rfl (lv_at hl 0 rfl) ?_
  refine q_get (C := "KateDesk") (T := T_Desk) (N := 16) (ci := 5) E (hk.ob hK hd.x.ob) in_Desk rfl 5 (by decide) w_344 rfl rfl d_Desk_reckon_57 ?_
  refine lv_iload_n hx hb d_Desk_reckon_60 rfl (lv_at hl 2 rfl) ?_
  refine q_aald (t := 4) E rfl rfl ((hk.rs hK hd.x.rs.nd).1) a rfl ha (by decide) d_Desk_reckon_61 ?_
  refine lv_aload_n hx hb d_Desk_reckon_62 rfl (lv_at hl 0 rfl) ?_
  refine q_get (C := "KateDesk") (T := T_Desk) (N := 16) (ci := 5) E (hk.ob hK hd.x.ob) in_Desk rfl 5 (by decide) w_344 rfl rfl d_Desk_reckon_63 ?_
  refine lv_iload_n hx hb d_Desk_reckon_66 rfl (lv_at hl 3 rfl) ?_
  refine q_aald (t := 4) E rfl rfl ((hk.rs hK hd.x.rs.nd).1) a2 rfl h2 (by decide) d_Desk_reckon_67 ?_
  refine lv_aload_n hx hb d_Desk_reckon_68 rfl (lv_at hl 0 rfl) ?_
  refine q_get (C := "KateDesk") (T := T_Desk) (N := 16) (ci := 5) E (hk.ob hK hd.x.ob) in_Desk rfl 5 (by decide) w_344 rfl rfl d_Desk_reckon_69 ?_
  refine lv_iload hx hb d_Desk_reckon_72 (lv_at hl 4 rfl) ?_
  refine q_aald (t := 4) E rfl rfl ((hk.rs hK hd.x.rs.nd).1) a3 rfl h3 (by decide) d_Desk_reckon_74 ?_
  obtain ⟨fs1, as1, vs1, rs1⟩ := hsa a2 h2
  obtain ⟨fs2, as2, vs2, rs2⟩ := hsa a3 h3
  refine q_cV (rest := []) E (V_Field_add l g (nD b) (b + 162) (kSc b a) (kSc b a2) (kSc b a3) (kFr b) mr fs1 fs2 kR (A a2) (A a3) RI vs1 vs2 kR_rv rs1 rs2 (show b + 168 ≠ kSc b a by unfold kSc; omega) RI_2) w_157 w_4 w_565 w_155 w_156 hd_Field_add rfl ⟨by decide, by decide⟩ (OB.recv E.2.2.2.2.2 (by rfl) ((hk.fd hK hd.x.fr.nd).1)) (⟨hk.fd hK hd.x.fr.nd, ((hk.rs hK hd.x.rs.nd).2 a ha), as1, as2, (hcr.kj hk kSW_C).1⟩) hF hl.1 rfl (Nat.le_of_ble_eq_true rfl) d_Desk_reckon_75 ⟨by decide, by decide⟩ (qv (fun H5 locs hq hF => ?_))
  obtain ⟨hq, g3, hN, vN⟩ := hq
  rw [add_m ⟨vs1.nn, rs1⟩ ⟨vs2.nn, rs2⟩] at vN
  have hsa := hsa.set hq hN vN (rm_r _).2
  have hk := hk.tr (hq.mono (sw_sc ha))
  refine lv_goto (tgt := 176) hx hb d_Desk_reckon_78 (by decide) ?_
  exact q_vret E hr hlk (⟨rfl, DSS.of hd hK hk, (hcr.kj hk kSW_C), hsa⟩) hF d_Desk_reckon_176
set_option maxHeartbeats 4000000 in
set_option maxRecDepth 100000 in
theorem R_Desk_reckon1 (l : Launch) (g : WG) (b pn tn wn : Nat) (mr mq : Int64) (hmr : mr = 268435455) (A : Nat → Int) (a a2 a3 : Nat) (ha : a < 32) (h2 : a2 < 32) (h3 : a3 < 32) : Ctr l y_Desk_reckon (.code y_Desk_reckon prog_1_method_6_code 5 none) 4 182 0 0 (nD b) g [.ref b, .int (nI 1), .int (nI a), .int (nI a2), .int (nI a3)] (fun H => DS g H H b pn tn wn mr mq ∧ CR g H b ∧ SCA g H b A) (QV (fun H H' => DSS g H H' b pn tn wn mr mq ∧ CR g H' b ∧ SCA g H' b (updI A a (rkV 1 (A a2) (A a3))))) := by
  refine ctr_mk l (lv0 := [(0, .ref b), (1, .int (nI 1)), (2, .int (nI a)), (3, .int (nI a2)), (4, .int (nI a3))]) (by decide) (Nat.le_of_ble_eq_true rfl) rfl ?_
  intro p e s m below meth c ls E hr hlk hnm hl hP
  have hx := E.1
  have hb := E.2.1
  have hK := E.2.2.2.2.2
  have hF : ∀ q ∈ ([] : List Loc), nD b q.base := fun q hq => absurd hq List.not_mem_nil
  obtain ⟨hd, hcr, hsa⟩ := hP
  have hk : KJ g (kSW b) s.heap s.heap := KJ.rf
  refine lv_iload_n hx hb d_Desk_reckon_0 rfl (lv_at hl 1 rfl) ?_
  refine q_cS (rest := []) E (c_Desk_needKind l g (nD b) (nI 1) (⟨by decide, by decide⟩)) w_544 w_1 w_542 w_543 hd_Desk_needKind rfl ⟨by decide, by decide⟩ trivial hF hl.1 rfl (Nat.le_of_ble_eq_true rfl) d_Desk_reckon_1 ⟨by decide, by decide⟩ (qv (fun H1 locs hq hF => ?_))
  have hq := hq.symm
  subst hq
  refine lv_iload_n hx hb d_Desk_reckon_4 rfl (lv_at hl 2 rfl) ?_
  refine lv_iconst (v := nI 1) hx hb d_Desk_reckon_5 (by decide) ?_
  refine q_cS (rest := []) E (c_Desk_needScalars l g (nD b) (nI a) (nI 1) (okS_of (by decide) ha)) w_494 w_1 w_492 w_493 hd_Desk_needScalars rfl ⟨by decide, by decide⟩ trivial hF hl.1 rfl (Nat.le_of_ble_eq_true rfl) d_Desk_reckon_6 ⟨by decide, by decide⟩ (qv (fun H2 locs hq hF => ?_))
  have hq := hq.symm
  subst hq
  refine lv_iload_n hx hb d_Desk_reckon_9 rfl (lv_at hl 3 rfl) ?_
  refine lv_iconst (v := nI 1) hx hb d_Desk_reckon_10 (by decide) ?_
  refine q_cS (rest := []) E (c_Desk_needScalars l g (nD b) (nI a2) (nI 1) (okS_of (by decide) h2)) w_494 w_1 w_492 w_493 hd_Desk_needScalars rfl ⟨by decide, by decide⟩ trivial hF hl.1 rfl (Nat.le_of_ble_eq_true rfl) d_Desk_reckon_11 ⟨by decide, by decide⟩ (qv (fun H3 locs hq hF => ?_))
  have hq := hq.symm
  subst hq
  refine lv_iload hx hb d_Desk_reckon_14 (lv_at hl 4 rfl) ?_
  refine lv_iconst (v := nI 1) hx hb d_Desk_reckon_16 (by decide) ?_
  refine q_cS (rest := []) E (c_Desk_needScalars l g (nD b) (nI a3) (nI 1) (okS_of (by decide) h3)) w_494 w_1 w_492 w_493 hd_Desk_needScalars rfl ⟨by decide, by decide⟩ trivial hF hl.1 rfl (Nat.le_of_ble_eq_true rfl) d_Desk_reckon_17 ⟨by decide, by decide⟩ (qv (fun H4 locs hq hF => ?_))
  have hq := hq.symm
  subst hq
  refine lv_iload_n hx hb d_Desk_reckon_20 rfl (lv_at hl 1 rfl) ?_
  refine lv_iconst (v := nI 3) hx hb d_Desk_reckon_21 (by decide) ?_
  refine lv_icmp_ne (tgt := 48) hx hb d_Desk_reckon_22 (by decide) (fun _ => ?_) (fun h9 => absurd h9 (by decide))
  refine lv_iload_n hx hb d_Desk_reckon_48 rfl (lv_at hl 1 rfl) ?_
  refine lv_if_ne (tgt := 81) hx hb d_Desk_reckon_49 (by decide) (fun _ => ?_) (fun h9 => absurd h9 (by decide))
  refine lv_iload_n hx hb d_Desk_reckon_81 rfl (lv_at hl 1 rfl) ?_
  refine lv_iconst (v := nI 1) hx hb d_Desk_reckon_82 (by decide) ?_
  refine lv_icmp_ne (tgt := 115) hx hb d_Desk_reckon_83 (by decide) (fun h9 => absurd (rfl) h9) (fun _ => ?_)
  refine lv_aload_n hx hb d_Desk_reckon_86 rfl (lv_at hl 0 rfl) ?_
  refine q_get (C := "KateDesk") (T := T_Desk) (N := 16) (ci := 5) E (hk.ob hK hd.x.ob) in_Desk rfl 0 (by decide) w_339 rfl rfl d_Desk_reckon_87 ?_
  refine lv_aload_n hx hb d_Desk_reckon_90 rfl (lv_at hl 0 rfl) ?_
  refine q_get (C := "KateDesk") (T := T_Desk) (N := 16) (ci := 5) E (hk.ob hK hd.x.ob) in_Desk rfl 5 (by decide) w_344 rfl rfl d_Desk_reckon_91 ?_
  refine lv_iload_n hx hb d_Desk_reckon_94 rfl (lv_at hl 2 rfl) ?_
  refine q_aald (t := 4) E rfl rfl ((hk.rs hK hd.x.rs.nd).1) a rfl ha (by decide) d_Desk_reckon_95 ?_
  refine lv_aload_n hx hb d_Desk_reckon_96 rfl (lv_at hl 0 rfl) ?_
  refine q_get (C := "KateDesk") (T := T_Desk) (N := 16) (ci := 5) E (hk.ob hK hd.x.ob) in_Desk rfl 5 (by decide) w_344 rfl rfl d_Desk_reckon_97 ?_
  refine lv_iload_n hx hb d_Desk_reckon_100 rfl (lv_at hl 3 rfl) ?_
  refine q_aald (t := 4) E rfl rfl ((hk.rs hK hd.x.rs.nd).1) a2 rfl h2 (by decide) d_Desk_reckon_101 ?_
  refine lv_aload_n hx hb d_Desk_reckon_102 rfl (lv_at hl 0 rfl) ?_
  refine q_get (C := "KateDesk") (T := T_Desk) (N := 16) (ci := 5) E (hk.ob hK hd.x.ob) in_Desk rfl 5 (by decide) w_344 rfl rfl d_Desk_reckon_103 ?_
  refine lv_iload hx hb d_Desk_reckon_106 (lv_at hl 4 rfl) ?_
  refine q_aald (t := 4) E rfl rfl ((hk.rs hK hd.x.rs.nd).1) a3 rfl h3 (by decide) d_Desk_reckon_108 ?_
  obtain ⟨fs1, as1, vs1, rs1⟩ := hsa a2 h2
  obtain ⟨fs2, as2, vs2, rs2⟩ := hsa a3 h3
  refine q_cV (rest := []) E (V_Field_subtract l g (nD b) (b + 162) (kSc b a) (kSc b a2) (kSc b a3) (kFr b) mr fs1 fs2 kR (A a2) (A a3) RI vs1 vs2 kR_rv rs1 rs2 (show b + 168 ≠ kSc b a by unfold kSc; omega)) w_169 w_4 w_566 w_167 w_168 hd_Field_subtract rfl ⟨by decide, by decide⟩ (OB.recv E.2.2.2.2.2 (by rfl) ((hk.fd hK hd.x.fr.nd).1)) (⟨hk.fd hK hd.x.fr.nd, ((hk.rs hK hd.x.rs.nd).2 a ha), as1, as2, (hcr.kj hk kSW_C).1⟩) hF hl.1 rfl (Nat.le_of_ble_eq_true rfl) d_Desk_reckon_109 ⟨by decide, by decide⟩ (qv (fun H5 locs hq hF => ?_))
  obtain ⟨hq, g3, hN, vN⟩ := hq
  rw [sub_m ⟨vs1.nn, rs1⟩ ⟨vs2.nn, rs2⟩] at vN
  have hsa := hsa.set hq hN vN (rm_r _).2
  have hk := hk.tr (hq.mono (sw_sc ha))
  refine lv_goto (tgt := 176) hx hb d_Desk_reckon_112 (by decide) ?_
  exact q_vret E hr hlk (⟨rfl, DSS.of hd hK hk, (hcr.kj hk kSW_C), hsa⟩) hF d_Desk_reckon_176
set_option maxHeartbeats 4000000 in
set_option maxRecDepth 100000 in
theorem R_Desk_reckon2 (l : Launch) (g : WG) (b pn tn wn : Nat) (mr mq : Int64) (hmr : mr = 268435455) (A : Nat → Int) (a a2 a3 : Nat) (ha : a < 32) (h2 : a2 < 32) (h3 : a3 < 32) : Ctr l y_Desk_reckon (.code y_Desk_reckon prog_1_method_6_code 5 none) 4 182 0 0 (nD b) g [.ref b, .int (nI 2), .int (nI a), .int (nI a2), .int (nI a3)] (fun H => DS g H H b pn tn wn mr mq ∧ CR g H b ∧ SCA g H b A) (QV (fun H H' => DSS g H H' b pn tn wn mr mq ∧ CR g H' b ∧ SCA g H' b (updI A a (rkV 2 (A a2) (A a3))))) := by
  refine ctr_mk l (lv0 := [(0, .ref b), (1, .int (nI 2)), (2, .int (nI a)), (3, .int (nI a2)), (4, .int (nI a3))]) (by decide) (Nat.le_of_ble_eq_true rfl) rfl ?_
  intro p e s m below meth c ls E hr hlk hnm hl hP
  have hx := E.1
  have hb := E.2.1
  have hK := E.2.2.2.2.2
  have hF : ∀ q ∈ ([] : List Loc), nD b q.base := fun q hq => absurd hq List.not_mem_nil
  obtain ⟨hd, hcr, hsa⟩ := hP
  have hk : KJ g (kSW b) s.heap s.heap := KJ.rf
  refine lv_iload_n hx hb d_Desk_reckon_0 rfl (lv_at hl 1 rfl) ?_
  refine q_cS (rest := []) E (c_Desk_needKind l g (nD b) (nI 2) (⟨by decide, by decide⟩)) w_544 w_1 w_542 w_543 hd_Desk_needKind rfl ⟨by decide, by decide⟩ trivial hF hl.1 rfl (Nat.le_of_ble_eq_true rfl) d_Desk_reckon_1 ⟨by decide, by decide⟩ (qv (fun H1 locs hq hF => ?_))
  have hq := hq.symm
  subst hq
  refine lv_iload_n hx hb d_Desk_reckon_4 rfl (lv_at hl 2 rfl) ?_
  refine lv_iconst (v := nI 1) hx hb d_Desk_reckon_5 (by decide) ?_
  refine q_cS (rest := []) E (c_Desk_needScalars l g (nD b) (nI a) (nI 1) (okS_of (by decide) ha)) w_494 w_1 w_492 w_493 hd_Desk_needScalars rfl ⟨by decide, by decide⟩ trivial hF hl.1 rfl (Nat.le_of_ble_eq_true rfl) d_Desk_reckon_6 ⟨by decide, by decide⟩ (qv (fun H2 locs hq hF => ?_))
  have hq := hq.symm
  subst hq
  refine lv_iload_n hx hb d_Desk_reckon_9 rfl (lv_at hl 3 rfl) ?_
  refine lv_iconst (v := nI 1) hx hb d_Desk_reckon_10 (by decide) ?_
  refine q_cS (rest := []) E (c_Desk_needScalars l g (nD b) (nI a2) (nI 1) (okS_of (by decide) h2)) w_494 w_1 w_492 w_493 hd_Desk_needScalars rfl ⟨by decide, by decide⟩ trivial hF hl.1 rfl (Nat.le_of_ble_eq_true rfl) d_Desk_reckon_11 ⟨by decide, by decide⟩ (qv (fun H3 locs hq hF => ?_))
  have hq := hq.symm
  subst hq
  refine lv_iload hx hb d_Desk_reckon_14 (lv_at hl 4 rfl) ?_
  refine lv_iconst (v := nI 1) hx hb d_Desk_reckon_16 (by decide) ?_
  refine q_cS (rest := []) E (c_Desk_needScalars l g (nD b) (nI a3) (nI 1) (okS_of (by decide) h3)) w_494 w_1 w_492 w_493 hd_Desk_needScalars rfl ⟨by decide, by decide⟩ trivial hF hl.1 rfl (Nat.le_of_ble_eq_true rfl) d_Desk_reckon_17 ⟨by decide, by decide⟩ (qv (fun H4 locs hq hF => ?_))
  have hq := hq.symm
  subst hq
  refine lv_iload_n hx hb d_Desk_reckon_20 rfl (lv_at hl 1 rfl) ?_
  refine lv_iconst (v := nI 3) hx hb d_Desk_reckon_21 (by decide) ?_
  refine lv_icmp_ne (tgt := 48) hx hb d_Desk_reckon_22 (by decide) (fun _ => ?_) (fun h9 => absurd h9 (by decide))
  refine lv_iload_n hx hb d_Desk_reckon_48 rfl (lv_at hl 1 rfl) ?_
  refine lv_if_ne (tgt := 81) hx hb d_Desk_reckon_49 (by decide) (fun _ => ?_) (fun h9 => absurd h9 (by decide))
  refine lv_iload_n hx hb d_Desk_reckon_81 rfl (lv_at hl 1 rfl) ?_
  refine lv_iconst (v := nI 1) hx hb d_Desk_reckon_82 (by decide) ?_
  refine lv_icmp_ne (tgt := 115) hx hb d_Desk_reckon_83 (by decide) (fun _ => ?_) (fun h9 => absurd h9 (by decide))
  refine lv_aload_n hx hb d_Desk_reckon_115 rfl (lv_at hl 0 rfl) ?_
  refine q_get (C := "KateDesk") (T := T_Desk) (N := 16) (ci := 5) E (hk.ob hK hd.x.ob) in_Desk rfl 0 (by decide) w_339 rfl rfl d_Desk_reckon_116 ?_
  refine lv_aload_n hx hb d_Desk_reckon_119 rfl (lv_at hl 0 rfl) ?_
  refine q_get (C := "KateDesk") (T := T_Desk) (N := 16) (ci := 5) E (hk.ob hK hd.x.ob) in_Desk rfl 15 (by decide) w_354 rfl rfl d_Desk_reckon_120 ?_
  refine lv_aload_n hx hb d_Desk_reckon_123 rfl (lv_at hl 0 rfl) ?_
  refine q_get (C := "KateDesk") (T := T_Desk) (N := 16) (ci := 5) E (hk.ob hK hd.x.ob) in_Desk rfl 5 (by decide) w_344 rfl rfl d_Desk_reckon_124 ?_
  refine lv_iload hx hb d_Desk_reckon_127 (lv_at hl 4 rfl) ?_
  refine q_aald (t := 4) E rfl rfl ((hk.rs hK hd.x.rs.nd).1) a3 rfl h3 (by decide) d_Desk_reckon_129 ?_
  obtain ⟨fs1, as1, vs1, rs1⟩ := hsa a3 h3
  refine q_cV (rest := []) E (R_Field_lift l g (nD b) (b + 162) (b + 161) (kSc b a3) (kFr b) mr fs1 (A a3) vs1 rs1 (show b + 168 ≠ b + 161 by omega) hmr) w_302 w_4 w_336 w_300 w_301 hd_Field_lift rfl ⟨by decide, by decide⟩ (OB.recv E.2.2.2.2.2 (by rfl) ((hk.fd hK hd.x.fr.nd).1)) (⟨hk.fd hK hd.x.fr.nd, (hk.j hd.x.fa).nd, as1, (hcr.kj hk kSW_C).1, (hcr.kj hk kSW_C).2.2.2.1⟩) hF hl.1 rfl (Nat.le_of_ble_eq_true rfl) d_Desk_reckon_130 ⟨by decide, by decide⟩ (qv (fun H5 locs hq hF => ?_))
  obtain ⟨hq, g2, hN, vN⟩ := hq
  have hsa := hsa.kj hq (fun q h => by have h : q = b + 161 := h; omega)
  have hk := hk.tr (hq.mono sw_161)
  have h161 := hN
  have v161 := vN
  refine lv_iload_n hx hb d_Desk_reckon_133 rfl (lv_at hl 1 rfl) ?_
  refine lv_iconst (v := nI 3) hx hb d_Desk_reckon_134 (by decide) ?_
  refine lv_icmp_ne (tgt := 153) hx hb d_Desk_reckon_135 (by decide) (fun _ => ?_) (fun h9 => absurd h9 (by decide))
  refine lv_aload_n hx hb d_Desk_reckon_153 rfl (lv_at hl 0 rfl) ?_
  refine q_get (C := "KateDesk") (T := T_Desk) (N := 16) (ci := 5) E (hk.ob hK hd.x.ob) in_Desk rfl 0 (by decide) w_339 rfl rfl d_Desk_reckon_154 ?_
  refine lv_aload_n hx hb d_Desk_reckon_157 rfl (lv_at hl 0 rfl) ?_
  refine q_get (C := "KateDesk") (T := T_Desk) (N := 16) (ci := 5) E (hk.ob hK hd.x.ob) in_Desk rfl 5 (by decide) w_344 rfl rfl d_Desk_reckon_158 ?_
  refine lv_iload_n hx hb d_Desk_reckon_161 rfl (lv_at hl 2 rfl) ?_
  refine q_aald (t := 4) E rfl rfl ((hk.rs hK hd.x.rs.nd).1) a rfl ha (by decide) d_Desk_reckon_162 ?_
  refine lv_aload_n hx hb d_Desk_reckon_163 rfl (lv_at hl 0 rfl) ?_
  refine q_get (C := "KateDesk") (T := T_Desk) (N := 16) (ci := 5) E (hk.ob hK hd.x.ob) in_Desk rfl 5 (by decide) w_344 rfl rfl d_Desk_reckon_164 ?_
  refine lv_iload_n hx hb d_Desk_reckon_167 rfl (lv_at hl 3 rfl) ?_
  refine q_aald (t := 4) E rfl rfl ((hk.rs hK hd.x.rs.nd).1) a2 rfl h2 (by decide) d_Desk_reckon_168 ?_
  refine lv_aload_n hx hb d_Desk_reckon_169 rfl (lv_at hl 0 rfl) ?_
  refine q_get (C := "KateDesk") (T := T_Desk) (N := 16) (ci := 5) E (hk.ob hK hd.x.ob) in_Desk rfl 15 (by decide) w_354 rfl rfl d_Desk_reckon_170 ?_
  obtain ⟨fs3, as3, vs3, rs3⟩ := hsa a2 h2
  refine q_cV (rest := []) E (R_Field_multiply l g (nD b) (b + 162) (kSc b a) (kSc b a2) (b + 161) (kFr b) mr fs3 g2 (A a2) (((A a3) * WR) % RI) vs3 v161 rs3 ((rm_r _).2) (show b + 168 ≠ kSc b a by unfold kSc; omega) hmr) w_165 w_4 w_576 w_163 w_164 hd_Field_multiply rfl ⟨by decide, by decide⟩ (OB.recv E.2.2.2.2.2 (by rfl) ((hk.fd hK hd.x.fr.nd).1)) (⟨hk.fd hK hd.x.fr.nd, ((hk.rs hK hd.x.rs.nd).2 a ha), as3, h161, (hcr.kj hk kSW_C).1⟩) hF hl.1 rfl (Nat.le_of_ble_eq_true rfl) d_Desk_reckon_173 ⟨by decide, by decide⟩ (qv (fun H6 locs hq hF => ?_))
  obtain ⟨hq, g4, hN, vN⟩ := hq
  rw [lz_mul] at vN
  have h161 := hq.ajo (show ¬ b + 161 = kSc b a by unfold kSc; omega) h161
  have hsa := hsa.set hq hN vN (rm_r _).2
  have hk := hk.tr (hq.mono (sw_sc ha))
  exact q_vret E hr hlk (⟨rfl, DSS.of hd hK hk, (hcr.kj hk kSW_C), hsa⟩) hF d_Desk_reckon_176
set_option maxHeartbeats 4000000 in
set_option maxRecDepth 100000 in
theorem R_Desk_reckon3 (l : Launch) (g : WG) (b pn tn wn : Nat) (mr mq : Int64) (hmr : mr = 268435455) (A : Nat → Int) (a a2 a3 : Nat) (ha : a < 32) (h2 : a2 < 32) (h3 : a3 < 32) (hnz : A a3 ≠ 0) : Ctr l y_Desk_reckon (.code y_Desk_reckon prog_1_method_6_code 5 none) 4 182 0 0 (nD b) g [.ref b, .int (nI 3), .int (nI a), .int (nI a2), .int (nI a3)] (fun H => DS g H H b pn tn wn mr mq ∧ CR g H b ∧ SCA g H b A) (QV (fun H H' => DSS g H H' b pn tn wn mr mq ∧ CR g H' b ∧ SCA g H' b (updI A a (rkV 3 (A a2) (A a3))))) := by
  refine ctr_mk l (lv0 := [(0, .ref b), (1, .int (nI 3)), (2, .int (nI a)), (3, .int (nI a2)), (4, .int (nI a3))]) (by decide) (Nat.le_of_ble_eq_true rfl) rfl ?_
  intro p e s m below meth c ls E hr hlk hnm hl hP
  have hx := E.1
  have hb := E.2.1
  have hK := E.2.2.2.2.2
  have hF : ∀ q ∈ ([] : List Loc), nD b q.base := fun q hq => absurd hq List.not_mem_nil
  obtain ⟨hd, hcr, hsa⟩ := hP
  have hk : KJ g (kSW b) s.heap s.heap := KJ.rf
  refine lv_iload_n hx hb d_Desk_reckon_0 rfl (lv_at hl 1 rfl) ?_
  refine q_cS (rest := []) E (c_Desk_needKind l g (nD b) (nI 3) (⟨by decide, by decide⟩)) w_544 w_1 w_542 w_543 hd_Desk_needKind rfl ⟨by decide, by decide⟩ trivial hF hl.1 rfl (Nat.le_of_ble_eq_true rfl) d_Desk_reckon_1 ⟨by decide, by decide⟩ (qv (fun H1 locs hq hF => ?_))
  have hq := hq.symm
  subst hq
  refine lv_iload_n hx hb d_Desk_reckon_4 rfl (lv_at hl 2 rfl) ?_
  refine lv_iconst (v := nI 1) hx hb d_Desk_reckon_5 (by decide) ?_
  refine q_cS (rest := []) E (c_Desk_needScalars l g (nD b) (nI a) (nI 1) (okS_of (by decide) ha)) w_494 w_1 w_492 w_493 hd_Desk_needScalars rfl ⟨by decide, by decide⟩ trivial hF hl.1 rfl (Nat.le_of_ble_eq_true rfl) d_Desk_reckon_6 ⟨by decide, by decide⟩ (qv (fun H2 locs hq hF => ?_))
  have hq := hq.symm
  subst hq
  refine lv_iload_n hx hb d_Desk_reckon_9 rfl (lv_at hl 3 rfl) ?_
  refine lv_iconst (v := nI 1) hx hb d_Desk_reckon_10 (by decide) ?_
  refine q_cS (rest := []) E (c_Desk_needScalars l g (nD b) (nI a2) (nI 1) (okS_of (by decide) h2)) w_494 w_1 w_492 w_493 hd_Desk_needScalars rfl ⟨by decide, by decide⟩ trivial hF hl.1 rfl (Nat.le_of_ble_eq_true rfl) d_Desk_reckon_11 ⟨by decide, by decide⟩ (qv (fun H3 locs hq hF => ?_))
  have hq := hq.symm
  subst hq
  refine lv_iload hx hb d_Desk_reckon_14 (lv_at hl 4 rfl) ?_
  refine lv_iconst (v := nI 1) hx hb d_Desk_reckon_16 (by decide) ?_
  refine q_cS (rest := []) E (c_Desk_needScalars l g (nD b) (nI a3) (nI 1) (okS_of (by decide) h3)) w_494 w_1 w_492 w_493 hd_Desk_needScalars rfl ⟨by decide, by decide⟩ trivial hF hl.1 rfl (Nat.le_of_ble_eq_true rfl) d_Desk_reckon_17 ⟨by decide, by decide⟩ (qv (fun H4 locs hq hF => ?_))
  have hq := hq.symm
  subst hq
  refine lv_iload_n hx hb d_Desk_reckon_20 rfl (lv_at hl 1 rfl) ?_
  refine lv_iconst (v := nI 3) hx hb d_Desk_reckon_21 (by decide) ?_
  refine lv_icmp_ne (tgt := 48) hx hb d_Desk_reckon_22 (by decide) (fun h9 => absurd (rfl) h9) (fun _ => ?_)
  refine lv_aload_n hx hb d_Desk_reckon_25 rfl (lv_at hl 0 rfl) ?_
  refine q_get (C := "KateDesk") (T := T_Desk) (N := 16) (ci := 5) E (hk.ob hK hd.x.ob) in_Desk rfl 5 (by decide) w_344 rfl rfl d_Desk_reckon_26 ?_
  refine lv_iload hx hb d_Desk_reckon_29 (lv_at hl 4 rfl) ?_
  refine q_aald (t := 4) E rfl rfl ((hk.rs hK hd.x.rs.nd).1) a3 rfl h3 (by decide) d_Desk_reckon_31 ?_
  obtain ⟨fs1, as1, vs1, rs1⟩ := hsa a3 h3
  refine q_cS (rest := []) E (V_Limbs_isZero l g (nD b) (kSc b a3) fs1 (A a3) vs1) w_548 w_5 w_546 w_547 hd_Limbs_isZero rfl ⟨by decide, by decide⟩ as1 hF hl.1 rfl (Nat.le_of_ble_eq_true rfl) d_Desk_reckon_32 ⟨by decide, by decide⟩ (qi (fun rz H5 locs hq hF => ?_))
  obtain ⟨hrz, hq⟩ := hq
  obtain rfl : rz = 0 := hrz.elim (fun h => absurd h.2 hnz) (fun h => h.1)
  have hq := hq.symm
  subst hq
  refine lv_if_eq (tgt := 48) hx hb d_Desk_reckon_35 (by decide) (fun _ => ?_) (fun h9 => absurd (rfl) h9)
  refine lv_iload_n hx hb d_Desk_reckon_48 rfl (lv_at hl 1 rfl) ?_
  refine lv_if_ne (tgt := 81) hx hb d_Desk_reckon_49 (by decide) (fun _ => ?_) (fun h9 => absurd h9 (by decide))
  refine lv_iload_n hx hb d_Desk_reckon_81 rfl (lv_at hl 1 rfl) ?_
  refine lv_iconst (v := nI 1) hx hb d_Desk_reckon_82 (by decide) ?_
  refine lv_icmp_ne (tgt := 115) hx hb d_Desk_reckon_83 (by decide) (fun _ => ?_) (fun h9 => absurd h9 (by decide))
  refine lv_aload_n hx hb d_Desk_reckon_115 rfl (lv_at hl 0 rfl) ?_
  refine q_get (C := "KateDesk") (T := T_Desk) (N := 16) (ci := 5) E (hk.ob hK hd.x.ob) in_Desk rfl 0 (by decide) w_339 rfl rfl d_Desk_reckon_116 ?_
  refine lv_aload_n hx hb d_Desk_reckon_119 rfl (lv_at hl 0 rfl) ?_
  refine q_get (C := "KateDesk") (T := T_Desk) (N := 16) (ci := 5) E (hk.ob hK hd.x.ob) in_Desk rfl 15 (by decide) w_354 rfl rfl d_Desk_reckon_120 ?_
  refine lv_aload_n hx hb d_Desk_reckon_123 rfl (lv_at hl 0 rfl) ?_
  refine q_get (C := "KateDesk") (T := T_Desk) (N := 16) (ci := 5) E (hk.ob hK hd.x.ob) in_Desk rfl 5 (by decide) w_344 rfl rfl d_Desk_reckon_124 ?_
  refine lv_iload hx hb d_Desk_reckon_127 (lv_at hl 4 rfl) ?_
  refine q_aald (t := 4) E rfl rfl ((hk.rs hK hd.x.rs.nd).1) a3 rfl h3 (by decide) d_Desk_reckon_129 ?_
  obtain ⟨fs2, as2, vs2, rs2⟩ := hsa a3 h3
  refine q_cV (rest := []) E (R_Field_lift l g (nD b) (b + 162) (b + 161) (kSc b a3) (kFr b) mr fs2 (A a3) vs2 rs2 (show b + 168 ≠ b + 161 by omega) hmr) w_302 w_4 w_336 w_300 w_301 hd_Field_lift rfl ⟨by decide, by decide⟩ (OB.recv E.2.2.2.2.2 (by rfl) ((hk.fd hK hd.x.fr.nd).1)) (⟨hk.fd hK hd.x.fr.nd, (hk.j hd.x.fa).nd, as2, (hcr.kj hk kSW_C).1, (hcr.kj hk kSW_C).2.2.2.1⟩) hF hl.1 rfl (Nat.le_of_ble_eq_true rfl) d_Desk_reckon_130 ⟨by decide, by decide⟩ (qv (fun H6 locs hq hF => ?_))
  obtain ⟨hq, g3, hN, vN⟩ := hq
  have hsa := hsa.kj hq (fun q h => by have h : q = b + 161 := h; omega)
  have hk := hk.tr (hq.mono sw_161)
  have h161 := hN
  have v161 := vN
  refine lv_iload_n hx hb d_Desk_reckon_133 rfl (lv_at hl 1 rfl) ?_
  refine lv_iconst (v := nI 3) hx hb d_Desk_reckon_134 (by decide) ?_
  refine lv_icmp_ne (tgt := 153) hx hb d_Desk_reckon_135 (by decide) (fun h9 => absurd (rfl) h9) (fun _ => ?_)
  refine lv_aload_n hx hb d_Desk_reckon_138 rfl (lv_at hl 0 rfl) ?_
  refine q_get (C := "KateDesk") (T := T_Desk) (N := 16) (ci := 5) E (hk.ob hK hd.x.ob) in_Desk rfl 0 (by decide) w_339 rfl rfl d_Desk_reckon_139 ?_
  refine lv_aload_n hx hb d_Desk_reckon_142 rfl (lv_at hl 0 rfl) ?_
  refine q_get (C := "KateDesk") (T := T_Desk) (N := 16) (ci := 5) E (hk.ob hK hd.x.ob) in_Desk rfl 15 (by decide) w_354 rfl rfl d_Desk_reckon_143 ?_
  refine lv_aload_n hx hb d_Desk_reckon_146 rfl (lv_at hl 0 rfl) ?_
  refine q_get (C := "KateDesk") (T := T_Desk) (N := 16) (ci := 5) E (hk.ob hK hd.x.ob) in_Desk rfl 15 (by decide) w_354 rfl rfl d_Desk_reckon_147 ?_
  refine q_cV (rest := []) E (R_Field_invert l g (nD b) b mr hmr (b + 161) (b + 161) g3 (A a3) v161 (Or.inl rfl)) w_570 w_4 w_567 w_568 w_569 hd_Field_invert rfl ⟨by decide, by decide⟩ (OB.recv E.2.2.2.2.2 (by rfl) ((hk.fd hK hd.x.fr.nd).1)) (⟨hk.fd hK hd.x.fr.nd, (hk.j hd.x.fa).nd, h161, (hcr.kj hk kSW_C)⟩) hF hl.1 rfl (Nat.le_of_ble_eq_true rfl) d_Desk_reckon_150 ⟨by decide, by decide⟩ (qv (fun H7 locs hq hF => ?_))
  obtain ⟨hq, g4, hN, vN⟩ := hq
  have hsa := hsa.kj hq (fun q h => by have h : q = b + 161 ∨ q = b + 167 := h; omega)
  have hk := hk.tr (hq.mono sw_r5)
  have h161 := hN
  have v161 := vN
  refine lv_aload_n hx hb d_Desk_reckon_153 rfl (lv_at hl 0 rfl) ?_
  refine q_get (C := "KateDesk") (T := T_Desk) (N := 16) (ci := 5) E (hk.ob hK hd.x.ob) in_Desk rfl 0 (by decide) w_339 rfl rfl d_Desk_reckon_154 ?_
  refine lv_aload_n hx hb d_Desk_reckon_157 rfl (lv_at hl 0 rfl) ?_
  refine q_get (C := "KateDesk") (T := T_Desk) (N := 16) (ci := 5) E (hk.ob hK hd.x.ob) in_Desk rfl 5 (by decide) w_344 rfl rfl d_Desk_reckon_158 ?_
  refine lv_iload_n hx hb d_Desk_reckon_161 rfl (lv_at hl 2 rfl) ?_
  refine q_aald (t := 4) E rfl rfl ((hk.rs hK hd.x.rs.nd).1) a rfl ha (by decide) d_Desk_reckon_162 ?_
  refine lv_aload_n hx hb d_Desk_reckon_163 rfl (lv_at hl 0 rfl) ?_
  refine q_get (C := "KateDesk") (T := T_Desk) (N := 16) (ci := 5) E (hk.ob hK hd.x.ob) in_Desk rfl 5 (by decide) w_344 rfl rfl d_Desk_reckon_164 ?_
  refine lv_iload_n hx hb d_Desk_reckon_167 rfl (lv_at hl 3 rfl) ?_
  refine q_aald (t := 4) E rfl rfl ((hk.rs hK hd.x.rs.nd).1) a2 rfl h2 (by decide) d_Desk_reckon_168 ?_
  refine lv_aload_n hx hb d_Desk_reckon_169 rfl (lv_at hl 0 rfl) ?_
  refine q_get (C := "KateDesk") (T := T_Desk) (N := 16) (ci := 5) E (hk.ob hK hd.x.ob) in_Desk rfl 15 (by decide) w_354 rfl rfl d_Desk_reckon_170 ?_
  obtain ⟨fs5, as5, vs5, rs5⟩ := hsa a2 h2
  refine q_cV (rest := []) E (R_Field_multiply l g (nD b) (b + 162) (kSc b a) (kSc b a2) (b + 161) (kFr b) mr fs5 g4 (A a2) (((A a3) ^ (RN - 2) * WR) % RI) vs5 v161 rs5 ((rm_r _).2) (show b + 168 ≠ kSc b a by unfold kSc; omega) hmr) w_165 w_4 w_576 w_163 w_164 hd_Field_multiply rfl ⟨by decide, by decide⟩ (OB.recv E.2.2.2.2.2 (by rfl) ((hk.fd hK hd.x.fr.nd).1)) (⟨hk.fd hK hd.x.fr.nd, ((hk.rs hK hd.x.rs.nd).2 a ha), as5, h161, (hcr.kj hk kSW_C).1⟩) hF hl.1 rfl (Nat.le_of_ble_eq_true rfl) d_Desk_reckon_173 ⟨by decide, by decide⟩ (qv (fun H8 locs hq hF => ?_))
  obtain ⟨hq, g6, hN, vN⟩ := hq
  rw [lz_mul] at vN
  have h161 := hq.ajo (show ¬ b + 161 = kSc b a by unfold kSc; omega) h161
  have hsa := hsa.set hq hN vN (rm_r _).2
  have hk := hk.tr (hq.mono (sw_sc ha))
  have hsa := hsa.ext (A' := updI A a (rkV 3 (A a2) (A a3))) (fun k _ => by unfold updI rkV; split; (exact (cg_mul rfl (cg_m _)).symm); rfl)
  exact q_vret E hr hlk (⟨rfl, DSS.of hd hK hk, (hcr.kj hk kSW_C), hsa⟩) hF d_Desk_reckon_176
set_option maxHeartbeats 4000000 in
set_option maxRecDepth 100000 in
theorem R_Desk_open (l : Launch) (g : WG) (b pn tn wn : Nat) (mr mq : Int64) (hmr : mr = 268435455) (A : Nat → Int) (a n z y : Nat) (h1 : 1 ≤ n) (h16 : n ≤ 16) (ha : a + n ≤ 32) (hz : z < 32) (hy : y < 32) : Ctr l y_Desk_open (.code y_Desk_open prog_1_method_18_code 5 none) 3 161 0 0 (nD b) g [.ref b, .int (nI a), .int (nI n), .int (nI z), .int (nI y)] (fun H => DS g H H b pn tn wn mr mq ∧ CR g H b ∧ SCA g H b A) (QV (fun H H' => DSS g H H' b pn tn wn mr mq ∧ CR g H' b ∧ SCA g H' b (updI (dvA A a n (A z)) y (hvS A a (A z) n 0)))) := by
  refine ctr_mk l (lv0 := [(0, .ref b), (1, .int (nI a)), (2, .int (nI n)), (3, .int (nI z)), (4, .int (nI y))]) (by decide) (Nat.le_of_ble_eq_true rfl) rfl ?_
  intro p e s m below meth c ls E hr hlk hnm hl hP
  have hx := E.1
  have hb := E.2.1
  have hK := E.2.2.2.2.2
  have hF : ∀ q ∈ ([] : List Loc), nD b q.base := fun q hq => absurd hq List.not_mem_nil
  obtain ⟨hd, hcr, hsa⟩ := hP
  have hk : KJ g (kSW b) s.heap s.heap := KJ.rf
  refine lv_iload_n hx hb d_Desk_open_0 rfl (lv_at hl 2 rfl) ?_
  refine lv_iconst (v := nI 1) hx hb d_Desk_open_1 (by decide) ?_
  refine lv_bipush (v := nI 16) hx hb d_Desk_open_2 (by decide) ?_
  refine q_cS (rest := []) E (c_Desk_needCount l g (nD b) (nI n) (nI 1) (nI 16) (okC_of h1 h16 (by decide))) w_798 w_1 w_796 w_797 hd_Desk_needCount rfl ⟨by decide, by decide⟩ trivial hF hl.1 rfl (Nat.le_of_ble_eq_true rfl) d_Desk_open_4 ⟨by decide, by decide⟩ (qv (fun H1 locs hq hF => ?_))
  have hq := hq.symm
  subst hq
  refine lv_iload_n hx hb d_Desk_open_7 rfl (lv_at hl 1 rfl) ?_
  refine lv_iload_n hx hb d_Desk_open_8 rfl (lv_at hl 2 rfl) ?_
  refine q_cS (rest := []) E (c_Desk_needScalars l g (nD b) (nI a) (nI n) (okS_of h1 ha)) w_494 w_1 w_492 w_493 hd_Desk_needScalars rfl ⟨by decide, by decide⟩ trivial hF hl.1 rfl (Nat.le_of_ble_eq_true rfl) d_Desk_open_9 ⟨by decide, by decide⟩ (qv (fun H2 locs hq hF => ?_))
  have hq := hq.symm
  subst hq
  refine lv_iload_n hx hb d_Desk_open_12 rfl (lv_at hl 3 rfl) ?_
  refine lv_iconst (v := nI 1) hx hb d_Desk_open_13 (by decide) ?_
  refine q_cS (rest := []) E (c_Desk_needScalars l g (nD b) (nI z) (nI 1) (okS_of (by decide) hz)) w_494 w_1 w_492 w_493 hd_Desk_needScalars rfl ⟨by decide, by decide⟩ trivial hF hl.1 rfl (Nat.le_of_ble_eq_true rfl) d_Desk_open_14 ⟨by decide, by decide⟩ (qv (fun H3 locs hq hF => ?_))
  have hq := hq.symm
  subst hq
  refine lv_iload hx hb d_Desk_open_17 (lv_at hl 4 rfl) ?_
  refine lv_iconst (v := nI 1) hx hb d_Desk_open_19 (by decide) ?_
  refine q_cS (rest := []) E (c_Desk_needScalars l g (nD b) (nI y) (nI 1) (okS_of (by decide) hy)) w_494 w_1 w_492 w_493 hd_Desk_needScalars rfl ⟨by decide, by decide⟩ trivial hF hl.1 rfl (Nat.le_of_ble_eq_true rfl) d_Desk_open_20 ⟨by decide, by decide⟩ (qv (fun H4 locs hq hF => ?_))
  have hq := hq.symm
  subst hq
  refine lv_aload_n hx hb d_Desk_open_23 rfl (lv_at hl 0 rfl) ?_
  refine q_get (C := "KateDesk") (T := T_Desk) (N := 16) (ci := 5) E (hk.ob hK hd.x.ob) in_Desk rfl 0 (by decide) w_339 rfl rfl d_Desk_open_24 ?_
  refine lv_aload_n hx hb d_Desk_open_27 rfl (lv_at hl 0 rfl) ?_
  refine q_get (C := "KateDesk") (T := T_Desk) (N := 16) (ci := 5) E (hk.ob hK hd.x.ob) in_Desk rfl 15 (by decide) w_354 rfl rfl d_Desk_open_28 ?_
  refine lv_aload_n hx hb d_Desk_open_31 rfl (lv_at hl 0 rfl) ?_
  refine q_get (C := "KateDesk") (T := T_Desk) (N := 16) (ci := 5) E (hk.ob hK hd.x.ob) in_Desk rfl 5 (by decide) w_344 rfl rfl d_Desk_open_32 ?_
  refine lv_iload_n hx hb d_Desk_open_35 rfl (lv_at hl 3 rfl) ?_
  refine q_aald (t := 4) E rfl rfl ((hk.rs hK hd.x.rs.nd).1) z rfl hz (by decide) d_Desk_open_36 ?_
  obtain ⟨fs1, as1, vs1, rs1⟩ := hsa z hz
  refine q_cV (rest := []) E (R_Field_lift l g (nD b) (b + 162) (b + 161) (kSc b z) (kFr b) mr fs1 (A z) vs1 rs1 (show b + 168 ≠ b + 161 by omega) hmr) w_302 w_4 w_336 w_300 w_301 hd_Field_lift rfl ⟨by decide, by decide⟩ (OB.recv E.2.2.2.2.2 (by rfl) ((hk.fd hK hd.x.fr.nd).1)) (⟨hk.fd hK hd.x.fr.nd, (hk.j hd.x.fa).nd, as1, (hcr.kj hk kSW_C).1, (hcr.kj hk kSW_C).2.2.2.1⟩) hF hl.1 rfl (Nat.le_of_ble_eq_true rfl) d_Desk_open_37 ⟨by decide, by decide⟩ (qv (fun H5 locs hq hF => ?_))
  obtain ⟨hq, g2, hN, vN⟩ := hq
  have hsa := hsa.kj hq (fun q h => by have h : q = b + 161 := h; omega)
  have hk := hk.tr (hq.mono sw_161)
  have h161 := hN
  have v161 := vN
  refine lv_aload_n hx hb d_Desk_open_40 rfl (lv_at hl 0 rfl) ?_
  refine q_get (C := "KateDesk") (T := T_Desk) (N := 16) (ci := 5) E (hk.ob hK hd.x.ob) in_Desk rfl 4 (by decide) w_343 rfl rfl d_Desk_open_41 ?_
  refine lv_aload_n hx hb d_Desk_open_44 rfl (lv_at hl 0 rfl) ?_
  refine q_get (C := "KateDesk") (T := T_Desk) (N := 16) (ci := 5) E (hk.ob hK hd.x.ob) in_Desk rfl 14 (by decide) w_353 rfl rfl d_Desk_open_45 ?_
  refine lv_aload_n hx hb d_Desk_open_48 rfl (lv_at hl 0 rfl) ?_
  refine q_get (C := "KateDesk") (T := T_Desk) (N := 16) (ci := 5) E (hk.ob hK hd.x.ob) in_Desk rfl 5 (by decide) w_344 rfl rfl d_Desk_open_49 ?_
  refine lv_iload_n hx hb d_Desk_open_52 rfl (lv_at hl 1 rfl) ?_
  refine lv_iload_n hx hb d_Desk_open_53 rfl (lv_at hl 2 rfl) ?_
  refine lv_aload_n hx hb d_Desk_open_54 rfl (lv_at hl 0 rfl) ?_
  refine q_get (C := "KateDesk") (T := T_Desk) (N := 16) (ci := 5) E (hk.ob hK hd.x.ob) in_Desk rfl 15 (by decide) w_354 rfl rfl d_Desk_open_55 ?_
  refine q_cV (rest := []) E (R_Polys_divide l g (nD b) b mr hmr a n A (A z) g2 h1 ha v161) w_852 w_14 w_849 w_850 w_851 hd_Polys_divide rfl ⟨by decide, by decide⟩ (OB.recv E.2.2.2.2.2 (by rfl) ((hk.po hK hd.x.po.nd).1)) (⟨hk.po hK hd.x.po.nd, (hcr.kj hk kSW_C), (hk.j hd.x.hs).nd, hk.rs hK hd.x.rs.nd, hsa, h161⟩) hF hl.1 rfl (Nat.le_of_ble_eq_true rfl) d_Desk_open_58 ⟨by decide, by decide⟩ (qv (fun H6 locs hq hF => ?_))
  obtain ⟨hq, hsa, f160, h160, v160, r160⟩ := hq
  have hsa := hsa.ext (fun k _ => dv_all.1 k)
  rw [dv_all.2] at v160 r160
  have hk := hk.tr (hq.mono (fun q h => by have h : q = b + 477 ∨ q = b + 160 ∨ (b + 2 ≤ q ∧ q ≤ b + 33) := h; unfold kSW kW; omega))
  refine lv_aload_n hx hb d_Desk_open_61 rfl (lv_at hl 0 rfl) ?_
  refine q_get (C := "KateDesk") (T := T_Desk) (N := 16) (ci := 5) E (hk.ob hK hd.x.ob) in_Desk rfl 5 (by decide) w_344 rfl rfl d_Desk_open_62 ?_
  refine lv_iload hx hb d_Desk_open_65 (lv_at hl 4 rfl) ?_
  refine q_aald (t := 4) E rfl rfl ((hk.rs hK hd.x.rs.nd).1) y rfl hy (by decide) d_Desk_open_67 ?_
  refine lv_aload_n hx hb d_Desk_open_68 rfl (lv_at hl 0 rfl) ?_
  refine q_get (C := "KateDesk") (T := T_Desk) (N := 16) (ci := 5) E (hk.ob hK hd.x.ob) in_Desk rfl 14 (by decide) w_353 rfl rfl d_Desk_open_69 ?_
  refine q_cS (rest := []) E (c_Limbs_copy l g (nD b) (kSc b y) (b + 160) f160) w_146 w_5 w_338 w_145 hd_Limbs_copy rfl ⟨by decide, by decide⟩ (⟨(hk.rs hK hd.x.rs.nd).2 y hy, h160⟩) hF hl.1 rfl (Nat.le_of_ble_eq_true rfl) d_Desk_open_72 ⟨by decide, by decide⟩ (qv (fun H7 locs hq hF => ?_))
  obtain ⟨hq, hN⟩ := hq
  have hsa := hsa.set hq hN v160 r160
  have hk := hk.tr (hq.mono (sw_sc hy))
  exact q_vret E hr hlk (⟨rfl, DSS.of hd hK hk, (hcr.kj hk kSW_C), hsa⟩) hF d_Desk_open_75
set_option maxHeartbeats 4000000 in
set_option maxRecDepth 100000 in
theorem R_Desk_transform0 (l : Launch) (g : WG) (b pn tn wn : Nat) (mr mq : Int64) (hmr : mr = 268435455) (A : Nat → Int) (a k : Nat) (bk : Int32) (hbk : bk = 0) (hk5 : k < 5) (ha : a + 2 ^ k ≤ 32) : Ctr l y_Desk_transform (.code y_Desk_transform prog_1_method_20_code 4 none) 7 233 0 0 (nD b) g [.ref b, .int (nI a), .int (nI k), .int bk] (fun H => DS g H H b pn tn wn mr mq ∧ CR g H b ∧ SCA g H b A) (QV (fun H H' => DSS g H H' b pn tn wn mr mq ∧ CR g H' b ∧ SCA g H' b (evA A a k (2 ^ k)))) := by
  refine ctr_mk l (lv0 := [(0, .ref b), (1, .int (nI a)), (2, .int (nI k)), (3, .int bk)]) (by decide) (Nat.le_of_ble_eq_true rfl) rfl ?_
  intro p e s m below meth c ls E hr hlk hnm hl hP
  have hx := E.1
  have hb := E.2.1
  have hK := E.2.2.2.2.2
  have hF : ∀ q ∈ ([] : List Loc), nD b q.base := fun q hq => absurd hq List.not_mem_nil
  obtain ⟨hd, hcr, hsa⟩ := hP
  have hk : KJ g (kSW b) s.heap s.heap := KJ.rf
  refine lv_iload_n hx hb d_Desk_transform_0 rfl (lv_at hl 2 rfl) ?_
  refine lv_iconst (v := nI 0) hx hb d_Desk_transform_1 (by decide) ?_
  refine lv_iconst (v := nI 4) hx hb d_Desk_transform_2 (by decide) ?_
  refine q_cS (rest := []) E (c_Desk_needCount l g (nD b) (nI k) (nI 0) (nI 4) (okC_of (Nat.zero_le _) (Nat.le_of_lt_succ hk5) (by decide))) w_798 w_1 w_796 w_797 hd_Desk_needCount rfl ⟨by decide, by decide⟩ trivial hF hl.1 rfl (Nat.le_of_ble_eq_true rfl) d_Desk_transform_3 ⟨by decide, by decide⟩ (qv (fun H1 locs hq hF => ?_))
  have hq := hq.symm
  subst hq
  refine lv_iload_n hx hb d_Desk_transform_6 rfl (lv_at hl 1 rfl) ?_
  refine lv_iconst (v := nI 1) hx hb d_Desk_transform_7 (by decide) ?_
  refine lv_iload_n hx hb d_Desk_transform_8 rfl (lv_at hl 2 rfl) ?_
  refine lv_ishl hx hb d_Desk_transform_9 ?_
  refine q_cS (rest := []) E (c_Desk_needScalars l g (nD b) (nI a) ((nI 1) <<< ((nI k) &&& 31)) (tr_ok hk5 ha)) w_494 w_1 w_492 w_493 hd_Desk_needScalars rfl ⟨by decide, by decide⟩ trivial hF hl.1 rfl (Nat.le_of_ble_eq_true rfl) d_Desk_transform_10 ⟨by decide, by decide⟩ (qv (fun H2 locs hq hF => ?_))
  have hq := hq.symm
  subst hq
  refine lv_iload_n hx hb d_Desk_transform_13 rfl (lv_at hl 3 rfl) ?_
  refine lv_if_eq (tgt := 33) hx hb d_Desk_transform_14 (by decide) (fun _ => ?_) (fun h9 => absurd (hbk) h9)
  refine lv_aload_n hx hb d_Desk_transform_33 rfl (lv_at hl 0 rfl) ?_
  refine q_get (C := "KateDesk") (T := T_Desk) (N := 16) (ci := 5) E (hk.ob hK hd.x.ob) in_Desk rfl 4 (by decide) w_343 rfl rfl d_Desk_transform_34 ?_
  refine lv_aload_n hx hb d_Desk_transform_37 rfl (lv_at hl 0 rfl) ?_
  refine q_get (C := "KateDesk") (T := T_Desk) (N := 16) (ci := 5) E (hk.ob hK hd.x.ob) in_Desk rfl 5 (by decide) w_344 rfl rfl d_Desk_transform_38 ?_
  refine lv_iload_n hx hb d_Desk_transform_41 rfl (lv_at hl 1 rfl) ?_
  refine lv_iload_n hx hb d_Desk_transform_42 rfl (lv_at hl 2 rfl) ?_
  refine q_cV (rest := []) E (R_Polys_evaluate l g (nD b) b mr hmr a k A hk5 ha) w_887 w_14 w_884 w_885 w_886 hd_Polys_evaluate rfl ⟨by decide, by decide⟩ (OB.recv E.2.2.2.2.2 (by rfl) ((hk.po hK hd.x.po.nd).1)) (⟨hk.po hK hd.x.po.nd, (hcr.kj hk kSW_C), hk.rs hK hd.x.rs.nd, hsa⟩) hF hl.1 rfl (Nat.le_of_ble_eq_true rfl) d_Desk_transform_43 ⟨by decide, by decide⟩ (qv (fun H3 locs hq hF => ?_))
  obtain ⟨hq, hsa⟩ := hq
  have hk := hk.tr (hq.mono sw_WS)
  exact q_vret E hr hlk (⟨rfl, DSS.of hd hK hk, (hcr.kj hk kSW_C), hsa⟩) hF d_Desk_transform_46
set_option maxHeartbeats 4000000 in
set_option maxRecDepth 100000 in
theorem R_Desk_transform1 (l : Launch) (g : WG) (b pn tn wn : Nat) (mr mq : Int64) (hmr : mr = 268435455) (A : Nat → Int) (a k : Nat) (bk : Int32) (hbk : bk ≠ 0) (hk5 : k < 5) (ha : a + 2 ^ k ≤ 32) : Ctr l y_Desk_transform (.code y_Desk_transform prog_1_method_20_code 4 none) 7 233 0 0 (nD b) g [.ref b, .int (nI a), .int (nI k), .int bk] (fun H => DS g H H b pn tn wn mr mq ∧ CR g H b ∧ SCA g H b A) (QV (fun H H' => DSS g H H' b pn tn wn mr mq ∧ CR g H' b ∧ SCA g H' b (ivA A a k (2 ^ k)))) := by
  refine ctr_mk l (lv0 := [(0, .ref b), (1, .int (nI a)), (2, .int (nI k)), (3, .int bk)]) (by decide) (Nat.le_of_ble_eq_true rfl) rfl ?_
  intro p e s m below meth c ls E hr hlk hnm hl hP
  have hx := E.1
  have hb := E.2.1
  have hK := E.2.2.2.2.2
  have hF : ∀ q ∈ ([] : List Loc), nD b q.base := fun q hq => absurd hq List.not_mem_nil
  obtain ⟨hd, hcr, hsa⟩ := hP
  have hk : KJ g (kSW b) s.heap s.heap := KJ.rf
  refine lv_iload_n hx hb d_Desk_transform_0 rfl (lv_at hl 2 rfl) ?_
  refine lv_iconst (v := nI 0) hx hb d_Desk_transform_1 (by decide) ?_
  refine lv_iconst (v := nI 4) hx hb d_Desk_transform_2 (by decide) ?_
  refine q_cS (rest := []) E (c_Desk_needCount l g (nD b) (nI k) (nI 0) (nI 4) (okC_of (Nat.zero_le _) (Nat.le_of_lt_succ hk5) (by decide))) w_798 w_1 w_796 w_797 hd_Desk_needCount rfl ⟨by decide, by decide⟩ trivial hF hl.1 rfl (Nat.le_of_ble_eq_true rfl) d_Desk_transform_3 ⟨by decide, by decide⟩ (qv (fun H1 locs hq hF => ?_))
  have hq := hq.symm
  subst hq
  refine lv_iload_n hx hb d_Desk_transform_6 rfl (lv_at hl 1 rfl) ?_
  refine lv_iconst (v := nI 1) hx hb d_Desk_transform_7 (by decide) ?_
  refine lv_iload_n hx hb d_Desk_transform_8 rfl (lv_at hl 2 rfl) ?_
  refine lv_ishl hx hb d_Desk_transform_9 ?_
  refine q_cS (rest := []) E (c_Desk_needScalars l g (nD b) (nI a) ((nI 1) <<< ((nI k) &&& 31)) (tr_ok hk5 ha)) w_494 w_1 w_492 w_493 hd_Desk_needScalars rfl ⟨by decide, by decide⟩ trivial hF hl.1 rfl (Nat.le_of_ble_eq_true rfl) d_Desk_transform_10 ⟨by decide, by decide⟩ (qv (fun H2 locs hq hF => ?_))
  have hq := hq.symm
  subst hq
  refine lv_iload_n hx hb d_Desk_transform_13 rfl (lv_at hl 3 rfl) ?_
  refine lv_if_eq (tgt := 33) hx hb d_Desk_transform_14 (by decide) (fun h9 => absurd h9 (hbk)) (fun _ => ?_)
  refine lv_aload_n hx hb d_Desk_transform_17 rfl (lv_at hl 0 rfl) ?_
  refine q_get (C := "KateDesk") (T := T_Desk) (N := 16) (ci := 5) E (hk.ob hK hd.x.ob) in_Desk rfl 4 (by decide) w_343 rfl rfl d_Desk_transform_18 ?_
  refine lv_aload_n hx hb d_Desk_transform_21 rfl (lv_at hl 0 rfl) ?_
  refine q_get (C := "KateDesk") (T := T_Desk) (N := 16) (ci := 5) E (hk.ob hK hd.x.ob) in_Desk rfl 5 (by decide) w_344 rfl rfl d_Desk_transform_22 ?_
  refine lv_iload_n hx hb d_Desk_transform_25 rfl (lv_at hl 1 rfl) ?_
  refine lv_iload_n hx hb d_Desk_transform_26 rfl (lv_at hl 2 rfl) ?_
  refine q_cV (rest := []) E (R_Polys_interpolate l g (nD b) b mr hmr a k A hk5 ha) w_874 w_14 w_871 w_872 w_873 hd_Polys_interpolate rfl ⟨by decide, by decide⟩ (OB.recv E.2.2.2.2.2 (by rfl) ((hk.po hK hd.x.po.nd).1)) (⟨hk.po hK hd.x.po.nd, (hcr.kj hk kSW_C), hk.rs hK hd.x.rs.nd, hsa⟩) hF hl.1 rfl (Nat.le_of_ble_eq_true rfl) d_Desk_transform_27 ⟨by decide, by decide⟩ (qv (fun H3 locs hq hF => ?_))
  obtain ⟨hq, hsa⟩ := hq
  have hk := hk.tr (hq.mono sw_WS)
  refine lv_goto (tgt := 46) hx hb d_Desk_transform_30 (by decide) ?_
  exact q_vret E hr hlk (⟨rfl, DSS.of hd hK hk, (hcr.kj hk kSW_C), hsa⟩) hF d_Desk_transform_46
set_option maxHeartbeats 4000000 in
set_option maxRecDepth 100000 in
theorem R_Desk_lagrange (l : Launch) (g : WG) (b pn tn wn : Nat) (mr mq : Int64) (hmr : mr = 268435455) (A : Nat → Int) (a k i z : Nat) (hk5 : k < 5) (hi : i < 2 ^ k) (ha : a < 32) (hz : z < 32) : Ctr l y_Desk_lagrange (.code y_Desk_lagrange prog_1_method_21_code 5 none) 6 208 0 0 (nD b) g [.ref b, .int (nI a), .int (nI k), .int (nI i), .int (nI z)] (fun H => DS g H H b pn tn wn mr mq ∧ CR g H b ∧ SCA g H b A) (QV (fun H H' => DSS g H H' b pn tn wn mr mq ∧ CR g H' b ∧ SCA g H' b (updI A a ((geS (A z * (7 ^ eU k) ^ (2 ^ k - i)) (2 ^ k) 0 * (0 - (eU k : Int))) % RI)))) := by
  refine ctr_mk l (lv0 := [(0, .ref b), (1, .int (nI a)), (2, .int (nI k)), (3, .int (nI i)), (4, .int (nI z))]) (by decide) (Nat.le_of_ble_eq_true rfl) rfl ?_
  intro p e s m below meth c ls E hr hlk hnm hl hP
  have hx := E.1
  have hb := E.2.1
  have hK := E.2.2.2.2.2
  have hF : ∀ q ∈ ([] : List Loc), nD b q.base := fun q hq => absurd hq List.not_mem_nil
  obtain ⟨hd, hcr, hsa⟩ := hP
  have hk : KJ g (kSW b) s.heap s.heap := KJ.rf
  refine lv_iload_n hx hb d_Desk_lagrange_0 rfl (lv_at hl 2 rfl) ?_
  refine lv_iconst (v := nI 0) hx hb d_Desk_lagrange_1 (by decide) ?_
  refine lv_iconst (v := nI 4) hx hb d_Desk_lagrange_2 (by decide) ?_
  refine q_cS (rest := []) E (c_Desk_needCount l g (nD b) (nI k) (nI 0) (nI 4) (okC_of (Nat.zero_le _) (Nat.le_of_lt_succ hk5) (by decide))) w_798 w_1 w_796 w_797 hd_Desk_needCount rfl ⟨by decide, by decide⟩ trivial hF hl.1 rfl (Nat.le_of_ble_eq_true rfl) d_Desk_lagrange_3 ⟨by decide, by decide⟩ (qv (fun H1 locs hq hF => ?_))
  have hq := hq.symm
  subst hq
  refine lv_iload_n hx hb d_Desk_lagrange_6 rfl (lv_at hl 3 rfl) ?_
  refine lv_iconst (v := nI 0) hx hb d_Desk_lagrange_7 (by decide) ?_
  refine lv_iconst (v := nI 1) hx hb d_Desk_lagrange_8 (by decide) ?_
  refine lv_iload_n hx hb d_Desk_lagrange_9 rfl (lv_at hl 2 rfl) ?_
  refine lv_ishl hx hb d_Desk_lagrange_10 ?_
  refine lv_iconst (v := nI 1) hx hb d_Desk_lagrange_11 (by decide) ?_
  refine lv_isub hx hb d_Desk_lagrange_12 ?_
  refine q_cS (rest := []) E (c_Desk_needCount l g (nD b) (nI i) (nI 0) (((nI 1) <<< ((nI k) &&& 31)) - (nI 1)) (lg_ok hk5 hi)) w_798 w_1 w_796 w_797 hd_Desk_needCount rfl ⟨by decide, by decide⟩ trivial hF hl.1 rfl (Nat.le_of_ble_eq_true rfl) d_Desk_lagrange_13 ⟨by decide, by decide⟩ (qv (fun H2 locs hq hF => ?_))
  have hq := hq.symm
  subst hq
  refine lv_iload_n hx hb d_Desk_lagrange_16 rfl (lv_at hl 1 rfl) ?_
  refine lv_iconst (v := nI 1) hx hb d_Desk_lagrange_17 (by decide) ?_
  refine q_cS (rest := []) E (c_Desk_needScalars l g (nD b) (nI a) (nI 1) (okS_of (by decide) ha)) w_494 w_1 w_492 w_493 hd_Desk_needScalars rfl ⟨by decide, by decide⟩ trivial hF hl.1 rfl (Nat.le_of_ble_eq_true rfl) d_Desk_lagrange_18 ⟨by decide, by decide⟩ (qv (fun H3 locs hq hF => ?_))
  have hq := hq.symm
  subst hq
  refine lv_iload hx hb d_Desk_lagrange_21 (lv_at hl 4 rfl) ?_
  refine lv_iconst (v := nI 1) hx hb d_Desk_lagrange_23 (by decide) ?_
  refine q_cS (rest := []) E (c_Desk_needScalars l g (nD b) (nI z) (nI 1) (okS_of (by decide) hz)) w_494 w_1 w_492 w_493 hd_Desk_needScalars rfl ⟨by decide, by decide⟩ trivial hF hl.1 rfl (Nat.le_of_ble_eq_true rfl) d_Desk_lagrange_24 ⟨by decide, by decide⟩ (qv (fun H4 locs hq hF => ?_))
  have hq := hq.symm
  subst hq
  refine lv_aload_n hx hb d_Desk_lagrange_27 rfl (lv_at hl 0 rfl) ?_
  refine q_get (C := "KateDesk") (T := T_Desk) (N := 16) (ci := 5) E (hk.ob hK hd.x.ob) in_Desk rfl 0 (by decide) w_339 rfl rfl d_Desk_lagrange_28 ?_
  refine lv_aload_n hx hb d_Desk_lagrange_31 rfl (lv_at hl 0 rfl) ?_
  refine q_get (C := "KateDesk") (T := T_Desk) (N := 16) (ci := 5) E (hk.ob hK hd.x.ob) in_Desk rfl 15 (by decide) w_354 rfl rfl d_Desk_lagrange_32 ?_
  refine lv_aload_n hx hb d_Desk_lagrange_35 rfl (lv_at hl 0 rfl) ?_
  refine q_get (C := "KateDesk") (T := T_Desk) (N := 16) (ci := 5) E (hk.ob hK hd.x.ob) in_Desk rfl 5 (by decide) w_344 rfl rfl d_Desk_lagrange_36 ?_
  refine lv_iload hx hb d_Desk_lagrange_39 (lv_at hl 4 rfl) ?_
  refine q_aald (t := 4) E rfl rfl ((hk.rs hK hd.x.rs.nd).1) z rfl hz (by decide) d_Desk_lagrange_41 ?_
  obtain ⟨fs1, as1, vs1, rs1⟩ := hsa z hz
  refine q_cV (rest := []) E (R_Field_lift l g (nD b) (b + 162) (b + 161) (kSc b z) (kFr b) mr fs1 (A z) vs1 rs1 (show b + 168 ≠ b + 161 by omega) hmr) w_302 w_4 w_336 w_300 w_301 hd_Field_lift rfl ⟨by decide, by decide⟩ (OB.recv E.2.2.2.2.2 (by rfl) ((hk.fd hK hd.x.fr.nd).1)) (⟨hk.fd hK hd.x.fr.nd, (hk.j hd.x.fa).nd, as1, (hcr.kj hk kSW_C).1, (hcr.kj hk kSW_C).2.2.2.1⟩) hF hl.1 rfl (Nat.le_of_ble_eq_true rfl) d_Desk_lagrange_42 ⟨by decide, by decide⟩ (qv (fun H5 locs hq hF => ?_))
  obtain ⟨hq, g2, hN, vN⟩ := hq
  have hsa := hsa.kj hq (fun q h => by have h : q = b + 161 := h; omega)
  have hk := hk.tr (hq.mono sw_161)
  have h161 := hN
  have v161 := vN
  refine lv_aload_n hx hb d_Desk_lagrange_45 rfl (lv_at hl 0 rfl) ?_
  refine q_get (C := "KateDesk") (T := T_Desk) (N := 16) (ci := 5) E (hk.ob hK hd.x.ob) in_Desk rfl 4 (by decide) w_343 rfl rfl d_Desk_lagrange_46 ?_
  refine lv_aload_n hx hb d_Desk_lagrange_49 rfl (lv_at hl 0 rfl) ?_
  refine q_get (C := "KateDesk") (T := T_Desk) (N := 16) (ci := 5) E (hk.ob hK hd.x.ob) in_Desk rfl 5 (by decide) w_344 rfl rfl d_Desk_lagrange_50 ?_
  refine lv_iload_n hx hb d_Desk_lagrange_53 rfl (lv_at hl 1 rfl) ?_
  refine q_aald (t := 4) E rfl rfl ((hk.rs hK hd.x.rs.nd).1) a rfl ha (by decide) d_Desk_lagrange_54 ?_
  refine lv_iload_n hx hb d_Desk_lagrange_55 rfl (lv_at hl 2 rfl) ?_
  refine lv_iload_n hx hb d_Desk_lagrange_56 rfl (lv_at hl 3 rfl) ?_
  refine lv_aload_n hx hb d_Desk_lagrange_57 rfl (lv_at hl 0 rfl) ?_
  refine q_get (C := "KateDesk") (T := T_Desk) (N := 16) (ci := 5) E (hk.ob hK hd.x.ob) in_Desk rfl 15 (by decide) w_354 rfl rfl d_Desk_lagrange_58 ?_
  refine q_cV (rest := []) E (R_Polys_basis l g (nD b) b mr hmr a k i (A z) g2 hk5 hi ha v161) w_898 w_14 w_895 w_896 w_897 hd_Polys_basis rfl ⟨by decide, by decide⟩ (OB.recv E.2.2.2.2.2 (by rfl) ((hk.po hK hd.x.po.nd).1)) (⟨hk.po hK hd.x.po.nd, (hcr.kj hk kSW_C), ((hk.rs hK hd.x.rs.nd).2 a ha), h161⟩) hF hl.1 rfl (Nat.le_of_ble_eq_true rfl) d_Desk_lagrange_61 ⟨by decide, by decide⟩ (qv (fun H6 locs hq hF => ?_))
  obtain ⟨hq, f9, hN, vN⟩ := hq
  have hsa := hsa.set2 hq (fun q h => h.elim (fun h => Or.inl (kW_S q h)) Or.inr) hN vN (rm_r _).2
  have hk := hk.tr (hq.mono (fun q h => h.elim (sw_W q) (sw_sc ha q)))
  exact q_vret E hr hlk (⟨rfl, DSS.of hd hK hk, (hcr.kj hk kSW_C), hsa⟩) hF d_Desk_lagrange_64
