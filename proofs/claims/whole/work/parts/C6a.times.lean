theorem pw_ne {b k : Nat} (hk : k < 16) : (kPW1 b k ≠ kPW2 b k ∧ kPW1 b k ≠ kPW3 b k ∧ kPW2 b k ≠ kPW3 b k) ∧ b + 463 ≠ kPW1 b k ∧ b + 464 ≠ kPW1 b k ∧ b + 464 ≠ kPW2 b k := by unfold kPW1 kPW2 kPW3; omega
theorem pw_nJ {b k : Nat} (hk : k < 16) : nJ b (kPW1 b k) ∧ nJ b (kPW2 b k) ∧ nJ b (kPW3 b k) := by unfold nJ nD kPW1 kPW2 kPW3 kE; omega
theorem o_tot {b t m9 i9 : Nat} (ht : t < 16) (hm : m9 < 4) (h9 : i9 < 16) : ¬ (fun q => (∃ i, i < 9 ∧ q = kX b i) ∨ q = kFq b 5 ∨ q = (b + 462) ∨ q = (b + 463) ∨ q = (b + 464) ∨ q = kPW1 b i9 ∨ q = kPW2 b i9 ∨ q = kPW3 b i9) (kO1 b (t * 4 + m9)) ∧ ¬ (fun q => (∃ i, i < 9 ∧ q = kX b i) ∨ q = kFq b 5 ∨ q = (b + 462) ∨ q = (b + 463) ∨ q = (b + 464) ∨ q = kPW1 b i9 ∨ q = kPW2 b i9 ∨ q = kPW3 b i9) (kO2 b (t * 4 + m9)) ∧ ¬ (fun q => (∃ i, i < 9 ∧ q = kX b i) ∨ q = kFq b 5 ∨ q = (b + 462) ∨ q = (b + 463) ∨ q = (b + 464) ∨ q = kPW1 b i9 ∨ q = kPW2 b i9 ∨ q = kPW3 b i9) (kO3 b (t * 4 + m9)) := by
  refine ⟨?_, ?_, ?_⟩ <;> (rintro (⟨j, hj, h⟩ | h | h | h | h | h | h | h) <;> first | (rw [kFq_5] at h; simp only [kO1, kO2, kO3] at h; omega) | (simp only [kO1, kO2, kO3] at h; omega) | (simp only [kO1, kO2, kO3, kX, kPW1, kPW2, kPW3] at h; omega))
theorem ftot_S2 {b q t1 t2 t3 : Nat} (h : (fun q => (∃ i, i < 9 ∧ q = kX b i) ∨ q = kFq b 5 ∨ q = (b + 462) ∨ q = (b + 463) ∨ q = (b + 464) ∨ q = t1 ∨ q = t2 ∨ q = t3) q) : (kPS b q ∧ q ≠ b + 160 ∧ q ≠ b + 161) ∨ q = t1 ∨ q = t2 ∨ q = t3 := by
  rcases h with ⟨i, hi, rfl⟩ | rfl | rfl | rfl | rfl | h
  · exact Or.inl ⟨by unfold kPS kX; omega, by unfold kX; omega, by unfold kX; omega⟩
  · exact Or.inl (by rw [kFq_5]; unfold kPS; omega)
  · exact Or.inl (by unfold kPS; omega)
  · exact Or.inl (by unfold kPS; omega)
  · exact Or.inl (by unfold kPS; omega)
  · exact Or.inr h
set_option maxHeartbeats 4000000 in
set_option maxRecDepth 100000 in
theorem L_Desk_timesGenerator (l : Launch) (g : WG) (b pn tn wn : Nat) (mr mq : Int64) (hmq : mq = 268238845) (i9 s9 : Nat) (h9 : i9 < 16) (h256 : s9 < 2 ^ 256) : Ctr l y_Desk_timesGenerator (.code y_Desk_timesGenerator prog_1_method_31_code 4 none) 5 213 0 0 (nD b) g [.ref b, .ref (kPW b i9), .ref (b + 160)] (fun H => DS g H H b pn tn wn mr mq ∧ CX g H b ∧ TG g H b 4 ∧ ∃ f, AJ g H (b + 160) 14 f ∧ RV f ((s9 : Nat) : Int)) (QV (fun H H' => ∃ T, RP G9 (s9 : Int) T ∧ LPt g H' (kPW1 b i9) (kPW2 b i9) (kPW3 b i9) T ∧ TG g H' b 4 ∧ DZ g (fun q => (kPS b q ∧ q ≠ b + 160 ∧ q ≠ b + 161) ∨ q = kPW1 b i9 ∨ q = kPW2 b i9 ∨ q = kPW3 b i9) H H' b pn tn wn mr mq)) := by
  refine ctr_mk l (lv0 := [(0, .ref b), (1, .ref (kPW b i9)), (2, .ref (b + 160))]) (by decide) (Nat.le_of_ble_eq_true rfl) rfl ?_
  intro p e s m below meth c ls E hr hlk hnm hl hP
  have hx := E.1
  have hb := E.2.1
  have hK := E.2.2.2.2.2
  have hF : ∀ q ∈ ([] : List Loc), nD b q.base := fun q hq => absurd hq List.not_mem_nil
  have hk : KJ g (kPS b) s.heap s.heap := KJ.rf
  obtain ⟨hd, hcx, hTG, f0, hf0, hv0⟩ := hP
  have hk : KJ g (fun q => kPS b q ∧ q ≠ b + 160 ∧ q ≠ b + 161) s.heap s.heap := KJ.rf
  obtain ⟨Q9, hQ1, hQ2⟩ := hTG.ch
  have hAC : AC Q9 4 := fun t ht => (hQ1 t ht).1
  have lp : ∀ (k : Nat) (i : Nat) (H : Heap) (locs : List Loc) (ls : Array Slot), i + k = 4 → DS g s.heap H b pn tn wn mr mq → KJ g (fun q => kPS b q ∧ q ≠ b + 160 ∧ q ≠ b + 161) s.heap H → AJ g H (b + 160) 14 f0 → (∀ t, t < 4 → ∀ m9 : Nat, m9 < 4 → ∃ W, RP (Q9 t) (2 * (m9 : Int) + 1) W ∧ LPt g H (kO1 b (t * 4 + m9)) (kO2 b (t * 4 + m9)) (kO3 b (t * 4 + m9)) W) → TBL g H b Q9 (fun t => s9 / 2 ^ (64 * t) % 2 ^ 64) i → (∀ q ∈ locs, nD b q.base) → lv_has ls 4 [(3, .int (nI i)), (0, .ref b), (1, .ref (kPW b i9)), (2, .ref (b + 160))] → W p l e { frames := 5, cells := 0, slots := 0, locals := 213 } s m [.ref b, .ref (kPW b i9), .ref (b + 160)].toArray below meth c H locs 0 0 (MQ below (QcP (QV (fun H H' => ∃ T, RP G9 (s9 : Int) T ∧ LPt g H' (kPW1 b i9) (kPW2 b i9) (kPW3 b i9) T ∧ TG g H' b 4 ∧ DZ g (fun q => (kPS b q ∧ q ≠ b + 160 ∧ q ≠ b + 161) ∨ q = kPW1 b i9 ∨ q = kPW2 b i9 ∨ q = kPW3 b i9) H H' b pn tn wn mr mq))) [.ref b, .ref (kPW b i9), .ref (b + 160)].toArray s 0 0 (fun q => nD b q)) (F0 m 2 ls []) := by
    intro k
    induction k with
    | zero =>
      intro  i   H   locs   ls hi hd hk hf0 hQ2 hTB hF hl
      obtain rfl : i = 4 := by omega
      refine lv_iload_n hx hb d_Desk_timesGenerator_2 rfl (lv_at hl 0 rfl) ?_
      refine lv_iconst (v := nI 4) hx hb d_Desk_timesGenerator_3 (by decide) ?_
      refine lv_icmp_ge (tgt := 28) hx hb d_Desk_timesGenerator_4 (by decide) (fun _ => ?_) (fun h9 => absurd (by decide) h9)
      refine lv_aload_n hx hb d_Desk_timesGenerator_28 rfl (lv_at hl 1 rfl) ?_
      refine q_get (C := "KateDesk") (T := T_Desk) (N := 16) (ci := 5) E hd.x.ob in_Desk rfl 2 (by decide) w_341 rfl rfl d_Desk_timesGenerator_29 ?_
      refine lv_aload_n hx hb d_Desk_timesGenerator_32 rfl (lv_at hl 2 rfl) ?_
      refine lv_iconst (v := nI 4) hx hb d_Desk_timesGenerator_33 (by decide) ?_
      have hkp : KJ g (kPS b) s.heap H := hk.mono (fun q h => h.1)
      obtain ⟨fdg, Wt, q1, q2, q3, q4, q5⟩ := hTB.ch
      refine q_cV (rest := []) E ((L_Sums_total l g (nJ b) (b + 186) (b + 176) (b + 187) (b + 444) (b + 461) (b + 462) (b + 463) (b + 464) (b + 169) (kFq b) mq (kX b) (kO b) (kO1 b) (kO2 b) (kO3 b) (kDG b) 4 (kPW b i9) (kPW1 b i9) (kPW2 b i9) (kPW3 b i9) Q9 Wt fdg hAC (by decide) hmq (sap_d b) (pw_ne (b := b) h9).1 (pw_ne (b := b) h9).2 q2 q4 (fun k hk h => (ftot_J (t1 := b + 462) (t2 := b + 462) (t3 := b + 462) (kc_nJ (by decide)) (kc_nJ (by decide)) (kc_nJ (by decide)) (Or.imp id (Or.imp id (Or.imp id (Or.imp id Or.inl))) h)).2.1 (nj_DG hk))).up nJ_D) w_720 w_12 w_717 w_718 w_719 hd_Sums_total rfl ⟨by decide, by decide⟩ (OB.recv E.2.2.2.2.2 (by rfl) hd.x.so.1) (⟨hd.x.so, hd.x.pq i9 h9, hd.x.dr, hcx.1.2.1.q0 hkp, q1, q5⟩) hF hl.1 rfl (Nat.le_of_ble_eq_true rfl) d_Desk_timesGenerator_34 ⟨by decide, by decide⟩ (qv (fun H1 locs hq hF => ?_))
      obtain ⟨hq, T9, hRS, hT9⟩ := hq
      have hRS := hRS.ext (z' := fun t => (((fun t => s9 / 2 ^ (64 * t) % 2 ^ 64) t : Nat) : Int)) (fun t ht => q3 t ht)
      have hd := hd.kj hK hq (fun q h => ftot_J (pw_nJ h9).1 (pw_nJ h9).2.1 (pw_nJ h9).2.2 h)
      have hTG : TG g H1 b 4 := fun t ht => ⟨Q9 t, hQ1 t ht, fun m9 hm => by
        obtain ⟨W, c1, c2⟩ := hQ2 t ht m9 hm
        have n9 := o_tot (b := b) (t := t) (m9 := m9) (i9 := i9) (by omega) hm h9
        exact ⟨W, c1, c2.off hq n9.1 n9.2.1 n9.2.2⟩⟩
      have hk9 : KJ g (fun q => (kPS b q ∧ q ≠ b + 160 ∧ q ≠ b + 161) ∨ q = kPW1 b i9 ∨ q = kPW2 b i9 ∨ q = kPW3 b i9) s.heap H1 := (hk.mono (fun q h => Or.inl h)).tr (hq.mono (fun q h => (ftot_S2 h)))
      have hRP : RP G9 ((s9 : Nat) : Int) T9 := by have h8 := RSm_RP G9_on hQ1 hRS; rw [win4 h256] at h8; exact h8
      exact q_vret E hr hlk (⟨rfl, T9, hRP, hT9, hTG, hk9, hd.2⟩) hF d_Desk_timesGenerator_37
    | succ k ih =>
      intro  i   H   locs   ls hi hd hk hf0 hQ2 hTB hF hl
      refine lv_iload_n hx hb d_Desk_timesGenerator_2 rfl (lv_at hl 0 rfl) ?_
      refine lv_iconst (v := nI 4) hx hb d_Desk_timesGenerator_3 (by decide) ?_
      refine lv_icmp_ge (tgt := 28) hx hb d_Desk_timesGenerator_4 (by decide) (fun h9 => absurd h9 (nI_ge (by omega) (by decide))) (fun _ => ?_)
      refine lv_aload_n hx hb d_Desk_timesGenerator_7 rfl (lv_at hl 1 rfl) ?_
      refine q_get (C := "KateDesk") (T := T_Desk) (N := 16) (ci := 5) E hd.x.ob in_Desk rfl 2 (by decide) w_341 rfl rfl d_Desk_timesGenerator_8 ?_
      refine lv_iload_n hx hb d_Desk_timesGenerator_11 rfl (lv_at hl 0 rfl) ?_
      refine lv_aload_n hx hb d_Desk_timesGenerator_12 rfl (lv_at hl 3 rfl) ?_
      refine lv_bipush (v := nI 64) hx hb d_Desk_timesGenerator_13 (by decide) ?_
      refine lv_iload_n hx hb d_Desk_timesGenerator_15 rfl (lv_at hl 0 rfl) ?_
      refine lv_imul hx hb d_Desk_timesGenerator_16 ?_
      refine lv_bipush (v := nI 64) hx hb d_Desk_timesGenerator_17 (by decide) ?_
      rw [show nI 64 * nI i = nI (64 * i) from pk_mul _ _]
      have hfr9 : nI 64 * nI i = nI (64 * i) := pk_mul _ _
      refine q_cV (rest := []) E (Z_Sums_recode l g (nD b) (b + 186) (b + 176) (b + 187) (b + 444) (b + 461) (kDG b) i (b + 160) 64 (64 * i) f0 s9 hv0 (by omega) (by decide) (by omega)) w_681 w_12 w_833 w_679 w_680 hd_Sums_recode rfl ⟨by decide, by decide⟩ (OB.recv E.2.2.2.2.2 (by rfl) hd.x.so.1) (⟨hd.x.so.1, hd.x.dr, ⟨(nx_DG (by omega)).1, (hd.x.dg i (by omega)).imp (fun f hf => hf.1)⟩, hf0⟩) hF hl.1 rfl (Nat.le_of_ble_eq_true rfl) d_Desk_timesGenerator_19 ⟨by decide, by decide⟩ (qv (fun H1 locs hq hF => ?_))
      obtain ⟨hq, f9, hf9, hdo, hzz, hds, hz9⟩ := hq
      have hf0 := hq.ajo (show b + 160 ≠ kDG b i by unfold kDG; omega) hf0
      have hd := hd.digit (k0 := i) (by omega) hK (hq.mono (fun q h => Or.inr h)) ⟨f9, hf9, fun j hj => (hdo j hj).sd⟩
      have hds : DSg (fun j => (f9 j).toInt) 257 = ((s9 / 2 ^ (64 * i) % 2 ^ 64 : Nat) : Int) := (DSg_z (d := fun j => (f9 j).toInt) (m := 64) (fun j hj => by show (f9 j).toInt = 0; rw [hzz j hj]; rfl) 192).trans hds
      have hQ2 : ∀ t, t < 4 → ∀ m9 : Nat, m9 < 4 → ∃ W, RP (Q9 t) (2 * (m9 : Int) + 1) W ∧ LPt g H1 (kO1 b (t * 4 + m9)) (kO2 b (t * 4 + m9)) (kO3 b (t * 4 + m9)) W := fun t ht m9 hm => by
        obtain ⟨W, c1, c2⟩ := hQ2 t ht m9 hm
        exact ⟨W, c1, c2.off hq (by unfold kO1 kDG; omega) (by unfold kO2 kDG; omega) (by unfold kO3 kDG; omega)⟩
      have hTB : TBL g H1 b Q9 (fun t => s9 / 2 ^ (64 * t) % 2 ^ 64) (i + 1) := hTB.nx (by omega) (hq.mono (fun q h => Or.inl h)) ⟨f9, hf9, hdo, hds, hz9⟩ (fun _ m9 hm => hQ2 i (by omega) m9 hm)
      have hk := hk.tr (hq.mono (fun q h => ⟨h ▸ dg_S (by omega), by rw [h]; unfold kDG; omega, by rw [h]; unfold kDG; omega⟩))
      refine lv_iinc (k := 0) (v := nI (i + 1)) (lv' := [(3, .int (nI (i + 1))), (0, .ref b), (1, .ref (kPW b i9)), (2, .ref (b + 160))]) hx hb d_Desk_timesGenerator_22 hl rfl (i_inc i) (by decide) rfl (fun ls hl => ?_)
      refine lv_goto (tgt := 2) hx hb d_Desk_timesGenerator_25 (by decide) ?_
      have hl : lv_has ls 4 [(3, .int (nI (i + 1))), (0, .ref b), (1, .ref (kPW b i9)), (2, .ref (b + 160))] := lv_sub hl [0, 1, 2, 3] rfl
      exact ih (i + 1) _ _ ls (by omega) hd hk hf0 hQ2 hTB hF hl
  refine lv_iconst (v := nI 0) hx hb d_Desk_timesGenerator_0 (by decide) ?_
  refine lv_istore_n (lv' := [(3, .int (nI 0)), (0, .ref b), (1, .ref (kPW b i9)), (2, .ref (b + 160))]) hx hb d_Desk_timesGenerator_1 rfl hl (by decide) rfl (fun ls hl => ?_)
  have hl : lv_has ls 4 [(3, .int (nI 0)), (0, .ref b), (1, .ref (kPW b i9)), (2, .ref (b + 160))] := lv_sub hl [0, 1, 2, 3] rfl
  exact lp 4 0 _ _ ls (by omega) hd hk hf0 hQ2 TBL.z hF hl
