/-! the generator's four tables -/
def TG (g : WG) (H : Heap) (b n : Nat) : Prop := ∀ t, t < n → ∃ Q, RP G9 ((2 ^ (64 * t) : Nat) : Int) Q ∧ ∀ m9 : Nat, m9 < 4 → ∃ W, RP Q (2 * (m9 : Int) + 1) W ∧ LPt g H (kO1 b (t * 4 + m9)) (kO2 b (t * 4 + m9)) (kO3 b (t * 4 + m9)) W
theorem TG.kj {g : WG} {H H' : Heap} {b n : Nat} {S : Nat → Prop} (h : TG g H b n) (hq : KJ g S H H') (hS : ∀ t m9, t < n → m9 < 4 → ¬ S (kO1 b (t * 4 + m9)) ∧ ¬ S (kO2 b (t * 4 + m9)) ∧ ¬ S (kO3 b (t * 4 + m9))) : TG g H' b n := by
  intro t ht
  obtain ⟨Q, h1, h2⟩ := h t ht
  refine ⟨Q, h1, fun m9 hm => ?_⟩
  obtain ⟨W, a, c⟩ := h2 m9 hm
  have n9 := hS t m9 ht hm
  exact ⟨W, a, c.off hq n9.1 n9.2.1 n9.2.2⟩
theorem TG.ch {g : WG} {H : Heap} {b n : Nat} (h : TG g H b n) : ∃ Q : Nat → P3, (∀ t, t < n → RP G9 ((2 ^ (64 * t) : Nat) : Int) (Q t)) ∧ ∀ t, t < n → ∀ m9 : Nat, m9 < 4 → ∃ W, RP (Q t) (2 * (m9 : Int) + 1) W ∧ LPt g H (kO1 b (t * 4 + m9)) (kO2 b (t * 4 + m9)) (kO3 b (t * 4 + m9)) W := by
  have h1 : ∀ t, ∃ Q : P3, t < n → RP G9 ((2 ^ (64 * t) : Nat) : Int) Q ∧ ∀ m9 : Nat, m9 < 4 → ∃ W, RP Q (2 * (m9 : Int) + 1) W ∧ LPt g H (kO1 b (t * 4 + m9)) (kO2 b (t * 4 + m9)) (kO3 b (t * 4 + m9)) W := fun t => by
    by_cases c : t < n
    · exact (h t c).imp (fun Q hQ _ => hQ)
    · exact ⟨PZ0, fun q => absurd q c⟩
  obtain ⟨Q, hQ⟩ := Classical.axiomOfChoice h1
  exact ⟨Q, fun t ht => (hQ t ht).1, fun t ht => (hQ t ht).2⟩
theorem DSg_z {d : Nat → Int} {m : Nat} (h : ∀ j, m < j → d j = 0) : ∀ k, DSg d (m + 1 + k) = DSg d (m + 1) := by
  intro k
  induction k with
  | zero => rfl
  | succ k ih =>
    show DSg d (m + 1 + k) + d (m + 1 + k) * 2 ^ (m + 1 + k) = _
    rw [ih, h (m + 1 + k) (by omega), Int.zero_mul, Int.add_zero]
theorem hp_X {b : Nat} : ∀ i, i < 9 → b + 153 ≠ kX b i ∧ b + 154 ≠ kX b i ∧ b + 155 ≠ kX b i := by intro i hi; unfold kX; omega
theorem hp_O {b : Nat} : ∀ j, j < 64 → (b + 153 ≠ kO1 b j ∧ b + 153 ≠ kO2 b j ∧ b + 153 ≠ kO3 b j) ∧ (b + 154 ≠ kO1 b j ∧ b + 154 ≠ kO2 b j ∧ b + 154 ≠ kO3 b j) ∧ b + 155 ≠ kO1 b j ∧ b + 155 ≠ kO2 b j ∧ b + 155 ≠ kO3 b j := by intro j hj; unfold kO1 kO2 kO3; omega
theorem hp_ft {b i : Nat} (hi : i < 16) : ¬ (fun q => (∃ i, i < 9 ∧ q = kX b i) ∨ q = kFq b 5 ∨ q = (b + 462) ∨ q = (b + 463) ∨ q = (b + 464) ∨ ∃ k, i * 4 ≤ k ∧ k < i * 4 + 4 ∧ (q = kO1 b k ∨ q = kO2 b k ∨ q = kO3 b k)) (b + 153) ∧ ¬ (fun q => (∃ i, i < 9 ∧ q = kX b i) ∨ q = kFq b 5 ∨ q = (b + 462) ∨ q = (b + 463) ∨ q = (b + 464) ∨ ∃ k, i * 4 ≤ k ∧ k < i * 4 + 4 ∧ (q = kO1 b k ∨ q = kO2 b k ∨ q = kO3 b k)) (b + 154) ∧ ¬ (fun q => (∃ i, i < 9 ∧ q = kX b i) ∨ q = kFq b 5 ∨ q = (b + 462) ∨ q = (b + 463) ∨ q = (b + 464) ∨ ∃ k, i * 4 ≤ k ∧ k < i * 4 + 4 ∧ (q = kO1 b k ∨ q = kO2 b k ∨ q = kO3 b k)) (b + 155) := by
  refine ⟨?_, ?_, ?_⟩ <;> (rintro (⟨j, hj, h⟩ | h | h | h | h | ⟨k, h1, h2, h | h | h⟩) <;> first | omega | (rw [kFq_5] at h; omega) | (simp only [kO1, kO2, kO3, kX] at h; omega))
theorem o_fti {b i t m9 : Nat} (hi : i < 16) (ht : t < 16) (hn : t ≠ i) (hm : m9 < 4) : ¬ (fun q => (∃ i, i < 9 ∧ q = kX b i) ∨ q = kFq b 5 ∨ q = (b + 462) ∨ q = (b + 463) ∨ q = (b + 464) ∨ ∃ k, i * 4 ≤ k ∧ k < i * 4 + 4 ∧ (q = kO1 b k ∨ q = kO2 b k ∨ q = kO3 b k)) (kO1 b (t * 4 + m9)) ∧ ¬ (fun q => (∃ i, i < 9 ∧ q = kX b i) ∨ q = kFq b 5 ∨ q = (b + 462) ∨ q = (b + 463) ∨ q = (b + 464) ∨ ∃ k, i * 4 ≤ k ∧ k < i * 4 + 4 ∧ (q = kO1 b k ∨ q = kO2 b k ∨ q = kO3 b k)) (kO2 b (t * 4 + m9)) ∧ ¬ (fun q => (∃ i, i < 9 ∧ q = kX b i) ∨ q = kFq b 5 ∨ q = (b + 462) ∨ q = (b + 463) ∨ q = (b + 464) ∨ ∃ k, i * 4 ≤ k ∧ k < i * 4 + 4 ∧ (q = kO1 b k ∨ q = kO2 b k ∨ q = kO3 b k)) (kO3 b (t * 4 + m9)) := ⟨fun h => (o_ft hi ht hn hm).1 (Or.inr h), fun h => (o_ft hi ht hn hm).2.1 (Or.inr h), fun h => (o_ft hi ht hn hm).2.2 (Or.inr h)⟩
/-- twice the hand's point: the tables stay -/
def kTW (b q : Nat) : Prop := (∃ i, i < 9 ∧ q = kX b i) ∨ q = kFq b 5 ∨ q = b + 153 ∨ q = b + 154 ∨ q = b + 155
theorem tw_S {b q : Nat} (h : kTW b q) : kPS b q ∧ nJ b q := by
  rcases h with ⟨i, hi, rfl⟩ | rfl | rfl | rfl | rfl
  · exact ⟨by unfold kPS kX; omega, kx_nJ hi⟩
  · exact ⟨by rw [kFq_5]; unfold kPS; omega, k5_nJ⟩
  all_goals exact ⟨by unfold kPS; omega, kc_nJ (by decide)⟩
theorem tw_O {b t m9 : Nat} (ht : t < 16) (hm : m9 < 4) : ¬ kTW b (kO1 b (t * 4 + m9)) ∧ ¬ kTW b (kO2 b (t * 4 + m9)) ∧ ¬ kTW b (kO3 b (t * 4 + m9)) := by
  refine ⟨?_, ?_, ?_⟩ <;> (rintro (⟨j, hj, h⟩ | h | h | h | h) <;> first | (rw [kFq_5] at h; simp only [kO1, kO2, kO3] at h; omega) | (simp only [kO1, kO2, kO3] at h; omega) | (simp only [kO1, kO2, kO3, kX] at h; omega))
theorem pw_db (i j : Nat) : 2 * ((2 ^ (64 * i + j) : Nat) : Int) = ((2 ^ (64 * i + (j + 1)) : Nat) : Int) := by
  rw [← Nat.add_assoc, Nat.pow_succ, Int.natCast_mul, Int.mul_comm]
  rfl
theorem RP_on {P R : P3} {z : Int} (h : RP P z R) : onC R := h.1
set_option maxHeartbeats 4000000 in
set_option maxRecDepth 100000 in
theorem L_Desk_spreadGenerator (l : Launch) (g : WG) (b pn tn wn : Nat) (mr mq : Int64) (hmq : mq = 268238845)  : Ctr l y_Desk_spreadGenerator (.code y_Desk_spreadGenerator prog_1_method_30_code 3 none) 5 211 0 0 (nD b) g [.ref b] (fun H => DS g H H b pn tn wn mr mq ∧ CX g H b) (QV (fun H H' => TG g H' b 4 ∧ DZ g (kPS b) H H' b pn tn wn mr mq)) := by
  refine ctr_mk l (lv0 := [(0, .ref b)]) (by decide) (Nat.le_of_ble_eq_true rfl) rfl ?_
  intro p e s m below meth c ls E hr hlk hnm hl hP
  have hx := E.1
  have hb := E.2.1
  have hK := E.2.2.2.2.2
  have hF : ∀ q ∈ ([] : List Loc), nD b q.base := fun q hq => absurd hq List.not_mem_nil
  have hk : KJ g (kPS b) s.heap s.heap := KJ.rf
  obtain ⟨hd, hcx⟩ := hP
  have lp : ∀ (k : Nat) (i : Nat) (H : Heap) (locs : List Loc) (ls : Array Slot) (R : P3), i + k = 4 → DS g s.heap H b pn tn wn mr mq → KJ g (kPS b) s.heap H → LPt g H (b + 153) (b + 154) (b + 155) R → (∀ q ∈ locs, nD b q.base) → TG g H b i → (i < 4 → RP G9 ((2 ^ (64 * i) : Nat) : Int) R) → lv_has ls 3 [(1, .int (nI i)), (0, .ref b)] → W p l e { frames := 5, cells := 0, slots := 0, locals := 211 } s m [.ref b].toArray below meth c H locs 0 0 (MQ below (QcP (QV (fun H H' => TG g H' b 4 ∧ DZ g (kPS b) H H' b pn tn wn mr mq))) [.ref b].toArray s 0 0 (fun q => nD b q)) (F0 m 13 ls []) := by
    intro k
    induction k with
    | zero =>
      intro  i   H   locs   ls   R hi hd hk hR hF hTG hRG hl
      obtain rfl : i = 4 := by omega
      refine lv_iload_n hx hb d_Desk_spreadGenerator_13 rfl (lv_at hl 0 rfl) ?_
      refine lv_iconst (v := nI 4) hx hb d_Desk_spreadGenerator_14 (by decide) ?_
      refine lv_icmp_ge (tgt := 70) hx hb d_Desk_spreadGenerator_15 (by decide) (fun _ => ?_) (fun h9 => absurd (by decide) h9)
      exact q_vret E hr hlk (⟨rfl, hTG, hk, hd.2⟩) hF d_Desk_spreadGenerator_70
    | succ k ih =>
      intro  i   H   locs   ls   R hi hd hk hR hF hTG hRG hl
      have hi4 : i < 4 := by omega
      have inner : ∀ (k2 : Nat) (j : Nat) (H : Heap) (locs : List Loc) (ls : Array Slot) (R : P3), j + k2 = 64 → DS g s.heap H b pn tn wn mr mq → KJ g (kPS b) s.heap H → LPt g H (b + 153) (b + 154) (b + 155) R → (∀ q ∈ locs, nD b q.base) → TG g H b (i + 1) → RP G9 ((2 ^ (64 * i + j) : Nat) : Int) R → lv_has ls 3 [(2, .int (nI j)), (1, .int (nI i)), (0, .ref b)] → W p l e { frames := 5, cells := 0, slots := 0, locals := 211 } s m [.ref b].toArray below meth c H locs 0 0 (MQ below (QcP (QV (fun H H' => TG g H' b 4 ∧ DZ g (kPS b) H H' b pn tn wn mr mq))) [.ref b].toArray s 0 0 (fun q => nD b q)) (F0 m 32 ls []) := by
        intro k2
        induction k2 with
        | zero =>
          intro  j   H   locs   ls   R hj hd hk hR hF hTG hRG hl
          obtain rfl : j = 64 := by omega
          refine lv_iload_n hx hb d_Desk_spreadGenerator_32 rfl (lv_at hl 0 rfl) ?_
          refine lv_bipush (v := nI 64) hx hb d_Desk_spreadGenerator_33 (by decide) ?_
          refine lv_icmp_ge (tgt := 64) hx hb d_Desk_spreadGenerator_35 (by decide) (fun _ => ?_) (fun h9 => absurd (by decide) h9)
          refine lv_iinc (k := 1) (v := nI (i + 1)) (lv' := [(1, .int (nI (i + 1))), (2, .int (nI 64)), (0, .ref b)]) hx hb d_Desk_spreadGenerator_64 hl rfl (i_inc i) (by decide) rfl (fun ls hl => ?_)
          refine lv_goto (tgt := 13) hx hb d_Desk_spreadGenerator_67 (by decide) ?_
          have hl : lv_has ls 3 [(1, .int (nI (i + 1))), (0, .ref b)] := lv_sub hl [0, 2] rfl
          exact ih (i + 1) _ _ ls R (by omega) hd hk hR hF hTG (fun _ => by rw [show 64 * (i + 1) = 64 * i + 64 by omega]; exact hRG) hl
        | succ k2 ih2 =>
          intro  j   H   locs   ls   R hj hd hk hR hF hTG hRG hl
          refine lv_iload_n hx hb d_Desk_spreadGenerator_32 rfl (lv_at hl 0 rfl) ?_
          refine lv_bipush (v := nI 64) hx hb d_Desk_spreadGenerator_33 (by decide) ?_
          refine lv_icmp_ge (tgt := 64) hx hb d_Desk_spreadGenerator_35 (by decide) (fun h9 => absurd h9 (nI_ge (by omega) (by decide))) (fun _ => ?_)
          refine lv_iload_n hx hb d_Desk_spreadGenerator_38 rfl (lv_at hl 1 rfl) ?_
          refine lv_iconst (v := nI 3) hx hb d_Desk_spreadGenerator_39 (by decide) ?_
          refine lv_icmp_ge (tgt := 64) hx hb d_Desk_spreadGenerator_40 (by decide) (fun hc => ?_) (fun hc => ?_)
          · skip
            have hc : 3 ≤ i := (nI_leI (by decide) (by omega)).mp hc
            refine lv_iinc (k := 1) (v := nI (i + 1)) (lv' := [(1, .int (nI (i + 1))), (2, .int (nI j)), (0, .ref b)]) hx hb d_Desk_spreadGenerator_64 hl rfl (i_inc i) (by decide) rfl (fun ls hl => ?_)
            refine lv_goto (tgt := 13) hx hb d_Desk_spreadGenerator_67 (by decide) ?_
            have hl : lv_has ls 3 [(1, .int (nI (i + 1))), (0, .ref b)] := lv_sub hl [0, 2] rfl
            exact ih (i + 1) _ _ ls R (by omega) hd hk hR hF hTG (fun h4 => absurd h4 (by omega)) hl
          · skip
            refine lv_aload_n hx hb d_Desk_spreadGenerator_43 rfl (lv_at hl 2 rfl) ?_
            refine q_get (C := "KateDesk") (T := T_Desk) (N := 16) (ci := 5) E hd.x.ob in_Desk rfl 1 (by decide) w_340 rfl rfl d_Desk_spreadGenerator_44 ?_
            refine lv_aload_n hx hb d_Desk_spreadGenerator_47 rfl (lv_at hl 2 rfl) ?_
            refine q_get (C := "KateDesk") (T := T_Desk) (N := 16) (ci := 5) E hd.x.ob in_Desk rfl 12 (by decide) w_351 rfl rfl d_Desk_spreadGenerator_48 ?_
            refine lv_aload_n hx hb d_Desk_spreadGenerator_51 rfl (lv_at hl 2 rfl) ?_
            refine q_get (C := "KateDesk") (T := T_Desk) (N := 16) (ci := 5) E hd.x.ob in_Desk rfl 12 (by decide) w_351 rfl rfl d_Desk_spreadGenerator_52 ?_
            refine q_cV (rest := []) E ((L_Curve_twice l g (nJ b) (b + 176) (b + 169) (kFq b) mq (kX b) (b + 152) (b + 153) (b + 154) (b + 155) (b + 152) (b + 153) (b + 154) (b + 155) R (xa_d b) hmq hp_X (fun i hi => ⟨(hp_X i hi).1.symm, (hp_X i hi).2.1.symm, (hp_X i hi).2.2.symm⟩) (by rw [kFq_0]; omega) ⟨by omega, by omega, by omega⟩).up nJ_D) w_702 w_11 w_828 w_700 w_701 hd_Curve_twice rfl ⟨by decide, by decide⟩ (OB.recv E.2.2.2.2.2 (by rfl) hd.x.so.2.1.1) (⟨hd.x.so.2.1, hd.x.hp, hd.x.hp, hcx.1.2.1.q0 hk, hR⟩) hF hl.1 rfl (Nat.le_of_ble_eq_true rfl) d_Desk_spreadGenerator_55 ⟨by decide, by decide⟩ (qv (fun H1 locs hq hF => ?_))
            obtain ⟨hq, hR⟩ := hq
            have hR : LPt g H1 (b + 153) (b + 154) (b + 155) (DB R) := hR
            have hq : KJ g (kTW b) _ H1 := hq
            have hd := hd.kj hK hq (fun q h => (tw_S h).2)
            have hTG := hTG.kj hq (fun t m9 h8 h7 => tw_O (by omega) h7)
            have hk := hk.tr (hq.mono (fun q h => (tw_S h).1))
            have hRG : RP G9 ((2 ^ (64 * i + (j + 1)) : Nat) : Int) (DB R) := by have h9 := hRG.db G9_on; rw [pw_db] at h9; exact h9
            refine lv_iinc (k := 0) (v := nI (j + 1)) (lv' := [(2, .int (nI (j + 1))), (1, .int (nI i)), (0, .ref b)]) hx hb d_Desk_spreadGenerator_58 hl rfl (i_inc j) (by decide) rfl (fun ls hl => ?_)
            refine lv_goto (tgt := 32) hx hb d_Desk_spreadGenerator_61 (by decide) ?_
            have hl : lv_has ls 3 [(2, .int (nI (j + 1))), (1, .int (nI i)), (0, .ref b)] := lv_sub hl [0, 1, 2] rfl
            exact ih2 (j + 1) _ _ ls _ (by omega) hd hk hR hF hTG hRG hl
      refine lv_iload_n hx hb d_Desk_spreadGenerator_13 rfl (lv_at hl 0 rfl) ?_
      refine lv_iconst (v := nI 4) hx hb d_Desk_spreadGenerator_14 (by decide) ?_
      refine lv_icmp_ge (tgt := 70) hx hb d_Desk_spreadGenerator_15 (by decide) (fun h9 => absurd h9 (nI_ge hi4 (by decide))) (fun _ => ?_)
      have hRG := hRG (by omega)
      refine lv_aload_n hx hb d_Desk_spreadGenerator_18 rfl (lv_at hl 1 rfl) ?_
      refine q_get (C := "KateDesk") (T := T_Desk) (N := 16) (ci := 5) E hd.x.ob in_Desk rfl 2 (by decide) w_341 rfl rfl d_Desk_spreadGenerator_19 ?_
      refine lv_iload_n hx hb d_Desk_spreadGenerator_22 rfl (lv_at hl 0 rfl) ?_
      refine lv_aload_n hx hb d_Desk_spreadGenerator_23 rfl (lv_at hl 1 rfl) ?_
      refine q_get (C := "KateDesk") (T := T_Desk) (N := 16) (ci := 5) E hd.x.ob in_Desk rfl 12 (by decide) w_351 rfl rfl d_Desk_spreadGenerator_24 ?_
      refine q_cV (rest := []) E ((L_Sums_tabulate l g (nJ b) (b + 186) (b + 176) (b + 187) (b + 444) (b + 461) (b + 462) (b + 463) (b + 464) (b + 169) (kFq b) mq (kX b) (kO b) (kO1 b) (kO2 b) (kO3 b) i (b + 152) (b + 153) (b + 154) (b + 155) R (RP_on hRG) (by omega) hmq (sap_d b) hp_X hp_O).up nJ_D) w_693 w_12 w_827 w_691 w_692 hd_Sums_tabulate rfl ⟨by decide, by decide⟩ (OB.recv E.2.2.2.2.2 (by rfl) hd.x.so.1) (⟨hd.x.so, hd.x.hp, hcx.1.2.1.q0 hk, hR⟩) hF hl.1 rfl (Nat.le_of_ble_eq_true rfl) d_Desk_spreadGenerator_27 ⟨by decide, by decide⟩ (qv (fun H1 locs hq hF => ?_))
      obtain ⟨hq, -, hW⟩ := hq
      have hR := hR.off hq (hp_ft (by omega)).1 (hp_ft (by omega)).2.1 (hp_ft (by omega)).2.2
      have hd := hd.kj hK hq (fun q h => (ftk_S (by omega) h).2)
      have hTG : TG g H1 b (i + 1) := fun t ht => by
        by_cases e : t = i
        · rw [e]; exact ⟨R, hRG, hW⟩
        · exact (TG.kj hTG hq (fun t9 m9 h8 h7 => o_fti (by omega) (by omega) (by omega) h7)) t (by omega)
      have hk := hk.tr (hq.mono (fun q h => (ftk_S (by omega) h).1))
      refine lv_iconst (v := nI 0) hx hb d_Desk_spreadGenerator_30 (by decide) ?_
      refine lv_istore_n (lv' := [(2, .int (nI 0)), (1, .int (nI i)), (0, .ref b)]) hx hb d_Desk_spreadGenerator_31 rfl hl (by decide) rfl (fun ls hl => ?_)
      have hl : lv_has ls 3 [(2, .int (nI 0)), (1, .int (nI i)), (0, .ref b)] := lv_sub hl [0, 1, 2] rfl
      exact inner 64 0 _ _ ls R (by omega) hd hk hR hF hTG hRG hl
  refine lv_aload_n hx hb d_Desk_spreadGenerator_0 rfl (lv_at hl 0 rfl) ?_
  refine q_get (C := "KateDesk") (T := T_Desk) (N := 16) (ci := 5) E hd.x.ob in_Desk rfl 12 (by decide) w_351 rfl rfl d_Desk_spreadGenerator_1 ?_
  refine lv_aload_n hx hb d_Desk_spreadGenerator_4 rfl (lv_at hl 0 rfl) ?_
  refine q_get (C := "KateDesk") (T := T_Desk) (N := 16) (ci := 5) E hd.x.ob in_Desk rfl 11 (by decide) w_350 rfl rfl d_Desk_spreadGenerator_5 ?_
  refine q_cV (rest := []) E ((L_Point_copy l g (nJ b) (b + 152) (b + 153) (b + 154) (b + 155) (b + 495) (b + 496) (b + 497) (b + 498) G9 ⟨by omega, by omega, by omega⟩ ⟨by omega, by omega, by omega⟩).up nJ_D) w_697 w_2 w_730 w_695 w_696 hd_Point_copy rfl ⟨by decide, by decide⟩ (OB.recv E.2.2.2.2.2 (by rfl) hd.x.hp.1) (⟨hd.x.hp, hd.x.ge, hcx.2.1.ge hk⟩) hF hl.1 rfl (Nat.le_of_ble_eq_true rfl) d_Desk_spreadGenerator_8 ⟨by decide, by decide⟩ (qv (fun H1 locs hq hF => ?_))
  obtain ⟨hq, hR⟩ := hq
  have hd := hd.kj hK hq (pt_le hd.x.hp)
  have hk := hk.tr (hq.mono (fun q h => by rcases h with h | h | h <;> (rw [h]; unfold kPS; omega)))
  refine lv_iconst (v := nI 0) hx hb d_Desk_spreadGenerator_11 (by decide) ?_
  refine lv_istore_n (lv' := [(1, .int (nI 0)), (0, .ref b)]) hx hb d_Desk_spreadGenerator_12 rfl hl (by decide) rfl (fun ls hl => ?_)
  have hl : lv_has ls 3 [(1, .int (nI 0)), (0, .ref b)] := lv_sub hl [0, 1] rfl
  exact lp 4 0 _ _ ls G9 (by omega) hd hk hR hF (fun t ht => absurd ht (Nat.not_lt_zero _)) (fun _ => RP_1 G9_on) hl
