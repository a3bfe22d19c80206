set_option maxHeartbeats 4000000 in
set_option maxRecDepth 100000 in
theorem W_Model_point (l : Launch) (g : WG) (n0 : Nat → Prop) (mo : Nat) (th : Int32) (pn tn wn : Nat) (B : Nat → Int) (a : Int32) (m9 : Nat → Int32) (t : Nat → Nat) (ht : ∀ j, t j < 256) (hmt : ∀ j, j < tn → m9 j = nI (t j)) : Ctr l y_Model_point (.code y_Model_point prog_11_method_46_code 6 (some FieldType.int)) 6 143 0 0 n0 g [.ref mo, .int a] (fun H => MVP g n0 H mo th pn tn wn B ∧ AI g H (mo + 6) 96 m9) (QI (fun r H H' => ((okP a (nI 1)) ∧ (∃ k1 n T, a = nI k1 ∧ k1 < 12 ∧ r = nI n ∧ PAT t tn n T ∧ ((n = 0 ∧ MVP g n0 H' mo 0 pn 0 wn (updP B (32 + 3 * k1) T)) ∨ (n ≠ 0 ∧ MVP g n0 H' mo 0 pn 0 wn B)))) ∨ (¬ (okP a (nI 1)) ∧ MVP g n0 H' mo 1 pn tn wn B))) := by
  refine ctr_mk l (lv0 := [(0, .ref mo), (1, .int a)]) (by decide) (Nat.le_of_ble_eq_true rfl) rfl ?_
  intro p e s m below meth c ls E hr hlk hnm hl hP
  have hx := E.1
  have hb := E.2.1
  have hK := E.2.2.2.2.2
  have hF : ∀ q ∈ ([] : List Loc), n0 q.base := fun q hq => absurd hq List.not_mem_nil
  obtain ⟨hP, hT⟩ := hP
  obtain ⟨⟨w9, n9, fd, hw9, hm, hB⟩, ⟨fa, hab0, hAT, hAQ⟩, hho, -, -, hbd, hmn, -, -, hn8⟩ := id hP
  have hfr : FRM (MR mo) s.heap s.heap := FRM.rf
  have bad : ∀ (locs : List Loc) (ls : Array Slot), ¬ (okP a (nI 1)) → (∀ q ∈ locs, n0 q.base) → lv_has ls 6 [(0, .ref mo), (1, .int a)] → W p l e { frames := 6, cells := 0, slots := 0, locals := 143 } s m [.ref mo, .int a].toArray below meth c s.heap locs 0 0 (MQ below (QcP (QI (fun r H H' => ((okP a (nI 1)) ∧ (∃ k1 n T, a = nI k1 ∧ k1 < 12 ∧ r = nI n ∧ PAT t tn n T ∧ ((n = 0 ∧ MVP g n0 H' mo 0 pn 0 wn (updP B (32 + 3 * k1) T)) ∨ (n ≠ 0 ∧ MVP g n0 H' mo 0 pn 0 wn B)))) ∨ (¬ (okP a (nI 1)) ∧ MVP g n0 H' mo 1 pn tn wn B)))) [.ref mo, .int a].toArray s 0 0 (fun q => n0 q)) (F0 m 5 ls [.int (nI 1), .ref mo]) := by
    intro  locs   ls hno hF hl
    refine lv_iconst (v := nI 1) hx hb d_Model_point_5 (by decide) ?_
    refine q_cV (rest := []) E (c_Model_fails l g n0 mo th (nI pn) (nI tn) (nI wn) w9 n9 hw9 (nI 1) (nI 1) fd hmn (Or.inl rfl)) w_1056 w_15 w_1053 w_1055 (bw_s 24 rfl) hd_Model_fails rfl ⟨by decide, by decide⟩ (OB.recv E.2.2.2.2.2 (by rfl) hm.1) hm hF hl.1 rfl (Nat.le_of_ble_eq_true rfl) d_Model_point_6 ⟨by decide, by decide⟩ (qi (fun rf H1 locs hq hF => ?_))
    obtain ⟨hrf, hq, hm⟩ := hq
    subst hrf
    have hfr := hfr.tr hq
    rw [if_neg (by decide)] at hm
    refine lv_if_eq (tgt := 14) hx hb d_Model_point_9 (by decide) (fun h9 => absurd h9 (by decide)) (fun _ => ?_)
    refine lv_iconst (v := nI 0) hx hb d_Model_point_12 (by decide) ?_
    exact q_iret E hr hlk (⟨_, rfl, Or.inr ⟨hno, hP.keep hfr hw9 hm hB⟩⟩) hF d_Model_point_13
  have good : ∀ (locs : List Loc) (ls : Array Slot), okP a (nI 1) → (∀ q ∈ locs, n0 q.base) → lv_has ls 6 [(0, .ref mo), (1, .int a)] → W p l e { frames := 6, cells := 0, slots := 0, locals := 143 } s m [.ref mo, .int a].toArray below meth c s.heap locs 0 0 (MQ below (QcP (QI (fun r H H' => ((okP a (nI 1)) ∧ (∃ k1 n T, a = nI k1 ∧ k1 < 12 ∧ r = nI n ∧ PAT t tn n T ∧ ((n = 0 ∧ MVP g n0 H' mo 0 pn 0 wn (updP B (32 + 3 * k1) T)) ∨ (n ≠ 0 ∧ MVP g n0 H' mo 0 pn 0 wn B)))) ∨ (¬ (okP a (nI 1)) ∧ MVP g n0 H' mo 1 pn tn wn B)))) [.ref mo, .int a].toArray s 0 0 (fun q => n0 q)) (F0 m 5 ls [.int (nI 0), .ref mo]) := by
    intro  locs   ls hok hF hl
    refine lv_iconst (v := nI 1) hx hb d_Model_point_5 (by decide) ?_
    refine q_cV (rest := []) E (c_Model_fails l g n0 mo th (nI pn) (nI tn) (nI wn) w9 n9 hw9 (nI 0) (nI 1) fd hmn (Or.inr rfl)) w_1056 w_15 w_1053 w_1055 (bw_s 24 rfl) hd_Model_fails rfl ⟨by decide, by decide⟩ (OB.recv E.2.2.2.2.2 (by rfl) hm.1) hm hF hl.1 rfl (Nat.le_of_ble_eq_true rfl) d_Model_point_6 ⟨by decide, by decide⟩ (qi (fun rf H1 locs hq hF => ?_))
    obtain ⟨hrf, hq, hm⟩ := hq
    subst hrf
    have hfr := hfr.tr hq
    rw [if_pos nI_0] at hm
    refine lv_if_eq (tgt := 14) hx hb d_Model_point_9 (by decide) (fun _ => ?_) (fun h9 => absurd (by decide) h9)
    by_cases h48 : tn = 48
    · subst h48
      have hBV := hB
      obtain ⟨k1, e_k1, h_k1⟩ := okP_nat (by decide) (by decide) hok
      rw [e_k1] at hl
      refine lv_aload_n hx hb d_Model_point_14 rfl (lv_at hl 0 rfl) ?_
      refine q_get (C := "KateDeskModel") (T := T_Model) (N := 14) (ci := 8) E hm.1 in_Model rfl 10 (by decide) w_1011 rfl rfl d_Model_point_15 ?_
      refine lv_istore_n (lv' := [(2, .int (nI 48)), (0, .ref mo), (1, .int (nI k1))]) hx hb d_Model_point_18 rfl hl (by decide) rfl (fun ls hl => ?_)
      refine lv_aload_n hx hb d_Model_point_19 rfl (lv_at hl 1 rfl) ?_
      refine lv_iconst (v := nI 0) hx hb d_Model_point_20 (by decide) ?_
      refine q_put (C := "KateDeskModel") (T := T_Model) (N := 14) (ci := 8) (ty := .int) E hm.1 in_Model ty_Model tyok_Model nm_Model rfl 10 (by decide) w_1011 rfl rfl (by decide +kernel) rfl rfl (Nat.le_of_ble_eq_true rfl) hmn hF d_Model_point_21 (fun H2 locs hq ho2 hF => ?_)
      have hm : MS g n0 H2 mo 0 (nI pn) (nI 0) (nI wn) w9 n9 fd := hm.frm hq (by omega) (by omega) (by omega) (by omega) ho2
      have hfr := hfr.tr (hq.mono (fun q h => Or.inl h))
      refine lv_iload_n hx hb d_Model_point_24 rfl (lv_at hl 0 rfl) ?_
      refine lv_bipush (v := nI 48) hx hb d_Model_point_25 (by decide) ?_
      refine lv_icmp_eq (tgt := 38) hx hb d_Model_point_27 (by decide) (fun _ => ?_) (fun h9 => absurd (rfl) h9)
      refine lv_aload_n hx hb d_Model_point_38 rfl (lv_at hl 1 rfl) ?_
      refine q_get (C := "KateDeskModel") (T := T_Model) (N := 14) (ci := 8) E hm.1 in_Model rfl 9 (by decide) w_1010 rfl rfl d_Model_point_39 ?_
      refine lv_iconst (v := nI 0) hx hb d_Model_point_42 (by decide) ?_
      refine q_iald E (AI.off hfr (show ¬ MR mo (mo + 6) by unfold MR; omega) hT) 0 rfl (by omega) (by decide) d_Model_point_43 ?_
      refine lv_topi (fun t9 e9 => ?_)
      obtain rfl : t9 = nI (t 0) := e9.trans (hmt 0 (by decide))
      refine lv_iconst (v := nI 5) hx hb d_Model_point_44 (by decide) ?_
      refine lv_ishr hx hb d_Model_point_45 ?_
      refine lv_topi (fun t9 e9 => ?_)
      obtain rfl : t9 = nI (t 0 / 32) := e9.trans (sh_5 _ (ht 0))
      have hmk : t 0 / 32 < 8 := by have := ht 0; omega
      obtain ⟨mk, emk⟩ : ∃ mk, mk = t 0 / 32 := ⟨_, rfl⟩
      rw [← emk] at hmk ⊢
      have s100 : ∀ (ls : Array Slot), can9 mk 48 → lv_has ls 6 [(3, .int (nI mk)), (2, .int (nI 48)), (0, .ref mo), (1, .int (nI k1))] → W p l e { frames := 6, cells := 0, slots := 0, locals := 143 } s m [.ref mo, .int a].toArray below meth c H2 locs 0 0 (MQ below (QcP (QI (fun r H H' => ((okP a (nI 1)) ∧ (∃ k1 n T, a = nI k1 ∧ k1 < 12 ∧ r = nI n ∧ PAT t 48 n T ∧ ((n = 0 ∧ MVP g n0 H' mo 0 pn 0 wn (updP B (32 + 3 * k1) T)) ∨ (n ≠ 0 ∧ MVP g n0 H' mo 0 pn 0 wn B)))) ∨ (¬ (okP a (nI 1)) ∧ MVP g n0 H' mo 1 pn 48 wn B)))) [.ref mo, .int a].toArray s 0 0 (fun q => n0 q)) (F0 m 100 ls []) := by
        intro  ls hcn hl
        refine lv_aload_n hx hb d_Model_point_100 rfl (lv_at hl 2 rfl) ?_
        refine lv_iconst (v := nI 0) hx hb d_Model_point_101 (by decide) ?_
        refine q_cV (rest := []) E (c_Model_use l g n0 mo 0 (nI pn) (nI 0) (nI wn) w9 n9 hw9 0 14 hw0 fd hmn) w_967 w_15 w_964 w_966 (bw_s 15 rfl) hd_Model_use rfl ⟨by decide, by decide⟩ (OB.recv E.2.2.2.2.2 (by rfl) hm.1) hm hF hl.1 rfl (Nat.le_of_ble_eq_true rfl) d_Model_point_102 ⟨by decide, by decide⟩ (qv (fun H1 locs hq hF => ?_))
        obtain ⟨hq, hm⟩ := hq
        have hfr := hfr.tr hq
        refine lv_aload_n hx hb d_Model_point_105 rfl (lv_at hl 2 rfl) ?_
        refine lv_sipush (v := nI 148) hx hb d_Model_point_106 (by decide) ?_
        refine q_cV (rest := []) E (c_Model_zero l g n0 mo 148 0 (nI pn) (nI 0) (nI wn) 0 14 hw0 fd (by decide)) w_1000 w_15 w_997 w_999 (bw_s 23 rfl) hd_Model_zero rfl ⟨by decide, by decide⟩ (OB.recv E.2.2.2.2.2 (by rfl) hm.1) hm hF hl.1 rfl (Nat.le_of_ble_eq_true rfl) d_Model_point_109 ⟨by decide, by decide⟩ (qv (fun H2 locs hq hF => ?_))
        obtain ⟨hq, fd_1, hm, hp1⟩ := hq
        have hfr := hfr.tr hq
        have hBV : BV9 fd_1 B := hBV.kq (fun j hj => hp1.1 j (by omega))
        refine lv_aload_n hx hb d_Model_point_112 rfl (lv_at hl 2 rfl) ?_
        refine lv_sipush (v := nI 149) hx hb d_Model_point_113 (by decide) ?_
        refine q_cV (rest := []) E (c_Model_zero l g n0 mo 149 0 (nI pn) (nI 0) (nI wn) 0 14 hw0 fd_1 (by decide)) w_1000 w_15 w_997 w_999 (bw_s 23 rfl) hd_Model_zero rfl ⟨by decide, by decide⟩ (OB.recv E.2.2.2.2.2 (by rfl) hm.1) hm hF hl.1 rfl (Nat.le_of_ble_eq_true rfl) d_Model_point_116 ⟨by decide, by decide⟩ (qv (fun H3 locs hq hF => ?_))
        obtain ⟨hq, fd_2, hm, hp2⟩ := hq
        have hfr := hfr.tr hq
        have hBV : BV9 fd_2 B := hBV.kq (fun j hj => hp2.1 j (by omega))
        have hA : SV fd_2 148 14 = ((256 ^ (48 - min 0 48) * BE9 t 0 (min 0 48) : Nat) : Int) := (NV.off (nv_z hp1.2) hp2.1 (by decide)).trans (by rw [show min 0 48 = 0 from rfl, show BE9 t 0 0 = 0 from rfl, Nat.mul_zero])
        have hB : SV fd_2 149 14 = ((256 ^ (48 - (0 - 48)) * BE9 t 48 (0 - 48) : Nat) : Int) := (nv_z hp2.2).trans (by rw [show 0 - 48 = 0 from rfl, show BE9 t 48 0 = 0 from rfl, Nat.mul_zero])
        refine lv_iconst (v := nI 0) hx hb d_Model_point_119 (by decide) ?_
        refine lv_istore (lv' := [(5, .int (nI 0)), (3, .int (nI mk)), (2, .int (nI 48)), (0, .ref mo), (1, .int (nI k1))]) hx hb d_Model_point_120 hl (by decide) rfl (fun ls hl => ?_)
        have hl : lv_has ls 6 [(5, .int (nI 0)), (3, .int (nI mk)), (2, .int (nI 48)), (0, .ref mo), (1, .int (nI k1))] := lv_sub hl [0, 1, 2, 3, 4] rfl
        have rd : ∀ (k : Nat) (i : Nat) (H : Heap) (locs : List Loc) (ls : Array Slot) (fd1 : Nat → Int64), i + k = 48 → FRM (MR mo) s.heap H → MS g n0 H mo 0 (nI pn) (nI 0) (nI wn) 0 14 fd1 → BV9 fd1 B → (∀ q ∈ locs, n0 q.base) → SV fd1 148 14 = ((256 ^ (48 - min i 48) * BE9 t 0 (min i 48) : Nat) : Int) → SV fd1 149 14 = ((256 ^ (48 - (i - 48)) * BE9 t 48 (i - 48) : Nat) : Int) → lv_has ls 6 [(5, .int (nI i)), (3, .int (nI mk)), (2, .int (nI 48)), (0, .ref mo), (1, .int (nI k1))] → W p l e { frames := 6, cells := 0, slots := 0, locals := 143 } s m [.ref mo, .int a].toArray below meth c H locs 0 0 (MQ below (QcP (QI (fun r H H' => ((okP a (nI 1)) ∧ (∃ k1 n T, a = nI k1 ∧ k1 < 12 ∧ r = nI n ∧ PAT t 48 n T ∧ ((n = 0 ∧ MVP g n0 H' mo 0 pn 0 wn (updP B (32 + 3 * k1) T)) ∨ (n ≠ 0 ∧ MVP g n0 H' mo 0 pn 0 wn B)))) ∨ (¬ (okP a (nI 1)) ∧ MVP g n0 H' mo 1 pn 48 wn B)))) [.ref mo, .int a].toArray s 0 0 (fun q => n0 q)) (F0 m 122 ls []) := by
          intro k
          induction k with
          | zero =>
            intro  i   H   locs   ls   fd1 hi hfr hm hBV hF hA hB hl
            obtain rfl : i = 48 := by omega
            refine lv_iload hx hb d_Model_point_122 (lv_at hl 0 rfl) ?_
            refine lv_iload_n hx hb d_Model_point_124 rfl (lv_at hl 2 rfl) ?_
            refine lv_icmp_ge (tgt := 186) hx hb d_Model_point_125 (by decide) (fun _ => ?_) (fun h9 => absurd (by decide) h9)
            have hA : NV fd1 148 ((BE9 t 0 48 : Nat) : Int) := be_a hA
            have hB : NV fd1 149 ((0 : Nat) : Int) := be_0 hB
            refine lv_iload_n hx hb d_Model_point_186 rfl (lv_at hl 1 rfl) ?_
            refine lv_bipush (v := nI 6) hx hb d_Model_point_187 (by decide) ?_
            refine lv_icmp_eq (tgt := 197) hx hb d_Model_point_189 (by decide) (fun h6 => ?_) (fun h6 => ?_)
            rotate_left
            · skip
              have hmn : ¬ (mk = 2 ∨ mk = 6) := fun h => by have h4 := mk48 hcn; rcases h with h | h; omega; exact h6 (by rw [h])
              refine lv_iload_n hx hb d_Model_point_192 rfl (lv_at hl 1 rfl) ?_
              refine lv_iconst (v := nI 2) hx hb d_Model_point_193 (by decide) ?_
              refine lv_icmp_ne (tgt := 229) hx hb d_Model_point_194 (by decide) (fun _ => ?_) (fun h9 => absurd h9 (fun e => absurd ((nI_eq (by omega) (by decide)).mp e) (by omega)))
              refine lv_aload_n hx hb d_Model_point_229 rfl (lv_at hl 3 rfl) ?_
              refine lv_sipush (v := nI 148) hx hb d_Model_point_230 (by decide) ?_
              refine q_cV (rest := []) E (X_Model_isNumber l g n0 mo 148 0 (nI pn) (nI 0) (nI wn) 0 14 hw0 fd1 (by decide)) w_1072 w_15 w_1069 w_1071 (bw_s 26 rfl) hd_Model_isNumber rfl ⟨by decide, by decide⟩ (OB.recv E.2.2.2.2.2 (by rfl) hm.1) hm hF hl.1 rfl (Nat.le_of_ble_eq_true rfl) d_Model_point_233 ⟨by decide, by decide⟩ (qi (fun ra H1 locs hq hF => ?_))
              obtain ⟨hra, hq⟩ := hq
              have hq := hq.symm
              subst hq
              rw [show SV fd1 148 14 = _ from hA, vk_Q] at hra
              refine lv_if_eq (tgt := 249) hx hb d_Model_point_236 (by decide) (fun za => ?_) (fun za => ?_)
              rotate_left
              · skip
                have hxq : ((BE9 t 0 48 : Nat) : Int) < QJ := (hra.resolve_right (fun h => za h.1)).2
                refine lv_aload_n hx hb d_Model_point_239 rfl (lv_at hl 3 rfl) ?_
                refine lv_sipush (v := nI 149) hx hb d_Model_point_240 (by decide) ?_
                refine q_cV (rest := []) E (X_Model_isNumber l g n0 mo 149 0 (nI pn) (nI 0) (nI wn) 0 14 hw0 fd1 (by decide)) w_1072 w_15 w_1069 w_1071 (bw_s 26 rfl) hd_Model_isNumber rfl ⟨by decide, by decide⟩ (OB.recv E.2.2.2.2.2 (by rfl) hm.1) hm hF hl.1 rfl (Nat.le_of_ble_eq_true rfl) d_Model_point_243 ⟨by decide, by decide⟩ (qi (fun rb H2 locs hq hF => ?_))
                obtain ⟨hrb, hq⟩ := hq
                have hq := hq.symm
                subst hq
                rw [show SV fd1 149 14 = _ from hB, vk_Q] at hrb
                refine lv_if_ne (tgt := 251) hx hb d_Model_point_246 (by decide) (fun zb => ?_) (fun zb => ?_)
                rotate_left
                · skip
                  exact absurd (hrb.resolve_left (fun h => absurd (h.1.symm.trans zb) (by decide))).2 (by decide +kernel)
                have hyq : ((0 : Nat) : Int) < QJ := (hrb.resolve_right (fun h => zb h.1)).2
                have hnq : ¬ (QJ ≤ x9 t ∨ (48 = 96 ∧ QJ ≤ ((BE9 t 48 48 : Nat) : Int))) := fun h => h.elim (fun h => absurd hxq (Int.not_lt.mpr h)) (fun h => absurd h.1 (by decide))
                have hX8 : MQ9 fd1 148 (x9 t) := mq_small hA hxq
                have hY8 : MQ9 fd1 149 ((0 : Nat) : Int) := mq_small hB hyq
                have s375 : ∀ (H : Heap) (locs : List Loc) (ls : Array Slot) (fd1 : Nat → Int64) (Y : Int), FRM (MR mo) s.heap H → MS g n0 H mo 0 (nI pn) (nI 0) (nI wn) 0 14 fd1 → BV9 fd1 B → (∀ q ∈ locs, n0 q.base) → MQ9 fd1 148 (x9 t) → MQ9 fd1 149 Y → MQ9 fd1 151 (s9 t) → y9 t 48 Y → lv_has ls 6 [(3, .int (nI mk)), (2, .int (nI 48)), (0, .ref mo), (1, .int (nI k1))] → W p l e { frames := 6, cells := 0, slots := 0, locals := 143 } s m [.ref mo, .int a].toArray below meth c H locs 0 0 (MQ below (QcP (QI (fun r H H' => ((okP a (nI 1)) ∧ (∃ k1 n T, a = nI k1 ∧ k1 < 12 ∧ r = nI n ∧ PAT t 48 n T ∧ ((n = 0 ∧ MVP g n0 H' mo 0 pn 0 wn (updP B (32 + 3 * k1) T)) ∨ (n ≠ 0 ∧ MVP g n0 H' mo 0 pn 0 wn B)))) ∨ (¬ (okP a (nI 1)) ∧ MVP g n0 H' mo 1 pn 48 wn B)))) [.ref mo, .int a].toArray s 0 0 (fun q => n0 q)) (F0 m 375 ls []) := by
                  intro  H   locs   ls   fd1   Y hfr hm hBV hF hX8 hY8 hs hY hl
                  refine lv_aload_n hx hb d_Model_point_375 rfl (lv_at hl 2 rfl) ?_
                  refine lv_sipush (v := nI 152) hx hb d_Model_point_376 (by decide) ?_
                  refine lv_sipush (v := nI 149) hx hb d_Model_point_379 (by decide) ?_
                  refine lv_sipush (v := nI 149) hx hb d_Model_point_382 (by decide) ?_
                  refine q_cV (rest := []) E (M_Model_product l g n0 mo 152 149 149 0 (nI pn) (nI 0) (nI wn) fd1 (by decide) (by decide) (by decide) fa hAQ Y Y hY8 hY8) w_1113 w_15 w_1110 w_1112 (bw_s 32 rfl) hd_Model_product rfl ⟨by decide, by decide⟩ (OB.recv E.2.2.2.2.2 (by rfl) hm.1) (⟨hm, (AJ.off hfr (show ¬ MR mo (mo + 4) by unfold MR; omega) hab0)⟩) hF hl.1 rfl (Nat.le_of_ble_eq_true rfl) d_Model_point_385 ⟨by decide, by decide⟩ (qv (fun H1 locs hq hF => ?_))
                  obtain ⟨hq, fd_3, hm, ho, hn⟩ := hq
                  have hfr := hfr.tr (kjR hq)
                  have hBV : BV9 fd_3 B := hBV.kq (fun j hj => ho j (by omega))
                  have hX8 := hX8.off ho (by decide)
                  have hY8 := hY8.off ho (by decide)
                  have hs := hs.off ho (by decide)
                  refine lv_aload_n hx hb d_Model_point_388 rfl (lv_at hl 2 rfl) ?_
                  refine lv_sipush (v := nI 151) hx hb d_Model_point_389 (by decide) ?_
                  refine lv_sipush (v := nI 152) hx hb d_Model_point_392 (by decide) ?_
                  refine q_cV (rest := []) E (N_Model_isSame l g n0 mo 151 152 0 (nI pn) (nI 0) (nI wn) 0 14 hw0 fd_3 (by decide) (by decide) (s9 t % QJ) ((Y * Y) % QJ) hs hn) w_1163 w_15 w_1160 w_1162 (bw_s 39 rfl) hd_Model_isSame rfl ⟨by decide, by decide⟩ (OB.recv E.2.2.2.2.2 (by rfl) hm.1) hm hF hl.1 rfl (Nat.le_of_ble_eq_true rfl) d_Model_point_395 ⟨by decide, by decide⟩ (qi (fun re H2 locs hq hF => ?_))
                  obtain ⟨hre, hq⟩ := hq
                  have hq := hq.symm
                  subst hq
                  refine lv_if_ne (tgt := 403) hx hb d_Model_point_398 (by decide) (fun he => ?_) (fun he => ?_)
                  rotate_left
                  · skip
                    refine lv_iconst (v := nI 5) hx hb d_Model_point_401 (by decide) ?_
                    exact q_iret E hr hlk (⟨_, rfl, Or.inl ⟨hok, k1, 5, PZ0, e_k1, by omega, rfl, ⟨5, Or.inr (Or.inr (Or.inr ⟨Or.inl rfl, by rw [← emk]; exact hcn, by rw [← emk]; exact hmn, Or.inr ⟨hnq, Y, hY, Or.inr ⟨fun h => (hre.resolve_left (fun h => absurd (h.1.symm.trans he) (by decide))).2 h.symm, rfl⟩⟩⟩)), Or.inl ⟨by decide, rfl⟩⟩, Or.inr ⟨by decide, hP.fin hfr hw0 hm hBV ⟨hbd.1, Nat.zero_le _, hbd.2.2⟩⟩⟩⟩) hF d_Model_point_402
                  have hcq : cq (Y * Y) (s9 t) := ((hre.resolve_right (fun h => he h.1)).2).symm
                  have hrd : RD9 t 48 0 (x9 t, Y, 1) := Or.inr (Or.inr (Or.inr ⟨Or.inl rfl, by rw [← emk]; exact hcn, by rw [← emk]; exact hmn, Or.inr ⟨hnq, Y, hY, Or.inl ⟨hcq, rfl, PE.rf _⟩⟩⟩))
                  have hPC := hrd.on
                  refine lv_aload_n hx hb d_Model_point_403 rfl (lv_at hl 2 rfl) ?_
                  refine lv_sipush (v := nI 150) hx hb d_Model_point_404 (by decide) ?_
                  refine q_cV (rest := []) E (c_Model_one l g n0 mo 150 0 (nI pn) (nI 0) (nI wn) 0 14 hw0 fd_3 (by decide)) w_971 w_15 w_968 w_970 (bw_s 16 rfl) hd_Model_one rfl ⟨by decide, by decide⟩ (OB.recv E.2.2.2.2.2 (by rfl) hm.1) hm hF hl.1 rfl (Nat.le_of_ble_eq_true rfl) d_Model_point_407 ⟨by decide, by decide⟩ (qv (fun H3 locs hq hF => ?_))
                  obtain ⟨hq, fd_4, hm, hp1⟩ := hq
                  have hfr := hfr.tr hq
                  have hBV : BV9 fd_4 B := hBV.kq (fun j hj => hp1.1 j (by omega))
                  have hX8 := hX8.off hp1.1 (by decide)
                  have hY8 := hY8.off hp1.1 (by decide)
                  have hZ8 : MQ9 fd_4 150 1 := mq_1 hp1.2
                  have ord : ∀ (k : Nat) (i : Nat) (H : Heap) (locs : List Loc) (ls : Array Slot) (fd1 : Nat → Int64), i + k = 14 → FRM (MR mo) s.heap H → MS g n0 H mo 0 (nI pn) (nI 0) (nI wn) 0 14 fd1 → BV9 fd1 B → (∀ q ∈ locs, n0 q.base) → MQ9 fd1 148 (x9 t) → MQ9 fd1 149 Y → MQ9 fd1 150 1 → (∀ k, k < i → fd1 (2142 + k) = kPr (14 + k)) → lv_has ls 6 [(5, .int (nI i)), (2, .int (nI 48)), (0, .ref mo), (1, .int (nI k1))] → W p l e { frames := 6, cells := 0, slots := 0, locals := 143 } s m [.ref mo, .int a].toArray below meth c H locs 0 0 (MQ below (QcP (QI (fun r H H' => ((okP a (nI 1)) ∧ (∃ k1 n T, a = nI k1 ∧ k1 < 12 ∧ r = nI n ∧ PAT t 48 n T ∧ ((n = 0 ∧ MVP g n0 H' mo 0 pn 0 wn (updP B (32 + 3 * k1) T)) ∨ (n ≠ 0 ∧ MVP g n0 H' mo 0 pn 0 wn B)))) ∨ (¬ (okP a (nI 1)) ∧ MVP g n0 H' mo 1 pn 48 wn B)))) [.ref mo, .int a].toArray s 0 0 (fun q => n0 q)) (F0 m 413 ls []) := by
                    intro k
                    induction k with
                    | zero =>
                      intro  i   H   locs   ls   fd1 hi hfr hm hBV hF hX8 hY8 hZ8 hcp hl
                      obtain rfl : i = 14 := by omega
                      refine lv_iload hx hb d_Model_point_413 (lv_at hl 0 rfl) ?_
                      refine lv_bipush (v := nI 14) hx hb d_Model_point_415 (by decide) ?_
                      refine lv_icmp_ge (tgt := 447) hx hb d_Model_point_417 (by decide) (fun _ => ?_) (fun h9 => absurd (by decide) h9)
                      have hR : NV fd1 153 ((RN : Nat) : Int) := (VL_ext (fun k hk => hcp k hk)).trans VL_kR2
                      refine lv_aload_n hx hb d_Model_point_447 rfl (lv_at hl 2 rfl) ?_
                      refine lv_sipush (v := nI 154) hx hb d_Model_point_448 (by decide) ?_
                      refine lv_sipush (v := nI 153) hx hb d_Model_point_451 (by decide) ?_
                      refine lv_sipush (v := nI 148) hx hb d_Model_point_454 (by decide) ?_
                      refine q_cV (rest := []) E (M_Model_multiple l g n0 mo 154 153 148 0 (nI pn) (nI 0) (nI wn) fd1 fa (Or.inr ⟨by decide, by decide⟩) (Or.inr ⟨by decide, by decide⟩) (Or.inr ⟨by decide, by decide⟩) hAQ (x9 t, Y, 1) hPC RN) w_1167 w_15 w_1164 w_1166 (bw_s 40 rfl) hd_Model_multiple rfl ⟨by decide, by decide⟩ (OB.recv E.2.2.2.2.2 (by rfl) hm.1) (⟨hm, (AJ.off hfr (show ¬ MR mo (mo + 4) by unfold MR; omega) hab0), hR, hX8, hY8, hZ8⟩) hF hl.1 rfl (Nat.le_of_ble_eq_true rfl) d_Model_point_457 ⟨by decide, by decide⟩ (qv (fun H1 locs hq hF => ?_))
                      obtain ⟨hq, -, fd_5, hm, hS, T, hRP, -, -, hT⟩ := hq
                      have hfr := hfr.tr hq
                      have hBV := hBV.sm hS (fun t h => by omega)
                      have hX8 := hX8.sm hS (by omega)
                      have hY8 := hY8.sm hS (by omega)
                      have hZ8 := hZ8.sm hS (by omega)
                      refine lv_aload_n hx hb d_Model_point_460 rfl (lv_at hl 2 rfl) ?_
                      refine lv_sipush (v := nI 156) hx hb d_Model_point_461 (by decide) ?_
                      refine q_cV (rest := []) E (N_Model_isZero l g n0 mo 156 0 (nI pn) (nI 0) (nI wn) 0 14 hw0 fd_5 (by decide) _ hT) w_1105 w_15 w_1102 w_1104 (bw_s 30 rfl) hd_Model_isZero rfl ⟨by decide, by decide⟩ (OB.recv E.2.2.2.2.2 (by rfl) hm.1) hm hF hl.1 rfl (Nat.le_of_ble_eq_true rfl) d_Model_point_464 ⟨by decide, by decide⟩ (qi (fun rt H2 locs hq hF => ?_))
                      obtain ⟨hrt, hq⟩ := hq
                      have hq := hq.symm
                      subst hq
                      refine lv_if_ne (tgt := 473) hx hb d_Model_point_467 (by decide) (fun zt => ?_) (fun zt => ?_)
                      rotate_left
                      · skip
                        refine lv_bipush (v := nI 6) hx hb d_Model_point_470 (by decide) ?_
                        exact q_iret E hr hlk (⟨_, rfl, Or.inl ⟨hok, k1, 6, (x9 t, Y, 1), e_k1, by omega, rfl, ⟨0, hrd, Or.inr (Or.inr ⟨rfl, fun gd => (hrt.resolve_left (fun h => absurd (h.1.symm.trans zt) (by decide))).2 (((GD_iff hPC hRP).mp gd).trans q_z), rfl⟩)⟩, Or.inr ⟨by decide, hP.fin hfr hw0 hm hBV ⟨hbd.1, Nat.zero_le _, hbd.2.2⟩⟩⟩⟩) hF d_Model_point_472
                      refine lv_aload_n hx hb d_Model_point_473 rfl (lv_at hl 2 rfl) ?_
                      refine lv_iload_n hx hb d_Model_point_474 rfl (lv_at hl 3 rfl) ?_
                      refine q_cS (rest := [.ref mo]) E (c_Model_slot l g n0 (nI k1)) w_1154 w_15 w_1152 w_1153 hd_Model_slot rfl ⟨by decide, by decide⟩ trivial hF hl.1 rfl (Nat.le_of_ble_eq_true rfl) d_Model_point_475 ⟨by decide, by decide⟩ (qi (fun rs H3 locs hq hF => ?_))
                      obtain ⟨hrs, hq9⟩ := hq
                      subst hrs
                      subst hq9
                      refine lv_topi (fun t9 e9 => ?_)
                      obtain rfl : t9 = nI (32 + 3 * k1) := e9.trans (by rw [pk_mul, nI_add])
                      refine lv_sipush (v := nI 148) hx hb d_Model_point_478 (by decide) ?_
                      have hT8 : PM9 fd_5 148 (x9 t, Y, 1) := ⟨hX8, hY8, hZ8⟩
                      refine q_cV (rest := []) E (c_Model_movePoint l g n0 mo (32 + 3 * k1) 148 0 (nI pn) (nI 0) (nI wn) 0 14 hw0 fd_5 (by omega) (by omega) (by omega)) w_1171 w_15 w_1168 w_1170 (bw_s 41 rfl) hd_Model_movePoint rfl ⟨by decide, by decide⟩ (OB.recv E.2.2.2.2.2 (by rfl) hm.1) hm hF hl.1 rfl (Nat.le_of_ble_eq_true rfl) d_Model_point_481 ⟨by decide, by decide⟩ (qv (fun H4 locs hq hF => ?_))
                      obtain ⟨hq, fd_6, hm, hS8, hmv⟩ := hq
                      have hfr := hfr.tr hq
                      have hT8 := hT8.mv hmv
                      refine lv_iconst (v := nI 0) hx hb d_Model_point_484 (by decide) ?_
                      exact q_iret E hr hlk (⟨_, rfl, Or.inl ⟨hok, k1, 0, (x9 t, Y, 1), e_k1, by omega, rfl, ⟨0, hrd, Or.inr (Or.inl ⟨rfl, (GD_iff hPC hRP).mpr ((hrt.resolve_right (fun h => zt h.1)).2.trans q_z.symm), rfl⟩)⟩, Or.inl ⟨rfl, hP.fin hfr hw0 hm (hBV.set hS8 (fun t h => by omega) hT8 (by omega)) ⟨hbd.1, Nat.zero_le _, hbd.2.2⟩⟩⟩⟩) hF d_Model_point_485
                    | succ k ih =>
                      intro  i   H   locs   ls   fd1 hi hfr hm hBV hF hX8 hY8 hZ8 hcp hl
                      refine lv_iload hx hb d_Model_point_413 (lv_at hl 0 rfl) ?_
                      refine lv_bipush (v := nI 14) hx hb d_Model_point_415 (by decide) ?_
                      refine lv_icmp_ge (tgt := 447) hx hb d_Model_point_417 (by decide) (fun h9 => absurd h9 (nI_ge (by omega) (by decide))) (fun _ => ?_)
                      refine lv_aload_n hx hb d_Model_point_420 rfl (lv_at hl 2 rfl) ?_
                      refine q_get (C := "KateDeskModel") (T := T_Model) (N := 14) (ci := 8) E hm.1 in_Model rfl 1 (by decide) w_1002 rfl rfl d_Model_point_421 ?_
                      refine lv_sipush (v := nI 2142) hx hb d_Model_point_424 (by decide) ?_
                      refine lv_iload hx hb d_Model_point_427 (lv_at hl 0 rfl) ?_
                      refine lv_iadd hx hb d_Model_point_429 ?_
                      refine lv_topi (fun t9 e9 => ?_)
                      obtain rfl : t9 = nI (2142 + i) := e9.trans (nI_add _ _)
                      refine lv_aload_n hx hb d_Model_point_430 rfl (lv_at hl 2 rfl) ?_
                      refine q_get (C := "KateDeskModel") (T := T_Model) (N := 14) (ci := 8) E hm.1 in_Model rfl 2 (by decide) w_1003 rfl rfl d_Model_point_431 ?_
                      refine lv_bipush (v := nI 14) hx hb d_Model_point_434 (by decide) ?_
                      refine lv_iload hx hb d_Model_point_436 (lv_at hl 0 rfl) ?_
                      refine lv_iadd hx hb d_Model_point_438 ?_
                      refine lv_topi (fun t9 e9 => ?_)
                      obtain rfl : t9 = nI (14 + i) := e9.trans (nI_add _ _)
                      refine q_lald (N := 28) (f := kPr) E hm.2.1 (14 + i) rfl (by omega) (by decide) d_Model_point_439 ?_
                      have hdv : dg (kPr (14 + i)) := dg_kPr _ (by omega)
                      refine q_last E hm.2.2.2.2.1 hm.2.2.2.2.2.2.1 hF (2142 + i) rfl (by omega) (by decide) d_Model_point_440 (fun H1 locs hq hf2 hF => ?_)
                      have hm := hm.step hK (hq.mono (fun q h => Or.inl h)) hf2 ((hm.2.2.2.2.2.1).upd hdv)
                      have hfr := hfr.tr (kjR1 hq)
                      refine lv_iinc (k := 0) (v := nI (i + 1)) (lv' := [(5, .int (nI (i + 1))), (2, .int (nI 48)), (0, .ref mo), (1, .int (nI k1))]) hx hb d_Model_point_441 hl rfl (i_inc i) (by decide) rfl (fun ls hl => ?_)
                      refine lv_goto (tgt := 413) hx hb d_Model_point_444 (by decide) ?_
                      have hl : lv_has ls 6 [(5, .int (nI (i + 1))), (2, .int (nI 48)), (0, .ref mo), (1, .int (nI k1))] := lv_sub hl [0, 1, 2, 3] rfl
                      exact ih (i + 1) _ _ ls _ (by omega) hfr hm (hBV.kq (fun j hj => pk_uLn (by omega))) hF (hX8.kp (fun k hk => pk_uLn (by omega))) (hY8.kp (fun k hk => pk_uLn (by omega))) (hZ8.kp (fun k hk => pk_uLn (by omega))) (fun k hk => by by_cases e : k = i; (rw [e, pk_uLs]); (rw [pk_uLn (by omega)]; exact hcp k (by omega))) hl
                  refine lv_iconst (v := nI 0) hx hb d_Model_point_410 (by decide) ?_
                  refine lv_istore (lv' := [(5, .int (nI 0)), (3, .int (nI mk)), (2, .int (nI 48)), (0, .ref mo), (1, .int (nI k1))]) hx hb d_Model_point_411 hl (by decide) rfl (fun ls hl => ?_)
                  have hl : lv_has ls 6 [(5, .int (nI 0)), (2, .int (nI 48)), (0, .ref mo), (1, .int (nI k1))] := lv_sub hl [0, 2, 3, 4] rfl
                  exact ord 14 0 _ _ ls _ (by omega) hfr hm hBV hF hX8 hY8 hZ8 (fun k hk => absurd hk (Nat.not_lt_zero _)) hl
                refine lv_aload_n hx hb d_Model_point_251 rfl (lv_at hl 3 rfl) ?_
                refine lv_sipush (v := nI 151) hx hb d_Model_point_252 (by decide) ?_
                refine lv_sipush (v := nI 148) hx hb d_Model_point_255 (by decide) ?_
                refine lv_sipush (v := nI 148) hx hb d_Model_point_258 (by decide) ?_
                refine q_cV (rest := []) E (M_Model_product l g n0 mo 151 148 148 0 (nI pn) (nI 0) (nI wn) fd1 (by decide) (by decide) (by decide) fa hAQ (x9 t) (x9 t) hX8 hX8) w_1113 w_15 w_1110 w_1112 (bw_s 32 rfl) hd_Model_product rfl ⟨by decide, by decide⟩ (OB.recv E.2.2.2.2.2 (by rfl) hm.1) (⟨hm, (AJ.off hfr (show ¬ MR mo (mo + 4) by unfold MR; omega) hab0)⟩) hF hl.1 rfl (Nat.le_of_ble_eq_true rfl) d_Model_point_261 ⟨by decide, by decide⟩ (qv (fun H3 locs hq hF => ?_))
                obtain ⟨hq, fd_7, hm, ho, hn⟩ := hq
                have hfr := hfr.tr (kjR hq)
                have hBV : BV9 fd_7 B := hBV.kq (fun j hj => ho j (by omega))
                have hX8 := hX8.off ho (by decide)
                have hY8 := hY8.off ho (by decide)
                have hs := hn
                refine lv_aload_n hx hb d_Model_point_264 rfl (lv_at hl 3 rfl) ?_
                refine lv_sipush (v := nI 151) hx hb d_Model_point_265 (by decide) ?_
                refine lv_sipush (v := nI 151) hx hb d_Model_point_268 (by decide) ?_
                refine lv_sipush (v := nI 148) hx hb d_Model_point_271 (by decide) ?_
                refine q_cV (rest := []) E (M_Model_product l g n0 mo 151 151 148 0 (nI pn) (nI 0) (nI wn) fd_7 (by decide) (by decide) (by decide) fa hAQ (x9 t * x9 t) (x9 t) hs hX8) w_1113 w_15 w_1110 w_1112 (bw_s 32 rfl) hd_Model_product rfl ⟨by decide, by decide⟩ (OB.recv E.2.2.2.2.2 (by rfl) hm.1) (⟨hm, (AJ.off hfr (show ¬ MR mo (mo + 4) by unfold MR; omega) hab0)⟩) hF hl.1 rfl (Nat.le_of_ble_eq_true rfl) d_Model_point_274 ⟨by decide, by decide⟩ (qv (fun H4 locs hq hF => ?_))
                obtain ⟨hq, fd_8, hm, ho, hn⟩ := hq
                have hfr := hfr.tr (kjR hq)
                have hBV : BV9 fd_8 B := hBV.kq (fun j hj => ho j (by omega))
                have hX8 := hX8.off ho (by decide)
                have hY8 := hY8.off ho (by decide)
                have hs := hn
                refine lv_aload_n hx hb d_Model_point_277 rfl (lv_at hl 3 rfl) ?_
                refine lv_sipush (v := nI 152) hx hb d_Model_point_278 (by decide) ?_
                refine lv_ldc2 (v := 4) hx hb E.2.2.2.1 (E.2.2.2.2.1 _ w_1155) d_Model_point_281 ?_
                refine q_cV (rest := []) E (N_Model_small l g n0 mo 152 4 0 (nI pn) (nI 0) (nI wn) 0 14 hw0 fd_8 (by decide) (by decide)) w_1084 w_15 w_1081 w_1083 (bw_s 28 rfl) hd_Model_small rfl ⟨by decide, by decide⟩ (OB.recv E.2.2.2.2.2 (by rfl) hm.1) hm hF hl.1 rfl (Nat.le_of_ble_eq_true rfl) d_Model_point_284 ⟨by decide, by decide⟩ (qv (fun H5 locs hq hF => ?_))
                obtain ⟨hq, fd_9, hm, ho, hn⟩ := hq
                have hfr := hfr.tr hq
                have hBV : BV9 fd_9 B := hBV.kq (fun j hj => ho j (by omega))
                have hX8 := hX8.off ho (by decide)
                have hY8 := hY8.off ho (by decide)
                have hs := hs.off ho (by decide)
                have h4 := mq_4 hn
                refine lv_aload_n hx hb d_Model_point_287 rfl (lv_at hl 3 rfl) ?_
                refine lv_sipush (v := nI 151) hx hb d_Model_point_288 (by decide) ?_
                refine lv_sipush (v := nI 151) hx hb d_Model_point_291 (by decide) ?_
                refine lv_sipush (v := nI 152) hx hb d_Model_point_294 (by decide) ?_
                refine q_cV (rest := []) E (M_Model_add l g n0 mo 151 151 152 0 (nI pn) (nI 0) (nI wn) fd_9 (by decide) (by decide) (by decide) (x9 t * x9 t * x9 t) 4 hs h4) w_975 w_15 w_972 w_974 (bw_s 17 rfl) hd_Model_add rfl ⟨by decide, by decide⟩ (OB.recv E.2.2.2.2.2 (by rfl) hm.1) hm hF hl.1 rfl (Nat.le_of_ble_eq_true rfl) d_Model_point_297 ⟨by decide, by decide⟩ (qv (fun H6 locs hq hF => ?_))
                obtain ⟨hq, fd_10, hm, ho, hn⟩ := hq
                have hfr := hfr.tr (kjR hq)
                have hBV : BV9 fd_10 B := hBV.kq (fun j hj => ho j (by omega))
                have hX8 := hX8.off ho (by decide)
                have hY8 := hY8.off ho (by decide)
                have hs : MQ9 fd_10 151 (s9 t) := hn
                refine lv_iload_n hx hb d_Model_point_300 rfl (lv_at hl 2 rfl) ?_
                refine lv_bipush (v := nI 48) hx hb d_Model_point_301 (by decide) ?_
                refine lv_icmp_ne (tgt := 375) hx hb d_Model_point_303 (by decide) (fun h9 => absurd (rfl) h9) (fun _ => ?_)
                refine lv_aload_n hx hb d_Model_point_306 rfl (lv_at hl 3 rfl) ?_
                refine lv_sipush (v := nI 152) hx hb d_Model_point_307 (by decide) ?_
                refine lv_lconst (v := 1) hx hb d_Model_point_310 (by decide) ?_
                refine q_cV (rest := []) E (NQ_Model_primeAnd l g n0 mo 152 1 0 (nI pn) (nI 0) (nI wn) fd_10 (by decide) (by decide)) w_1122 w_15 w_1119 w_1121 (bw_s 34 rfl) hd_Model_primeAnd rfl ⟨by decide, by decide⟩ (OB.recv E.2.2.2.2.2 (by rfl) hm.1) hm hF hl.1 rfl (Nat.le_of_ble_eq_true rfl) d_Model_point_311 ⟨by decide, by decide⟩ (qv (fun H7 locs hq hF => ?_))
                obtain ⟨hq, fd_11, hm, ho, hn⟩ := hq
                have hfr := hfr.tr hq
                have hBV : BV9 fd_11 B := hBV.kq (fun j hj => ho j (by omega))
                have hX8 := hX8.off ho (by decide)
                have hs := hs.off ho (by decide)
                refine lv_aload_n hx hb d_Model_point_314 rfl (lv_at hl 3 rfl) ?_
                refine lv_sipush (v := nI 152) hx hb d_Model_point_315 (by decide) ?_
                refine lv_iconst (v := nI 2) hx hb d_Model_point_318 (by decide) ?_
                refine q_cV (rest := []) E (N_Model_halves l g n0 mo 152 2 0 (nI pn) (nI 0) (nI wn) 0 14 hw0 fd_11 (by decide) (by decide) _ hn) w_1144 w_15 w_1141 w_1143 (bw_s 37 rfl) hd_Model_halves rfl ⟨by decide, by decide⟩ (OB.recv E.2.2.2.2.2 (by rfl) hm.1) hm hF hl.1 rfl (Nat.le_of_ble_eq_true rfl) d_Model_point_319 ⟨by decide, by decide⟩ (qv (fun H8 locs hq hF => ?_))
                obtain ⟨hq, fd_12, hm, ho, hn⟩ := hq
                have hfr := hfr.tr hq
                have hBV : BV9 fd_12 B := hBV.kq (fun j hj => ho j (by omega))
                have hX8 := hX8.off ho (by decide)
                have hs := hs.off ho (by decide)
                have hE : NV fd_12 152 ((E9Q : Nat) : Int) := hn.trans E9_e
                refine lv_aload_n hx hb d_Model_point_322 rfl (lv_at hl 3 rfl) ?_
                refine lv_sipush (v := nI 149) hx hb d_Model_point_323 (by decide) ?_
                refine lv_sipush (v := nI 151) hx hb d_Model_point_326 (by decide) ?_
                refine lv_sipush (v := nI 152) hx hb d_Model_point_329 (by decide) ?_
                refine q_cV (rest := []) E (NQ_Model_raise l g n0 mo 149 151 152 0 (nI pn) (nI 0) (nI wn) fd_12 fa (by decide) (by decide) (by decide) hAQ (s9 t % QJ) E9Q hs (qm_r _).2 hE ⟨by decide, by decide⟩) w_1126 w_15 w_1123 w_1125 (bw_s 35 rfl) hd_Model_raise rfl ⟨by decide, by decide⟩ (OB.recv E.2.2.2.2.2 (by rfl) hm.1) (⟨hm, (AJ.off hfr (show ¬ MR mo (mo + 4) by unfold MR; omega) hab0)⟩) hF hl.1 rfl (Nat.le_of_ble_eq_true rfl) d_Model_point_332 ⟨by decide, by decide⟩ (qv (fun H9 locs hq hF => ?_))
                obtain ⟨hq, -, fd_13, hm, ho, hn⟩ := hq
                have hfr := hfr.tr hq
                have hBV : BV9 fd_13 B := hBV.kq (fun j hj => ho j (by omega) (by omega))
                have hX8 := hX8.kp (fun k hk => ho _ (by omega) (by omega))
                have hs := hs.kp (fun k hk => ho _ (by omega) (by omega))
                have hY8 := mq_p hn
                refine lv_aload_n hx hb d_Model_point_335 rfl (lv_at hl 3 rfl) ?_
                refine lv_sipush (v := nI 149) hx hb d_Model_point_336 (by decide) ?_
                refine q_cV (rest := []) E (M_Model_isGreat l g n0 mo 149 0 (nI pn) (nI 0) (nI wn) fd_13 (by decide) (by decide) (s9 t ^ E9Q) hY8) w_1159 w_15 w_1156 w_1158 (bw_s 38 rfl) hd_Model_isGreat rfl ⟨by decide, by decide⟩ (OB.recv E.2.2.2.2.2 (by rfl) hm.1) hm hF hl.1 rfl (Nat.le_of_ble_eq_true rfl) d_Model_point_339 ⟨by decide, by decide⟩ (qi (fun rg H10 locs hq hF => ?_))
                obtain ⟨hrg, hq, fd_14, hm, ho⟩ := hq
                have hfr := hfr.tr hq
                have hBV : BV9 fd_14 B := hBV.kq (fun j hj => ho j (by omega))
                have hX8 := hX8.off ho (by decide)
                have hY8 := hY8.off ho (by decide)
                have hs := hs.off ho (by decide)
                refine lv_iload_n hx hb d_Model_point_342 rfl (lv_at hl 1 rfl) ?_
                refine lv_iconst (v := nI 5) hx hb d_Model_point_343 (by decide) ?_
                rcases hrg with ⟨hr1, hlt⟩ | ⟨hr1, hlt⟩
                · subst hr1
                  refine lv_icmp_ne (tgt := 351) hx hb d_Model_point_344 (by decide) (fun h5 => ?_) (fun h5 => ?_)
                  rotate_left
                  · skip
                    refine lv_iconst (v := nI 1) hx hb d_Model_point_347 (by decide) ?_
                    refine lv_goto (tgt := 352) hx hb d_Model_point_348 (by decide) ?_
                    have hm5 : t 0 / 32 = 5 := by rw [← emk]; exact (nI_eq (by omega) (by decide)).mp h5
                    have hiff : (ngQ (s9 t ^ E9Q % QJ) < s9 t ^ E9Q % QJ ↔ t 0 / 32 = 5) := ⟨fun _ => hm5, fun _ => hlt⟩
                    refine lv_icmp_eq (tgt := 375) hx hb d_Model_point_352 (by decide) (fun _ => ?_) (fun h9 => absurd (by decide) h9)
                    have hl : lv_has ls 6 [(3, .int (nI mk)), (2, .int (nI 48)), (0, .ref mo), (1, .int (nI k1))] := lv_sub hl [1, 2, 3, 4] rfl
                    exact s375 _ _ ls _ _ hfr hm hBV hF hX8 hY8 hs (Or.inr ⟨rfl, fun _ => rfl, fun h => absurd hiff h⟩) hl
                  refine lv_iconst (v := nI 0) hx hb d_Model_point_351 (by decide) ?_
                  have hm5 : ¬ (t 0 / 32 = 5) := by rw [← emk]; exact fun e => h5 (by rw [e])
                  have hiff : ¬ (ngQ (s9 t ^ E9Q % QJ) < s9 t ^ E9Q % QJ ↔ t 0 / 32 = 5) := fun h => hm5 (h.mp hlt)
                  refine lv_icmp_eq (tgt := 375) hx hb d_Model_point_352 (by decide) (fun h9 => absurd h9 (by decide)) (fun _ => ?_)
                  refine lv_aload_n hx hb d_Model_point_355 rfl (lv_at hl 3 rfl) ?_
                  refine lv_sipush (v := nI 152) hx hb d_Model_point_356 (by decide) ?_
                  refine q_cV (rest := []) E (c_Model_zero l g n0 mo 152 0 (nI pn) (nI 0) (nI wn) 0 14 hw0 fd_14 (by decide)) w_1000 w_15 w_997 w_999 (bw_s 23 rfl) hd_Model_zero rfl ⟨by decide, by decide⟩ (OB.recv E.2.2.2.2.2 (by rfl) hm.1) hm hF hl.1 rfl (Nat.le_of_ble_eq_true rfl) d_Model_point_359 ⟨by decide, by decide⟩ (qv (fun H11 locs hq hF => ?_))
                  obtain ⟨hq, fd_15, hm, hp1⟩ := hq
                  have hfr := hfr.tr hq
                  have hBV : BV9 fd_15 B := hBV.kq (fun j hj => hp1.1 j (by omega))
                  have hX8 := hX8.off hp1.1 (by decide)
                  have hY8 := hY8.off hp1.1 (by decide)
                  have hs := hs.off hp1.1 (by decide)
                  have h0 := mq_0 hp1.2
                  refine lv_aload_n hx hb d_Model_point_362 rfl (lv_at hl 3 rfl) ?_
                  refine lv_sipush (v := nI 149) hx hb d_Model_point_363 (by decide) ?_
                  refine lv_sipush (v := nI 152) hx hb d_Model_point_366 (by decide) ?_
                  refine lv_sipush (v := nI 149) hx hb d_Model_point_369 (by decide) ?_
                  refine q_cV (rest := []) E (M_Model_less l g n0 mo 149 152 149 0 (nI pn) (nI 0) (nI wn) fd_15 (by decide) (by decide) (by decide) 0 (s9 t ^ E9Q) h0 hY8) w_1109 w_15 w_1106 w_1108 (bw_s 31 rfl) hd_Model_less rfl ⟨by decide, by decide⟩ (OB.recv E.2.2.2.2.2 (by rfl) hm.1) hm hF hl.1 rfl (Nat.le_of_ble_eq_true rfl) d_Model_point_372 ⟨by decide, by decide⟩ (qv (fun H12 locs hq hF => ?_))
                  obtain ⟨hq, fd_16, hm, ho, hn⟩ := hq
                  have hfr := hfr.tr (kjR hq)
                  have hBV : BV9 fd_16 B := hBV.kq (fun j hj => ho j (by omega))
                  have hX8 := hX8.off ho (by decide)
                  have hs := hs.off ho (by decide)
                  have hY8 := hn.cg (Int.zero_sub _)
                  have hl : lv_has ls 6 [(3, .int (nI mk)), (2, .int (nI 48)), (0, .ref mo), (1, .int (nI k1))] := lv_sub hl [1, 2, 3, 4] rfl
                  exact s375 _ _ ls _ _ hfr hm hBV hF hX8 hY8 hs (Or.inr ⟨rfl, fun h => absurd h hiff, fun _ => rfl⟩) hl
                · subst hr1
                  refine lv_icmp_ne (tgt := 351) hx hb d_Model_point_344 (by decide) (fun h5 => ?_) (fun h5 => ?_)
                  rotate_left
                  · skip
                    refine lv_iconst (v := nI 1) hx hb d_Model_point_347 (by decide) ?_
                    refine lv_goto (tgt := 352) hx hb d_Model_point_348 (by decide) ?_
                    have hm5 : t 0 / 32 = 5 := by rw [← emk]; exact (nI_eq (by omega) (by decide)).mp h5
                    have hiff : ¬ (ngQ (s9 t ^ E9Q % QJ) < s9 t ^ E9Q % QJ ↔ t 0 / 32 = 5) := fun h => hlt (h.mpr hm5)
                    refine lv_icmp_eq (tgt := 375) hx hb d_Model_point_352 (by decide) (fun h9 => absurd h9 (by decide)) (fun _ => ?_)
                    refine lv_aload_n hx hb d_Model_point_355 rfl (lv_at hl 3 rfl) ?_
                    refine lv_sipush (v := nI 152) hx hb d_Model_point_356 (by decide) ?_
                    refine q_cV (rest := []) E (c_Model_zero l g n0 mo 152 0 (nI pn) (nI 0) (nI wn) 0 14 hw0 fd_14 (by decide)) w_1000 w_15 w_997 w_999 (bw_s 23 rfl) hd_Model_zero rfl ⟨by decide, by decide⟩ (OB.recv E.2.2.2.2.2 (by rfl) hm.1) hm hF hl.1 rfl (Nat.le_of_ble_eq_true rfl) d_Model_point_359 ⟨by decide, by decide⟩ (qv (fun H11 locs hq hF => ?_))
                    obtain ⟨hq, fd_17, hm, hp1⟩ := hq
                    have hfr := hfr.tr hq
                    have hBV : BV9 fd_17 B := hBV.kq (fun j hj => hp1.1 j (by omega))
                    have hX8 := hX8.off hp1.1 (by decide)
                    have hY8 := hY8.off hp1.1 (by decide)
                    have hs := hs.off hp1.1 (by decide)
                    have h0 := mq_0 hp1.2
                    refine lv_aload_n hx hb d_Model_point_362 rfl (lv_at hl 3 rfl) ?_
                    refine lv_sipush (v := nI 149) hx hb d_Model_point_363 (by decide) ?_
                    refine lv_sipush (v := nI 152) hx hb d_Model_point_366 (by decide) ?_
                    refine lv_sipush (v := nI 149) hx hb d_Model_point_369 (by decide) ?_
                    refine q_cV (rest := []) E (M_Model_less l g n0 mo 149 152 149 0 (nI pn) (nI 0) (nI wn) fd_17 (by decide) (by decide) (by decide) 0 (s9 t ^ E9Q) h0 hY8) w_1109 w_15 w_1106 w_1108 (bw_s 31 rfl) hd_Model_less rfl ⟨by decide, by decide⟩ (OB.recv E.2.2.2.2.2 (by rfl) hm.1) hm hF hl.1 rfl (Nat.le_of_ble_eq_true rfl) d_Model_point_372 ⟨by decide, by decide⟩ (qv (fun H12 locs hq hF => ?_))
                    obtain ⟨hq, fd_18, hm, ho, hn⟩ := hq
                    have hfr := hfr.tr (kjR hq)
                    have hBV : BV9 fd_18 B := hBV.kq (fun j hj => ho j (by omega))
                    have hX8 := hX8.off ho (by decide)
                    have hs := hs.off ho (by decide)
                    have hY8 := hn.cg (Int.zero_sub _)
                    have hl : lv_has ls 6 [(3, .int (nI mk)), (2, .int (nI 48)), (0, .ref mo), (1, .int (nI k1))] := lv_sub hl [1, 2, 3, 4] rfl
                    exact s375 _ _ ls _ _ hfr hm hBV hF hX8 hY8 hs (Or.inr ⟨rfl, fun h => absurd h hiff, fun _ => rfl⟩) hl
                  refine lv_iconst (v := nI 0) hx hb d_Model_point_351 (by decide) ?_
                  have hm5 : ¬ (t 0 / 32 = 5) := by rw [← emk]; exact fun e => h5 (by rw [e])
                  have hiff : (ngQ (s9 t ^ E9Q % QJ) < s9 t ^ E9Q % QJ ↔ t 0 / 32 = 5) := ⟨fun h => absurd h hlt, fun h => absurd h hm5⟩
                  refine lv_icmp_eq (tgt := 375) hx hb d_Model_point_352 (by decide) (fun _ => ?_) (fun h9 => absurd (by decide) h9)
                  have hl : lv_has ls 6 [(3, .int (nI mk)), (2, .int (nI 48)), (0, .ref mo), (1, .int (nI k1))] := lv_sub hl [1, 2, 3, 4] rfl
                  exact s375 _ _ ls _ _ hfr hm hBV hF hX8 hY8 hs (Or.inr ⟨rfl, fun _ => rfl, fun h => absurd hiff h⟩) hl
              refine lv_iconst (v := nI 4) hx hb d_Model_point_249 (by decide) ?_
              exact q_iret E hr hlk (⟨_, rfl, Or.inl ⟨hok, k1, 4, PZ0, e_k1, by omega, rfl, ⟨4, Or.inr (Or.inr (Or.inr ⟨Or.inl rfl, by rw [← emk]; exact hcn, by rw [← emk]; exact hmn, Or.inl ⟨Or.inl (hra.resolve_left (fun h => absurd (h.1.symm.trans za) (by decide))).2, rfl⟩⟩)), Or.inl ⟨by decide, rfl⟩⟩, Or.inr ⟨by decide, hP.fin hfr hw0 hm hBV ⟨hbd.1, Nat.zero_le _, hbd.2.2⟩⟩⟩⟩) hF d_Model_point_250
            have hmn : mk = 2 ∨ mk = 6 := Or.inr ((nI_eq (by omega) (by decide)).mp h6)
            refine lv_aload_n hx hb d_Model_point_197 rfl (lv_at hl 3 rfl) ?_
            refine lv_sipush (v := nI 148) hx hb d_Model_point_198 (by decide) ?_
            refine q_cV (rest := []) E (N_Model_isZero l g n0 mo 148 0 (nI pn) (nI 0) (nI wn) 0 14 hw0 fd1 (by decide) _ hA) w_1105 w_15 w_1102 w_1104 (bw_s 30 rfl) hd_Model_isZero rfl ⟨by decide, by decide⟩ (OB.recv E.2.2.2.2.2 (by rfl) hm.1) hm hF hl.1 rfl (Nat.le_of_ble_eq_true rfl) d_Model_point_201 ⟨by decide, by decide⟩ (qi (fun ra H1 locs hq hF => ?_))
            obtain ⟨hra, hq⟩ := hq
            have hq := hq.symm
            subst hq
            refine lv_if_eq (tgt := 217) hx hb d_Model_point_204 (by decide) (fun za => ?_) (fun za => ?_)
            rotate_left
            · skip
              have hx0 : BE9 t 0 48 = 0 := Int.ofNat.inj (hra.resolve_right (fun h => za h.1)).2
              refine lv_aload_n hx hb d_Model_point_207 rfl (lv_at hl 3 rfl) ?_
              refine lv_sipush (v := nI 149) hx hb d_Model_point_208 (by decide) ?_
              refine q_cV (rest := []) E (N_Model_isZero l g n0 mo 149 0 (nI pn) (nI 0) (nI wn) 0 14 hw0 fd1 (by decide) _ hB) w_1105 w_15 w_1102 w_1104 (bw_s 30 rfl) hd_Model_isZero rfl ⟨by decide, by decide⟩ (OB.recv E.2.2.2.2.2 (by rfl) hm.1) hm hF hl.1 rfl (Nat.le_of_ble_eq_true rfl) d_Model_point_211 ⟨by decide, by decide⟩ (qi (fun rb H2 locs hq hF => ?_))
              obtain ⟨hrb, hq⟩ := hq
              have hq := hq.symm
              subst hq
              refine lv_if_ne (tgt := 219) hx hb d_Model_point_214 (by decide) (fun zb => ?_) (fun zb => ?_)
              rotate_left
              · skip
                exact absurd rfl (hrb.resolve_left (fun h => absurd (h.1.symm.trans zb) (by decide))).2
              refine lv_aload_n hx hb d_Model_point_219 rfl (lv_at hl 3 rfl) ?_
              refine lv_iload_n hx hb d_Model_point_220 rfl (lv_at hl 4 rfl) ?_
              refine q_cS (rest := [.ref mo]) E (c_Model_slot l g n0 (nI k1)) w_1154 w_15 w_1152 w_1153 hd_Model_slot rfl ⟨by decide, by decide⟩ trivial hF hl.1 rfl (Nat.le_of_ble_eq_true rfl) d_Model_point_221 ⟨by decide, by decide⟩ (qi (fun rs H3 locs hq hF => ?_))
              obtain ⟨hrs, hq9⟩ := hq
              subst hrs
              subst hq9
              refine lv_topi (fun t9 e9 => ?_)
              obtain rfl : t9 = nI (32 + 3 * k1) := e9.trans (by rw [pk_mul, nI_add])
              refine q_cV (rest := []) E (M_Model_nothing l g n0 mo (32 + 3 * k1) 0 (nI pn) (nI 0) (nI wn) 0 14 hw0 fd1 (by omega)) w_996 w_15 w_993 w_995 (bw_s 22 rfl) hd_Model_nothing rfl ⟨by decide, by decide⟩ (OB.recv E.2.2.2.2.2 (by rfl) hm.1) hm hF hl.1 rfl (Nat.le_of_ble_eq_true rfl) d_Model_point_224 ⟨by decide, by decide⟩ (qv (fun H4 locs hq hF => ?_))
              obtain ⟨hq, fd_19, hm, hS8, hT8⟩ := hq
              have hfr := hfr.tr hq
              refine lv_iconst (v := nI 0) hx hb d_Model_point_227 (by decide) ?_
              exact q_iret E hr hlk (⟨_, rfl, Or.inl ⟨hok, k1, 0, PZ0, e_k1, by omega, rfl, ⟨0, Or.inr (Or.inr (Or.inl ⟨Or.inl rfl, by rw [← emk]; exact hcn, by rw [← emk]; exact hmn, Or.inl ⟨bare_48.mpr hx0, rfl, PE.rf _⟩⟩)), Or.inr (Or.inl ⟨rfl, GD_O (PE.rf _), rfl⟩)⟩, Or.inl ⟨rfl, hP.fin hfr hw0 hm (hBV.set hS8 (fun t h => by omega) hT8 (by omega)) ⟨hbd.1, Nat.zero_le _, hbd.2.2⟩⟩⟩⟩) hF d_Model_point_228
            refine lv_iconst (v := nI 3) hx hb d_Model_point_217 (by decide) ?_
            exact q_iret E hr hlk (⟨_, rfl, Or.inl ⟨hok, k1, 3, PZ0, e_k1, by omega, rfl, ⟨3, Or.inr (Or.inr (Or.inl ⟨Or.inl rfl, by rw [← emk]; exact hcn, by rw [← emk]; exact hmn.imp id id, Or.inr ⟨fun hb9 => (hra.resolve_left (fun h => absurd (h.1.symm.trans za) (by decide))).2 (congrArg Int.ofNat (bare_48.mp hb9)), rfl⟩⟩)), Or.inl ⟨by decide, rfl⟩⟩, Or.inr ⟨by decide, hP.fin hfr hw0 hm hBV ⟨hbd.1, Nat.zero_le _, hbd.2.2⟩⟩⟩⟩) hF d_Model_point_218
          | succ k ih =>
            intro  i   H   locs   ls   fd1 hi hfr hm hBV hF hA hB hl
            refine lv_iload hx hb d_Model_point_122 (lv_at hl 0 rfl) ?_
            refine lv_iload_n hx hb d_Model_point_124 rfl (lv_at hl 2 rfl) ?_
            refine lv_icmp_ge (tgt := 186) hx hb d_Model_point_125 (by decide) (fun h9 => absurd h9 (nI_ge (by omega) (by decide))) (fun _ => ?_)
            refine lv_aload_n hx hb d_Model_point_128 rfl (lv_at hl 3 rfl) ?_
            refine lv_iload hx hb d_Model_point_129 (lv_at hl 0 rfl) ?_
            refine lv_bipush (v := nI 48) hx hb d_Model_point_131 (by decide) ?_
            refine lv_icmp_ge (tgt := 142) hx hb d_Model_point_133 (by decide) (fun h9 => absurd h9 (nI_ge (by omega) (by decide))) (fun _ => ?_)
            refine lv_sipush (v := nI 148) hx hb d_Model_point_136 (by decide) ?_
            refine lv_goto (tgt := 145) hx hb d_Model_point_139 (by decide) ?_
            refine lv_bipush (v := nI 47) hx hb d_Model_point_145 (by decide) ?_
            refine lv_iload hx hb d_Model_point_147 (lv_at hl 0 rfl) ?_
            refine lv_bipush (v := nI 48) hx hb d_Model_point_149 (by decide) ?_
            refine lv_irem hx hb d_Model_point_151 (by decide) ?_
            refine lv_topi (fun t9 e9 => ?_)
            obtain rfl : t9 = nI i := e9.trans (rem48a i (by omega))
            refine lv_isub hx hb d_Model_point_152 ?_
            refine lv_topi (fun t9 e9 => ?_)
            obtain rfl : t9 = nI (47 - i) := e9.trans (s47 i (by omega))
            refine lv_iload hx hb d_Model_point_153 (lv_at hl 0 rfl) ?_
            refine lv_if_ne (tgt := 170) hx hb d_Model_point_155 (by decide) (fun h0 => ?_) (fun h0 => ?_)
            rotate_left
            · skip
              have e0 : i = 0 := nI_z0 (by omega) h0
              refine lv_aload_n hx hb d_Model_point_158 rfl (lv_at hl 3 rfl) ?_
              refine q_get (C := "KateDeskModel") (T := T_Model) (N := 14) (ci := 8) E hm.1 in_Model rfl 9 (by decide) w_1010 rfl rfl d_Model_point_159 ?_
              refine lv_iconst (v := nI 0) hx hb d_Model_point_162 (by decide) ?_
              refine q_iald E (AI.off hfr (show ¬ MR mo (mo + 6) by unfold MR; omega) hT) 0 rfl (by omega) (by decide) d_Model_point_163 ?_
              refine lv_topi (fun t9 e9 => ?_)
              obtain rfl : t9 = nI (t 0) := e9.trans (hmt 0 (by decide))
              refine lv_bipush (v := nI 31) hx hb d_Model_point_164 (by decide) ?_
              refine lv_iand hx hb d_Model_point_166 ?_
              refine lv_topi (fun t9 e9 => ?_)
              obtain rfl : t9 = nI (cb9 t 0 i) := e9.trans (by rw [e0, cb_00]; exact an_31 _ (ht 0))
              refine lv_goto (tgt := 177) hx hb d_Model_point_167 (by decide) ?_
              refine q_cV (rest := []) E (D_Model_setByte l g n0 mo 148 (47 - i) (cb9 t 0 i) 0 (nI pn) (nI 0) (nI wn) 0 14 hw0 fd1 (by decide) (by omega) (cb_lt ht 0 i) (BE9 t 0 i) (by rw [hA, show min i 48 = i by omega, be_s (by omega)])) w_1068 w_15 w_1065 w_1067 (bw_s 25 rfl) hd_Model_setByte rfl ⟨by decide, by decide⟩ (OB.recv E.2.2.2.2.2 (by rfl) hm.1) hm hF hl.1 rfl (Nat.le_of_ble_eq_true rfl) d_Model_point_177 ⟨by decide, by decide⟩ (qv (fun H1 locs hq hF => ?_))
              obtain ⟨hq, fd_20, hm, ho, hS⟩ := hq
              have hfr := hfr.tr hq
              have hBV : BV9 fd_20 B := hBV.kq (fun j hj => ho j (by omega))
              have hA : SV fd_20 148 14 = ((256 ^ (48 - min (i + 1) 48) * BE9 t 0 (min (i + 1) 48) : Nat) : Int) := by rw [show min (i + 1) 48 = i + 1 by omega, show 48 - (i + 1) = 47 - i by omega]; exact hS
              have hB : SV fd_20 149 14 = ((256 ^ (48 - (i + 1 - 48)) * BE9 t 48 (i + 1 - 48) : Nat) : Int) := by rw [show i + 1 - 48 = i - 48 by omega]; exact NV.off hB ho (by decide)
              refine lv_iinc (k := 0) (v := nI (i + 1)) (lv' := [(5, .int (nI (i + 1))), (3, .int (nI mk)), (2, .int (nI 48)), (0, .ref mo), (1, .int (nI k1))]) hx hb d_Model_point_180 hl rfl (i_inc i) (by decide) rfl (fun ls hl => ?_)
              refine lv_goto (tgt := 122) hx hb d_Model_point_183 (by decide) ?_
              have hl : lv_has ls 6 [(5, .int (nI (i + 1))), (3, .int (nI mk)), (2, .int (nI 48)), (0, .ref mo), (1, .int (nI k1))] := lv_sub hl [0, 1, 2, 3, 4] rfl
              exact ih (i + 1) _ _ ls _ (by omega) hfr hm hBV hF hA hB hl
            have e0 : i ≠ 0 := fun e => h0 (congrArg nI e)
            refine lv_aload_n hx hb d_Model_point_170 rfl (lv_at hl 3 rfl) ?_
            refine q_get (C := "KateDeskModel") (T := T_Model) (N := 14) (ci := 8) E hm.1 in_Model rfl 9 (by decide) w_1010 rfl rfl d_Model_point_171 ?_
            refine lv_iload hx hb d_Model_point_174 (lv_at hl 0 rfl) ?_
            refine q_iald E (AI.off hfr (show ¬ MR mo (mo + 6) by unfold MR; omega) hT) i rfl (by omega) (by decide) d_Model_point_176 ?_
            refine lv_topi (fun t9 e9 => ?_)
            obtain rfl : t9 = nI (t i) := e9.trans (hmt i (by omega))
            refine lv_topi (fun t9 e9 => ?_)
            obtain rfl : t9 = nI (cb9 t 0 i) := e9.trans (by rw [cb_0j e0])
            refine q_cV (rest := []) E (D_Model_setByte l g n0 mo 148 (47 - i) (cb9 t 0 i) 0 (nI pn) (nI 0) (nI wn) 0 14 hw0 fd1 (by decide) (by omega) (cb_lt ht 0 i) (BE9 t 0 i) (by rw [hA, show min i 48 = i by omega, be_s (by omega)])) w_1068 w_15 w_1065 w_1067 (bw_s 25 rfl) hd_Model_setByte rfl ⟨by decide, by decide⟩ (OB.recv E.2.2.2.2.2 (by rfl) hm.1) hm hF hl.1 rfl (Nat.le_of_ble_eq_true rfl) d_Model_point_177 ⟨by decide, by decide⟩ (qv (fun H1 locs hq hF => ?_))
            obtain ⟨hq, fd_21, hm, ho, hS⟩ := hq
            have hfr := hfr.tr hq
            have hBV : BV9 fd_21 B := hBV.kq (fun j hj => ho j (by omega))
            have hA : SV fd_21 148 14 = ((256 ^ (48 - min (i + 1) 48) * BE9 t 0 (min (i + 1) 48) : Nat) : Int) := by rw [show min (i + 1) 48 = i + 1 by omega, show 48 - (i + 1) = 47 - i by omega]; exact hS
            have hB : SV fd_21 149 14 = ((256 ^ (48 - (i + 1 - 48)) * BE9 t 48 (i + 1 - 48) : Nat) : Int) := by rw [show i + 1 - 48 = i - 48 by omega]; exact NV.off hB ho (by decide)
            refine lv_iinc (k := 0) (v := nI (i + 1)) (lv' := [(5, .int (nI (i + 1))), (3, .int (nI mk)), (2, .int (nI 48)), (0, .ref mo), (1, .int (nI k1))]) hx hb d_Model_point_180 hl rfl (i_inc i) (by decide) rfl (fun ls hl => ?_)
            refine lv_goto (tgt := 122) hx hb d_Model_point_183 (by decide) ?_
            have hl : lv_has ls 6 [(5, .int (nI (i + 1))), (3, .int (nI mk)), (2, .int (nI 48)), (0, .ref mo), (1, .int (nI k1))] := lv_sub hl [0, 1, 2, 3, 4] rfl
            exact ih (i + 1) _ _ ls _ (by omega) hfr hm hBV hF hA hB hl
        exact rd 48 0 _ _ ls _ (by omega) hfr hm hBV hF hA hB hl
      refine lv_istore_n (lv' := [(3, .int (nI mk)), (2, .int (nI 48)), (0, .ref mo), (1, .int (nI k1))]) hx hb d_Model_point_46 rfl hl (by decide) rfl (fun ls hl => ?_)
      refine lv_iload_n hx hb d_Model_point_47 rfl (lv_at hl 1 rfl) ?_
      refine lv_bipush (v := nI 48) hx hb d_Model_point_48 (by decide) ?_
      refine lv_icmp_ne (tgt := 77) hx hb d_Model_point_50 (by decide) (fun h9 => absurd (rfl) h9) (fun _ => ?_)
      refine lv_iload_n hx hb d_Model_point_53 rfl (lv_at hl 0 rfl) ?_
      refine lv_iconst (v := nI 4) hx hb d_Model_point_54 (by decide) ?_
      refine lv_icmp_eq (tgt := 69) hx hb d_Model_point_55 (by decide) (fun c4 => ?_) (fun c4 => ?_)
      rotate_left
      · skip
        refine lv_iload_n hx hb d_Model_point_58 rfl (lv_at hl 0 rfl) ?_
        refine lv_iconst (v := nI 5) hx hb d_Model_point_59 (by decide) ?_
        refine lv_icmp_eq (tgt := 69) hx hb d_Model_point_60 (by decide) (fun c5 => ?_) (fun c5 => ?_)
        rotate_left
        · skip
          refine lv_iload_n hx hb d_Model_point_63 rfl (lv_at hl 0 rfl) ?_
          refine lv_bipush (v := nI 6) hx hb d_Model_point_64 (by decide) ?_
          refine lv_icmp_ne (tgt := 73) hx hb d_Model_point_66 (by decide) (fun c6 => ?_) (fun c6 => ?_)
          rotate_left
          · skip
            refine lv_iconst (v := nI 1) hx hb d_Model_point_69 (by decide) ?_
            refine lv_goto (tgt := 91) hx hb d_Model_point_70 (by decide) ?_
            refine lv_istore (lv' := [(4, .int (nI 1)), (3, .int (nI mk)), (2, .int (nI 48)), (0, .ref mo), (1, .int (nI k1))]) hx hb d_Model_point_91 hl (by decide) rfl (fun ls hl => ?_)
            refine lv_iload hx hb d_Model_point_93 (lv_at hl 0 rfl) ?_
            refine lv_if_ne (tgt := 100) hx hb d_Model_point_95 (by decide) (fun _ => ?_) (fun h9 => absurd h9 (by decide))
            have hl : lv_has ls 6 [(3, .int (nI mk)), (2, .int (nI 48)), (0, .ref mo), (1, .int (nI k1))] := lv_sub hl [1, 2, 3, 4] rfl
            exact s100 ls (Or.inl ⟨rfl, Or.inr (Or.inr ((nI_eq (by omega) (by decide)).mp c6))⟩) hl
          refine lv_iconst (v := nI 0) hx hb d_Model_point_73 (by decide) ?_
          refine lv_goto (tgt := 91) hx hb d_Model_point_74 (by decide) ?_
          refine lv_istore (lv' := [(4, .int (nI 0)), (3, .int (nI mk)), (2, .int (nI 48)), (0, .ref mo), (1, .int (nI k1))]) hx hb d_Model_point_91 hl (by decide) rfl (fun ls hl => ?_)
          refine lv_iload hx hb d_Model_point_93 (lv_at hl 0 rfl) ?_
          refine lv_if_ne (tgt := 100) hx hb d_Model_point_95 (by decide) (fun h9 => absurd (rfl) h9) (fun _ => ?_)
          refine lv_iconst (v := nI 2) hx hb d_Model_point_98 (by decide) ?_
          exact q_iret E hr hlk (⟨_, rfl, Or.inl ⟨hok, k1, 2, PZ0, e_k1, by omega, rfl, ⟨2, Or.inr (Or.inl ⟨Or.inl rfl, by rw [← emk]; exact fun h => by have h4 := mk48 h; rcases h4 with e | e | e; exact c4 (by rw [e]); exact c5 (by rw [e]); exact c6 (by rw [e]), rfl⟩), Or.inl ⟨by decide, rfl⟩⟩, Or.inr ⟨by decide, hP.fin hfr hw9 hm hBV ⟨hbd.1, Nat.zero_le _, hbd.2.2⟩⟩⟩⟩) hF d_Model_point_99
        refine lv_iconst (v := nI 1) hx hb d_Model_point_69 (by decide) ?_
        refine lv_goto (tgt := 91) hx hb d_Model_point_70 (by decide) ?_
        refine lv_istore (lv' := [(4, .int (nI 1)), (3, .int (nI mk)), (2, .int (nI 48)), (0, .ref mo), (1, .int (nI k1))]) hx hb d_Model_point_91 hl (by decide) rfl (fun ls hl => ?_)
        refine lv_iload hx hb d_Model_point_93 (lv_at hl 0 rfl) ?_
        refine lv_if_ne (tgt := 100) hx hb d_Model_point_95 (by decide) (fun _ => ?_) (fun h9 => absurd h9 (by decide))
        have hl : lv_has ls 6 [(3, .int (nI mk)), (2, .int (nI 48)), (0, .ref mo), (1, .int (nI k1))] := lv_sub hl [1, 2, 3, 4] rfl
        exact s100 ls (Or.inl ⟨rfl, Or.inr (Or.inl ((nI_eq (by omega) (by decide)).mp c5))⟩) hl
      refine lv_iconst (v := nI 1) hx hb d_Model_point_69 (by decide) ?_
      refine lv_goto (tgt := 91) hx hb d_Model_point_70 (by decide) ?_
      refine lv_istore (lv' := [(4, .int (nI 1)), (3, .int (nI mk)), (2, .int (nI 48)), (0, .ref mo), (1, .int (nI k1))]) hx hb d_Model_point_91 hl (by decide) rfl (fun ls hl => ?_)
      refine lv_iload hx hb d_Model_point_93 (lv_at hl 0 rfl) ?_
      refine lv_if_ne (tgt := 100) hx hb d_Model_point_95 (by decide) (fun _ => ?_) (fun h9 => absurd h9 (by decide))
      have hl : lv_has ls 6 [(3, .int (nI mk)), (2, .int (nI 48)), (0, .ref mo), (1, .int (nI k1))] := lv_sub hl [1, 2, 3, 4] rfl
      exact s100 ls (Or.inl ⟨rfl, Or.inl ((nI_eq (by omega) (by decide)).mp c4)⟩) hl
    · skip
      by_cases h96 : tn = 96
      · subst h96
        have hBV := hB
        obtain ⟨k1, e_k1, h_k1⟩ := okP_nat (by decide) (by decide) hok
        rw [e_k1] at hl
        refine lv_aload_n hx hb d_Model_point_14 rfl (lv_at hl 0 rfl) ?_
        refine q_get (C := "KateDeskModel") (T := T_Model) (N := 14) (ci := 8) E hm.1 in_Model rfl 10 (by decide) w_1011 rfl rfl d_Model_point_15 ?_
        refine lv_istore_n (lv' := [(2, .int (nI 96)), (0, .ref mo), (1, .int (nI k1))]) hx hb d_Model_point_18 rfl hl (by decide) rfl (fun ls hl => ?_)
        refine lv_aload_n hx hb d_Model_point_19 rfl (lv_at hl 1 rfl) ?_
        refine lv_iconst (v := nI 0) hx hb d_Model_point_20 (by decide) ?_
        refine q_put (C := "KateDeskModel") (T := T_Model) (N := 14) (ci := 8) (ty := .int) E hm.1 in_Model ty_Model tyok_Model nm_Model rfl 10 (by decide) w_1011 rfl rfl (by decide +kernel) rfl rfl (Nat.le_of_ble_eq_true rfl) hmn hF d_Model_point_21 (fun H2 locs hq ho2 hF => ?_)
        have hm : MS g n0 H2 mo 0 (nI pn) (nI 0) (nI wn) w9 n9 fd := hm.frm hq (by omega) (by omega) (by omega) (by omega) ho2
        have hfr := hfr.tr (hq.mono (fun q h => Or.inl h))
        refine lv_iload_n hx hb d_Model_point_24 rfl (lv_at hl 0 rfl) ?_
        refine lv_bipush (v := nI 48) hx hb d_Model_point_25 (by decide) ?_
        refine lv_icmp_eq (tgt := 38) hx hb d_Model_point_27 (by decide) (fun h9 => absurd h9 (by decide)) (fun _ => ?_)
        refine lv_iload_n hx hb d_Model_point_30 rfl (lv_at hl 0 rfl) ?_
        refine lv_bipush (v := nI 96) hx hb d_Model_point_31 (by decide) ?_
        refine lv_icmp_eq (tgt := 38) hx hb d_Model_point_33 (by decide) (fun _ => ?_) (fun h9 => absurd (rfl) h9)
        refine lv_aload_n hx hb d_Model_point_38 rfl (lv_at hl 1 rfl) ?_
        refine q_get (C := "KateDeskModel") (T := T_Model) (N := 14) (ci := 8) E hm.1 in_Model rfl 9 (by decide) w_1010 rfl rfl d_Model_point_39 ?_
        refine lv_iconst (v := nI 0) hx hb d_Model_point_42 (by decide) ?_
        refine q_iald E (AI.off hfr (show ¬ MR mo (mo + 6) by unfold MR; omega) hT) 0 rfl (by omega) (by decide) d_Model_point_43 ?_
        refine lv_topi (fun t9 e9 => ?_)
        obtain rfl : t9 = nI (t 0) := e9.trans (hmt 0 (by decide))
        refine lv_iconst (v := nI 5) hx hb d_Model_point_44 (by decide) ?_
        refine lv_ishr hx hb d_Model_point_45 ?_
        refine lv_topi (fun t9 e9 => ?_)
        obtain rfl : t9 = nI (t 0 / 32) := e9.trans (sh_5 _ (ht 0))
        have hmk : t 0 / 32 < 8 := by have := ht 0; omega
        obtain ⟨mk, emk⟩ : ∃ mk, mk = t 0 / 32 := ⟨_, rfl⟩
        rw [← emk] at hmk ⊢
        have s100 : ∀ (ls : Array Slot), can9 mk 96 → lv_has ls 6 [(3, .int (nI mk)), (2, .int (nI 96)), (0, .ref mo), (1, .int (nI k1))] → W p l e { frames := 6, cells := 0, slots := 0, locals := 143 } s m [.ref mo, .int a].toArray below meth c H2 locs 0 0 (MQ below (QcP (QI (fun r H H' => ((okP a (nI 1)) ∧ (∃ k1 n T, a = nI k1 ∧ k1 < 12 ∧ r = nI n ∧ PAT t 96 n T ∧ ((n = 0 ∧ MVP g n0 H' mo 0 pn 0 wn (updP B (32 + 3 * k1) T)) ∨ (n ≠ 0 ∧ MVP g n0 H' mo 0 pn 0 wn B)))) ∨ (¬ (okP a (nI 1)) ∧ MVP g n0 H' mo 1 pn 96 wn B)))) [.ref mo, .int a].toArray s 0 0 (fun q => n0 q)) (F0 m 100 ls []) := by
          intro  ls hcn hl
          refine lv_aload_n hx hb d_Model_point_100 rfl (lv_at hl 2 rfl) ?_
          refine lv_iconst (v := nI 0) hx hb d_Model_point_101 (by decide) ?_
          refine q_cV (rest := []) E (c_Model_use l g n0 mo 0 (nI pn) (nI 0) (nI wn) w9 n9 hw9 0 14 hw0 fd hmn) w_967 w_15 w_964 w_966 (bw_s 15 rfl) hd_Model_use rfl ⟨by decide, by decide⟩ (OB.recv E.2.2.2.2.2 (by rfl) hm.1) hm hF hl.1 rfl (Nat.le_of_ble_eq_true rfl) d_Model_point_102 ⟨by decide, by decide⟩ (qv (fun H1 locs hq hF => ?_))
          obtain ⟨hq, hm⟩ := hq
          have hfr := hfr.tr hq
          refine lv_aload_n hx hb d_Model_point_105 rfl (lv_at hl 2 rfl) ?_
          refine lv_sipush (v := nI 148) hx hb d_Model_point_106 (by decide) ?_
          refine q_cV (rest := []) E (c_Model_zero l g n0 mo 148 0 (nI pn) (nI 0) (nI wn) 0 14 hw0 fd (by decide)) w_1000 w_15 w_997 w_999 (bw_s 23 rfl) hd_Model_zero rfl ⟨by decide, by decide⟩ (OB.recv E.2.2.2.2.2 (by rfl) hm.1) hm hF hl.1 rfl (Nat.le_of_ble_eq_true rfl) d_Model_point_109 ⟨by decide, by decide⟩ (qv (fun H2 locs hq hF => ?_))
          obtain ⟨hq, fd_22, hm, hp1⟩ := hq
          have hfr := hfr.tr hq
          have hBV : BV9 fd_22 B := hBV.kq (fun j hj => hp1.1 j (by omega))
          refine lv_aload_n hx hb d_Model_point_112 rfl (lv_at hl 2 rfl) ?_
          refine lv_sipush (v := nI 149) hx hb d_Model_point_113 (by decide) ?_
          refine q_cV (rest := []) E (c_Model_zero l g n0 mo 149 0 (nI pn) (nI 0) (nI wn) 0 14 hw0 fd_22 (by decide)) w_1000 w_15 w_997 w_999 (bw_s 23 rfl) hd_Model_zero rfl ⟨by decide, by decide⟩ (OB.recv E.2.2.2.2.2 (by rfl) hm.1) hm hF hl.1 rfl (Nat.le_of_ble_eq_true rfl) d_Model_point_116 ⟨by decide, by decide⟩ (qv (fun H3 locs hq hF => ?_))
          obtain ⟨hq, fd_23, hm, hp2⟩ := hq
          have hfr := hfr.tr hq
          have hBV : BV9 fd_23 B := hBV.kq (fun j hj => hp2.1 j (by omega))
          have hA : SV fd_23 148 14 = ((256 ^ (48 - min 0 48) * BE9 t 0 (min 0 48) : Nat) : Int) := (NV.off (nv_z hp1.2) hp2.1 (by decide)).trans (by rw [show min 0 48 = 0 from rfl, show BE9 t 0 0 = 0 from rfl, Nat.mul_zero])
          have hB : SV fd_23 149 14 = ((256 ^ (48 - (0 - 48)) * BE9 t 48 (0 - 48) : Nat) : Int) := (nv_z hp2.2).trans (by rw [show 0 - 48 = 0 from rfl, show BE9 t 48 0 = 0 from rfl, Nat.mul_zero])
          refine lv_iconst (v := nI 0) hx hb d_Model_point_119 (by decide) ?_
          refine lv_istore (lv' := [(5, .int (nI 0)), (3, .int (nI mk)), (2, .int (nI 96)), (0, .ref mo), (1, .int (nI k1))]) hx hb d_Model_point_120 hl (by decide) rfl (fun ls hl => ?_)
          have hl : lv_has ls 6 [(5, .int (nI 0)), (3, .int (nI mk)), (2, .int (nI 96)), (0, .ref mo), (1, .int (nI k1))] := lv_sub hl [0, 1, 2, 3, 4] rfl
          have rd : ∀ (k : Nat) (i : Nat) (H : Heap) (locs : List Loc) (ls : Array Slot) (fd1 : Nat → Int64), i + k = 96 → FRM (MR mo) s.heap H → MS g n0 H mo 0 (nI pn) (nI 0) (nI wn) 0 14 fd1 → BV9 fd1 B → (∀ q ∈ locs, n0 q.base) → SV fd1 148 14 = ((256 ^ (48 - min i 48) * BE9 t 0 (min i 48) : Nat) : Int) → SV fd1 149 14 = ((256 ^ (48 - (i - 48)) * BE9 t 48 (i - 48) : Nat) : Int) → lv_has ls 6 [(5, .int (nI i)), (3, .int (nI mk)), (2, .int (nI 96)), (0, .ref mo), (1, .int (nI k1))] → W p l e { frames := 6, cells := 0, slots := 0, locals := 143 } s m [.ref mo, .int a].toArray below meth c H locs 0 0 (MQ below (QcP (QI (fun r H H' => ((okP a (nI 1)) ∧ (∃ k1 n T, a = nI k1 ∧ k1 < 12 ∧ r = nI n ∧ PAT t 96 n T ∧ ((n = 0 ∧ MVP g n0 H' mo 0 pn 0 wn (updP B (32 + 3 * k1) T)) ∨ (n ≠ 0 ∧ MVP g n0 H' mo 0 pn 0 wn B)))) ∨ (¬ (okP a (nI 1)) ∧ MVP g n0 H' mo 1 pn 96 wn B)))) [.ref mo, .int a].toArray s 0 0 (fun q => n0 q)) (F0 m 122 ls []) := by
            intro k
            induction k with
            | zero =>
              intro  i   H   locs   ls   fd1 hi hfr hm hBV hF hA hB hl
              obtain rfl : i = 96 := by omega
              refine lv_iload hx hb d_Model_point_122 (lv_at hl 0 rfl) ?_
              refine lv_iload_n hx hb d_Model_point_124 rfl (lv_at hl 2 rfl) ?_
              refine lv_icmp_ge (tgt := 186) hx hb d_Model_point_125 (by decide) (fun _ => ?_) (fun h9 => absurd (by decide) h9)
              have hA : NV fd1 148 ((BE9 t 0 48 : Nat) : Int) := be_a hA
              have hB : NV fd1 149 ((BE9 t 48 48 : Nat) : Int) := be_b hB
              refine lv_iload_n hx hb d_Model_point_186 rfl (lv_at hl 1 rfl) ?_
              refine lv_bipush (v := nI 6) hx hb d_Model_point_187 (by decide) ?_
              refine lv_icmp_eq (tgt := 197) hx hb d_Model_point_189 (by decide) (fun h9 => absurd h9 (fun e => absurd ((nI_eq (by omega) (by decide)).mp e) (by have h4 := mk96 hcn; omega))) (fun _ => ?_)
              refine lv_iload_n hx hb d_Model_point_192 rfl (lv_at hl 1 rfl) ?_
              refine lv_iconst (v := nI 2) hx hb d_Model_point_193 (by decide) ?_
              refine lv_icmp_ne (tgt := 229) hx hb d_Model_point_194 (by decide) (fun h2 => ?_) (fun h2 => ?_)
              rotate_left
              · skip
                have hmn : mk = 2 ∨ mk = 6 := Or.inl ((nI_eq (by omega) (by decide)).mp h2)
                refine lv_aload_n hx hb d_Model_point_197 rfl (lv_at hl 3 rfl) ?_
                refine lv_sipush (v := nI 148) hx hb d_Model_point_198 (by decide) ?_
                refine q_cV (rest := []) E (N_Model_isZero l g n0 mo 148 0 (nI pn) (nI 0) (nI wn) 0 14 hw0 fd1 (by decide) _ hA) w_1105 w_15 w_1102 w_1104 (bw_s 30 rfl) hd_Model_isZero rfl ⟨by decide, by decide⟩ (OB.recv E.2.2.2.2.2 (by rfl) hm.1) hm hF hl.1 rfl (Nat.le_of_ble_eq_true rfl) d_Model_point_201 ⟨by decide, by decide⟩ (qi (fun ra H1 locs hq hF => ?_))
                obtain ⟨hra, hq⟩ := hq
                have hq := hq.symm
                subst hq
                refine lv_if_eq (tgt := 217) hx hb d_Model_point_204 (by decide) (fun za => ?_) (fun za => ?_)
                rotate_left
                · skip
                  have hx0 : BE9 t 0 48 = 0 := Int.ofNat.inj (hra.resolve_right (fun h => za h.1)).2
                  refine lv_aload_n hx hb d_Model_point_207 rfl (lv_at hl 3 rfl) ?_
                  refine lv_sipush (v := nI 149) hx hb d_Model_point_208 (by decide) ?_
                  refine q_cV (rest := []) E (N_Model_isZero l g n0 mo 149 0 (nI pn) (nI 0) (nI wn) 0 14 hw0 fd1 (by decide) _ hB) w_1105 w_15 w_1102 w_1104 (bw_s 30 rfl) hd_Model_isZero rfl ⟨by decide, by decide⟩ (OB.recv E.2.2.2.2.2 (by rfl) hm.1) hm hF hl.1 rfl (Nat.le_of_ble_eq_true rfl) d_Model_point_211 ⟨by decide, by decide⟩ (qi (fun rb H2 locs hq hF => ?_))
                  obtain ⟨hrb, hq⟩ := hq
                  have hq := hq.symm
                  subst hq
                  refine lv_if_ne (tgt := 219) hx hb d_Model_point_214 (by decide) (fun zb => ?_) (fun zb => ?_)
                  rotate_left
                  · skip
                    refine lv_iconst (v := nI 3) hx hb d_Model_point_217 (by decide) ?_
                    exact q_iret E hr hlk (⟨_, rfl, Or.inl ⟨hok, k1, 3, PZ0, e_k1, by omega, rfl, ⟨3, Or.inr (Or.inr (Or.inl ⟨Or.inr rfl, by rw [← emk]; exact hcn, by rw [← emk]; exact hmn.imp id id, Or.inr ⟨fun hb9 => (hrb.resolve_left (fun h => absurd (h.1.symm.trans zb) (by decide))).2 (congrArg Int.ofNat (bare_96.mp hb9).2), rfl⟩⟩)), Or.inl ⟨by decide, rfl⟩⟩, Or.inr ⟨by decide, hP.fin hfr hw0 hm hBV ⟨hbd.1, Nat.zero_le _, hbd.2.2⟩⟩⟩⟩) hF d_Model_point_218
                  refine lv_aload_n hx hb d_Model_point_219 rfl (lv_at hl 3 rfl) ?_
                  refine lv_iload_n hx hb d_Model_point_220 rfl (lv_at hl 4 rfl) ?_
                  refine q_cS (rest := [.ref mo]) E (c_Model_slot l g n0 (nI k1)) w_1154 w_15 w_1152 w_1153 hd_Model_slot rfl ⟨by decide, by decide⟩ trivial hF hl.1 rfl (Nat.le_of_ble_eq_true rfl) d_Model_point_221 ⟨by decide, by decide⟩ (qi (fun rs H3 locs hq hF => ?_))
                  obtain ⟨hrs, hq9⟩ := hq
                  subst hrs
                  subst hq9
                  refine lv_topi (fun t9 e9 => ?_)
                  obtain rfl : t9 = nI (32 + 3 * k1) := e9.trans (by rw [pk_mul, nI_add])
                  refine q_cV (rest := []) E (M_Model_nothing l g n0 mo (32 + 3 * k1) 0 (nI pn) (nI 0) (nI wn) 0 14 hw0 fd1 (by omega)) w_996 w_15 w_993 w_995 (bw_s 22 rfl) hd_Model_nothing rfl ⟨by decide, by decide⟩ (OB.recv E.2.2.2.2.2 (by rfl) hm.1) hm hF hl.1 rfl (Nat.le_of_ble_eq_true rfl) d_Model_point_224 ⟨by decide, by decide⟩ (qv (fun H4 locs hq hF => ?_))
                  obtain ⟨hq, fd_24, hm, hS8, hT8⟩ := hq
                  have hfr := hfr.tr hq
                  refine lv_iconst (v := nI 0) hx hb d_Model_point_227 (by decide) ?_
                  exact q_iret E hr hlk (⟨_, rfl, Or.inl ⟨hok, k1, 0, PZ0, e_k1, by omega, rfl, ⟨0, Or.inr (Or.inr (Or.inl ⟨Or.inr rfl, by rw [← emk]; exact hcn, by rw [← emk]; exact hmn, Or.inl ⟨bare_96.mpr ⟨hx0, Int.ofNat.inj (hrb.resolve_right (fun h => zb h.1)).2⟩, rfl, PE.rf _⟩⟩)), Or.inr (Or.inl ⟨rfl, GD_O (PE.rf _), rfl⟩)⟩, Or.inl ⟨rfl, hP.fin hfr hw0 hm (hBV.set hS8 (fun t h => by omega) hT8 (by omega)) ⟨hbd.1, Nat.zero_le _, hbd.2.2⟩⟩⟩⟩) hF d_Model_point_228
                refine lv_iconst (v := nI 3) hx hb d_Model_point_217 (by decide) ?_
                exact q_iret E hr hlk (⟨_, rfl, Or.inl ⟨hok, k1, 3, PZ0, e_k1, by omega, rfl, ⟨3, Or.inr (Or.inr (Or.inl ⟨Or.inr rfl, by rw [← emk]; exact hcn, by rw [← emk]; exact hmn.imp id id, Or.inr ⟨fun hb9 => (hra.resolve_left (fun h => absurd (h.1.symm.trans za) (by decide))).2 (congrArg Int.ofNat ((bare_96.mp hb9).1)), rfl⟩⟩)), Or.inl ⟨by decide, rfl⟩⟩, Or.inr ⟨by decide, hP.fin hfr hw0 hm hBV ⟨hbd.1, Nat.zero_le _, hbd.2.2⟩⟩⟩⟩) hF d_Model_point_218
              have hmn : ¬ (mk = 2 ∨ mk = 6) := fun h => by have h4 := mk96 hcn; rcases h with h | h; exact h2 (by rw [h]); omega
              refine lv_aload_n hx hb d_Model_point_229 rfl (lv_at hl 3 rfl) ?_
              refine lv_sipush (v := nI 148) hx hb d_Model_point_230 (by decide) ?_
              refine q_cV (rest := []) E (X_Model_isNumber l g n0 mo 148 0 (nI pn) (nI 0) (nI wn) 0 14 hw0 fd1 (by decide)) w_1072 w_15 w_1069 w_1071 (bw_s 26 rfl) hd_Model_isNumber rfl ⟨by decide, by decide⟩ (OB.recv E.2.2.2.2.2 (by rfl) hm.1) hm hF hl.1 rfl (Nat.le_of_ble_eq_true rfl) d_Model_point_233 ⟨by decide, by decide⟩ (qi (fun ra H1 locs hq hF => ?_))
              obtain ⟨hra, hq⟩ := hq
              have hq := hq.symm
              subst hq
              rw [show SV fd1 148 14 = _ from hA, vk_Q] at hra
              refine lv_if_eq (tgt := 249) hx hb d_Model_point_236 (by decide) (fun za => ?_) (fun za => ?_)
              rotate_left
              · skip
                have hxq : ((BE9 t 0 48 : Nat) : Int) < QJ := (hra.resolve_right (fun h => za h.1)).2
                refine lv_aload_n hx hb d_Model_point_239 rfl (lv_at hl 3 rfl) ?_
                refine lv_sipush (v := nI 149) hx hb d_Model_point_240 (by decide) ?_
                refine q_cV (rest := []) E (X_Model_isNumber l g n0 mo 149 0 (nI pn) (nI 0) (nI wn) 0 14 hw0 fd1 (by decide)) w_1072 w_15 w_1069 w_1071 (bw_s 26 rfl) hd_Model_isNumber rfl ⟨by decide, by decide⟩ (OB.recv E.2.2.2.2.2 (by rfl) hm.1) hm hF hl.1 rfl (Nat.le_of_ble_eq_true rfl) d_Model_point_243 ⟨by decide, by decide⟩ (qi (fun rb H2 locs hq hF => ?_))
                obtain ⟨hrb, hq⟩ := hq
                have hq := hq.symm
                subst hq
                rw [show SV fd1 149 14 = _ from hB, vk_Q] at hrb
                refine lv_if_ne (tgt := 251) hx hb d_Model_point_246 (by decide) (fun zb => ?_) (fun zb => ?_)
                rotate_left
                · skip
                  refine lv_iconst (v := nI 4) hx hb d_Model_point_249 (by decide) ?_
                  exact q_iret E hr hlk (⟨_, rfl, Or.inl ⟨hok, k1, 4, PZ0, e_k1, by omega, rfl, ⟨4, Or.inr (Or.inr (Or.inr ⟨Or.inr rfl, by rw [← emk]; exact hcn, by rw [← emk]; exact hmn, Or.inl ⟨Or.inr ⟨rfl, (hrb.resolve_left (fun h => absurd (h.1.symm.trans zb) (by decide))).2⟩, rfl⟩⟩)), Or.inl ⟨by decide, rfl⟩⟩, Or.inr ⟨by decide, hP.fin hfr hw0 hm hBV ⟨hbd.1, Nat.zero_le _, hbd.2.2⟩⟩⟩⟩) hF d_Model_point_250
                have hyq : ((BE9 t 48 48 : Nat) : Int) < QJ := (hrb.resolve_right (fun h => zb h.1)).2
                have hnq : ¬ (QJ ≤ x9 t ∨ (96 = 96 ∧ QJ ≤ ((BE9 t 48 48 : Nat) : Int))) := fun h => h.elim (fun h => absurd hxq (Int.not_lt.mpr h)) (fun h => absurd hyq (Int.not_lt.mpr h.2))
                have hX8 : MQ9 fd1 148 (x9 t) := mq_small hA hxq
                have hY8 : MQ9 fd1 149 ((BE9 t 48 48 : Nat) : Int) := mq_small hB hyq
                have s375 : ∀ (H : Heap) (locs : List Loc) (ls : Array Slot) (fd1 : Nat → Int64) (Y : Int), FRM (MR mo) s.heap H → MS g n0 H mo 0 (nI pn) (nI 0) (nI wn) 0 14 fd1 → BV9 fd1 B → (∀ q ∈ locs, n0 q.base) → MQ9 fd1 148 (x9 t) → MQ9 fd1 149 Y → MQ9 fd1 151 (s9 t) → y9 t 96 Y → lv_has ls 6 [(3, .int (nI mk)), (2, .int (nI 96)), (0, .ref mo), (1, .int (nI k1))] → W p l e { frames := 6, cells := 0, slots := 0, locals := 143 } s m [.ref mo, .int a].toArray below meth c H locs 0 0 (MQ below (QcP (QI (fun r H H' => ((okP a (nI 1)) ∧ (∃ k1 n T, a = nI k1 ∧ k1 < 12 ∧ r = nI n ∧ PAT t 96 n T ∧ ((n = 0 ∧ MVP g n0 H' mo 0 pn 0 wn (updP B (32 + 3 * k1) T)) ∨ (n ≠ 0 ∧ MVP g n0 H' mo 0 pn 0 wn B)))) ∨ (¬ (okP a (nI 1)) ∧ MVP g n0 H' mo 1 pn 96 wn B)))) [.ref mo, .int a].toArray s 0 0 (fun q => n0 q)) (F0 m 375 ls []) := by
                  intro  H   locs   ls   fd1   Y hfr hm hBV hF hX8 hY8 hs hY hl
                  refine lv_aload_n hx hb d_Model_point_375 rfl (lv_at hl 2 rfl) ?_
                  refine lv_sipush (v := nI 152) hx hb d_Model_point_376 (by decide) ?_
                  refine lv_sipush (v := nI 149) hx hb d_Model_point_379 (by decide) ?_
                  refine lv_sipush (v := nI 149) hx hb d_Model_point_382 (by decide) ?_
                  refine q_cV (rest := []) E (M_Model_product l g n0 mo 152 149 149 0 (nI pn) (nI 0) (nI wn) fd1 (by decide) (by decide) (by decide) fa hAQ Y Y hY8 hY8) w_1113 w_15 w_1110 w_1112 (bw_s 32 rfl) hd_Model_product rfl ⟨by decide, by decide⟩ (OB.recv E.2.2.2.2.2 (by rfl) hm.1) (⟨hm, (AJ.off hfr (show ¬ MR mo (mo + 4) by unfold MR; omega) hab0)⟩) hF hl.1 rfl (Nat.le_of_ble_eq_true rfl) d_Model_point_385 ⟨by decide, by decide⟩ (qv (fun H1 locs hq hF => ?_))
                  obtain ⟨hq, fd_25, hm, ho, hn⟩ := hq
                  have hfr := hfr.tr (kjR hq)
                  have hBV : BV9 fd_25 B := hBV.kq (fun j hj => ho j (by omega))
                  have hX8 := hX8.off ho (by decide)
                  have hY8 := hY8.off ho (by decide)
                  have hs := hs.off ho (by decide)
                  refine lv_aload_n hx hb d_Model_point_388 rfl (lv_at hl 2 rfl) ?_
                  refine lv_sipush (v := nI 151) hx hb d_Model_point_389 (by decide) ?_
                  refine lv_sipush (v := nI 152) hx hb d_Model_point_392 (by decide) ?_
                  refine q_cV (rest := []) E (N_Model_isSame l g n0 mo 151 152 0 (nI pn) (nI 0) (nI wn) 0 14 hw0 fd_25 (by decide) (by decide) (s9 t % QJ) ((Y * Y) % QJ) hs hn) w_1163 w_15 w_1160 w_1162 (bw_s 39 rfl) hd_Model_isSame rfl ⟨by decide, by decide⟩ (OB.recv E.2.2.2.2.2 (by rfl) hm.1) hm hF hl.1 rfl (Nat.le_of_ble_eq_true rfl) d_Model_point_395 ⟨by decide, by decide⟩ (qi (fun re H2 locs hq hF => ?_))
                  obtain ⟨hre, hq⟩ := hq
                  have hq := hq.symm
                  subst hq
                  refine lv_if_ne (tgt := 403) hx hb d_Model_point_398 (by decide) (fun he => ?_) (fun he => ?_)
                  rotate_left
                  · skip
                    refine lv_iconst (v := nI 5) hx hb d_Model_point_401 (by decide) ?_
                    exact q_iret E hr hlk (⟨_, rfl, Or.inl ⟨hok, k1, 5, PZ0, e_k1, by omega, rfl, ⟨5, Or.inr (Or.inr (Or.inr ⟨Or.inr rfl, by rw [← emk]; exact hcn, by rw [← emk]; exact hmn, Or.inr ⟨hnq, Y, hY, Or.inr ⟨fun h => (hre.resolve_left (fun h => absurd (h.1.symm.trans he) (by decide))).2 h.symm, rfl⟩⟩⟩)), Or.inl ⟨by decide, rfl⟩⟩, Or.inr ⟨by decide, hP.fin hfr hw0 hm hBV ⟨hbd.1, Nat.zero_le _, hbd.2.2⟩⟩⟩⟩) hF d_Model_point_402
                  have hcq : cq (Y * Y) (s9 t) := ((hre.resolve_right (fun h => he h.1)).2).symm
                  have hrd : RD9 t 96 0 (x9 t, Y, 1) := Or.inr (Or.inr (Or.inr ⟨Or.inr rfl, by rw [← emk]; exact hcn, by rw [← emk]; exact hmn, Or.inr ⟨hnq, Y, hY, Or.inl ⟨hcq, rfl, PE.rf _⟩⟩⟩))
                  have hPC := hrd.on
                  refine lv_aload_n hx hb d_Model_point_403 rfl (lv_at hl 2 rfl) ?_
                  refine lv_sipush (v := nI 150) hx hb d_Model_point_404 (by decide) ?_
                  refine q_cV (rest := []) E (c_Model_one l g n0 mo 150 0 (nI pn) (nI 0) (nI wn) 0 14 hw0 fd_25 (by decide)) w_971 w_15 w_968 w_970 (bw_s 16 rfl) hd_Model_one rfl ⟨by decide, by decide⟩ (OB.recv E.2.2.2.2.2 (by rfl) hm.1) hm hF hl.1 rfl (Nat.le_of_ble_eq_true rfl) d_Model_point_407 ⟨by decide, by decide⟩ (qv (fun H3 locs hq hF => ?_))
                  obtain ⟨hq, fd_26, hm, hp1⟩ := hq
                  have hfr := hfr.tr hq
                  have hBV : BV9 fd_26 B := hBV.kq (fun j hj => hp1.1 j (by omega))
                  have hX8 := hX8.off hp1.1 (by decide)
                  have hY8 := hY8.off hp1.1 (by decide)
                  have hZ8 : MQ9 fd_26 150 1 := mq_1 hp1.2
                  have ord : ∀ (k : Nat) (i : Nat) (H : Heap) (locs : List Loc) (ls : Array Slot) (fd1 : Nat → Int64), i + k = 14 → FRM (MR mo) s.heap H → MS g n0 H mo 0 (nI pn) (nI 0) (nI wn) 0 14 fd1 → BV9 fd1 B → (∀ q ∈ locs, n0 q.base) → MQ9 fd1 148 (x9 t) → MQ9 fd1 149 Y → MQ9 fd1 150 1 → (∀ k, k < i → fd1 (2142 + k) = kPr (14 + k)) → lv_has ls 6 [(5, .int (nI i)), (2, .int (nI 96)), (0, .ref mo), (1, .int (nI k1))] → W p l e { frames := 6, cells := 0, slots := 0, locals := 143 } s m [.ref mo, .int a].toArray below meth c H locs 0 0 (MQ below (QcP (QI (fun r H H' => ((okP a (nI 1)) ∧ (∃ k1 n T, a = nI k1 ∧ k1 < 12 ∧ r = nI n ∧ PAT t 96 n T ∧ ((n = 0 ∧ MVP g n0 H' mo 0 pn 0 wn (updP B (32 + 3 * k1) T)) ∨ (n ≠ 0 ∧ MVP g n0 H' mo 0 pn 0 wn B)))) ∨ (¬ (okP a (nI 1)) ∧ MVP g n0 H' mo 1 pn 96 wn B)))) [.ref mo, .int a].toArray s 0 0 (fun q => n0 q)) (F0 m 413 ls []) := by
                    intro k
                    induction k with
                    | zero =>
                      intro  i   H   locs   ls   fd1 hi hfr hm hBV hF hX8 hY8 hZ8 hcp hl
                      obtain rfl : i = 14 := by omega
                      refine lv_iload hx hb d_Model_point_413 (lv_at hl 0 rfl) ?_
                      refine lv_bipush (v := nI 14) hx hb d_Model_point_415 (by decide) ?_
                      refine lv_icmp_ge (tgt := 447) hx hb d_Model_point_417 (by decide) (fun _ => ?_) (fun h9 => absurd (by decide) h9)
                      have hR : NV fd1 153 ((RN : Nat) : Int) := (VL_ext (fun k hk => hcp k hk)).trans VL_kR2
                      refine lv_aload_n hx hb d_Model_point_447 rfl (lv_at hl 2 rfl) ?_
                      refine lv_sipush (v := nI 154) hx hb d_Model_point_448 (by decide) ?_
                      refine lv_sipush (v := nI 153) hx hb d_Model_point_451 (by decide) ?_
                      refine lv_sipush (v := nI 148) hx hb d_Model_point_454 (by decide) ?_
                      refine q_cV (rest := []) E (M_Model_multiple l g n0 mo 154 153 148 0 (nI pn) (nI 0) (nI wn) fd1 fa (Or.inr ⟨by decide, by decide⟩) (Or.inr ⟨by decide, by decide⟩) (Or.inr ⟨by decide, by decide⟩) hAQ (x9 t, Y, 1) hPC RN) w_1167 w_15 w_1164 w_1166 (bw_s 40 rfl) hd_Model_multiple rfl ⟨by decide, by decide⟩ (OB.recv E.2.2.2.2.2 (by rfl) hm.1) (⟨hm, (AJ.off hfr (show ¬ MR mo (mo + 4) by unfold MR; omega) hab0), hR, hX8, hY8, hZ8⟩) hF hl.1 rfl (Nat.le_of_ble_eq_true rfl) d_Model_point_457 ⟨by decide, by decide⟩ (qv (fun H1 locs hq hF => ?_))
                      obtain ⟨hq, -, fd_27, hm, hS, T, hRP, -, -, hT⟩ := hq
                      have hfr := hfr.tr hq
                      have hBV := hBV.sm hS (fun t h => by omega)
                      have hX8 := hX8.sm hS (by omega)
                      have hY8 := hY8.sm hS (by omega)
                      have hZ8 := hZ8.sm hS (by omega)
                      refine lv_aload_n hx hb d_Model_point_460 rfl (lv_at hl 2 rfl) ?_
                      refine lv_sipush (v := nI 156) hx hb d_Model_point_461 (by decide) ?_
                      refine q_cV (rest := []) E (N_Model_isZero l g n0 mo 156 0 (nI pn) (nI 0) (nI wn) 0 14 hw0 fd_27 (by decide) _ hT) w_1105 w_15 w_1102 w_1104 (bw_s 30 rfl) hd_Model_isZero rfl ⟨by decide, by decide⟩ (OB.recv E.2.2.2.2.2 (by rfl) hm.1) hm hF hl.1 rfl (Nat.le_of_ble_eq_true rfl) d_Model_point_464 ⟨by decide, by decide⟩ (qi (fun rt H2 locs hq hF => ?_))
                      obtain ⟨hrt, hq⟩ := hq
                      have hq := hq.symm
                      subst hq
                      refine lv_if_ne (tgt := 473) hx hb d_Model_point_467 (by decide) (fun zt => ?_) (fun zt => ?_)
                      rotate_left
                      · skip
                        refine lv_bipush (v := nI 6) hx hb d_Model_point_470 (by decide) ?_
                        exact q_iret E hr hlk (⟨_, rfl, Or.inl ⟨hok, k1, 6, (x9 t, Y, 1), e_k1, by omega, rfl, ⟨0, hrd, Or.inr (Or.inr ⟨rfl, fun gd => (hrt.resolve_left (fun h => absurd (h.1.symm.trans zt) (by decide))).2 (((GD_iff hPC hRP).mp gd).trans q_z), rfl⟩)⟩, Or.inr ⟨by decide, hP.fin hfr hw0 hm hBV ⟨hbd.1, Nat.zero_le _, hbd.2.2⟩⟩⟩⟩) hF d_Model_point_472
                      refine lv_aload_n hx hb d_Model_point_473 rfl (lv_at hl 2 rfl) ?_
                      refine lv_iload_n hx hb d_Model_point_474 rfl (lv_at hl 3 rfl) ?_
                      refine q_cS (rest := [.ref mo]) E (c_Model_slot l g n0 (nI k1)) w_1154 w_15 w_1152 w_1153 hd_Model_slot rfl ⟨by decide, by decide⟩ trivial hF hl.1 rfl (Nat.le_of_ble_eq_true rfl) d_Model_point_475 ⟨by decide, by decide⟩ (qi (fun rs H3 locs hq hF => ?_))
                      obtain ⟨hrs, hq9⟩ := hq
                      subst hrs
                      subst hq9
                      refine lv_topi (fun t9 e9 => ?_)
                      obtain rfl : t9 = nI (32 + 3 * k1) := e9.trans (by rw [pk_mul, nI_add])
                      refine lv_sipush (v := nI 148) hx hb d_Model_point_478 (by decide) ?_
                      have hT8 : PM9 fd_27 148 (x9 t, Y, 1) := ⟨hX8, hY8, hZ8⟩
                      refine q_cV (rest := []) E (c_Model_movePoint l g n0 mo (32 + 3 * k1) 148 0 (nI pn) (nI 0) (nI wn) 0 14 hw0 fd_27 (by omega) (by omega) (by omega)) w_1171 w_15 w_1168 w_1170 (bw_s 41 rfl) hd_Model_movePoint rfl ⟨by decide, by decide⟩ (OB.recv E.2.2.2.2.2 (by rfl) hm.1) hm hF hl.1 rfl (Nat.le_of_ble_eq_true rfl) d_Model_point_481 ⟨by decide, by decide⟩ (qv (fun H4 locs hq hF => ?_))
                      obtain ⟨hq, fd_28, hm, hS8, hmv⟩ := hq
                      have hfr := hfr.tr hq
                      have hT8 := hT8.mv hmv
                      refine lv_iconst (v := nI 0) hx hb d_Model_point_484 (by decide) ?_
                      exact q_iret E hr hlk (⟨_, rfl, Or.inl ⟨hok, k1, 0, (x9 t, Y, 1), e_k1, by omega, rfl, ⟨0, hrd, Or.inr (Or.inl ⟨rfl, (GD_iff hPC hRP).mpr ((hrt.resolve_right (fun h => zt h.1)).2.trans q_z.symm), rfl⟩)⟩, Or.inl ⟨rfl, hP.fin hfr hw0 hm (hBV.set hS8 (fun t h => by omega) hT8 (by omega)) ⟨hbd.1, Nat.zero_le _, hbd.2.2⟩⟩⟩⟩) hF d_Model_point_485
                    | succ k ih =>
                      intro  i   H   locs   ls   fd1 hi hfr hm hBV hF hX8 hY8 hZ8 hcp hl
                      refine lv_iload hx hb d_Model_point_413 (lv_at hl 0 rfl) ?_
                      refine lv_bipush (v := nI 14) hx hb d_Model_point_415 (by decide) ?_
                      refine lv_icmp_ge (tgt := 447) hx hb d_Model_point_417 (by decide) (fun h9 => absurd h9 (nI_ge (by omega) (by decide))) (fun _ => ?_)
                      refine lv_aload_n hx hb d_Model_point_420 rfl (lv_at hl 2 rfl) ?_
                      refine q_get (C := "KateDeskModel") (T := T_Model) (N := 14) (ci := 8) E hm.1 in_Model rfl 1 (by decide) w_1002 rfl rfl d_Model_point_421 ?_
                      refine lv_sipush (v := nI 2142) hx hb d_Model_point_424 (by decide) ?_
                      refine lv_iload hx hb d_Model_point_427 (lv_at hl 0 rfl) ?_
                      refine lv_iadd hx hb d_Model_point_429 ?_
                      refine lv_topi (fun t9 e9 => ?_)
                      obtain rfl : t9 = nI (2142 + i) := e9.trans (nI_add _ _)
                      refine lv_aload_n hx hb d_Model_point_430 rfl (lv_at hl 2 rfl) ?_
                      refine q_get (C := "KateDeskModel") (T := T_Model) (N := 14) (ci := 8) E hm.1 in_Model rfl 2 (by decide) w_1003 rfl rfl d_Model_point_431 ?_
                      refine lv_bipush (v := nI 14) hx hb d_Model_point_434 (by decide) ?_
                      refine lv_iload hx hb d_Model_point_436 (lv_at hl 0 rfl) ?_
                      refine lv_iadd hx hb d_Model_point_438 ?_
                      refine lv_topi (fun t9 e9 => ?_)
                      obtain rfl : t9 = nI (14 + i) := e9.trans (nI_add _ _)
                      refine q_lald (N := 28) (f := kPr) E hm.2.1 (14 + i) rfl (by omega) (by decide) d_Model_point_439 ?_
                      have hdv : dg (kPr (14 + i)) := dg_kPr _ (by omega)
                      refine q_last E hm.2.2.2.2.1 hm.2.2.2.2.2.2.1 hF (2142 + i) rfl (by omega) (by decide) d_Model_point_440 (fun H1 locs hq hf2 hF => ?_)
                      have hm := hm.step hK (hq.mono (fun q h => Or.inl h)) hf2 ((hm.2.2.2.2.2.1).upd hdv)
                      have hfr := hfr.tr (kjR1 hq)
                      refine lv_iinc (k := 0) (v := nI (i + 1)) (lv' := [(5, .int (nI (i + 1))), (2, .int (nI 96)), (0, .ref mo), (1, .int (nI k1))]) hx hb d_Model_point_441 hl rfl (i_inc i) (by decide) rfl (fun ls hl => ?_)
                      refine lv_goto (tgt := 413) hx hb d_Model_point_444 (by decide) ?_
                      have hl : lv_has ls 6 [(5, .int (nI (i + 1))), (2, .int (nI 96)), (0, .ref mo), (1, .int (nI k1))] := lv_sub hl [0, 1, 2, 3] rfl
                      exact ih (i + 1) _ _ ls _ (by omega) hfr hm (hBV.kq (fun j hj => pk_uLn (by omega))) hF (hX8.kp (fun k hk => pk_uLn (by omega))) (hY8.kp (fun k hk => pk_uLn (by omega))) (hZ8.kp (fun k hk => pk_uLn (by omega))) (fun k hk => by by_cases e : k = i; (rw [e, pk_uLs]); (rw [pk_uLn (by omega)]; exact hcp k (by omega))) hl
                  refine lv_iconst (v := nI 0) hx hb d_Model_point_410 (by decide) ?_
                  refine lv_istore (lv' := [(5, .int (nI 0)), (3, .int (nI mk)), (2, .int (nI 96)), (0, .ref mo), (1, .int (nI k1))]) hx hb d_Model_point_411 hl (by decide) rfl (fun ls hl => ?_)
                  have hl : lv_has ls 6 [(5, .int (nI 0)), (2, .int (nI 96)), (0, .ref mo), (1, .int (nI k1))] := lv_sub hl [0, 2, 3, 4] rfl
                  exact ord 14 0 _ _ ls _ (by omega) hfr hm hBV hF hX8 hY8 hZ8 (fun k hk => absurd hk (Nat.not_lt_zero _)) hl
                refine lv_aload_n hx hb d_Model_point_251 rfl (lv_at hl 3 rfl) ?_
                refine lv_sipush (v := nI 151) hx hb d_Model_point_252 (by decide) ?_
                refine lv_sipush (v := nI 148) hx hb d_Model_point_255 (by decide) ?_
                refine lv_sipush (v := nI 148) hx hb d_Model_point_258 (by decide) ?_
                refine q_cV (rest := []) E (M_Model_product l g n0 mo 151 148 148 0 (nI pn) (nI 0) (nI wn) fd1 (by decide) (by decide) (by decide) fa hAQ (x9 t) (x9 t) hX8 hX8) w_1113 w_15 w_1110 w_1112 (bw_s 32 rfl) hd_Model_product rfl ⟨by decide, by decide⟩ (OB.recv E.2.2.2.2.2 (by rfl) hm.1) (⟨hm, (AJ.off hfr (show ¬ MR mo (mo + 4) by unfold MR; omega) hab0)⟩) hF hl.1 rfl (Nat.le_of_ble_eq_true rfl) d_Model_point_261 ⟨by decide, by decide⟩ (qv (fun H3 locs hq hF => ?_))
                obtain ⟨hq, fd_29, hm, ho, hn⟩ := hq
                have hfr := hfr.tr (kjR hq)
                have hBV : BV9 fd_29 B := hBV.kq (fun j hj => ho j (by omega))
                have hX8 := hX8.off ho (by decide)
                have hY8 := hY8.off ho (by decide)
                have hs := hn
                refine lv_aload_n hx hb d_Model_point_264 rfl (lv_at hl 3 rfl) ?_
                refine lv_sipush (v := nI 151) hx hb d_Model_point_265 (by decide) ?_
                refine lv_sipush (v := nI 151) hx hb d_Model_point_268 (by decide) ?_
                refine lv_sipush (v := nI 148) hx hb d_Model_point_271 (by decide) ?_
                refine q_cV (rest := []) E (M_Model_product l g n0 mo 151 151 148 0 (nI pn) (nI 0) (nI wn) fd_29 (by decide) (by decide) (by decide) fa hAQ (x9 t * x9 t) (x9 t) hs hX8) w_1113 w_15 w_1110 w_1112 (bw_s 32 rfl) hd_Model_product rfl ⟨by decide, by decide⟩ (OB.recv E.2.2.2.2.2 (by rfl) hm.1) (⟨hm, (AJ.off hfr (show ¬ MR mo (mo + 4) by unfold MR; omega) hab0)⟩) hF hl.1 rfl (Nat.le_of_ble_eq_true rfl) d_Model_point_274 ⟨by decide, by decide⟩ (qv (fun H4 locs hq hF => ?_))
                obtain ⟨hq, fd_30, hm, ho, hn⟩ := hq
                have hfr := hfr.tr (kjR hq)
                have hBV : BV9 fd_30 B := hBV.kq (fun j hj => ho j (by omega))
                have hX8 := hX8.off ho (by decide)
                have hY8 := hY8.off ho (by decide)
                have hs := hn
                refine lv_aload_n hx hb d_Model_point_277 rfl (lv_at hl 3 rfl) ?_
                refine lv_sipush (v := nI 152) hx hb d_Model_point_278 (by decide) ?_
                refine lv_ldc2 (v := 4) hx hb E.2.2.2.1 (E.2.2.2.2.1 _ w_1155) d_Model_point_281 ?_
                refine q_cV (rest := []) E (N_Model_small l g n0 mo 152 4 0 (nI pn) (nI 0) (nI wn) 0 14 hw0 fd_30 (by decide) (by decide)) w_1084 w_15 w_1081 w_1083 (bw_s 28 rfl) hd_Model_small rfl ⟨by decide, by decide⟩ (OB.recv E.2.2.2.2.2 (by rfl) hm.1) hm hF hl.1 rfl (Nat.le_of_ble_eq_true rfl) d_Model_point_284 ⟨by decide, by decide⟩ (qv (fun H5 locs hq hF => ?_))
                obtain ⟨hq, fd_31, hm, ho, hn⟩ := hq
                have hfr := hfr.tr hq
                have hBV : BV9 fd_31 B := hBV.kq (fun j hj => ho j (by omega))
                have hX8 := hX8.off ho (by decide)
                have hY8 := hY8.off ho (by decide)
                have hs := hs.off ho (by decide)
                have h4 := mq_4 hn
                refine lv_aload_n hx hb d_Model_point_287 rfl (lv_at hl 3 rfl) ?_
                refine lv_sipush (v := nI 151) hx hb d_Model_point_288 (by decide) ?_
                refine lv_sipush (v := nI 151) hx hb d_Model_point_291 (by decide) ?_
                refine lv_sipush (v := nI 152) hx hb d_Model_point_294 (by decide) ?_
                refine q_cV (rest := []) E (M_Model_add l g n0 mo 151 151 152 0 (nI pn) (nI 0) (nI wn) fd_31 (by decide) (by decide) (by decide) (x9 t * x9 t * x9 t) 4 hs h4) w_975 w_15 w_972 w_974 (bw_s 17 rfl) hd_Model_add rfl ⟨by decide, by decide⟩ (OB.recv E.2.2.2.2.2 (by rfl) hm.1) hm hF hl.1 rfl (Nat.le_of_ble_eq_true rfl) d_Model_point_297 ⟨by decide, by decide⟩ (qv (fun H6 locs hq hF => ?_))
                obtain ⟨hq, fd_32, hm, ho, hn⟩ := hq
                have hfr := hfr.tr (kjR hq)
                have hBV : BV9 fd_32 B := hBV.kq (fun j hj => ho j (by omega))
                have hX8 := hX8.off ho (by decide)
                have hY8 := hY8.off ho (by decide)
                have hs : MQ9 fd_32 151 (s9 t) := hn
                refine lv_iload_n hx hb d_Model_point_300 rfl (lv_at hl 2 rfl) ?_
                refine lv_bipush (v := nI 48) hx hb d_Model_point_301 (by decide) ?_
                refine lv_icmp_ne (tgt := 375) hx hb d_Model_point_303 (by decide) (fun _ => ?_) (fun h9 => absurd h9 (by decide))
                have hl : lv_has ls 6 [(3, .int (nI mk)), (2, .int (nI 96)), (0, .ref mo), (1, .int (nI k1))] := lv_sub hl [1, 2, 3, 4] rfl
                exact s375 _ _ ls _ _ hfr hm hBV hF hX8 hY8 hs (Or.inl ⟨rfl, rfl⟩) hl
              refine lv_iconst (v := nI 4) hx hb d_Model_point_249 (by decide) ?_
              exact q_iret E hr hlk (⟨_, rfl, Or.inl ⟨hok, k1, 4, PZ0, e_k1, by omega, rfl, ⟨4, Or.inr (Or.inr (Or.inr ⟨Or.inr rfl, by rw [← emk]; exact hcn, by rw [← emk]; exact hmn, Or.inl ⟨Or.inl (hra.resolve_left (fun h => absurd (h.1.symm.trans za) (by decide))).2, rfl⟩⟩)), Or.inl ⟨by decide, rfl⟩⟩, Or.inr ⟨by decide, hP.fin hfr hw0 hm hBV ⟨hbd.1, Nat.zero_le _, hbd.2.2⟩⟩⟩⟩) hF d_Model_point_250
            | succ k ih =>
              intro  i   H   locs   ls   fd1 hi hfr hm hBV hF hA hB hl
              refine lv_iload hx hb d_Model_point_122 (lv_at hl 0 rfl) ?_
              refine lv_iload_n hx hb d_Model_point_124 rfl (lv_at hl 2 rfl) ?_
              refine lv_icmp_ge (tgt := 186) hx hb d_Model_point_125 (by decide) (fun h9 => absurd h9 (nI_ge (by omega) (by decide))) (fun _ => ?_)
              refine lv_aload_n hx hb d_Model_point_128 rfl (lv_at hl 3 rfl) ?_
              refine lv_iload hx hb d_Model_point_129 (lv_at hl 0 rfl) ?_
              refine lv_bipush (v := nI 48) hx hb d_Model_point_131 (by decide) ?_
              refine lv_icmp_ge (tgt := 142) hx hb d_Model_point_133 (by decide) (fun hc => ?_) (fun hc => ?_)
              rotate_left
              · skip
                have hc : i < 48 := Nat.lt_of_not_le (fun h => hc (nI_le h (by omega)))
                refine lv_sipush (v := nI 148) hx hb d_Model_point_136 (by decide) ?_
                refine lv_goto (tgt := 145) hx hb d_Model_point_139 (by decide) ?_
                refine lv_bipush (v := nI 47) hx hb d_Model_point_145 (by decide) ?_
                refine lv_iload hx hb d_Model_point_147 (lv_at hl 0 rfl) ?_
                refine lv_bipush (v := nI 48) hx hb d_Model_point_149 (by decide) ?_
                refine lv_irem hx hb d_Model_point_151 (by decide) ?_
                refine lv_topi (fun t9 e9 => ?_)
                obtain rfl : t9 = nI i := e9.trans (rem48a i (by omega))
                refine lv_isub hx hb d_Model_point_152 ?_
                refine lv_topi (fun t9 e9 => ?_)
                obtain rfl : t9 = nI (47 - i) := e9.trans (s47 i (by omega))
                refine lv_iload hx hb d_Model_point_153 (lv_at hl 0 rfl) ?_
                refine lv_if_ne (tgt := 170) hx hb d_Model_point_155 (by decide) (fun h0 => ?_) (fun h0 => ?_)
                rotate_left
                · skip
                  have e0 : i = 0 := nI_z0 (by omega) h0
                  refine lv_aload_n hx hb d_Model_point_158 rfl (lv_at hl 3 rfl) ?_
                  refine q_get (C := "KateDeskModel") (T := T_Model) (N := 14) (ci := 8) E hm.1 in_Model rfl 9 (by decide) w_1010 rfl rfl d_Model_point_159 ?_
                  refine lv_iconst (v := nI 0) hx hb d_Model_point_162 (by decide) ?_
                  refine q_iald E (AI.off hfr (show ¬ MR mo (mo + 6) by unfold MR; omega) hT) 0 rfl (by omega) (by decide) d_Model_point_163 ?_
                  refine lv_topi (fun t9 e9 => ?_)
                  obtain rfl : t9 = nI (t 0) := e9.trans (hmt 0 (by decide))
                  refine lv_bipush (v := nI 31) hx hb d_Model_point_164 (by decide) ?_
                  refine lv_iand hx hb d_Model_point_166 ?_
                  refine lv_topi (fun t9 e9 => ?_)
                  obtain rfl : t9 = nI (cb9 t 0 i) := e9.trans (by rw [e0, cb_00]; exact an_31 _ (ht 0))
                  refine lv_goto (tgt := 177) hx hb d_Model_point_167 (by decide) ?_
                  refine q_cV (rest := []) E (D_Model_setByte l g n0 mo 148 (47 - i) (cb9 t 0 i) 0 (nI pn) (nI 0) (nI wn) 0 14 hw0 fd1 (by decide) (by omega) (cb_lt ht 0 i) (BE9 t 0 i) (by rw [hA, show min i 48 = i by omega, be_s (by omega)])) w_1068 w_15 w_1065 w_1067 (bw_s 25 rfl) hd_Model_setByte rfl ⟨by decide, by decide⟩ (OB.recv E.2.2.2.2.2 (by rfl) hm.1) hm hF hl.1 rfl (Nat.le_of_ble_eq_true rfl) d_Model_point_177 ⟨by decide, by decide⟩ (qv (fun H1 locs hq hF => ?_))
                  obtain ⟨hq, fd_33, hm, ho, hS⟩ := hq
                  have hfr := hfr.tr hq
                  have hBV : BV9 fd_33 B := hBV.kq (fun j hj => ho j (by omega))
                  have hA : SV fd_33 148 14 = ((256 ^ (48 - min (i + 1) 48) * BE9 t 0 (min (i + 1) 48) : Nat) : Int) := by rw [show min (i + 1) 48 = i + 1 by omega, show 48 - (i + 1) = 47 - i by omega]; exact hS
                  have hB : SV fd_33 149 14 = ((256 ^ (48 - (i + 1 - 48)) * BE9 t 48 (i + 1 - 48) : Nat) : Int) := by rw [show i + 1 - 48 = i - 48 by omega]; exact NV.off hB ho (by decide)
                  refine lv_iinc (k := 0) (v := nI (i + 1)) (lv' := [(5, .int (nI (i + 1))), (3, .int (nI mk)), (2, .int (nI 96)), (0, .ref mo), (1, .int (nI k1))]) hx hb d_Model_point_180 hl rfl (i_inc i) (by decide) rfl (fun ls hl => ?_)
                  refine lv_goto (tgt := 122) hx hb d_Model_point_183 (by decide) ?_
                  have hl : lv_has ls 6 [(5, .int (nI (i + 1))), (3, .int (nI mk)), (2, .int (nI 96)), (0, .ref mo), (1, .int (nI k1))] := lv_sub hl [0, 1, 2, 3, 4] rfl
                  exact ih (i + 1) _ _ ls _ (by omega) hfr hm hBV hF hA hB hl
                have e0 : i ≠ 0 := fun e => h0 (congrArg nI e)
                refine lv_aload_n hx hb d_Model_point_170 rfl (lv_at hl 3 rfl) ?_
                refine q_get (C := "KateDeskModel") (T := T_Model) (N := 14) (ci := 8) E hm.1 in_Model rfl 9 (by decide) w_1010 rfl rfl d_Model_point_171 ?_
                refine lv_iload hx hb d_Model_point_174 (lv_at hl 0 rfl) ?_
                refine q_iald E (AI.off hfr (show ¬ MR mo (mo + 6) by unfold MR; omega) hT) i rfl (by omega) (by decide) d_Model_point_176 ?_
                refine lv_topi (fun t9 e9 => ?_)
                obtain rfl : t9 = nI (t i) := e9.trans (hmt i (by omega))
                refine lv_topi (fun t9 e9 => ?_)
                obtain rfl : t9 = nI (cb9 t 0 i) := e9.trans (by rw [cb_0j e0])
                refine q_cV (rest := []) E (D_Model_setByte l g n0 mo 148 (47 - i) (cb9 t 0 i) 0 (nI pn) (nI 0) (nI wn) 0 14 hw0 fd1 (by decide) (by omega) (cb_lt ht 0 i) (BE9 t 0 i) (by rw [hA, show min i 48 = i by omega, be_s (by omega)])) w_1068 w_15 w_1065 w_1067 (bw_s 25 rfl) hd_Model_setByte rfl ⟨by decide, by decide⟩ (OB.recv E.2.2.2.2.2 (by rfl) hm.1) hm hF hl.1 rfl (Nat.le_of_ble_eq_true rfl) d_Model_point_177 ⟨by decide, by decide⟩ (qv (fun H1 locs hq hF => ?_))
                obtain ⟨hq, fd_34, hm, ho, hS⟩ := hq
                have hfr := hfr.tr hq
                have hBV : BV9 fd_34 B := hBV.kq (fun j hj => ho j (by omega))
                have hA : SV fd_34 148 14 = ((256 ^ (48 - min (i + 1) 48) * BE9 t 0 (min (i + 1) 48) : Nat) : Int) := by rw [show min (i + 1) 48 = i + 1 by omega, show 48 - (i + 1) = 47 - i by omega]; exact hS
                have hB : SV fd_34 149 14 = ((256 ^ (48 - (i + 1 - 48)) * BE9 t 48 (i + 1 - 48) : Nat) : Int) := by rw [show i + 1 - 48 = i - 48 by omega]; exact NV.off hB ho (by decide)
                refine lv_iinc (k := 0) (v := nI (i + 1)) (lv' := [(5, .int (nI (i + 1))), (3, .int (nI mk)), (2, .int (nI 96)), (0, .ref mo), (1, .int (nI k1))]) hx hb d_Model_point_180 hl rfl (i_inc i) (by decide) rfl (fun ls hl => ?_)
                refine lv_goto (tgt := 122) hx hb d_Model_point_183 (by decide) ?_
                have hl : lv_has ls 6 [(5, .int (nI (i + 1))), (3, .int (nI mk)), (2, .int (nI 96)), (0, .ref mo), (1, .int (nI k1))] := lv_sub hl [0, 1, 2, 3, 4] rfl
                exact ih (i + 1) _ _ ls _ (by omega) hfr hm hBV hF hA hB hl
              have hc : 48 ≤ i := (nI_leI (by decide) (by omega)).mp hc
              refine lv_sipush (v := nI 149) hx hb d_Model_point_142 (by decide) ?_
              refine lv_bipush (v := nI 47) hx hb d_Model_point_145 (by decide) ?_
              refine lv_iload hx hb d_Model_point_147 (lv_at hl 0 rfl) ?_
              refine lv_bipush (v := nI 48) hx hb d_Model_point_149 (by decide) ?_
              refine lv_irem hx hb d_Model_point_151 (by decide) ?_
              refine lv_topi (fun t9 e9 => ?_)
              obtain rfl : t9 = nI (i - 48) := e9.trans (rem48b i (by omega) (by omega))
              refine lv_isub hx hb d_Model_point_152 ?_
              refine lv_topi (fun t9 e9 => ?_)
              obtain rfl : t9 = nI (47 - (i - 48)) := e9.trans (s47 (i - 48) (by omega))
              refine lv_iload hx hb d_Model_point_153 (lv_at hl 0 rfl) ?_
              refine lv_if_ne (tgt := 170) hx hb d_Model_point_155 (by decide) (fun _ => ?_) (fun h9 => absurd h9 (fun e => absurd (nI_z0 (by omega) e) (by omega)))
              refine lv_aload_n hx hb d_Model_point_170 rfl (lv_at hl 3 rfl) ?_
              refine q_get (C := "KateDeskModel") (T := T_Model) (N := 14) (ci := 8) E hm.1 in_Model rfl 9 (by decide) w_1010 rfl rfl d_Model_point_171 ?_
              refine lv_iload hx hb d_Model_point_174 (lv_at hl 0 rfl) ?_
              refine q_iald E (AI.off hfr (show ¬ MR mo (mo + 6) by unfold MR; omega) hT) i rfl (by omega) (by decide) d_Model_point_176 ?_
              refine lv_topi (fun t9 e9 => ?_)
              obtain rfl : t9 = nI (t i) := e9.trans (hmt i (by omega))
              refine lv_topi (fun t9 e9 => ?_)
              obtain rfl : t9 = nI (cb9 t 48 (i - 48)) := e9.trans (by rw [cb_48, show 48 + (i - 48) = i by omega])
              refine q_cV (rest := []) E (D_Model_setByte l g n0 mo 149 (47 - (i - 48)) (cb9 t 48 (i - 48)) 0 (nI pn) (nI 0) (nI wn) 0 14 hw0 fd1 (by decide) (by omega) (cb_lt ht 48 (i - 48)) (BE9 t 48 (i - 48)) (by rw [hB,  be_s (by omega)])) w_1068 w_15 w_1065 w_1067 (bw_s 25 rfl) hd_Model_setByte rfl ⟨by decide, by decide⟩ (OB.recv E.2.2.2.2.2 (by rfl) hm.1) hm hF hl.1 rfl (Nat.le_of_ble_eq_true rfl) d_Model_point_177 ⟨by decide, by decide⟩ (qv (fun H1 locs hq hF => ?_))
              obtain ⟨hq, fd_35, hm, ho, hS⟩ := hq
              have hfr := hfr.tr hq
              have hBV : BV9 fd_35 B := hBV.kq (fun j hj => ho j (by omega))
              have hA : SV fd_35 148 14 = ((256 ^ (48 - min (i + 1) 48) * BE9 t 0 (min (i + 1) 48) : Nat) : Int) := by rw [show min (i + 1) 48 = min i 48 by omega]; exact NV.off hA ho (by decide)
              have hB : SV fd_35 149 14 = ((256 ^ (48 - (i + 1 - 48)) * BE9 t 48 (i + 1 - 48) : Nat) : Int) := by rw [show i + 1 - 48 = (i - 48) + 1 by omega, show 48 - (i - 48 + 1) = 47 - (i - 48) by omega]; exact hS
              refine lv_iinc (k := 0) (v := nI (i + 1)) (lv' := [(5, .int (nI (i + 1))), (3, .int (nI mk)), (2, .int (nI 96)), (0, .ref mo), (1, .int (nI k1))]) hx hb d_Model_point_180 hl rfl (i_inc i) (by decide) rfl (fun ls hl => ?_)
              refine lv_goto (tgt := 122) hx hb d_Model_point_183 (by decide) ?_
              have hl : lv_has ls 6 [(5, .int (nI (i + 1))), (3, .int (nI mk)), (2, .int (nI 96)), (0, .ref mo), (1, .int (nI k1))] := lv_sub hl [0, 1, 2, 3, 4] rfl
              exact ih (i + 1) _ _ ls _ (by omega) hfr hm hBV hF hA hB hl
          exact rd 96 0 _ _ ls _ (by omega) hfr hm hBV hF hA hB hl
        refine lv_istore_n (lv' := [(3, .int (nI mk)), (2, .int (nI 96)), (0, .ref mo), (1, .int (nI k1))]) hx hb d_Model_point_46 rfl hl (by decide) rfl (fun ls hl => ?_)
        refine lv_iload_n hx hb d_Model_point_47 rfl (lv_at hl 1 rfl) ?_
        refine lv_bipush (v := nI 48) hx hb d_Model_point_48 (by decide) ?_
        refine lv_icmp_ne (tgt := 77) hx hb d_Model_point_50 (by decide) (fun _ => ?_) (fun h9 => absurd h9 (by decide))
        refine lv_iload_n hx hb d_Model_point_77 rfl (lv_at hl 0 rfl) ?_
        refine lv_if_eq (tgt := 86) hx hb d_Model_point_78 (by decide) (fun c0 => ?_) (fun c0 => ?_)
        rotate_left
        · skip
          refine lv_iload_n hx hb d_Model_point_81 rfl (lv_at hl 0 rfl) ?_
          refine lv_iconst (v := nI 2) hx hb d_Model_point_82 (by decide) ?_
          refine lv_icmp_ne (tgt := 90) hx hb d_Model_point_83 (by decide) (fun c2 => ?_) (fun c2 => ?_)
          rotate_left
          · skip
            refine lv_iconst (v := nI 1) hx hb d_Model_point_86 (by decide) ?_
            refine lv_goto (tgt := 91) hx hb d_Model_point_87 (by decide) ?_
            refine lv_istore (lv' := [(4, .int (nI 1)), (3, .int (nI mk)), (2, .int (nI 96)), (0, .ref mo), (1, .int (nI k1))]) hx hb d_Model_point_91 hl (by decide) rfl (fun ls hl => ?_)
            refine lv_iload hx hb d_Model_point_93 (lv_at hl 0 rfl) ?_
            refine lv_if_ne (tgt := 100) hx hb d_Model_point_95 (by decide) (fun _ => ?_) (fun h9 => absurd h9 (by decide))
            have hl : lv_has ls 6 [(3, .int (nI mk)), (2, .int (nI 96)), (0, .ref mo), (1, .int (nI k1))] := lv_sub hl [1, 2, 3, 4] rfl
            exact s100 ls (Or.inr ⟨rfl, Or.inr ((nI_eq (by omega) (by decide)).mp c2)⟩) hl
          refine lv_iconst (v := nI 0) hx hb d_Model_point_90 (by decide) ?_
          refine lv_istore (lv' := [(4, .int (nI 0)), (3, .int (nI mk)), (2, .int (nI 96)), (0, .ref mo), (1, .int (nI k1))]) hx hb d_Model_point_91 hl (by decide) rfl (fun ls hl => ?_)
          refine lv_iload hx hb d_Model_point_93 (lv_at hl 0 rfl) ?_
          refine lv_if_ne (tgt := 100) hx hb d_Model_point_95 (by decide) (fun h9 => absurd (rfl) h9) (fun _ => ?_)
          refine lv_iconst (v := nI 2) hx hb d_Model_point_98 (by decide) ?_
          exact q_iret E hr hlk (⟨_, rfl, Or.inl ⟨hok, k1, 2, PZ0, e_k1, by omega, rfl, ⟨2, Or.inr (Or.inl ⟨Or.inr rfl, by rw [← emk]; exact fun h => by have h4 := mk96 h; rcases h4 with e | e; exact c0 (congrArg nI e); exact c2 (by rw [e]), rfl⟩), Or.inl ⟨by decide, rfl⟩⟩, Or.inr ⟨by decide, hP.fin hfr hw9 hm hBV ⟨hbd.1, Nat.zero_le _, hbd.2.2⟩⟩⟩⟩) hF d_Model_point_99
        refine lv_iconst (v := nI 1) hx hb d_Model_point_86 (by decide) ?_
        refine lv_goto (tgt := 91) hx hb d_Model_point_87 (by decide) ?_
        refine lv_istore (lv' := [(4, .int (nI 1)), (3, .int (nI mk)), (2, .int (nI 96)), (0, .ref mo), (1, .int (nI k1))]) hx hb d_Model_point_91 hl (by decide) rfl (fun ls hl => ?_)
        refine lv_iload hx hb d_Model_point_93 (lv_at hl 0 rfl) ?_
        refine lv_if_ne (tgt := 100) hx hb d_Model_point_95 (by decide) (fun _ => ?_) (fun h9 => absurd h9 (by decide))
        have hl : lv_has ls 6 [(3, .int (nI mk)), (2, .int (nI 96)), (0, .ref mo), (1, .int (nI k1))] := lv_sub hl [1, 2, 3, 4] rfl
        exact s100 ls (Or.inr ⟨rfl, Or.inl (nI_z0 (by omega) c0)⟩) hl
      · skip
        have hBV := hB
        obtain ⟨k1, e_k1, h_k1⟩ := okP_nat (by decide) (by decide) hok
        rw [e_k1] at hl
        refine lv_aload_n hx hb d_Model_point_14 rfl (lv_at hl 0 rfl) ?_
        refine q_get (C := "KateDeskModel") (T := T_Model) (N := 14) (ci := 8) E hm.1 in_Model rfl 10 (by decide) w_1011 rfl rfl d_Model_point_15 ?_
        refine lv_istore_n (lv' := [(2, .int (nI tn)), (0, .ref mo), (1, .int (nI k1))]) hx hb d_Model_point_18 rfl hl (by decide) rfl (fun ls hl => ?_)
        refine lv_aload_n hx hb d_Model_point_19 rfl (lv_at hl 1 rfl) ?_
        refine lv_iconst (v := nI 0) hx hb d_Model_point_20 (by decide) ?_
        refine q_put (C := "KateDeskModel") (T := T_Model) (N := 14) (ci := 8) (ty := .int) E hm.1 in_Model ty_Model tyok_Model nm_Model rfl 10 (by decide) w_1011 rfl rfl (by decide +kernel) rfl rfl (Nat.le_of_ble_eq_true rfl) hmn hF d_Model_point_21 (fun H2 locs hq ho2 hF => ?_)
        have hm : MS g n0 H2 mo 0 (nI pn) (nI 0) (nI wn) w9 n9 fd := hm.frm hq (by omega) (by omega) (by omega) (by omega) ho2
        have hfr := hfr.tr (hq.mono (fun q h => Or.inl h))
        refine lv_iload_n hx hb d_Model_point_24 rfl (lv_at hl 0 rfl) ?_
        refine lv_bipush (v := nI 48) hx hb d_Model_point_25 (by decide) ?_
        refine lv_icmp_eq (tgt := 38) hx hb d_Model_point_27 (by decide) (fun h9 => absurd h9 (fun h => h48 ((nI_eq (by omega) (by decide)).mp h))) (fun _ => ?_)
        refine lv_iload_n hx hb d_Model_point_30 rfl (lv_at hl 0 rfl) ?_
        refine lv_bipush (v := nI 96) hx hb d_Model_point_31 (by decide) ?_
        refine lv_icmp_eq (tgt := 38) hx hb d_Model_point_33 (by decide) (fun h9 => absurd h9 (fun h => h96 ((nI_eq (by omega) (by decide)).mp h))) (fun _ => ?_)
        refine lv_iconst (v := nI 1) hx hb d_Model_point_36 (by decide) ?_
        exact q_iret E hr hlk (⟨_, rfl, Or.inl ⟨hok, k1, 1, PZ0, e_k1, by omega, rfl, ⟨1, Or.inl ⟨fun h => h.elim h48 h96, rfl⟩, Or.inl ⟨by decide, rfl⟩⟩, Or.inr ⟨by decide, hP.fin hfr hw9 hm hBV ⟨hbd.1, Nat.zero_le _, hbd.2.2⟩⟩⟩⟩) hF d_Model_point_37
  refine lv_aload_n hx hb d_Model_point_0 rfl (lv_at hl 0 rfl) ?_
  refine lv_iload_n hx hb d_Model_point_1 rfl (lv_at hl 1 rfl) ?_
  refine q_cS (rest := [.ref mo]) E (c_Model_noPoint l g n0 a ) w_1151 w_15 w_1149 w_1150 hd_Model_noPoint rfl ⟨by decide, by decide⟩ trivial hF hl.1 rfl (Nat.le_of_ble_eq_true rfl) d_Model_point_2 ⟨by decide, by decide⟩ (qi (fun r_0 H1 locs hq hF => ?_))
  obtain ⟨h_0, hq⟩ := hq
  subst hq
  rcases h_0 with ⟨rfl, f_0⟩ | ⟨rfl, f_0⟩
  · skip
    have hl : lv_has ls 6 [(0, .ref mo), (1, .int a)] := lv_sub hl [0, 1] rfl
    exact bad _ ls (fun h => (f_0) h) hF hl
  · skip
    have hl : lv_has ls 6 [(0, .ref mo), (1, .int a)] := lv_sub hl [0, 1] rfl
    exact good _ ls f_0 hF hl
