set_option maxHeartbeats 4000000 in
set_option maxRecDepth 100000 in
theorem Y_Model_word (l : Launch) (g : WG) (n0 : Nat → Prop) (mo : Nat) (th : Int32) (pn tn wn : Nat) (B : Nat → Int) (a : Int32) (kk : Int32) : Ctr l y_Model_word (.code y_Model_word prog_11_method_40_code 6 (some FieldType.long)) 2 44 0 0 n0 g [.ref mo, .int a, .int kk] (fun H => MVP g n0 H mo th pn tn wn B) (QL (fun r H H' => ((okS a (nI 1) ∧ okC kk (nI 0) (nI 7)) ∧ (∃ (k1 k2 E : Nat), a = nI k1 ∧ kk = nI k2 ∧ k1 < 32 ∧ k2 ≤ 7 ∧ (E : Int) = B k1 ∧ r.toInt = ((E / 2 ^ (32 * k2) % 2 ^ 32 : Nat) : Int) ∧ MVP g n0 H' mo 0 pn tn wn B)) ∨ (¬ (okS a (nI 1) ∧ okC kk (nI 0) (nI 7)) ∧ MVP g n0 H' mo 1 pn tn wn B))) := by
  refine ctr_mk l (lv0 := [(0, .ref mo), (1, .int a), (2, .int kk)]) (by decide) (Nat.le_of_ble_eq_true rfl) rfl ?_
  intro p e s m below meth c ls E hr hlk hnm hl hP
  have hx := E.1
  have hb := E.2.1
  have hK := E.2.2.2.2.2
  have hF : ∀ q ∈ ([] : List Loc), n0 q.base := fun q hq => absurd hq List.not_mem_nil
  obtain ⟨⟨w9, n9, fd, hw9, hm, hB9⟩, ⟨fa, hab, hAT, -⟩, hho, -, -, hbd, hmn, -, -, hn8⟩ := id hP
  have hB := hB9.lo
  have hfr : FRM (MR mo) s.heap s.heap := FRM.rf
  have bad : ∀ (locs : List Loc) (ls : Array Slot), ¬ (okS a (nI 1) ∧ okC kk (nI 0) (nI 7)) → (∀ q ∈ locs, n0 q.base) → lv_has ls 6 [(0, .ref mo), (1, .int a), (2, .int kk)] → W p l e { frames := 2, cells := 0, slots := 0, locals := 44 } s m [.ref mo, .int a, .int kk].toArray below meth c s.heap locs 0 0 (MQ below (QcP (QL (fun r H H' => ((okS a (nI 1) ∧ okC kk (nI 0) (nI 7)) ∧ (∃ (k1 k2 E : Nat), a = nI k1 ∧ kk = nI k2 ∧ k1 < 32 ∧ k2 ≤ 7 ∧ (E : Int) = B k1 ∧ r.toInt = ((E / 2 ^ (32 * k2) % 2 ^ 32 : Nat) : Int) ∧ MVP g n0 H' mo 0 pn tn wn B)) ∨ (¬ (okS a (nI 1) ∧ okC kk (nI 0) (nI 7)) ∧ MVP g n0 H' mo 1 pn tn wn B)))) [.ref mo, .int a, .int kk].toArray s 0 0 (fun q => n0 q)) (F0 m 23 ls [.int (nI 1), .ref mo]) := by
    intro  locs   ls hno hF hl
    refine lv_iconst (v := nI 1) hx hb d_Model_word_23 (by decide) ?_
    refine q_cV (rest := []) E (c_Model_fails l g n0 mo th (nI pn) (nI tn) (nI wn) w9 n9 hw9 (nI 1) (nI 1) fd hmn (Or.inl rfl)) w_1056 w_15 w_1053 w_1055 (bw_s 24 rfl) hd_Model_fails rfl ⟨by decide, by decide⟩ (OB.recv E.2.2.2.2.2 (by rfl) hm.1) hm hF hl.1 rfl (Nat.le_of_ble_eq_true rfl) d_Model_word_24 ⟨by decide, by decide⟩ (qi (fun rf H1 locs hq hF => ?_))
    obtain ⟨hrf, hq, hm⟩ := hq
    subst hrf
    have hfr := hfr.tr hq
    rw [if_neg (by decide)] at hm
    refine lv_if_eq (tgt := 32) hx hb d_Model_word_27 (by decide) (fun h9 => absurd h9 (by decide)) (fun _ => ?_)
    refine lv_lconst (v := 0) hx hb d_Model_word_30 (by decide) ?_
    exact q_lret E hr hlk (⟨_, rfl, Or.inr ⟨hno, hP.keep hfr hw9 hm hB9⟩⟩) hF d_Model_word_31
  have good : ∀ (locs : List Loc) (ls : Array Slot), okS a (nI 1) ∧ okC kk (nI 0) (nI 7) → (∀ q ∈ locs, n0 q.base) → lv_has ls 6 [(0, .ref mo), (1, .int a), (2, .int kk)] → W p l e { frames := 2, cells := 0, slots := 0, locals := 44 } s m [.ref mo, .int a, .int kk].toArray below meth c s.heap locs 0 0 (MQ below (QcP (QL (fun r H H' => ((okS a (nI 1) ∧ okC kk (nI 0) (nI 7)) ∧ (∃ (k1 k2 E : Nat), a = nI k1 ∧ kk = nI k2 ∧ k1 < 32 ∧ k2 ≤ 7 ∧ (E : Int) = B k1 ∧ r.toInt = ((E / 2 ^ (32 * k2) % 2 ^ 32 : Nat) : Int) ∧ MVP g n0 H' mo 0 pn tn wn B)) ∨ (¬ (okS a (nI 1) ∧ okC kk (nI 0) (nI 7)) ∧ MVP g n0 H' mo 1 pn tn wn B)))) [.ref mo, .int a, .int kk].toArray s 0 0 (fun q => n0 q)) (F0 m 23 ls [.int (nI 0), .ref mo]) := by
    intro  locs   ls hok hF hl
    refine lv_iconst (v := nI 1) hx hb d_Model_word_23 (by decide) ?_
    refine q_cV (rest := []) E (c_Model_fails l g n0 mo th (nI pn) (nI tn) (nI wn) w9 n9 hw9 (nI 0) (nI 1) fd hmn (Or.inr rfl)) w_1056 w_15 w_1053 w_1055 (bw_s 24 rfl) hd_Model_fails rfl ⟨by decide, by decide⟩ (OB.recv E.2.2.2.2.2 (by rfl) hm.1) hm hF hl.1 rfl (Nat.le_of_ble_eq_true rfl) d_Model_word_24 ⟨by decide, by decide⟩ (qi (fun rf H1 locs hq hF => ?_))
    obtain ⟨hrf, hq, hm⟩ := hq
    subst hrf
    have hfr := hfr.tr hq
    rw [if_pos nI_0] at hm
    have hab := AJ.off hq (by unfold MR; omega) hab
    refine lv_if_eq (tgt := 32) hx hb d_Model_word_27 (by decide) (fun _ => ?_) (fun h9 => absurd (by decide) h9)
    have hsc : ∀ j, j < 448 → fd j = fd j := fun _ _ => rfl
    have hsp : ∀ j, 448 ≤ j → j < 1666 → fd j = fd j := fun _ _ _ => rfl
    obtain ⟨k1, e_k1, h_k1⟩ := okS_nat (by decide) (by decide) hok.1
    rw [e_k1] at hl
    obtain ⟨k2, e_k2, h_k2, h2_k2⟩ := okC_nat (by decide) (by decide) hok.2
    rw [e_k2] at hl
    obtain ⟨E8, hE⟩ : ∃ E8 : Nat, (E8 : Int) = B k1 := ⟨(B k1).toNat, Int.toNat_of_nonneg ((hB k1 (by omega)).1.nn hm.2.2.2.2.2.1 (by omega))⟩
    have hNE : NV fd k1 (E8 : Int) := by rw [hE]; exact (hB k1 (by omega)).1
    refine lv_lconst (v := 0) hx hb d_Model_word_32 (by decide) ?_
    refine lv_lstore_n (lv' := [(3, .long 0), (0, .ref mo), (1, .int (nI k1)), (2, .int (nI k2))]) hx hb d_Model_word_33 rfl hl (by decide) rfl (fun ls hl => ?_)
    refine lv_bipush (v := nI 31) hx hb d_Model_word_34 (by decide) ?_
    refine lv_istore (lv' := [(5, .int (nI 31)), (3, .long 0), (0, .ref mo), (1, .int (nI k1)), (2, .int (nI k2))]) hx hb d_Model_word_36 hl (by decide) rfl (fun ls hl => ?_)
    have hl : lv_has ls 6 [(5, .int (nI 31)), (3, .long 0), (0, .ref mo), (1, .int (nI k1)), (2, .int (nI k2))] := lv_sub hl [0, 1, 2, 3, 4] rfl
    have loop : ∀ (k : Nat) (locs : List Loc) (ls : Array Slot) (v : Int32) (y : Int64), k ≤ 32 → v = nI k - 1 → y.toInt = ((E8 / 2 ^ (32 * k2 + k) % 2 ^ (32 - k) : Nat) : Int) → (∀ q ∈ locs, n0 q.base) → lv_has ls 6 [(5, .int v), (3, .long y), (0, .ref mo), (1, .int (nI k1)), (2, .int (nI k2))] → W p l e { frames := 2, cells := 0, slots := 0, locals := 44 } s m [.ref mo, .int a, .int kk].toArray below meth c H1 locs 0 0 (MQ below (QcP (QL (fun r H H' => ((okS a (nI 1) ∧ okC kk (nI 0) (nI 7)) ∧ (∃ (k1 k2 E : Nat), a = nI k1 ∧ kk = nI k2 ∧ k1 < 32 ∧ k2 ≤ 7 ∧ (E : Int) = B k1 ∧ r.toInt = ((E / 2 ^ (32 * k2) % 2 ^ 32 : Nat) : Int) ∧ MVP g n0 H' mo 0 pn tn wn B)) ∨ (¬ (okS a (nI 1) ∧ okC kk (nI 0) (nI 7)) ∧ MVP g n0 H' mo 1 pn tn wn B)))) [.ref mo, .int a, .int kk].toArray s 0 0 (fun q => n0 q)) (F0 m 38 ls []) := by
      intro k
      induction k with
      | zero =>
        intro  locs   ls   v   y hk32 hv0 hy hF hl
        subst hv0
        refine lv_iload hx hb d_Model_word_38 (lv_at hl 0 rfl) ?_
        refine lv_if_lt (tgt := 69) hx hb d_Model_word_40 (by decide) (fun _ => ?_) (fun h9 => absurd (by decide) h9)
        refine lv_lload_n hx hb d_Model_word_69 rfl (lv_at hl 1 rfl) ?_
        exact q_lret E hr hlk (⟨_, rfl, Or.inl ⟨hok, k1, k2, E8, e_k1, e_k2, by omega, by omega, hE, hy, hP.keep hfr hw9 hm (hB9.mk hB hsp (by intro k9 h9; first | rfl | (unfold updI; rw [if_neg (by omega)]; done) | (unfold updI opB; rw [if_neg (by omega), if_neg (by omega)]; done) | (unfold trB; rw [if_neg (by omega)]; done)))⟩⟩) hF d_Model_word_70
      | succ k ih =>
        intro  locs   ls   v   y hk32 hv0 hy hF hl
        rw [nI_pred] at hv0
        subst hv0
        refine lv_iload hx hb d_Model_word_38 (lv_at hl 0 rfl) ?_
        refine lv_if_lt (tgt := 69) hx hb d_Model_word_40 (by decide) (fun h9 => absurd h9 (nI_pos (by omega))) (fun _ => ?_)
        refine lv_ldc2 (v := 2) hx hb E.2.2.2.1 (E.2.2.2.2.1 _ w_1089) d_Model_word_43 ?_
        refine lv_lload_n hx hb d_Model_word_46 rfl (lv_at hl 1 rfl) ?_
        refine lv_lmul hx hb d_Model_word_47 ?_
        refine lv_aload_n hx hb d_Model_word_48 rfl (lv_at hl 2 rfl) ?_
        refine lv_iload_n hx hb d_Model_word_49 rfl (lv_at hl 3 rfl) ?_
        refine lv_bipush (v := nI 32) hx hb d_Model_word_50 (by decide) ?_
        refine lv_iload_n hx hb d_Model_word_52 rfl (lv_at hl 4 rfl) ?_
        refine lv_imul hx hb d_Model_word_53 ?_
        refine lv_topi (fun t9 e9 => ?_)
        obtain rfl : t9 = nI (32 * k2) := e9.trans (pk_mul _ _)
        refine lv_iload hx hb d_Model_word_54 (lv_at hl 0 rfl) ?_
        refine lv_iadd hx hb d_Model_word_56 ?_
        refine lv_topi (fun t9 e9 => ?_)
        obtain rfl : t9 = nI ((32 * k2) + k) := e9.trans (nI_add _ _)
        refine q_cV (rest := [.long (2 * y)]) E (N_Model_bit l g n0 mo k1 (32 * k2 + k) 0 (nI pn) (nI tn) (nI wn) w9 n9 hw9 fd (by omega) (by omega) E8 hNE) w_1093 w_15 w_1090 w_1092 (bw_s 29 rfl) hd_Model_bit rfl ⟨by decide, by decide⟩ (OB.recv E.2.2.2.2.2 (by rfl) hm.1) hm hF hl.1 rfl (Nat.le_of_ble_eq_true rfl) d_Model_word_57 ⟨by decide, by decide⟩ (qi (fun rb H1 locs hq hF => ?_))
        obtain ⟨hrb, hq⟩ := hq
        have hq := hq.symm
        subst hq
        subst hrb
        refine lv_i2l (v := (nI (E8 / 2 ^ (32 * k2 + k) % 2)).toInt64) hx hb d_Model_word_60 rfl ?_
        refine lv_ladd hx hb d_Model_word_61 ?_
        refine lv_lstore_n (lv' := [(3, .long ((2 * y) + ((nI (E8 / 2 ^ (32 * k2 + k) % 2)).toInt64))), (5, .int (nI k)), (0, .ref mo), (1, .int (nI k1)), (2, .int (nI k2))]) hx hb d_Model_word_62 rfl hl (by decide) rfl (fun ls hl => ?_)
        have hy2 := wd_step (y := y) (E := E8) (m := 32 * k2 + k) (j := 31 - k) (by omega) (by rw [hy, show 32 - (k + 1) = 31 - k by omega]; rfl)
        rw [show 31 - k + 1 = 32 - k by omega] at hy2
        refine lv_iinc (k := 1) (v := nI k - 1) (lv' := [(5, .int (nI k - 1)), (3, .long ((2 * y) + ((nI (E8 / 2 ^ (32 * k2 + k) % 2)).toInt64))), (0, .ref mo), (1, .int (nI k1)), (2, .int (nI k2))]) hx hb d_Model_word_63 hl rfl (i_dec _) (by decide) rfl (fun ls hl => ?_)
        refine lv_goto (tgt := 38) hx hb d_Model_word_66 (by decide) ?_
        have hl : lv_has ls 6 [(5, .int (nI k - 1)), (3, .long ((2 * y) + ((nI (E8 / 2 ^ (32 * k2 + k) % 2)).toInt64))), (0, .ref mo), (1, .int (nI k1)), (2, .int (nI k2))] := lv_sub hl [0, 1, 2, 3, 4] rfl
        exact ih _ ls _ _ (by omega) rfl hy2 hF hl
    exact loop 32 _ ls _ _ (by decide) (by decide) (by rw [Nat.sub_self, Nat.pow_zero, Nat.mod_one]; rfl) hF hl
  refine lv_aload_n hx hb d_Model_word_0 rfl (lv_at hl 0 rfl) ?_
  refine lv_iload_n hx hb d_Model_word_1 rfl (lv_at hl 1 rfl) ?_
  refine q_cS (rest := [.ref mo]) E (c_Model_noScalar l g n0 a ) w_1064 w_15 w_1062 w_1063 hd_Model_noScalar rfl ⟨by decide, by decide⟩ trivial hF hl.1 rfl (Nat.le_of_ble_eq_true rfl) d_Model_word_2 ⟨by decide, by decide⟩ (qi (fun r_0 H1 locs hq hF => ?_))
  obtain ⟨h_0, hq⟩ := hq
  subst hq
  rcases h_0 with ⟨rfl, f_0⟩ | ⟨rfl, f_0⟩
  · skip
    refine lv_if_ne (tgt := 18) hx hb d_Model_word_5 (by decide) (fun _ => ?_) (fun h9 => absurd h9 (by decide))
    refine lv_iconst (v := nI 1) hx hb d_Model_word_18 (by decide) ?_
    refine lv_goto (tgt := 23) hx hb d_Model_word_19 (by decide) ?_
    have hl : lv_has ls 6 [(0, .ref mo), (1, .int a), (2, .int kk)] := lv_sub hl [0, 1, 2] rfl
    exact bad _ ls (fun h => (f_0) h.1) hF hl
  · skip
    refine lv_if_ne (tgt := 18) hx hb d_Model_word_5 (by decide) (fun h9 => absurd (by decide) h9) (fun _ => ?_)
    refine lv_iload_n hx hb d_Model_word_8 rfl (lv_at hl 2 rfl) ?_
    refine lv_if_lt (tgt := 18) hx hb d_Model_word_9 (by decide) (fun g_9 => ?_) (fun g_9 => ?_)
    rotate_left
    · skip
      refine lv_iload_n hx hb d_Model_word_12 rfl (lv_at hl 2 rfl) ?_
      refine lv_bipush (v := nI 7) hx hb d_Model_word_13 (by decide) ?_
      refine lv_icmp_le (tgt := 22) hx hb d_Model_word_15 (by decide) (fun g_15 => ?_) (fun g_15 => ?_)
      rotate_left
      · skip
        refine lv_iconst (v := nI 1) hx hb d_Model_word_18 (by decide) ?_
        refine lv_goto (tgt := 23) hx hb d_Model_word_19 (by decide) ?_
        have hl : lv_has ls 6 [(0, .ref mo), (1, .int a), (2, .int kk)] := lv_sub hl [0, 1, 2] rfl
        exact bad _ ls (fun h => (fun q => g_15 q.2) h.2) hF hl
      refine lv_iconst (v := nI 0) hx hb d_Model_word_22 (by decide) ?_
      have hl : lv_has ls 6 [(0, .ref mo), (1, .int a), (2, .int kk)] := lv_sub hl [0, 1, 2] rfl
      exact good _ ls ⟨f_0, ⟨g_9, g_15⟩⟩ hF hl
    refine lv_iconst (v := nI 1) hx hb d_Model_word_18 (by decide) ?_
    refine lv_goto (tgt := 23) hx hb d_Model_word_19 (by decide) ?_
    have hl : lv_has ls 6 [(0, .ref mo), (1, .int a), (2, .int kk)] := lv_sub hl [0, 1, 2] rfl
    exact bad _ ls (fun h => (fun q => q.1 g_9) h.2) hF hl
set_option maxHeartbeats 4000000 in
set_option maxRecDepth 100000 in
theorem Y_Model_open (l : Launch) (g : WG) (n0 : Nat → Prop) (mo : Nat) (th : Int32) (pn tn wn : Nat) (B : Nat → Int) (a : Int32) (n : Int32) (z0 : Int32) (y0 : Int32) : Ctr l y_Model_open (.code y_Model_open prog_11_method_57_code 6 none) 4 104 0 0 n0 g [.ref mo, .int a, .int n, .int z0, .int y0] (fun H => MVP g n0 H mo th pn tn wn B) (QV (fun H H' => ((okC n (nI 1) (nI 16) ∧ okS a n ∧ okS z0 (nI 1) ∧ okS y0 (nI 1)) ∧ (∃ k1 k2 k3 k4, a = nI k1 ∧ n = nI k2 ∧ z0 = nI k3 ∧ y0 = nI k4 ∧ (1 ≤ k2 ∧ k2 ≤ 16) ∧ k1 + k2 ≤ 32 ∧ k3 < 32 ∧ k4 < 32 ∧ MVP g n0 H' mo 0 pn tn wn (updI (opB B k1 k2 (B k3) k2) k4 (hvS B k1 (B k3) k2 0)))) ∨ (¬ (okC n (nI 1) (nI 16) ∧ okS a n ∧ okS z0 (nI 1) ∧ okS y0 (nI 1)) ∧ MVP g n0 H' mo 1 pn tn wn B))) := by
  refine ctr_mk l (lv0 := [(0, .ref mo), (1, .int a), (2, .int n), (3, .int z0), (4, .int y0)]) (by decide) (Nat.le_of_ble_eq_true rfl) rfl ?_
  intro p e s m below meth c ls E hr hlk hnm hl hP
  have hx := E.1
  have hb := E.2.1
  have hK := E.2.2.2.2.2
  have hF : ∀ q ∈ ([] : List Loc), n0 q.base := fun q hq => absurd hq List.not_mem_nil
  obtain ⟨⟨w9, n9, fd, hw9, hm, hB9⟩, ⟨fa, hab, hAT, -⟩, hho, -, -, hbd, hmn, -, -, hn8⟩ := id hP
  have hB := hB9.lo
  have hfr : FRM (MR mo) s.heap s.heap := FRM.rf
  have bad : ∀ (locs : List Loc) (ls : Array Slot), ¬ (okC n (nI 1) (nI 16) ∧ okS a n ∧ okS z0 (nI 1) ∧ okS y0 (nI 1)) → (∀ q ∈ locs, n0 q.base) → lv_has ls 6 [(0, .ref mo), (1, .int a), (2, .int n), (3, .int z0), (4, .int y0)] → W p l e { frames := 4, cells := 0, slots := 0, locals := 104 } s m [.ref mo, .int a, .int n, .int z0, .int y0].toArray below meth c s.heap locs 0 0 (MQ below (QcP (QV (fun H H' => ((okC n (nI 1) (nI 16) ∧ okS a n ∧ okS z0 (nI 1) ∧ okS y0 (nI 1)) ∧ (∃ k1 k2 k3 k4, a = nI k1 ∧ n = nI k2 ∧ z0 = nI k3 ∧ y0 = nI k4 ∧ (1 ≤ k2 ∧ k2 ≤ 16) ∧ k1 + k2 ≤ 32 ∧ k3 < 32 ∧ k4 < 32 ∧ MVP g n0 H' mo 0 pn tn wn (updI (opB B k1 k2 (B k3) k2) k4 (hvS B k1 (B k3) k2 0)))) ∨ (¬ (okC n (nI 1) (nI 16) ∧ okS a n ∧ okS z0 (nI 1) ∧ okS y0 (nI 1)) ∧ MVP g n0 H' mo 1 pn tn wn B)))) [.ref mo, .int a, .int n, .int z0, .int y0].toArray s 0 0 (fun q => n0 q)) (F0 m 41 ls [.int (nI 1), .ref mo]) := by
    intro  locs   ls hno hF hl
    refine lv_iconst (v := nI 1) hx hb d_Model_open_41 (by decide) ?_
    refine q_cV (rest := []) E (c_Model_fails l g n0 mo th (nI pn) (nI tn) (nI wn) w9 n9 hw9 (nI 1) (nI 1) fd hmn (Or.inl rfl)) w_1056 w_15 w_1053 w_1055 (bw_s 24 rfl) hd_Model_fails rfl ⟨by decide, by decide⟩ (OB.recv E.2.2.2.2.2 (by rfl) hm.1) hm hF hl.1 rfl (Nat.le_of_ble_eq_true rfl) d_Model_open_42 ⟨by decide, by decide⟩ (qi (fun rf H1 locs hq hF => ?_))
    obtain ⟨hrf, hq, hm⟩ := hq
    subst hrf
    have hfr := hfr.tr hq
    rw [if_neg (by decide)] at hm
    refine lv_if_eq (tgt := 49) hx hb d_Model_open_45 (by decide) (fun h9 => absurd h9 (by decide)) (fun _ => ?_)
    exact q_vret E hr hlk (⟨rfl, Or.inr ⟨hno, hP.keep hfr hw9 hm hB9⟩⟩) hF d_Model_open_48
  have good : ∀ (locs : List Loc) (ls : Array Slot), okC n (nI 1) (nI 16) ∧ okS a n ∧ okS z0 (nI 1) ∧ okS y0 (nI 1) → (∀ q ∈ locs, n0 q.base) → lv_has ls 6 [(0, .ref mo), (1, .int a), (2, .int n), (3, .int z0), (4, .int y0)] → W p l e { frames := 4, cells := 0, slots := 0, locals := 104 } s m [.ref mo, .int a, .int n, .int z0, .int y0].toArray below meth c s.heap locs 0 0 (MQ below (QcP (QV (fun H H' => ((okC n (nI 1) (nI 16) ∧ okS a n ∧ okS z0 (nI 1) ∧ okS y0 (nI 1)) ∧ (∃ k1 k2 k3 k4, a = nI k1 ∧ n = nI k2 ∧ z0 = nI k3 ∧ y0 = nI k4 ∧ (1 ≤ k2 ∧ k2 ≤ 16) ∧ k1 + k2 ≤ 32 ∧ k3 < 32 ∧ k4 < 32 ∧ MVP g n0 H' mo 0 pn tn wn (updI (opB B k1 k2 (B k3) k2) k4 (hvS B k1 (B k3) k2 0)))) ∨ (¬ (okC n (nI 1) (nI 16) ∧ okS a n ∧ okS z0 (nI 1) ∧ okS y0 (nI 1)) ∧ MVP g n0 H' mo 1 pn tn wn B)))) [.ref mo, .int a, .int n, .int z0, .int y0].toArray s 0 0 (fun q => n0 q)) (F0 m 41 ls [.int (nI 0), .ref mo]) := by
    intro  locs   ls hok hF hl
    refine lv_iconst (v := nI 1) hx hb d_Model_open_41 (by decide) ?_
    refine q_cV (rest := []) E (c_Model_fails l g n0 mo th (nI pn) (nI tn) (nI wn) w9 n9 hw9 (nI 0) (nI 1) fd hmn (Or.inr rfl)) w_1056 w_15 w_1053 w_1055 (bw_s 24 rfl) hd_Model_fails rfl ⟨by decide, by decide⟩ (OB.recv E.2.2.2.2.2 (by rfl) hm.1) hm hF hl.1 rfl (Nat.le_of_ble_eq_true rfl) d_Model_open_42 ⟨by decide, by decide⟩ (qi (fun rf H1 locs hq hF => ?_))
    obtain ⟨hrf, hq, hm⟩ := hq
    subst hrf
    have hfr := hfr.tr hq
    rw [if_pos nI_0] at hm
    have hab := AJ.off hq (by unfold MR; omega) hab
    refine lv_if_eq (tgt := 49) hx hb d_Model_open_45 (by decide) (fun _ => ?_) (fun h9 => absurd (by decide) h9)
    have hsc : ∀ j, j < 448 → fd j = fd j := fun _ _ => rfl
    have hsp : ∀ j, 448 ≤ j → j < 1666 → fd j = fd j := fun _ _ _ => rfl
    obtain ⟨k2, e_k2, h_k2, h2_k2⟩ := okC_nat (by decide) (by decide) hok.1
    rw [e_k2] at hl
    have hok2 := hok.2.1
    rw [e_k2] at hok2
    obtain ⟨k1, e_k1, h_k1⟩ := okS_nat (by omega) (by omega) hok2
    rw [e_k1] at hl
    obtain ⟨k3, e_k3, h_k3⟩ := okS_nat (by decide) (by decide) hok.2.2.1
    rw [e_k3] at hl
    obtain ⟨k4, e_k4, h_k4⟩ := okS_nat (by decide) (by decide) hok.2.2.2
    rw [e_k4] at hl
    obtain ⟨Z, hZ⟩ : ∃ Z, Z = B k3 := ⟨_, rfl⟩
    have hZr : Z < RI := by rw [hZ]; exact (hB k3 (by omega)).2
    refine lv_aload_n hx hb d_Model_open_49 rfl (lv_at hl 0 rfl) ?_
    refine lv_iconst (v := nI 1) hx hb d_Model_open_50 (by decide) ?_
    refine q_cV (rest := []) E (c_Model_use l g n0 mo 0 (nI pn) (nI tn) (nI wn) w9 n9 hw9 1 10 hw1 fd hmn) w_967 w_15 w_964 w_966 (bw_s 15 rfl) hd_Model_use rfl ⟨by decide, by decide⟩ (OB.recv E.2.2.2.2.2 (by rfl) hm.1) hm hF hl.1 rfl (Nat.le_of_ble_eq_true rfl) d_Model_open_51 ⟨by decide, by decide⟩ (qv (fun H2 locs hq hF => ?_))
    obtain ⟨hq, hm⟩ := hq
    have hfr := hfr.tr hq
    have hab := AJ.off hq (by unfold MR; omega) hab
    refine lv_aload_n hx hb d_Model_open_54 rfl (lv_at hl 0 rfl) ?_
    refine lv_sipush (v := nI 166) hx hb d_Model_open_55 (by decide) ?_
    refine lv_iload_n hx hb d_Model_open_58 rfl (lv_at hl 3 rfl) ?_
    refine q_cV (rest := []) E (c_Model_move l g n0 mo 166 k3 0 (nI pn) (nI tn) (nI wn) 1 10 hw1 fd (by omega) (by omega)) w_1076 w_15 w_1073 w_1075 (bw_s 27 rfl) hd_Model_move rfl ⟨by decide, by decide⟩ (OB.recv E.2.2.2.2.2 (by rfl) hm.1) hm hF hl.1 rfl (Nat.le_of_ble_eq_true rfl) d_Model_open_59 ⟨by decide, by decide⟩ (qv (fun H3 locs hq hF => ?_))
    obtain ⟨hq, fd_1, hm, hpv⟩ := hq
    have hab := AJ.off hq (by unfold MR; omega) hab
    have hfr := hfr.tr hq
    have ho := hpv.1
    have hn : NV fd_1 166 (B k3) := (VL_ext (fun k hk => hpv.2 k hk)).trans ((hB k3 (by omega)).1.fr (fun k hk => hsc _ (by omega)))
    have hsp : ∀ j, 448 ≤ j → j < 1666 → fd_1 j = fd j := fun j h8 h9 => (ho j (by omega)).trans (hsp j h8 h9)
    have hsc : ∀ j, j < 448 → fd_1 j = fd j := fun j hj => (ho j (by omega)).trans (hsc j hj)
    have n_166 : NV fd_1 166 (B k3) := hn
    refine lv_aload_n hx hb d_Model_open_62 rfl (lv_at hl 0 rfl) ?_
    refine lv_sipush (v := nI 168) hx hb d_Model_open_63 (by decide) ?_
    refine lv_iload_n hx hb d_Model_open_66 rfl (lv_at hl 1 rfl) ?_
    refine lv_iload_n hx hb d_Model_open_67 rfl (lv_at hl 2 rfl) ?_
    refine lv_sipush (v := nI 166) hx hb d_Model_open_68 (by decide) ?_
    refine q_cV (rest := []) E (N_Model_value l g n0 mo 168 k1 k2 166 0 (nI pn) (nI tn) (nI wn) fd_1 fa (by omega) (by omega) (by omega) (by omega) hAT B (B k3) n_166 ((hB k3 (by omega)).2) (fun k hk => ⟨(hB (k1 + k) (by omega)).1.fr (fun j hj => hsc _ (by omega)), (hB (k1 + k) (by omega)).2⟩)) w_1235 w_15 w_1232 w_1234 (bw_s 47 rfl) hd_Model_value rfl ⟨by decide, by decide⟩ (OB.recv E.2.2.2.2.2 (by rfl) hm.1) (⟨hm, hab⟩) hF hl.1 rfl (Nat.le_of_ble_eq_true rfl) d_Model_open_71 ⟨by decide, by decide⟩ (qv (fun H4 locs hq hF => ?_))
    obtain ⟨hq, hab, fd_2, hm, ho, hn⟩ := hq
    have hfr := hfr.tr hq
    have n_166 : NV fd_2 166 (B k3) := n_166.fr (fun k hk => ho _ (by omega) (by omega))
    have hsp : ∀ j, 448 ≤ j → j < 1666 → fd_2 j = fd j := fun j h8 h9 => (ho j (by omega) (by omega)).trans (hsp j h8 h9)
    have hsc : ∀ j, j < 448 → fd_2 j = fd j := fun j hj => (ho j (by omega) (by omega)).trans (hsc j hj)
    have n_168 : NV fd_2 168 (hvS B k1 (B k3) k2 0) := hn
    refine lv_iconst (v := nI 0) hx hb d_Model_open_74 (by decide) ?_
    refine lv_istore (lv' := [(5, .int (nI 0)), (0, .ref mo), (1, .int (nI k1)), (2, .int (nI k2)), (3, .int (nI k3)), (4, .int (nI k4))]) hx hb d_Model_open_75 hl (by decide) rfl (fun ls hl => ?_)
    rw [← hZ] at n_166 n_168
    have hl : lv_has ls 6 [(5, .int (nI 0)), (0, .ref mo), (1, .int (nI k1)), (2, .int (nI k2)), (4, .int (nI k4))] := lv_sub hl [0, 1, 2, 3, 5] rfl
    have loop : ∀ (k : Nat) (i : Nat) (H : Heap) (locs : List Loc) (ls : Array Slot) (fd1 : Nat → Int64), i + k = k2 → FRM (MR mo) s.heap H → MS g n0 H mo 0 (nI pn) (nI tn) (nI wn) 1 10 fd1 → AJ g H (mo + 4) 420 fa → (∀ j, 448 ≤ j → j < 1666 → fd1 j = fd j) → (∀ k, k < 32 → NV fd1 k (opB B k1 k2 Z i k) ∧ opB B k1 k2 Z i k < RI) → NV fd1 166 Z → NV fd1 168 (hvS B k1 Z k2 0) → (∀ q ∈ locs, n0 q.base) → lv_has ls 6 [(5, .int (nI i)), (0, .ref mo), (1, .int (nI k1)), (2, .int (nI k2)), (4, .int (nI k4))] → W p l e { frames := 4, cells := 0, slots := 0, locals := 104 } s m [.ref mo, .int a, .int n, .int z0, .int y0].toArray below meth c H locs 0 0 (MQ below (QcP (QV (fun H H' => ((okC n (nI 1) (nI 16) ∧ okS a n ∧ okS z0 (nI 1) ∧ okS y0 (nI 1)) ∧ (∃ k1 k2 k3 k4, a = nI k1 ∧ n = nI k2 ∧ z0 = nI k3 ∧ y0 = nI k4 ∧ (1 ≤ k2 ∧ k2 ≤ 16) ∧ k1 + k2 ≤ 32 ∧ k3 < 32 ∧ k4 < 32 ∧ MVP g n0 H' mo 0 pn tn wn (updI (opB B k1 k2 (B k3) k2) k4 (hvS B k1 (B k3) k2 0)))) ∨ (¬ (okC n (nI 1) (nI 16) ∧ okS a n ∧ okS z0 (nI 1) ∧ okS y0 (nI 1)) ∧ MVP g n0 H' mo 1 pn tn wn B)))) [.ref mo, .int a, .int n, .int z0, .int y0].toArray s 0 0 (fun q => n0 q)) (F0 m 77 ls []) := by
      intro k
      induction k with
      | zero =>
        intro  i   H   locs   ls   fd1 hi hfr hm hab hsp hB n_166 n_168 hF hl
        obtain rfl : k2 = i := by omega
        have hsc : ∀ j, j < 448 → fd1 j = fd1 j := fun _ _ => rfl
        refine lv_iload hx hb d_Model_open_77 (lv_at hl 0 rfl) ?_
        refine lv_iload_n hx hb d_Model_open_79 rfl (lv_at hl 3 rfl) ?_
        refine lv_icmp_ge (tgt := 112) hx hb d_Model_open_80 (by decide) (fun _ => ?_) (fun h9 => absurd (nI_le (Nat.le_refl _) (by omega)) h9)
        refine lv_aload_n hx hb d_Model_open_112 rfl (lv_at hl 1 rfl) ?_
        refine lv_iload hx hb d_Model_open_113 (lv_at hl 4 rfl) ?_
        refine lv_sipush (v := nI 168) hx hb d_Model_open_115 (by decide) ?_
        refine q_cV (rest := []) E (c_Model_move l g n0 mo k4 168 0 (nI pn) (nI tn) (nI wn) 1 10 hw1 fd1 (by omega) (by omega)) w_1076 w_15 w_1073 w_1075 (bw_s 27 rfl) hd_Model_move rfl ⟨by decide, by decide⟩ (OB.recv E.2.2.2.2.2 (by rfl) hm.1) hm hF hl.1 rfl (Nat.le_of_ble_eq_true rfl) d_Model_open_118 ⟨by decide, by decide⟩ (qv (fun H1 locs hq hF => ?_))
        obtain ⟨hq, fd_3, hm, hpv⟩ := hq
        have hab := AJ.off hq (by unfold MR; omega) hab
        have hfr := hfr.tr hq
        have ho := hpv.1
        have hn : NV fd_3 k4 (hvS B k1 Z k2 0) := (VL_ext (fun k hk => hpv.2 k hk)).trans n_168
        have n_166 : NV fd_3 166 Z := n_166.fr (fun k hk => ho _ (by omega))
        have n_168 : NV fd_3 168 (hvS B k1 Z k2 0) := n_168.fr (fun k hk => ho _ (by omega))
        have hsp : ∀ j, 448 ≤ j → j < 1666 → fd_3 j = fd j := fun j h8 h9 => (ho j (by omega)).trans (hsp j h8 h9)
        have hB := nb_set hB (fun j hj h9 => (ho j  h9).trans (hsc j hj)) hn (hv_r _ _ RI_pos)
        have hsc : ∀ j, j < 448 → fd_3 j = fd_3 j := fun _ _ => rfl
        exact q_vret E hr hlk (⟨rfl, Or.inl ⟨hok, k1, k2, k3, k4, e_k1, e_k2, e_k3, e_k4, by omega, by omega, by omega, by omega, by rw [← hZ]; exact hP.keep hfr hw1 hm (hB9.mk hB hsp (by intro k9 h9; first | rfl | (unfold updI; rw [if_neg (by omega)]; done) | (unfold updI opB; rw [if_neg (by omega), if_neg (by omega)]; done) | (unfold trB; rw [if_neg (by omega)]; done)))⟩⟩) hF d_Model_open_121
      | succ k ih =>
        intro  i   H   locs   ls   fd1 hi hfr hm hab hsp hB n_166 n_168 hF hl
        have hsc : ∀ j, j < 448 → fd1 j = fd1 j := fun _ _ => rfl
        refine lv_iload hx hb d_Model_open_77 (lv_at hl 0 rfl) ?_
        refine lv_iload_n hx hb d_Model_open_79 rfl (lv_at hl 3 rfl) ?_
        refine lv_icmp_ge (tgt := 112) hx hb d_Model_open_80 (by decide) (fun h9 => absurd h9 (nI_ge (by omega) (by omega))) (fun _ => ?_)
        refine lv_aload_n hx hb d_Model_open_83 rfl (lv_at hl 1 rfl) ?_
        refine lv_iload_n hx hb d_Model_open_84 rfl (lv_at hl 2 rfl) ?_
        refine lv_iload hx hb d_Model_open_85 (lv_at hl 0 rfl) ?_
        refine lv_iadd hx hb d_Model_open_87 ?_
        refine lv_topi (fun t9 e9 => ?_)
        obtain rfl : t9 = nI (k1 + i) := e9.trans (nI_add _ _)
        refine lv_iload_n hx hb d_Model_open_88 rfl (lv_at hl 2 rfl) ?_
        refine lv_iload hx hb d_Model_open_89 (lv_at hl 0 rfl) ?_
        refine lv_iadd hx hb d_Model_open_91 ?_
        refine lv_topi (fun t9 e9 => ?_)
        obtain rfl : t9 = nI (k1 + i) := e9.trans (nI_add _ _)
        refine lv_iconst (v := nI 1) hx hb d_Model_open_92 (by decide) ?_
        refine lv_iadd hx hb d_Model_open_93 ?_
        refine lv_topi (fun t9 e9 => ?_)
        obtain rfl : t9 = nI ((k1 + i) + 1) := e9.trans (nI_add _ _)
        refine lv_iload_n hx hb d_Model_open_94 rfl (lv_at hl 3 rfl) ?_
        refine lv_iconst (v := nI 1) hx hb d_Model_open_95 (by decide) ?_
        refine lv_isub hx hb d_Model_open_96 ?_
        refine lv_topi (fun t9 e9 => ?_)
        obtain rfl : t9 = nI (k2 - 1) := e9.trans (pk_sub (by omega))
        refine lv_iload hx hb d_Model_open_97 (lv_at hl 0 rfl) ?_
        refine lv_isub hx hb d_Model_open_99 ?_
        refine lv_topi (fun t9 e9 => ?_)
        obtain rfl : t9 = nI ((k2 - 1) - i) := e9.trans (pk_sub (by omega))
        refine lv_sipush (v := nI 166) hx hb d_Model_open_100 (by decide) ?_
        refine q_cV (rest := []) E (N_Model_value l g n0 mo (k1 + i) ((k1 + i) + 1) ((k2 - 1) - i) 166 0 (nI pn) (nI tn) (nI wn) fd1 fa (by omega) (by omega) (by omega) (by omega) hAT (opB B k1 k2 Z i) Z n_166 hZr (fun k hk => ⟨(hB (((k1 + i) + 1) + k) (by omega)).1.fr (fun j hj => hsc _ (by omega)), (hB (((k1 + i) + 1) + k) (by omega)).2⟩)) w_1235 w_15 w_1232 w_1234 (bw_s 47 rfl) hd_Model_value rfl ⟨by decide, by decide⟩ (OB.recv E.2.2.2.2.2 (by rfl) hm.1) (⟨hm, hab⟩) hF hl.1 rfl (Nat.le_of_ble_eq_true rfl) d_Model_open_103 ⟨by decide, by decide⟩ (qv (fun H1 locs hq hF => ?_))
        obtain ⟨hq, hab, fd_4, hm, ho, hn⟩ := hq
        have hfr := hfr.tr hq
        have n_166 : NV fd_4 166 Z := n_166.fr (fun k hk => ho _ (by omega) (by omega))
        have n_168 : NV fd_4 168 (hvS B k1 Z k2 0) := n_168.fr (fun k hk => ho _ (by omega) (by omega))
        have hsp : ∀ j, 448 ≤ j → j < 1666 → fd_4 j = fd j := fun j h8 h9 => (ho j (by omega) (by omega)).trans (hsp j h8 h9)
        have hB := nb_set hB (fun j hj h9 => (ho j (by omega) h9).trans (hsc j hj)) hn (hv_r _ _ RI_pos)
        have hsc : ∀ j, j < 448 → fd_4 j = fd_4 j := fun _ _ => rfl
        have hB : ∀ k, k < 32 → NV fd_4 k (opB B k1 k2 Z (i + 1) k) ∧ opB B k1 k2 Z (i + 1) k < RI := fun k hk => by rw [← op_nx (by omega) k]; exact hB k hk
        refine lv_iinc (k := 0) (v := nI (i + 1)) (lv' := [(5, .int (nI (i + 1))), (0, .ref mo), (1, .int (nI k1)), (2, .int (nI k2)), (4, .int (nI k4))]) hx hb d_Model_open_106 hl rfl (i_inc i) (by decide) rfl (fun ls hl => ?_)
        refine lv_goto (tgt := 77) hx hb d_Model_open_109 (by decide) ?_
        have hl : lv_has ls 6 [(5, .int (nI (i + 1))), (0, .ref mo), (1, .int (nI k1)), (2, .int (nI k2)), (4, .int (nI k4))] := lv_sub hl [0, 1, 2, 3, 4] rfl
        exact ih (i + 1) _ _ ls _ (by omega) hfr hm hab hsp hB n_166 n_168 hF hl
    exact loop k2 0 _ _ ls _ (by omega) hfr hm hab hsp (fun k hk => by unfold opB; rw [if_neg (by omega)]; exact ⟨(hB k hk).1.fr (fun j hj => hsc _ (by omega)), (hB k hk).2⟩) n_166 n_168 hF hl
  refine lv_aload_n hx hb d_Model_open_0 rfl (lv_at hl 0 rfl) ?_
  refine lv_iload_n hx hb d_Model_open_1 rfl (lv_at hl 2 rfl) ?_
  refine lv_i2l (v := n.toInt64) hx hb d_Model_open_2 rfl ?_
  refine lv_lconst (v := 1) hx hb d_Model_open_3 (by decide) ?_
  refine lv_ldc2 (v := 16) hx hb E.2.2.2.1 (E.2.2.2.2.1 _ w_1223) d_Model_open_4 ?_
  refine q_cS (rest := [.ref mo]) E (c_Model_in l g n0 n.toInt64 1 16 ) w_1101 w_15 w_1099 w_1100 hd_Model_in rfl ⟨by decide, by decide⟩ trivial hF hl.1 rfl (Nat.le_of_ble_eq_true rfl) d_Model_open_7 ⟨by decide, by decide⟩ (qi (fun r_0 H1 locs hq hF => ?_))
  obtain ⟨h_0, hq⟩ := hq
  subst hq
  rcases h_0 with ⟨rfl, f_0⟩ | ⟨rfl, f_0⟩
  · skip
    refine lv_if_eq (tgt := 36) hx hb d_Model_open_10 (by decide) (fun _ => ?_) (fun h9 => absurd (by decide) h9)
    refine lv_iconst (v := nI 1) hx hb d_Model_open_36 (by decide) ?_
    refine lv_goto (tgt := 41) hx hb d_Model_open_37 (by decide) ?_
    have hl : lv_has ls 6 [(0, .ref mo), (1, .int a), (2, .int n), (3, .int z0), (4, .int y0)] := lv_sub hl [0, 1, 2, 3, 4] rfl
    exact bad _ ls (fun h => (fun q => f_0 ((in_okC (a := 1) (b := 16) (by decide) (by decide) (by decide) (by decide)).mpr q)) h.1) hF hl
  · skip
    refine lv_if_eq (tgt := 36) hx hb d_Model_open_10 (by decide) (fun h9 => absurd h9 (by decide)) (fun _ => ?_)
    refine lv_iload_n hx hb d_Model_open_13 rfl (lv_at hl 1 rfl) ?_
    refine lv_iload_n hx hb d_Model_open_14 rfl (lv_at hl 2 rfl) ?_
    refine q_cS (rest := [.ref mo]) E (c_Model_noScalars l g n0 a n (okC_n1 ((in_okC (a := 1) (b := 16) (by decide) (by decide) (by decide) (by decide)).mp f_0))) w_1206 w_15 w_1204 w_1205 hd_Model_noScalars rfl ⟨by decide, by decide⟩ trivial hF hl.1 rfl (Nat.le_of_ble_eq_true rfl) d_Model_open_15 ⟨by decide, by decide⟩ (qi (fun r_1 H2 locs hq hF => ?_))
    obtain ⟨h_1, hq⟩ := hq
    subst hq
    rcases h_1 with ⟨rfl, f_1⟩ | ⟨rfl, f_1⟩
    · skip
      refine lv_if_ne (tgt := 36) hx hb d_Model_open_18 (by decide) (fun _ => ?_) (fun h9 => absurd h9 (by decide))
      refine lv_iconst (v := nI 1) hx hb d_Model_open_36 (by decide) ?_
      refine lv_goto (tgt := 41) hx hb d_Model_open_37 (by decide) ?_
      have hl : lv_has ls 6 [(0, .ref mo), (1, .int a), (2, .int n), (3, .int z0), (4, .int y0)] := lv_sub hl [0, 1, 2, 3, 4] rfl
      exact bad _ ls (fun h => (f_1) h.2.1) hF hl
    · skip
      refine lv_if_ne (tgt := 36) hx hb d_Model_open_18 (by decide) (fun h9 => absurd (by decide) h9) (fun _ => ?_)
      refine lv_iload_n hx hb d_Model_open_21 rfl (lv_at hl 3 rfl) ?_
      refine q_cS (rest := [.ref mo]) E (c_Model_noScalar l g n0 z0 ) w_1064 w_15 w_1062 w_1063 hd_Model_noScalar rfl ⟨by decide, by decide⟩ trivial hF hl.1 rfl (Nat.le_of_ble_eq_true rfl) d_Model_open_22 ⟨by decide, by decide⟩ (qi (fun r_2 H3 locs hq hF => ?_))
      obtain ⟨h_2, hq⟩ := hq
      subst hq
      rcases h_2 with ⟨rfl, f_2⟩ | ⟨rfl, f_2⟩
      · skip
        refine lv_if_ne (tgt := 36) hx hb d_Model_open_25 (by decide) (fun _ => ?_) (fun h9 => absurd h9 (by decide))
        refine lv_iconst (v := nI 1) hx hb d_Model_open_36 (by decide) ?_
        refine lv_goto (tgt := 41) hx hb d_Model_open_37 (by decide) ?_
        have hl : lv_has ls 6 [(0, .ref mo), (1, .int a), (2, .int n), (3, .int z0), (4, .int y0)] := lv_sub hl [0, 1, 2, 3, 4] rfl
        exact bad _ ls (fun h => (f_2) h.2.2.1) hF hl
      · skip
        refine lv_if_ne (tgt := 36) hx hb d_Model_open_25 (by decide) (fun h9 => absurd (by decide) h9) (fun _ => ?_)
        refine lv_iload hx hb d_Model_open_28 (lv_at hl 4 rfl) ?_
        refine q_cS (rest := [.ref mo]) E (c_Model_noScalar l g n0 y0 ) w_1064 w_15 w_1062 w_1063 hd_Model_noScalar rfl ⟨by decide, by decide⟩ trivial hF hl.1 rfl (Nat.le_of_ble_eq_true rfl) d_Model_open_30 ⟨by decide, by decide⟩ (qi (fun r_3 H4 locs hq hF => ?_))
        obtain ⟨h_3, hq⟩ := hq
        subst hq
        rcases h_3 with ⟨rfl, f_3⟩ | ⟨rfl, f_3⟩
        · skip
          refine lv_if_eq (tgt := 40) hx hb d_Model_open_33 (by decide) (fun h9 => absurd h9 (by decide)) (fun _ => ?_)
          refine lv_iconst (v := nI 1) hx hb d_Model_open_36 (by decide) ?_
          refine lv_goto (tgt := 41) hx hb d_Model_open_37 (by decide) ?_
          have hl : lv_has ls 6 [(0, .ref mo), (1, .int a), (2, .int n), (3, .int z0), (4, .int y0)] := lv_sub hl [0, 1, 2, 3, 4] rfl
          exact bad _ ls (fun h => (f_3) h.2.2.2) hF hl
        · skip
          refine lv_if_eq (tgt := 40) hx hb d_Model_open_33 (by decide) (fun _ => ?_) (fun h9 => absurd (by decide) h9)
          refine lv_iconst (v := nI 0) hx hb d_Model_open_40 (by decide) ?_
          have hl : lv_has ls 6 [(0, .ref mo), (1, .int a), (2, .int n), (3, .int z0), (4, .int y0)] := lv_sub hl [0, 1, 2, 3, 4] rfl
          exact good _ ls ⟨(in_okC (a := 1) (b := 16) (by decide) (by decide) (by decide) (by decide)).mp f_0, f_1, f_2, f_3⟩ hF hl
set_option maxHeartbeats 4000000 in
set_option maxRecDepth 100000 in
theorem Y_Model_lagrange (l : Launch) (g : WG) (n0 : Nat → Prop) (mo : Nat) (th : Int32) (pn tn wn : Nat) (B : Nat → Int) (a : Int32) (kv : Int32) (iv : Int32) (z0 : Int32) : Ctr l y_Model_lagrange (.code y_Model_lagrange prog_11_method_60_code 5 none) 5 125 0 0 n0 g [.ref mo, .int a, .int kv, .int iv, .int z0] (fun H => MVP g n0 H mo th pn tn wn B) (QV (fun H H' => ((okS a (nI 1) ∧ okC kv (nI 0) (nI 4) ∧ ((0 : Int64).toInt ≤ iv.toInt64.toInt ∧ iv.toInt64.toInt ≤ ((nI 1 <<< ((kv &&& nI 7) &&& 31)) - nI 1).toInt64.toInt) ∧ okS z0 (nI 1)) ∧ (∃ k1 k2 k3 k4, a = nI k1 ∧ kv = nI k2 ∧ iv = nI k3 ∧ z0 = nI k4 ∧ k1 < 32 ∧ k2 ≤ 4 ∧ k3 < 2 ^ k2 ∧ k4 < 32 ∧ (0 ≤ B k4 ∧ B k4 < RI) ∧ ((((7 ^ eU k2 % RI) ^ k3 % RI = B k4) ∧ MVP g n0 H' mo 0 pn tn wn (updI B k1 1)) ∨ (¬ ((7 ^ eU k2 % RI) ^ k3 % RI = B k4) ∧ MVP g n0 H' mo 0 pn tn wn (updI B k1 (((((B k4 ^ 2 ^ k2 % RI - 1 + RI) % RI * ((7 ^ eU k2 % RI) ^ k3 % RI)) % RI) * ((((B k4 - (7 ^ eU k2 % RI) ^ k3 % RI + RI) % RI * 2 ^ k2) % RI) ^ (RN - 2) % RI)) % RI)))))) ∨ (¬ (okS a (nI 1) ∧ okC kv (nI 0) (nI 4) ∧ ((0 : Int64).toInt ≤ iv.toInt64.toInt ∧ iv.toInt64.toInt ≤ ((nI 1 <<< ((kv &&& nI 7) &&& 31)) - nI 1).toInt64.toInt) ∧ okS z0 (nI 1)) ∧ MVP g n0 H' mo 1 pn tn wn B))) := by
  refine ctr_mk l (lv0 := [(0, .ref mo), (1, .int a), (2, .int kv), (3, .int iv), (4, .int z0)]) (by decide) (Nat.le_of_ble_eq_true rfl) rfl ?_
  intro p e s m below meth c ls E hr hlk hnm hl hP
  have hx := E.1
  have hb := E.2.1
  have hK := E.2.2.2.2.2
  have hF : ∀ q ∈ ([] : List Loc), n0 q.base := fun q hq => absurd hq List.not_mem_nil
  obtain ⟨⟨w9, n9, fd, hw9, hm, hB9⟩, ⟨fa, hab, hAT, -⟩, hho, -, -, hbd, hmn, -, -, hn8⟩ := id hP
  have hB := hB9.lo
  have hfr : FRM (MR mo) s.heap s.heap := FRM.rf
  have bad : ∀ (locs : List Loc) (ls : Array Slot), ¬ (okS a (nI 1) ∧ okC kv (nI 0) (nI 4) ∧ ((0 : Int64).toInt ≤ iv.toInt64.toInt ∧ iv.toInt64.toInt ≤ ((nI 1 <<< ((kv &&& nI 7) &&& 31)) - nI 1).toInt64.toInt) ∧ okS z0 (nI 1)) → (∀ q ∈ locs, n0 q.base) → lv_has ls 5 [(0, .ref mo), (1, .int a), (2, .int kv), (3, .int iv), (4, .int z0)] → W p l e { frames := 5, cells := 0, slots := 0, locals := 125 } s m [.ref mo, .int a, .int kv, .int iv, .int z0].toArray below meth c s.heap locs 0 0 (MQ below (QcP (QV (fun H H' => ((okS a (nI 1) ∧ okC kv (nI 0) (nI 4) ∧ ((0 : Int64).toInt ≤ iv.toInt64.toInt ∧ iv.toInt64.toInt ≤ ((nI 1 <<< ((kv &&& nI 7) &&& 31)) - nI 1).toInt64.toInt) ∧ okS z0 (nI 1)) ∧ (∃ k1 k2 k3 k4, a = nI k1 ∧ kv = nI k2 ∧ iv = nI k3 ∧ z0 = nI k4 ∧ k1 < 32 ∧ k2 ≤ 4 ∧ k3 < 2 ^ k2 ∧ k4 < 32 ∧ (0 ≤ B k4 ∧ B k4 < RI) ∧ ((((7 ^ eU k2 % RI) ^ k3 % RI = B k4) ∧ MVP g n0 H' mo 0 pn tn wn (updI B k1 1)) ∨ (¬ ((7 ^ eU k2 % RI) ^ k3 % RI = B k4) ∧ MVP g n0 H' mo 0 pn tn wn (updI B k1 (((((B k4 ^ 2 ^ k2 % RI - 1 + RI) % RI * ((7 ^ eU k2 % RI) ^ k3 % RI)) % RI) * ((((B k4 - (7 ^ eU k2 % RI) ^ k3 % RI + RI) % RI * 2 ^ k2) % RI) ^ (RN - 2) % RI)) % RI)))))) ∨ (¬ (okS a (nI 1) ∧ okC kv (nI 0) (nI 4) ∧ ((0 : Int64).toInt ≤ iv.toInt64.toInt ∧ iv.toInt64.toInt ≤ ((nI 1 <<< ((kv &&& nI 7) &&& 31)) - nI 1).toInt64.toInt) ∧ okS z0 (nI 1)) ∧ MVP g n0 H' mo 1 pn tn wn B)))) [.ref mo, .int a, .int kv, .int iv, .int z0].toArray s 0 0 (fun q => n0 q)) (F0 m 51 ls [.int (nI 1), .ref mo]) := by
    intro  locs   ls hno hF hl
    refine lv_iconst (v := nI 1) hx hb d_Model_lagrange_51 (by decide) ?_
    refine q_cV (rest := []) E (c_Model_fails l g n0 mo th (nI pn) (nI tn) (nI wn) w9 n9 hw9 (nI 1) (nI 1) fd hmn (Or.inl rfl)) w_1056 w_15 w_1053 w_1055 (bw_s 24 rfl) hd_Model_fails rfl ⟨by decide, by decide⟩ (OB.recv E.2.2.2.2.2 (by rfl) hm.1) hm hF hl.1 rfl (Nat.le_of_ble_eq_true rfl) d_Model_lagrange_52 ⟨by decide, by decide⟩ (qi (fun rf H1 locs hq hF => ?_))
    obtain ⟨hrf, hq, hm⟩ := hq
    subst hrf
    have hfr := hfr.tr hq
    rw [if_neg (by decide)] at hm
    refine lv_if_eq (tgt := 59) hx hb d_Model_lagrange_55 (by decide) (fun h9 => absurd h9 (by decide)) (fun _ => ?_)
    exact q_vret E hr hlk (⟨rfl, Or.inr ⟨hno, hP.keep hfr hw9 hm hB9⟩⟩) hF d_Model_lagrange_58
  have good : ∀ (locs : List Loc) (ls : Array Slot), okS a (nI 1) ∧ okC kv (nI 0) (nI 4) ∧ ((0 : Int64).toInt ≤ iv.toInt64.toInt ∧ iv.toInt64.toInt ≤ ((nI 1 <<< ((kv &&& nI 7) &&& 31)) - nI 1).toInt64.toInt) ∧ okS z0 (nI 1) → (∀ q ∈ locs, n0 q.base) → lv_has ls 5 [(0, .ref mo), (1, .int a), (2, .int kv), (3, .int iv), (4, .int z0)] → W p l e { frames := 5, cells := 0, slots := 0, locals := 125 } s m [.ref mo, .int a, .int kv, .int iv, .int z0].toArray below meth c s.heap locs 0 0 (MQ below (QcP (QV (fun H H' => ((okS a (nI 1) ∧ okC kv (nI 0) (nI 4) ∧ ((0 : Int64).toInt ≤ iv.toInt64.toInt ∧ iv.toInt64.toInt ≤ ((nI 1 <<< ((kv &&& nI 7) &&& 31)) - nI 1).toInt64.toInt) ∧ okS z0 (nI 1)) ∧ (∃ k1 k2 k3 k4, a = nI k1 ∧ kv = nI k2 ∧ iv = nI k3 ∧ z0 = nI k4 ∧ k1 < 32 ∧ k2 ≤ 4 ∧ k3 < 2 ^ k2 ∧ k4 < 32 ∧ (0 ≤ B k4 ∧ B k4 < RI) ∧ ((((7 ^ eU k2 % RI) ^ k3 % RI = B k4) ∧ MVP g n0 H' mo 0 pn tn wn (updI B k1 1)) ∨ (¬ ((7 ^ eU k2 % RI) ^ k3 % RI = B k4) ∧ MVP g n0 H' mo 0 pn tn wn (updI B k1 (((((B k4 ^ 2 ^ k2 % RI - 1 + RI) % RI * ((7 ^ eU k2 % RI) ^ k3 % RI)) % RI) * ((((B k4 - (7 ^ eU k2 % RI) ^ k3 % RI + RI) % RI * 2 ^ k2) % RI) ^ (RN - 2) % RI)) % RI)))))) ∨ (¬ (okS a (nI 1) ∧ okC kv (nI 0) (nI 4) ∧ ((0 : Int64).toInt ≤ iv.toInt64.toInt ∧ iv.toInt64.toInt ≤ ((nI 1 <<< ((kv &&& nI 7) &&& 31)) - nI 1).toInt64.toInt) ∧ okS z0 (nI 1)) ∧ MVP g n0 H' mo 1 pn tn wn B)))) [.ref mo, .int a, .int kv, .int iv, .int z0].toArray s 0 0 (fun q => n0 q)) (F0 m 51 ls [.int (nI 0), .ref mo]) := by
    intro  locs   ls hok hF hl
    refine lv_iconst (v := nI 1) hx hb d_Model_lagrange_51 (by decide) ?_
    refine q_cV (rest := []) E (c_Model_fails l g n0 mo th (nI pn) (nI tn) (nI wn) w9 n9 hw9 (nI 0) (nI 1) fd hmn (Or.inr rfl)) w_1056 w_15 w_1053 w_1055 (bw_s 24 rfl) hd_Model_fails rfl ⟨by decide, by decide⟩ (OB.recv E.2.2.2.2.2 (by rfl) hm.1) hm hF hl.1 rfl (Nat.le_of_ble_eq_true rfl) d_Model_lagrange_52 ⟨by decide, by decide⟩ (qi (fun rf H1 locs hq hF => ?_))
    obtain ⟨hrf, hq, hm⟩ := hq
    subst hrf
    have hfr := hfr.tr hq
    rw [if_pos nI_0] at hm
    have hab := AJ.off hq (by unfold MR; omega) hab
    refine lv_if_eq (tgt := 59) hx hb d_Model_lagrange_55 (by decide) (fun _ => ?_) (fun h9 => absurd (by decide) h9)
    have hsc : ∀ j, j < 448 → fd j = fd j := fun _ _ => rfl
    have hsp : ∀ j, 448 ≤ j → j < 1666 → fd j = fd j := fun _ _ _ => rfl
    obtain ⟨k1, e_k1, h_k1⟩ := okS_nat (by decide) (by decide) hok.1
    rw [e_k1] at hl
    obtain ⟨k2, e_k2, h_k2, h2_k2⟩ := okC_nat (by decide) (by decide) hok.2.1
    rw [e_k2] at hl
    obtain ⟨k4, e_k4, h_k4⟩ := okS_nat (by decide) (by decide) hok.2.2.2
    rw [e_k4] at hl
    have hB4 : 0 ≤ B k4 ∧ B k4 < RI := ⟨(hB k4 (by omega)).1.nn hm.2.2.2.2.2.1 (by omega), (hB k4 (by omega)).2⟩
    have hiv := hok.2.2.1
    rw [e_k2, tk2 h2_k2] at hiv
    obtain ⟨hN1, hN16⟩ := tk3 h2_k2
    obtain ⟨k3, e_k3, h_k3⟩ := out_k (Nat.le_trans hN16 (by decide)) hiv
    rw [e_k3] at hl
    have e3 : (nI k3).toInt64.toInt = ((k3 : Nat) : Int) := by rw [i2l_toInt, nI_toInt (by omega)]
    have r3 : ((k3 : Nat) : Int) < RI := by have := RI_16; omega
    refine lv_aload_n hx hb d_Model_lagrange_59 rfl (lv_at hl 0 rfl) ?_
    refine lv_sipush (v := nI 166) hx hb d_Model_lagrange_60 (by decide) ?_
    refine lv_iload_n hx hb d_Model_lagrange_63 rfl (lv_at hl 2 rfl) ?_
    refine q_cV (rest := []) E (N_Model_unit l g n0 mo 166 k2 0 (nI pn) (nI tn) (nI wn) w9 n9 hw9 fd fa hmn (by omega) (by omega) hAT) w_1139 w_15 w_1136 w_1138 (bw_s 36 rfl) hd_Model_unit rfl ⟨by decide, by decide⟩ (OB.recv E.2.2.2.2.2 (by rfl) hm.1) (⟨hm, hab⟩) hF hl.1 rfl (Nat.le_of_ble_eq_true rfl) d_Model_lagrange_64 ⟨by decide, by decide⟩ (qv (fun H2 locs hq hF => ?_))
    obtain ⟨hq, hab, fd_1, hm, ho, hn⟩ := hq
    have hfr := hfr.tr hq
    have hsp : ∀ j, 448 ≤ j → j < 1666 → fd_1 j = fd j := fun j h8 h9 => (ho j (by omega) (by omega) (by omega)).trans (hsp j h8 h9)
    have hsc : ∀ j, j < 448 → fd_1 j = fd j := fun j hj => (ho j (by omega) (by omega) (by omega)).trans (hsc j hj)
    have n_166 : NV fd_1 166 (7 ^ eU k2 % RI) := hn
    refine lv_aload_n hx hb d_Model_lagrange_67 rfl (lv_at hl 0 rfl) ?_
    refine lv_sipush (v := nI 145) hx hb d_Model_lagrange_68 (by decide) ?_
    refine lv_iload_n hx hb d_Model_lagrange_71 rfl (lv_at hl 3 rfl) ?_
    refine lv_i2l (v := (nI k3).toInt64) hx hb d_Model_lagrange_72 rfl ?_
    refine q_cV (rest := []) E (N_Model_small l g n0 mo 145 ((nI k3).toInt64) 0 (nI pn) (nI tn) (nI wn) 1 10 hw1 fd_1 (by omega) (by rw [e3]; exact Int.natCast_nonneg _)) w_1084 w_15 w_1081 w_1083 (bw_s 28 rfl) hd_Model_small rfl ⟨by decide, by decide⟩ (OB.recv E.2.2.2.2.2 (by rfl) hm.1) hm hF hl.1 rfl (Nat.le_of_ble_eq_true rfl) d_Model_lagrange_73 ⟨by decide, by decide⟩ (qv (fun H3 locs hq hF => ?_))
    obtain ⟨hq, fd_2, hm, ho, hn⟩ := hq
    have hab := AJ.off hq (by unfold MR; omega) hab
    have hfr := hfr.tr hq
    rw [show ((nI k3).toInt64).toInt = ((k3 : Nat) : Int) from e3] at hn
    have n_166 : NV fd_2 166 (7 ^ eU k2 % RI) := n_166.fr (fun k hk => ho _ (by omega))
    have hsp : ∀ j, 448 ≤ j → j < 1666 → fd_2 j = fd j := fun j h8 h9 => (ho j (by omega)).trans (hsp j h8 h9)
    have hsc : ∀ j, j < 448 → fd_2 j = fd j := fun j hj => (ho j (by omega)).trans (hsc j hj)
    have n_145 : NV fd_2 145 ((k3 : Nat) : Int) := hn
    refine lv_aload_n hx hb d_Model_lagrange_76 rfl (lv_at hl 0 rfl) ?_
    refine lv_sipush (v := nI 168) hx hb d_Model_lagrange_77 (by decide) ?_
    refine lv_sipush (v := nI 166) hx hb d_Model_lagrange_80 (by decide) ?_
    refine lv_sipush (v := nI 145) hx hb d_Model_lagrange_83 (by decide) ?_
    refine q_cV (rest := []) E (N_Model_raise l g n0 mo 168 166 145 0 (nI pn) (nI tn) (nI wn) fd_2 fa (by omega) (by omega) (by omega) hAT (7 ^ eU k2 % RI) k3 n_166 ((rm_r _).2) n_145 (by omega)) w_1126 w_15 w_1123 w_1125 (bw_s 35 rfl) hd_Model_raise rfl ⟨by decide, by decide⟩ (OB.recv E.2.2.2.2.2 (by rfl) hm.1) (⟨hm, hab⟩) hF hl.1 rfl (Nat.le_of_ble_eq_true rfl) d_Model_lagrange_86 ⟨by decide, by decide⟩ (qv (fun H4 locs hq hF => ?_))
    obtain ⟨hq, hab, fd_3, hm, ho, hn⟩ := hq
    have hfr := hfr.tr hq
    have n_166 : NV fd_3 166 (7 ^ eU k2 % RI) := n_166.fr (fun k hk => ho _ (by omega) (by omega))
    have n_145 : NV fd_3 145 ((k3 : Nat) : Int) := n_145.fr (fun k hk => ho _ (by omega) (by omega))
    have hsp : ∀ j, 448 ≤ j → j < 1666 → fd_3 j = fd j := fun j h8 h9 => (ho j (by omega) (by omega)).trans (hsp j h8 h9)
    have hsc : ∀ j, j < 448 → fd_3 j = fd j := fun j hj => (ho j (by omega) (by omega)).trans (hsc j hj)
    have n_168 : NV fd_3 168 ((7 ^ eU k2 % RI) ^ k3 % RI) := hn
    refine lv_aload_n hx hb d_Model_lagrange_89 rfl (lv_at hl 0 rfl) ?_
    refine lv_sipush (v := nI 168) hx hb d_Model_lagrange_90 (by decide) ?_
    refine lv_iload hx hb d_Model_lagrange_93 (lv_at hl 4 rfl) ?_
    refine q_cV (rest := []) E (N_Model_isSame l g n0 mo 168 k4 0 (nI pn) (nI tn) (nI wn) 1 10 hw1 fd_3 (by omega) (by omega) ((7 ^ eU k2 % RI) ^ k3 % RI) (B k4) n_168 ((hB k4 (by omega)).1.fr (fun k hk => hsc _ (by omega)))) w_1163 w_15 w_1160 w_1162 (bw_s 39 rfl) hd_Model_isSame rfl ⟨by decide, by decide⟩ (OB.recv E.2.2.2.2.2 (by rfl) hm.1) hm hF hl.1 rfl (Nat.le_of_ble_eq_true rfl) d_Model_lagrange_95 ⟨by decide, by decide⟩ (qi (fun rz H5 locs hq hF => ?_))
    obtain ⟨hrz, hq⟩ := hq
    have hq := hq.symm
    subst hq
    refine lv_if_eq (tgt := 107) hx hb d_Model_lagrange_98 (by decide) (fun hc => ?_) (fun hc => ?_)
    rotate_left
    · skip
      have hs0 : (7 ^ eU k2 % RI) ^ k3 % RI = B k4 := hrz.elim (fun h => h.2) (fun h => absurd h.1 hc)
      refine lv_aload_n hx hb d_Model_lagrange_101 rfl (lv_at hl 0 rfl) ?_
      refine lv_iload_n hx hb d_Model_lagrange_102 rfl (lv_at hl 1 rfl) ?_
      refine q_cV (rest := []) E (c_Model_one l g n0 mo k1 0 (nI pn) (nI tn) (nI wn) 1 10 hw1 fd_3 (by omega)) w_971 w_15 w_968 w_970 (bw_s 16 rfl) hd_Model_one rfl ⟨by decide, by decide⟩ (OB.recv E.2.2.2.2.2 (by rfl) hm.1) hm hF hl.1 rfl (Nat.le_of_ble_eq_true rfl) d_Model_lagrange_103 ⟨by decide, by decide⟩ (qv (fun H6 locs hq hF => ?_))
      obtain ⟨hq, fd_4, hm, hpv⟩ := hq
      have hab := AJ.off hq (by unfold MR; omega) hab
      have hfr := hfr.tr hq
      have ho := hpv.1
      have hn : NV fd_4 k1 1 := (VL_ext (fun k hk => hpv.2 k hk)).trans one_14
      have n_166 : NV fd_4 166 (7 ^ eU k2 % RI) := n_166.fr (fun k hk => ho _ (by omega))
      have n_145 : NV fd_4 145 ((k3 : Nat) : Int) := n_145.fr (fun k hk => ho _ (by omega))
      have n_168 : NV fd_4 168 ((7 ^ eU k2 % RI) ^ k3 % RI) := n_168.fr (fun k hk => ho _ (by omega))
      have hsp : ∀ j, 448 ≤ j → j < 1666 → fd_4 j = fd j := fun j h8 h9 => (ho j (by omega)).trans (hsp j h8 h9)
      have hB := nb_set hB (fun j hj h9 => (ho j  h9).trans (hsc j hj)) hn (by decide)
      have hsc : ∀ j, j < 448 → fd_4 j = fd_4 j := fun _ _ => rfl
      exact q_vret E hr hlk (⟨rfl, Or.inl ⟨hok, k1, k2, k3, k4, e_k1, e_k2, e_k3, e_k4, by omega, by omega, by omega, by omega, hB4, Or.inl ⟨hs0, hP.keep hfr hw1 hm (hB9.mk hB hsp (by intro k9 h9; first | rfl | (unfold updI; rw [if_neg (by omega)]; done) | (unfold updI opB; rw [if_neg (by omega), if_neg (by omega)]; done) | (unfold trB; rw [if_neg (by omega)]; done)))⟩⟩⟩) hF d_Model_lagrange_106
    have hs0 : ¬ ((7 ^ eU k2 % RI) ^ k3 % RI = B k4) := hrz.elim (fun h => absurd (hc.symm.trans h.1) (by decide)) (fun h => h.2)
    refine lv_aload_n hx hb d_Model_lagrange_107 rfl (lv_at hl 0 rfl) ?_
    refine lv_sipush (v := nI 145) hx hb d_Model_lagrange_108 (by decide) ?_
    refine lv_lconst (v := 1) hx hb d_Model_lagrange_111 (by decide) ?_
    refine lv_iload_n hx hb d_Model_lagrange_112 rfl (lv_at hl 2 rfl) ?_
    refine lv_lshl (v := (1 : Int64) <<< ((nI k2).toInt64 &&& 63)) hx hb d_Model_lagrange_113 rfl ?_
    refine q_cV (rest := []) E (N_Model_small l g n0 mo 145 ((1 : Int64) <<< ((nI k2).toInt64 &&& 63)) 0 (nI pn) (nI tn) (nI wn) 1 10 hw1 fd_3 (by omega) (by rw [p2_l k2 h2_k2]; exact Int.le_of_lt (p2_pos k2))) w_1084 w_15 w_1081 w_1083 (bw_s 28 rfl) hd_Model_small rfl ⟨by decide, by decide⟩ (OB.recv E.2.2.2.2.2 (by rfl) hm.1) hm hF hl.1 rfl (Nat.le_of_ble_eq_true rfl) d_Model_lagrange_114 ⟨by decide, by decide⟩ (qv (fun H6 locs hq hF => ?_))
    obtain ⟨hq, fd_5, hm, ho, hn⟩ := hq
    have hab := AJ.off hq (by unfold MR; omega) hab
    have hfr := hfr.tr hq
    rw [show ((1 : Int64) <<< ((nI k2).toInt64 &&& 63)).toInt = ((2 ^ k2 : Nat) : Int) from ((p2_l k2 h2_k2).trans (p2_n k2 h2_k2).symm)] at hn
    have n_166 : NV fd_5 166 (7 ^ eU k2 % RI) := n_166.fr (fun k hk => ho _ (by omega))
    have n_168 : NV fd_5 168 ((7 ^ eU k2 % RI) ^ k3 % RI) := n_168.fr (fun k hk => ho _ (by omega))
    have hsp : ∀ j, 448 ≤ j → j < 1666 → fd_5 j = fd j := fun j h8 h9 => (ho j (by omega)).trans (hsp j h8 h9)
    have hsc : ∀ j, j < 448 → fd_5 j = fd j := fun j hj => (ho j (by omega)).trans (hsc j hj)
    have n_145 : NV fd_5 145 ((2 ^ k2 : Nat) : Int) := hn
    refine lv_aload_n hx hb d_Model_lagrange_117 rfl (lv_at hl 0 rfl) ?_
    refine lv_sipush (v := nI 169) hx hb d_Model_lagrange_118 (by decide) ?_
    refine lv_iload hx hb d_Model_lagrange_121 (lv_at hl 4 rfl) ?_
    refine lv_sipush (v := nI 145) hx hb d_Model_lagrange_123 (by decide) ?_
    refine q_cV (rest := []) E (N_Model_raise l g n0 mo 169 k4 145 0 (nI pn) (nI tn) (nI wn) fd_5 fa (by omega) (by omega) (by omega) hAT (B k4) (2 ^ k2) ((hB k4 (by omega)).1.fr (fun k hk => hsc _ (by omega))) ((hB k4 (by omega)).2) n_145 (by omega)) w_1126 w_15 w_1123 w_1125 (bw_s 35 rfl) hd_Model_raise rfl ⟨by decide, by decide⟩ (OB.recv E.2.2.2.2.2 (by rfl) hm.1) (⟨hm, hab⟩) hF hl.1 rfl (Nat.le_of_ble_eq_true rfl) d_Model_lagrange_126 ⟨by decide, by decide⟩ (qv (fun H7 locs hq hF => ?_))
    obtain ⟨hq, hab, fd_6, hm, ho, hn⟩ := hq
    have hfr := hfr.tr hq
    have n_166 : NV fd_6 166 (7 ^ eU k2 % RI) := n_166.fr (fun k hk => ho _ (by omega) (by omega))
    have n_168 : NV fd_6 168 ((7 ^ eU k2 % RI) ^ k3 % RI) := n_168.fr (fun k hk => ho _ (by omega) (by omega))
    have n_145 : NV fd_6 145 ((2 ^ k2 : Nat) : Int) := n_145.fr (fun k hk => ho _ (by omega) (by omega))
    have hsp : ∀ j, 448 ≤ j → j < 1666 → fd_6 j = fd j := fun j h8 h9 => (ho j (by omega) (by omega)).trans (hsp j h8 h9)
    have hsc : ∀ j, j < 448 → fd_6 j = fd j := fun j hj => (ho j (by omega) (by omega)).trans (hsc j hj)
    have n_169 : NV fd_6 169 ((B k4) ^ (2 ^ k2) % RI) := hn
    refine lv_aload_n hx hb d_Model_lagrange_129 rfl (lv_at hl 0 rfl) ?_
    refine lv_sipush (v := nI 166) hx hb d_Model_lagrange_130 (by decide) ?_
    refine q_cV (rest := []) E (c_Model_one l g n0 mo 166 0 (nI pn) (nI tn) (nI wn) 1 10 hw1 fd_6 (by omega)) w_971 w_15 w_968 w_970 (bw_s 16 rfl) hd_Model_one rfl ⟨by decide, by decide⟩ (OB.recv E.2.2.2.2.2 (by rfl) hm.1) hm hF hl.1 rfl (Nat.le_of_ble_eq_true rfl) d_Model_lagrange_133 ⟨by decide, by decide⟩ (qv (fun H8 locs hq hF => ?_))
    obtain ⟨hq, fd_7, hm, hpv⟩ := hq
    have hab := AJ.off hq (by unfold MR; omega) hab
    have hfr := hfr.tr hq
    have ho := hpv.1
    have hn : NV fd_7 166 1 := (VL_ext (fun k hk => hpv.2 k hk)).trans one_14
    have n_168 : NV fd_7 168 ((7 ^ eU k2 % RI) ^ k3 % RI) := n_168.fr (fun k hk => ho _ (by omega))
    have n_145 : NV fd_7 145 ((2 ^ k2 : Nat) : Int) := n_145.fr (fun k hk => ho _ (by omega))
    have n_169 : NV fd_7 169 ((B k4) ^ (2 ^ k2) % RI) := n_169.fr (fun k hk => ho _ (by omega))
    have hsp : ∀ j, 448 ≤ j → j < 1666 → fd_7 j = fd j := fun j h8 h9 => (ho j (by omega)).trans (hsp j h8 h9)
    have hsc : ∀ j, j < 448 → fd_7 j = fd j := fun j hj => (ho j (by omega)).trans (hsc j hj)
    have n_166 : NV fd_7 166 1 := hn
    refine lv_aload_n hx hb d_Model_lagrange_136 rfl (lv_at hl 0 rfl) ?_
    refine lv_sipush (v := nI 169) hx hb d_Model_lagrange_137 (by decide) ?_
    refine lv_sipush (v := nI 169) hx hb d_Model_lagrange_140 (by decide) ?_
    refine lv_sipush (v := nI 166) hx hb d_Model_lagrange_143 (by decide) ?_
    refine q_cV (rest := []) E (N_Model_less l g n0 mo 169 169 166 0 (nI pn) (nI tn) (nI wn) fd_7 (by omega) (by omega) (by omega) ((B k4) ^ (2 ^ k2) % RI) 1 hm.2.2.2.2.2.1 n_169 n_166 ((rm_r _).2) (by decide)) w_1109 w_15 w_1106 w_1108 (bw_s 31 rfl) hd_Model_less rfl ⟨by decide, by decide⟩ (OB.recv E.2.2.2.2.2 (by rfl) hm.1) hm hF hl.1 rfl (Nat.le_of_ble_eq_true rfl) d_Model_lagrange_146 ⟨by decide, by decide⟩ (qv (fun H9 locs hq hF => ?_))
    obtain ⟨hq, fd_8, hm, ho, hn⟩ := hq
    have hab := hq.ajo (by omega) hab
    have hfr := hfr.tr (kjR hq)
    have n_168 : NV fd_8 168 ((7 ^ eU k2 % RI) ^ k3 % RI) := n_168.fr (fun k hk => ho _ (by omega))
    have n_145 : NV fd_8 145 ((2 ^ k2 : Nat) : Int) := n_145.fr (fun k hk => ho _ (by omega))
    have n_166 : NV fd_8 166 1 := n_166.fr (fun k hk => ho _ (by omega))
    have hsp : ∀ j, 448 ≤ j → j < 1666 → fd_8 j = fd j := fun j h8 h9 => (ho j (by omega)).trans (hsp j h8 h9)
    have hsc : ∀ j, j < 448 → fd_8 j = fd j := fun j hj => (ho j (by omega)).trans (hsc j hj)
    have n_169 : NV fd_8 169 ((((B k4) ^ (2 ^ k2) % RI) - 1 + RI) % RI) := hn
    refine lv_aload_n hx hb d_Model_lagrange_149 rfl (lv_at hl 0 rfl) ?_
    refine lv_sipush (v := nI 169) hx hb d_Model_lagrange_150 (by decide) ?_
    refine lv_sipush (v := nI 169) hx hb d_Model_lagrange_153 (by decide) ?_
    refine lv_sipush (v := nI 168) hx hb d_Model_lagrange_156 (by decide) ?_
    refine q_cV (rest := []) E (N_Model_product l g n0 mo 169 169 168 0 (nI pn) (nI tn) (nI wn) fd_8 (by omega) (by omega) (by omega) fa hAT ((((B k4) ^ (2 ^ k2) % RI) - 1 + RI) % RI) ((7 ^ eU k2 % RI) ^ k3 % RI) hm.2.2.2.2.2.1 n_169 n_168 ((rm_r _).2) ((rm_r _).2)) w_1113 w_15 w_1110 w_1112 (bw_s 32 rfl) hd_Model_product rfl ⟨by decide, by decide⟩ (OB.recv E.2.2.2.2.2 (by rfl) hm.1) (⟨hm, hab⟩) hF hl.1 rfl (Nat.le_of_ble_eq_true rfl) d_Model_lagrange_159 ⟨by decide, by decide⟩ (qv (fun H10 locs hq hF => ?_))
    obtain ⟨hq, fd_9, hm, ho, hn⟩ := hq
    have hab := hq.ajo (by omega) hab
    have hfr := hfr.tr (kjR hq)
    have n_168 : NV fd_9 168 ((7 ^ eU k2 % RI) ^ k3 % RI) := n_168.fr (fun k hk => ho _ (by omega))
    have n_145 : NV fd_9 145 ((2 ^ k2 : Nat) : Int) := n_145.fr (fun k hk => ho _ (by omega))
    have n_166 : NV fd_9 166 1 := n_166.fr (fun k hk => ho _ (by omega))
    have hsp : ∀ j, 448 ≤ j → j < 1666 → fd_9 j = fd j := fun j h8 h9 => (ho j (by omega)).trans (hsp j h8 h9)
    have hsc : ∀ j, j < 448 → fd_9 j = fd j := fun j hj => (ho j (by omega)).trans (hsc j hj)
    have n_169 : NV fd_9 169 ((((((B k4) ^ (2 ^ k2) % RI) - 1 + RI) % RI) * ((7 ^ eU k2 % RI) ^ k3 % RI)) % RI) := hn
    refine lv_aload_n hx hb d_Model_lagrange_162 rfl (lv_at hl 0 rfl) ?_
    refine lv_sipush (v := nI 168) hx hb d_Model_lagrange_163 (by decide) ?_
    refine lv_iload hx hb d_Model_lagrange_166 (lv_at hl 4 rfl) ?_
    refine lv_sipush (v := nI 168) hx hb d_Model_lagrange_168 (by decide) ?_
    refine q_cV (rest := []) E (N_Model_less l g n0 mo 168 k4 168 0 (nI pn) (nI tn) (nI wn) fd_9 (by omega) (by omega) (by omega) (B k4) ((7 ^ eU k2 % RI) ^ k3 % RI) hm.2.2.2.2.2.1 ((hB k4 (by omega)).1.fr (fun k hk => hsc _ (by omega))) n_168 ((hB k4 (by omega)).2) ((rm_r _).2)) w_1109 w_15 w_1106 w_1108 (bw_s 31 rfl) hd_Model_less rfl ⟨by decide, by decide⟩ (OB.recv E.2.2.2.2.2 (by rfl) hm.1) hm hF hl.1 rfl (Nat.le_of_ble_eq_true rfl) d_Model_lagrange_171 ⟨by decide, by decide⟩ (qv (fun H11 locs hq hF => ?_))
    obtain ⟨hq, fd_10, hm, ho, hn⟩ := hq
    have hab := hq.ajo (by omega) hab
    have hfr := hfr.tr (kjR hq)
    have n_145 : NV fd_10 145 ((2 ^ k2 : Nat) : Int) := n_145.fr (fun k hk => ho _ (by omega))
    have n_166 : NV fd_10 166 1 := n_166.fr (fun k hk => ho _ (by omega))
    have n_169 : NV fd_10 169 ((((((B k4) ^ (2 ^ k2) % RI) - 1 + RI) % RI) * ((7 ^ eU k2 % RI) ^ k3 % RI)) % RI) := n_169.fr (fun k hk => ho _ (by omega))
    have hsp : ∀ j, 448 ≤ j → j < 1666 → fd_10 j = fd j := fun j h8 h9 => (ho j (by omega)).trans (hsp j h8 h9)
    have hsc : ∀ j, j < 448 → fd_10 j = fd j := fun j hj => (ho j (by omega)).trans (hsc j hj)
    have n_168 : NV fd_10 168 (((B k4) - ((7 ^ eU k2 % RI) ^ k3 % RI) + RI) % RI) := hn
    refine lv_aload_n hx hb d_Model_lagrange_174 rfl (lv_at hl 0 rfl) ?_
    refine lv_sipush (v := nI 166) hx hb d_Model_lagrange_175 (by decide) ?_
    refine lv_lconst (v := 1) hx hb d_Model_lagrange_178 (by decide) ?_
    refine lv_iload_n hx hb d_Model_lagrange_179 rfl (lv_at hl 2 rfl) ?_
    refine lv_lshl (v := (1 : Int64) <<< ((nI k2).toInt64 &&& 63)) hx hb d_Model_lagrange_180 rfl ?_
    refine q_cV (rest := []) E (N_Model_small l g n0 mo 166 ((1 : Int64) <<< ((nI k2).toInt64 &&& 63)) 0 (nI pn) (nI tn) (nI wn) 1 10 hw1 fd_10 (by omega) (by rw [p2_l k2 h2_k2]; exact Int.le_of_lt (p2_pos k2))) w_1084 w_15 w_1081 w_1083 (bw_s 28 rfl) hd_Model_small rfl ⟨by decide, by decide⟩ (OB.recv E.2.2.2.2.2 (by rfl) hm.1) hm hF hl.1 rfl (Nat.le_of_ble_eq_true rfl) d_Model_lagrange_181 ⟨by decide, by decide⟩ (qv (fun H12 locs hq hF => ?_))
    obtain ⟨hq, fd_11, hm, ho, hn⟩ := hq
    have hab := AJ.off hq (by unfold MR; omega) hab
    have hfr := hfr.tr hq
    rw [show ((1 : Int64) <<< ((nI k2).toInt64 &&& 63)).toInt = ((2 ^ k2 : Nat) : Int) from ((p2_l k2 h2_k2).trans (p2_n k2 h2_k2).symm)] at hn
    have n_145 : NV fd_11 145 ((2 ^ k2 : Nat) : Int) := n_145.fr (fun k hk => ho _ (by omega))
    have n_169 : NV fd_11 169 ((((((B k4) ^ (2 ^ k2) % RI) - 1 + RI) % RI) * ((7 ^ eU k2 % RI) ^ k3 % RI)) % RI) := n_169.fr (fun k hk => ho _ (by omega))
    have n_168 : NV fd_11 168 (((B k4) - ((7 ^ eU k2 % RI) ^ k3 % RI) + RI) % RI) := n_168.fr (fun k hk => ho _ (by omega))
    have hsp : ∀ j, 448 ≤ j → j < 1666 → fd_11 j = fd j := fun j h8 h9 => (ho j (by omega)).trans (hsp j h8 h9)
    have hsc : ∀ j, j < 448 → fd_11 j = fd j := fun j hj => (ho j (by omega)).trans (hsc j hj)
    have n_166 : NV fd_11 166 ((2 ^ k2 : Nat) : Int) := hn
    refine lv_aload_n hx hb d_Model_lagrange_184 rfl (lv_at hl 0 rfl) ?_
    refine lv_sipush (v := nI 168) hx hb d_Model_lagrange_185 (by decide) ?_
    refine lv_sipush (v := nI 168) hx hb d_Model_lagrange_188 (by decide) ?_
    refine lv_sipush (v := nI 166) hx hb d_Model_lagrange_191 (by decide) ?_
    refine q_cV (rest := []) E (N_Model_product l g n0 mo 168 168 166 0 (nI pn) (nI tn) (nI wn) fd_11 (by omega) (by omega) (by omega) fa hAT (((B k4) - ((7 ^ eU k2 % RI) ^ k3 % RI) + RI) % RI) ((2 ^ k2 : Nat) : Int) hm.2.2.2.2.2.1 n_168 n_166 ((rm_r _).2) (by rw [p2_n k2 h2_k2]; exact p2_r k2 h2_k2)) w_1113 w_15 w_1110 w_1112 (bw_s 32 rfl) hd_Model_product rfl ⟨by decide, by decide⟩ (OB.recv E.2.2.2.2.2 (by rfl) hm.1) (⟨hm, hab⟩) hF hl.1 rfl (Nat.le_of_ble_eq_true rfl) d_Model_lagrange_194 ⟨by decide, by decide⟩ (qv (fun H13 locs hq hF => ?_))
    obtain ⟨hq, fd_12, hm, ho, hn⟩ := hq
    have hab := hq.ajo (by omega) hab
    have hfr := hfr.tr (kjR hq)
    have n_145 : NV fd_12 145 ((2 ^ k2 : Nat) : Int) := n_145.fr (fun k hk => ho _ (by omega))
    have n_169 : NV fd_12 169 ((((((B k4) ^ (2 ^ k2) % RI) - 1 + RI) % RI) * ((7 ^ eU k2 % RI) ^ k3 % RI)) % RI) := n_169.fr (fun k hk => ho _ (by omega))
    have n_166 : NV fd_12 166 ((2 ^ k2 : Nat) : Int) := n_166.fr (fun k hk => ho _ (by omega))
    have hsp : ∀ j, 448 ≤ j → j < 1666 → fd_12 j = fd j := fun j h8 h9 => (ho j (by omega)).trans (hsp j h8 h9)
    have hsc : ∀ j, j < 448 → fd_12 j = fd j := fun j hj => (ho j (by omega)).trans (hsc j hj)
    have n_168 : NV fd_12 168 (((((B k4) - ((7 ^ eU k2 % RI) ^ k3 % RI) + RI) % RI) * ((2 ^ k2 : Nat) : Int)) % RI) := hn
    refine lv_aload_n hx hb d_Model_lagrange_197 rfl (lv_at hl 0 rfl) ?_
    refine lv_sipush (v := nI 166) hx hb d_Model_lagrange_198 (by decide) ?_
    refine lv_sipush (v := nI 168) hx hb d_Model_lagrange_201 (by decide) ?_
    refine q_cV (rest := []) E (N_Model_inverse l g n0 mo 166 168 0 (nI pn) (nI tn) (nI wn) fd_12 fa (by omega) (by omega) (by omega) hAT (((((B k4) - ((7 ^ eU k2 % RI) ^ k3 % RI) + RI) % RI) * ((2 ^ k2 : Nat) : Int)) % RI) n_168 ((rm_r _).2)) w_1117 w_15 w_1114 w_1116 (bw_s 33 rfl) hd_Model_inverse rfl ⟨by decide, by decide⟩ (OB.recv E.2.2.2.2.2 (by rfl) hm.1) (⟨hm, hab⟩) hF hl.1 rfl (Nat.le_of_ble_eq_true rfl) d_Model_lagrange_204 ⟨by decide, by decide⟩ (qv (fun H14 locs hq hF => ?_))
    obtain ⟨hq, hab, fd_13, hm, ho, hn⟩ := hq
    have hfr := hfr.tr hq
    have n_145 : NV fd_13 145 ((2 ^ k2 : Nat) : Int) := n_145.fr (fun k hk => ho _ (by omega) (by omega))
    have n_169 : NV fd_13 169 ((((((B k4) ^ (2 ^ k2) % RI) - 1 + RI) % RI) * ((7 ^ eU k2 % RI) ^ k3 % RI)) % RI) := n_169.fr (fun k hk => ho _ (by omega) (by omega))
    have n_168 : NV fd_13 168 (((((B k4) - ((7 ^ eU k2 % RI) ^ k3 % RI) + RI) % RI) * ((2 ^ k2 : Nat) : Int)) % RI) := n_168.fr (fun k hk => ho _ (by omega) (by omega))
    have hsp : ∀ j, 448 ≤ j → j < 1666 → fd_13 j = fd j := fun j h8 h9 => (ho j (by omega) (by omega)).trans (hsp j h8 h9)
    have hsc : ∀ j, j < 448 → fd_13 j = fd j := fun j hj => (ho j (by omega) (by omega)).trans (hsc j hj)
    have n_166 : NV fd_13 166 ((((((B k4) - ((7 ^ eU k2 % RI) ^ k3 % RI) + RI) % RI) * ((2 ^ k2 : Nat) : Int)) % RI) ^ (RN - 2) % RI) := hn
    refine lv_aload_n hx hb d_Model_lagrange_207 rfl (lv_at hl 0 rfl) ?_
    refine lv_iload_n hx hb d_Model_lagrange_208 rfl (lv_at hl 1 rfl) ?_
    refine lv_sipush (v := nI 169) hx hb d_Model_lagrange_209 (by decide) ?_
    refine lv_sipush (v := nI 166) hx hb d_Model_lagrange_212 (by decide) ?_
    refine q_cV (rest := []) E (N_Model_product l g n0 mo k1 169 166 0 (nI pn) (nI tn) (nI wn) fd_13 (by omega) (by omega) (by omega) fa hAT ((((((B k4) ^ (2 ^ k2) % RI) - 1 + RI) % RI) * ((7 ^ eU k2 % RI) ^ k3 % RI)) % RI) ((((((B k4) - ((7 ^ eU k2 % RI) ^ k3 % RI) + RI) % RI) * ((2 ^ k2 : Nat) : Int)) % RI) ^ (RN - 2) % RI) hm.2.2.2.2.2.1 n_169 n_166 ((rm_r _).2) ((rm_r _).2)) w_1113 w_15 w_1110 w_1112 (bw_s 32 rfl) hd_Model_product rfl ⟨by decide, by decide⟩ (OB.recv E.2.2.2.2.2 (by rfl) hm.1) (⟨hm, hab⟩) hF hl.1 rfl (Nat.le_of_ble_eq_true rfl) d_Model_lagrange_215 ⟨by decide, by decide⟩ (qv (fun H15 locs hq hF => ?_))
    obtain ⟨hq, fd_14, hm, ho, hn⟩ := hq
    have hab := hq.ajo (by omega) hab
    have hfr := hfr.tr (kjR hq)
    have n_145 : NV fd_14 145 ((2 ^ k2 : Nat) : Int) := n_145.fr (fun k hk => ho _ (by omega))
    have n_169 : NV fd_14 169 ((((((B k4) ^ (2 ^ k2) % RI) - 1 + RI) % RI) * ((7 ^ eU k2 % RI) ^ k3 % RI)) % RI) := n_169.fr (fun k hk => ho _ (by omega))
    have n_168 : NV fd_14 168 (((((B k4) - ((7 ^ eU k2 % RI) ^ k3 % RI) + RI) % RI) * ((2 ^ k2 : Nat) : Int)) % RI) := n_168.fr (fun k hk => ho _ (by omega))
    have n_166 : NV fd_14 166 ((((((B k4) - ((7 ^ eU k2 % RI) ^ k3 % RI) + RI) % RI) * ((2 ^ k2 : Nat) : Int)) % RI) ^ (RN - 2) % RI) := n_166.fr (fun k hk => ho _ (by omega))
    have hsp : ∀ j, 448 ≤ j → j < 1666 → fd_14 j = fd j := fun j h8 h9 => (ho j (by omega)).trans (hsp j h8 h9)
    have hB := nb_set hB (fun j hj h9 => (ho j  h9).trans (hsc j hj)) hn (rm_r _).2
    have hsc : ∀ j, j < 448 → fd_14 j = fd_14 j := fun _ _ => rfl
    exact q_vret E hr hlk (⟨rfl, Or.inl ⟨hok, k1, k2, k3, k4, e_k1, e_k2, e_k3, e_k4, by omega, by omega, by omega, by omega, hB4, Or.inr ⟨hs0, by rw [← p2_n k2 h2_k2]; exact hP.keep hfr hw1 hm (hB9.mk hB hsp (by intro k9 h9; first | rfl | (unfold updI; rw [if_neg (by omega)]; done) | (unfold updI opB; rw [if_neg (by omega), if_neg (by omega)]; done) | (unfold trB; rw [if_neg (by omega)]; done)))⟩⟩⟩) hF d_Model_lagrange_218
  refine lv_aload_n hx hb d_Model_lagrange_0 rfl (lv_at hl 0 rfl) ?_
  refine lv_iload_n hx hb d_Model_lagrange_1 rfl (lv_at hl 1 rfl) ?_
  refine q_cS (rest := [.ref mo]) E (c_Model_noScalar l g n0 a ) w_1064 w_15 w_1062 w_1063 hd_Model_noScalar rfl ⟨by decide, by decide⟩ trivial hF hl.1 rfl (Nat.le_of_ble_eq_true rfl) d_Model_lagrange_2 ⟨by decide, by decide⟩ (qi (fun r_0 H1 locs hq hF => ?_))
  obtain ⟨h_0, hq⟩ := hq
  subst hq
  rcases h_0 with ⟨rfl, f_0⟩ | ⟨rfl, f_0⟩
  · skip
    refine lv_if_ne (tgt := 46) hx hb d_Model_lagrange_5 (by decide) (fun _ => ?_) (fun h9 => absurd h9 (by decide))
    refine lv_iconst (v := nI 1) hx hb d_Model_lagrange_46 (by decide) ?_
    refine lv_goto (tgt := 51) hx hb d_Model_lagrange_47 (by decide) ?_
    have hl : lv_has ls 5 [(0, .ref mo), (1, .int a), (2, .int kv), (3, .int iv), (4, .int z0)] := lv_sub hl [0, 1, 2, 3, 4] rfl
    exact bad _ ls (fun h => (f_0) h.1) hF hl
  · skip
    refine lv_if_ne (tgt := 46) hx hb d_Model_lagrange_5 (by decide) (fun h9 => absurd (by decide) h9) (fun _ => ?_)
    refine lv_iload_n hx hb d_Model_lagrange_8 rfl (lv_at hl 2 rfl) ?_
    refine lv_i2l (v := kv.toInt64) hx hb d_Model_lagrange_9 rfl ?_
    refine lv_lconst (v := 0) hx hb d_Model_lagrange_10 (by decide) ?_
    refine lv_ldc2 (v := 4) hx hb E.2.2.2.1 (E.2.2.2.2.1 _ w_1155) d_Model_lagrange_11 ?_
    refine q_cS (rest := [.ref mo]) E (c_Model_in l g n0 kv.toInt64 0 4 ) w_1101 w_15 w_1099 w_1100 hd_Model_in rfl ⟨by decide, by decide⟩ trivial hF hl.1 rfl (Nat.le_of_ble_eq_true rfl) d_Model_lagrange_14 ⟨by decide, by decide⟩ (qi (fun r_1 H2 locs hq hF => ?_))
    obtain ⟨h_1, hq⟩ := hq
    subst hq
    rcases h_1 with ⟨rfl, f_1⟩ | ⟨rfl, f_1⟩
    · skip
      refine lv_if_eq (tgt := 46) hx hb d_Model_lagrange_17 (by decide) (fun _ => ?_) (fun h9 => absurd (by decide) h9)
      refine lv_iconst (v := nI 1) hx hb d_Model_lagrange_46 (by decide) ?_
      refine lv_goto (tgt := 51) hx hb d_Model_lagrange_47 (by decide) ?_
      have hl : lv_has ls 5 [(0, .ref mo), (1, .int a), (2, .int kv), (3, .int iv), (4, .int z0)] := lv_sub hl [0, 1, 2, 3, 4] rfl
      exact bad _ ls (fun h => (fun q => f_1 ((in_okC (a := 0) (b := 4) (by decide) (by decide) (by decide) (by decide)).mpr q)) h.2.1) hF hl
    · skip
      refine lv_if_eq (tgt := 46) hx hb d_Model_lagrange_17 (by decide) (fun h9 => absurd h9 (by decide)) (fun _ => ?_)
      refine lv_iload_n hx hb d_Model_lagrange_20 rfl (lv_at hl 3 rfl) ?_
      refine lv_i2l (v := iv.toInt64) hx hb d_Model_lagrange_21 rfl ?_
      refine lv_lconst (v := 0) hx hb d_Model_lagrange_22 (by decide) ?_
      refine lv_iconst (v := nI 1) hx hb d_Model_lagrange_23 (by decide) ?_
      refine lv_iload_n hx hb d_Model_lagrange_24 rfl (lv_at hl 2 rfl) ?_
      refine lv_bipush (v := nI 7) hx hb d_Model_lagrange_25 (by decide) ?_
      refine lv_iand hx hb d_Model_lagrange_27 ?_
      refine lv_ishl hx hb d_Model_lagrange_28 ?_
      refine lv_iconst (v := nI 1) hx hb d_Model_lagrange_29 (by decide) ?_
      refine lv_isub hx hb d_Model_lagrange_30 ?_
      refine lv_i2l (v := (((nI 1) <<< ((kv &&& (nI 7)) &&& 31)) - (nI 1)).toInt64) hx hb d_Model_lagrange_31 rfl ?_
      refine q_cS (rest := [.ref mo]) E (c_Model_in l g n0 iv.toInt64 0 ((((nI 1) <<< ((kv &&& (nI 7)) &&& 31)) - (nI 1)).toInt64) ) w_1101 w_15 w_1099 w_1100 hd_Model_in rfl ⟨by decide, by decide⟩ trivial hF hl.1 rfl (Nat.le_of_ble_eq_true rfl) d_Model_lagrange_32 ⟨by decide, by decide⟩ (qi (fun r_2 H3 locs hq hF => ?_))
      obtain ⟨h_2, hq⟩ := hq
      subst hq
      rcases h_2 with ⟨rfl, f_2⟩ | ⟨rfl, f_2⟩
      · skip
        refine lv_if_eq (tgt := 46) hx hb d_Model_lagrange_35 (by decide) (fun _ => ?_) (fun h9 => absurd (by decide) h9)
        refine lv_iconst (v := nI 1) hx hb d_Model_lagrange_46 (by decide) ?_
        refine lv_goto (tgt := 51) hx hb d_Model_lagrange_47 (by decide) ?_
        have hl : lv_has ls 5 [(0, .ref mo), (1, .int a), (2, .int kv), (3, .int iv), (4, .int z0)] := lv_sub hl [0, 1, 2, 3, 4] rfl
        exact bad _ ls (fun h => (f_2) h.2.2.1) hF hl
      · skip
        refine lv_if_eq (tgt := 46) hx hb d_Model_lagrange_35 (by decide) (fun h9 => absurd h9 (by decide)) (fun _ => ?_)
        refine lv_iload hx hb d_Model_lagrange_38 (lv_at hl 4 rfl) ?_
        refine q_cS (rest := [.ref mo]) E (c_Model_noScalar l g n0 z0 ) w_1064 w_15 w_1062 w_1063 hd_Model_noScalar rfl ⟨by decide, by decide⟩ trivial hF hl.1 rfl (Nat.le_of_ble_eq_true rfl) d_Model_lagrange_40 ⟨by decide, by decide⟩ (qi (fun r_3 H4 locs hq hF => ?_))
        obtain ⟨h_3, hq⟩ := hq
        subst hq
        rcases h_3 with ⟨rfl, f_3⟩ | ⟨rfl, f_3⟩
        · skip
          refine lv_if_eq (tgt := 50) hx hb d_Model_lagrange_43 (by decide) (fun h9 => absurd h9 (by decide)) (fun _ => ?_)
          refine lv_iconst (v := nI 1) hx hb d_Model_lagrange_46 (by decide) ?_
          refine lv_goto (tgt := 51) hx hb d_Model_lagrange_47 (by decide) ?_
          have hl : lv_has ls 5 [(0, .ref mo), (1, .int a), (2, .int kv), (3, .int iv), (4, .int z0)] := lv_sub hl [0, 1, 2, 3, 4] rfl
          exact bad _ ls (fun h => (f_3) h.2.2.2) hF hl
        · skip
          refine lv_if_eq (tgt := 50) hx hb d_Model_lagrange_43 (by decide) (fun _ => ?_) (fun h9 => absurd (by decide) h9)
          refine lv_iconst (v := nI 0) hx hb d_Model_lagrange_50 (by decide) ?_
          have hl : lv_has ls 5 [(0, .ref mo), (1, .int a), (2, .int kv), (3, .int iv), (4, .int z0)] := lv_sub hl [0, 1, 2, 3, 4] rfl
          exact good _ ls ⟨f_0, (in_okC (a := 0) (b := 4) (by decide) (by decide) (by decide) (by decide)).mp f_1, f_2, f_3⟩ hF hl
