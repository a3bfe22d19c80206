theorem pt_md (T : P3) : PE (T.1 % QJ, T.2.1 % QJ, T.2.2 % QJ) T := ⟨1, nq_1, by
  rw [Int.one_mul]
  exact Int.emod_emod_of_dvd _ (Int.dvd_refl _), by
  rw [Int.one_mul]
  exact Int.emod_emod_of_dvd _ (Int.dvd_refl _), by
  rw [Int.one_mul]
  exact Int.emod_emod_of_dvd _ (Int.dvd_refl _)⟩
theorem pt_set (B : Nat → Int) (s : Nat) (T : P3) : ptB (updP B s T) s = (T.1 % QJ, T.2.1 % QJ, T.2.2 % QJ) := by
  show (updP B s T s, updP B s T (s + 1), updP B s T (s + 2)) = _
  unfold updP
  rw [if_pos rfl, if_neg (by omega), if_pos rfl, if_neg (by omega), if_neg (by omega), if_pos rfl]
theorem pt_oth {B : Nat → Int} {s s' : Nat} {T : P3} (h : s' + 2 < s ∨ s + 2 < s') : ptB (updP B s T) s' = ptB B s' := by
  show (updP B s T s', updP B s T (s' + 1), updP B s T (s' + 2)) = (B s', B (s' + 1), B (s' + 2))
  unfold updP
  rw [if_neg (by omega), if_neg (by omega), if_neg (by omega), if_neg (by omega), if_neg (by omega), if_neg (by omega), if_neg (by omega), if_neg (by omega), if_neg (by omega)]
theorem upd_oth {B : Nat → Int} {s k : Nat} {T : P3} (h : k < s ∨ s + 2 < k) : updP B s T k = B k := by
  unfold updP
  rw [if_neg (by omega), if_neg (by omega), if_neg (by omega)]
theorem pw_m (x : Int) (i : Nat) : ((x ^ i % RI) * x) % RI = x ^ (i + 1) % RI := by rw [Int.pow_succ, Int.mul_emod, Int.emod_emod_of_dvd _ (Int.dvd_refl _), ← Int.mul_emod]
/-- powers behind powers -/
theorem PB_nx {B B1 : Nat → Int} {i : Nat} {x : Int} {T : P3} (h : ∀ j, j < i → RP (ptB B 116) (x ^ j % RI) (ptB B1 (68 + 3 * j))) (hT : RP (ptB B 116) (x ^ i % RI) T) : ∀ j, j < i + 1 → RP (ptB B 116) (x ^ j % RI) (ptB (updP B1 (68 + 3 * i) T) (68 + 3 * j)) := by
  intro j hj
  by_cases e : j = i
  · rw [e, pt_set]
    exact hT.cg (pt_md T)
  · rw [pt_oth (by omega)]
    exact h j (by omega)
set_option maxHeartbeats 4000000 in
set_option maxRecDepth 100000 in
theorem W_Model_checks (l : Launch) (g : WG) (n0 : Nat → Prop) (mo : Nat) (th : Int32) (pn tn wn : Nat) (B : Nat → Int) (a : Int32) (a2 : Int32) (a3 : Int32) (a4 : Int32) (a5 : Int32) (hon : ∀ k, k < 12 → onC (ptB B (32 + 3 * k))) (hoG : onC (ptB B 116)) : Ctr l y_Model_checks (.code y_Model_checks prog_11_method_58_code 6 (some FieldType.boolean)) 6 143 0 0 n0 g [.ref mo, .int a, .int a2, .int a3, .int a4, .int a5] (fun H => MVP g n0 H mo th pn tn wn B) (QI (fun r H H' => ((okP a (nI 1) ∧ okP a2 (nI 1) ∧ okS a3 (nI 1) ∧ okS a4 (nI 1) ∧ okS a5 (nI 1)) ∧ (∃ k1 k2 k3 k4 k5, a = nI k1 ∧ a2 = nI k2 ∧ a3 = nI k3 ∧ a4 = nI k4 ∧ a5 = nI k5 ∧ k1 < 12 ∧ k2 < 12 ∧ k3 < 32 ∧ k4 < 32 ∧ k5 < 32 ∧ (∃ U Y, RP (ptB B (32 + 3 * k2)) ((B k5 - B k3 + RI) % RI) U ∧ RP (ptB B 116) (B k4) Y ∧ ((r = 1 ∧ PE (AD (ptB B (32 + 3 * k1)) (NG Y)) U) ∨ (r = 0 ∧ ¬ PE (AD (ptB B (32 + 3 * k1)) (NG Y)) U))) ∧ MVP g n0 H' mo 0 pn tn wn B)) ∨ (¬ (okP a (nI 1) ∧ okP a2 (nI 1) ∧ okS a3 (nI 1) ∧ okS a4 (nI 1) ∧ okS a5 (nI 1)) ∧ MVP g n0 H' mo 1 pn tn wn B))) := by
  refine ctr_mk l (lv0 := [(0, .ref mo), (1, .int a), (2, .int a2), (3, .int a3), (4, .int a4), (5, .int a5)]) (by decide) (Nat.le_of_ble_eq_true rfl) rfl ?_
  intro p e s m below meth c ls E hr hlk hnm hl hP
  have hx := E.1
  have hb := E.2.1
  have hK := E.2.2.2.2.2
  have hF : ∀ q ∈ ([] : List Loc), n0 q.base := fun q hq => absurd hq List.not_mem_nil
  obtain ⟨⟨w9, n9, fd, hw9, hm, hB⟩, ⟨fa, hab0, hAT, hAQ⟩, hho, -, -, hbd, hmn, -, -, hn8⟩ := id hP
  have hfr : FRM (MR mo) s.heap s.heap := FRM.rf
  have bad : ∀ (locs : List Loc) (ls : Array Slot), ¬ (okP a (nI 1) ∧ okP a2 (nI 1) ∧ okS a3 (nI 1) ∧ okS a4 (nI 1) ∧ okS a5 (nI 1)) → (∀ q ∈ locs, n0 q.base) → lv_has ls 6 [(0, .ref mo), (1, .int a), (2, .int a2), (3, .int a3), (4, .int a4), (5, .int a5)] → W p l e { frames := 6, cells := 0, slots := 0, locals := 143 } s m [.ref mo, .int a, .int a2, .int a3, .int a4, .int a5].toArray below meth c s.heap locs 0 0 (MQ below (QcP (QI (fun r H H' => ((okP a (nI 1) ∧ okP a2 (nI 1) ∧ okS a3 (nI 1) ∧ okS a4 (nI 1) ∧ okS a5 (nI 1)) ∧ (∃ k1 k2 k3 k4 k5, a = nI k1 ∧ a2 = nI k2 ∧ a3 = nI k3 ∧ a4 = nI k4 ∧ a5 = nI k5 ∧ k1 < 12 ∧ k2 < 12 ∧ k3 < 32 ∧ k4 < 32 ∧ k5 < 32 ∧ (∃ U Y, RP (ptB B (32 + 3 * k2)) ((B k5 - B k3 + RI) % RI) U ∧ RP (ptB B 116) (B k4) Y ∧ ((r = 1 ∧ PE (AD (ptB B (32 + 3 * k1)) (NG Y)) U) ∨ (r = 0 ∧ ¬ PE (AD (ptB B (32 + 3 * k1)) (NG Y)) U))) ∧ MVP g n0 H' mo 0 pn tn wn B)) ∨ (¬ (okP a (nI 1) ∧ okP a2 (nI 1) ∧ okS a3 (nI 1) ∧ okS a4 (nI 1) ∧ okS a5 (nI 1)) ∧ MVP g n0 H' mo 1 pn tn wn B)))) [.ref mo, .int a, .int a2, .int a3, .int a4, .int a5].toArray s 0 0 (fun q => n0 q)) (F0 m 43 ls [.int (nI 1), .ref mo]) := by
    intro  locs   ls hno hF hl
    refine lv_iconst (v := nI 1) hx hb d_Model_checks_43 (by decide) ?_
    refine q_cV (rest := []) E (c_Model_fails l g n0 mo th (nI pn) (nI tn) (nI wn) w9 n9 hw9 (nI 1) (nI 1) fd hmn (Or.inl rfl)) w_1056 w_15 w_1053 w_1055 (bw_s 24 rfl) hd_Model_fails rfl ⟨by decide, by decide⟩ (OB.recv E.2.2.2.2.2 (by rfl) hm.1) hm hF hl.1 rfl (Nat.le_of_ble_eq_true rfl) d_Model_checks_44 ⟨by decide, by decide⟩ (qi (fun rf H1 locs hq hF => ?_))
    obtain ⟨hrf, hq, hm⟩ := hq
    subst hrf
    have hfr := hfr.tr hq
    rw [if_neg (by decide)] at hm
    refine lv_if_eq (tgt := 52) hx hb d_Model_checks_47 (by decide) (fun h9 => absurd h9 (by decide)) (fun _ => ?_)
    refine lv_iconst (v := nI 0) hx hb d_Model_checks_50 (by decide) ?_
    exact q_zret E hr rfl hlk (⟨_, rfl, Or.inr ⟨hno, hP.keep hfr hw9 hm hB⟩⟩) hF d_Model_checks_51
  have good : ∀ (locs : List Loc) (ls : Array Slot), okP a (nI 1) ∧ okP a2 (nI 1) ∧ okS a3 (nI 1) ∧ okS a4 (nI 1) ∧ okS a5 (nI 1) → (∀ q ∈ locs, n0 q.base) → lv_has ls 6 [(0, .ref mo), (1, .int a), (2, .int a2), (3, .int a3), (4, .int a4), (5, .int a5)] → W p l e { frames := 6, cells := 0, slots := 0, locals := 143 } s m [.ref mo, .int a, .int a2, .int a3, .int a4, .int a5].toArray below meth c s.heap locs 0 0 (MQ below (QcP (QI (fun r H H' => ((okP a (nI 1) ∧ okP a2 (nI 1) ∧ okS a3 (nI 1) ∧ okS a4 (nI 1) ∧ okS a5 (nI 1)) ∧ (∃ k1 k2 k3 k4 k5, a = nI k1 ∧ a2 = nI k2 ∧ a3 = nI k3 ∧ a4 = nI k4 ∧ a5 = nI k5 ∧ k1 < 12 ∧ k2 < 12 ∧ k3 < 32 ∧ k4 < 32 ∧ k5 < 32 ∧ (∃ U Y, RP (ptB B (32 + 3 * k2)) ((B k5 - B k3 + RI) % RI) U ∧ RP (ptB B 116) (B k4) Y ∧ ((r = 1 ∧ PE (AD (ptB B (32 + 3 * k1)) (NG Y)) U) ∨ (r = 0 ∧ ¬ PE (AD (ptB B (32 + 3 * k1)) (NG Y)) U))) ∧ MVP g n0 H' mo 0 pn tn wn B)) ∨ (¬ (okP a (nI 1) ∧ okP a2 (nI 1) ∧ okS a3 (nI 1) ∧ okS a4 (nI 1) ∧ okS a5 (nI 1)) ∧ MVP g n0 H' mo 1 pn tn wn B)))) [.ref mo, .int a, .int a2, .int a3, .int a4, .int a5].toArray s 0 0 (fun q => n0 q)) (F0 m 43 ls [.int (nI 0), .ref mo]) := by
    intro  locs   ls hok hF hl
    refine lv_iconst (v := nI 1) hx hb d_Model_checks_43 (by decide) ?_
    refine q_cV (rest := []) E (c_Model_fails l g n0 mo th (nI pn) (nI tn) (nI wn) w9 n9 hw9 (nI 0) (nI 1) fd hmn (Or.inr rfl)) w_1056 w_15 w_1053 w_1055 (bw_s 24 rfl) hd_Model_fails rfl ⟨by decide, by decide⟩ (OB.recv E.2.2.2.2.2 (by rfl) hm.1) hm hF hl.1 rfl (Nat.le_of_ble_eq_true rfl) d_Model_checks_44 ⟨by decide, by decide⟩ (qi (fun rf H1 locs hq hF => ?_))
    obtain ⟨hrf, hq, hm⟩ := hq
    subst hrf
    have hfr := hfr.tr hq
    rw [if_pos nI_0] at hm
    refine lv_if_eq (tgt := 52) hx hb d_Model_checks_47 (by decide) (fun _ => ?_) (fun h9 => absurd (by decide) h9)
    obtain ⟨k1, e_k1, h_k1⟩ := okP_nat (by decide) (by decide) hok.1
    rw [e_k1] at hl
    obtain ⟨k2, e_k2, h_k2⟩ := okP_nat (by decide) (by decide) hok.2.1
    rw [e_k2] at hl
    obtain ⟨k3, e_k3, h_k3⟩ := okS_nat (by decide) (by decide) hok.2.2.1
    rw [e_k3] at hl
    obtain ⟨k4, e_k4, h_k4⟩ := okS_nat (by decide) (by decide) hok.2.2.2.1
    rw [e_k4] at hl
    obtain ⟨k5, e_k5, h_k5⟩ := okS_nat (by decide) (by decide) hok.2.2.2.2
    rw [e_k5] at hl
    refine lv_aload_n hx hb d_Model_checks_52 rfl (lv_at hl 0 rfl) ?_
    refine lv_iconst (v := nI 1) hx hb d_Model_checks_53 (by decide) ?_
    refine q_cV (rest := []) E (c_Model_use l g n0 mo 0 (nI pn) (nI tn) (nI wn) w9 n9 hw9 1 10 hw1 fd hmn) w_967 w_15 w_964 w_966 (bw_s 15 rfl) hd_Model_use rfl ⟨by decide, by decide⟩ (OB.recv E.2.2.2.2.2 (by rfl) hm.1) hm hF hl.1 rfl (Nat.le_of_ble_eq_true rfl) d_Model_checks_54 ⟨by decide, by decide⟩ (qv (fun H2 locs hq hF => ?_))
    obtain ⟨hq, hm⟩ := hq
    have hfr := hfr.tr hq
    refine lv_aload_n hx hb d_Model_checks_57 rfl (lv_at hl 0 rfl) ?_
    refine lv_sipush (v := nI 166) hx hb d_Model_checks_58 (by decide) ?_
    refine lv_iload hx hb d_Model_checks_61 (lv_at hl 5 rfl) ?_
    refine lv_iload_n hx hb d_Model_checks_63 rfl (lv_at hl 3 rfl) ?_
    refine q_cV (rest := []) E (N_Model_less l g n0 mo 166 k5 k3 0 (nI pn) (nI tn) (nI wn) fd (by decide) (by omega) (by omega) (B k5) (B k3) hm.2.2.2.2.2.1 (hB k5 (by omega)).1 (hB k3 (by omega)).1 ((hB k5 (by omega)).2.1 (by omega)) ((hB k3 (by omega)).2.1 (by omega))) w_1109 w_15 w_1106 w_1108 (bw_s 31 rfl) hd_Model_less rfl ⟨by decide, by decide⟩ (OB.recv E.2.2.2.2.2 (by rfl) hm.1) hm hF hl.1 rfl (Nat.le_of_ble_eq_true rfl) d_Model_checks_64 ⟨by decide, by decide⟩ (qv (fun H3 locs hq hF => ?_))
    obtain ⟨hq, fd_1, hm, ho, hn⟩ := hq
    have hfr := hfr.tr (kjR hq)
    have hB := hB.off1 ho (by decide)
    have hU0 : NV fd_1 166 ((((B k5 - B k3 + RI) % RI).toNat : Nat) : Int) := by rw [Int.toNat_of_nonneg (rm_r _).1]; exact hn
    refine lv_aload_n hx hb d_Model_checks_67 rfl (lv_at hl 0 rfl) ?_
    refine lv_iconst (v := nI 0) hx hb d_Model_checks_68 (by decide) ?_
    refine q_cV (rest := []) E (c_Model_use l g n0 mo 0 (nI pn) (nI tn) (nI wn) 1 10 hw1 0 14 hw0 fd_1 hmn) w_967 w_15 w_964 w_966 (bw_s 15 rfl) hd_Model_use rfl ⟨by decide, by decide⟩ (OB.recv E.2.2.2.2.2 (by rfl) hm.1) hm hF hl.1 rfl (Nat.le_of_ble_eq_true rfl) d_Model_checks_69 ⟨by decide, by decide⟩ (qv (fun H4 locs hq hF => ?_))
    obtain ⟨hq, hm⟩ := hq
    have hfr := hfr.tr hq
    refine lv_aload_n hx hb d_Model_checks_72 rfl (lv_at hl 0 rfl) ?_
    refine lv_sipush (v := nI 161) hx hb d_Model_checks_73 (by decide) ?_
    refine lv_sipush (v := nI 166) hx hb d_Model_checks_76 (by decide) ?_
    refine lv_iload_n hx hb d_Model_checks_79 rfl (lv_at hl 2 rfl) ?_
    refine q_cS (rest := [.int (nI 166), .int (nI 161), .ref mo]) E (c_Model_slot l g n0 (nI k2)) w_1154 w_15 w_1152 w_1153 hd_Model_slot rfl ⟨by decide, by decide⟩ trivial hF hl.1 rfl (Nat.le_of_ble_eq_true rfl) d_Model_checks_80 ⟨by decide, by decide⟩ (qi (fun rs H5 locs hq hF => ?_))
    obtain ⟨hrs, hq9⟩ := hq
    subst hrs
    subst hq9
    refine lv_topi (fun t9 e9 => ?_)
    obtain rfl : t9 = nI (32 + 3 * k2) := e9.trans (by rw [pk_mul, nI_add])
    refine q_cV (rest := []) E (M_Model_multiple l g n0 mo 161 166 (32 + 3 * k2) 0 (nI pn) (nI tn) (nI wn) fd_1 fa (Or.inr ⟨by decide, by decide⟩) (Or.inr ⟨by decide, by decide⟩) (Or.inl (by omega)) hAQ (ptB B (32 + 3 * k2)) (hon k2 (by omega)) (((B k5 - B k3 + RI) % RI).toNat)) w_1167 w_15 w_1164 w_1166 (bw_s 40 rfl) hd_Model_multiple rfl ⟨by decide, by decide⟩ (OB.recv E.2.2.2.2.2 (by rfl) hm.1) (⟨hm, (AJ.off hfr (show ¬ MR mo (mo + 4) by unfold MR; omega) hab0), hU0, hB.pm (by omega)⟩) hF hl.1 rfl (Nat.le_of_ble_eq_true rfl) d_Model_checks_83 ⟨by decide, by decide⟩ (qv (fun H6 locs hq hF => ?_))
    obtain ⟨hq, -, fd_2, hm, hS, T, hRP, hT⟩ := hq
    have hfr := hfr.tr hq
    rw [Int.toNat_of_nonneg (rm_r _).1] at hRP
    have hB := hB.sm hS (fun t h => by omega)
    obtain ⟨Uq, hUq⟩ : ∃ Uq, Uq = T := ⟨_, rfl⟩
    rw [← hUq] at hRP hT
    have hRU := hRP
    have hTU := hT
    have hE := hB.nat hm.2.2.2.2.2.1 (s := k4) (by omega)
    refine lv_aload_n hx hb d_Model_checks_86 rfl (lv_at hl 0 rfl) ?_
    refine lv_sipush (v := nI 157) hx hb d_Model_checks_87 (by decide) ?_
    refine lv_iload hx hb d_Model_checks_90 (lv_at hl 4 rfl) ?_
    refine lv_bipush (v := nI 116) hx hb d_Model_checks_92 (by decide) ?_
    refine q_cV (rest := []) E (M_Model_multiple l g n0 mo 157 k4 116 0 (nI pn) (nI tn) (nI wn) fd_2 fa (Or.inr ⟨by decide, by decide⟩) (Or.inl (by omega)) (Or.inl (by decide)) hAQ (ptB B 116) hoG ((B k4).toNat)) w_1167 w_15 w_1164 w_1166 (bw_s 40 rfl) hd_Model_multiple rfl ⟨by decide, by decide⟩ (OB.recv E.2.2.2.2.2 (by rfl) hm.1) (⟨hm, (AJ.off hfr (show ¬ MR mo (mo + 4) by unfold MR; omega) hab0), hE.1, hB.pm (by decide)⟩) hF hl.1 rfl (Nat.le_of_ble_eq_true rfl) d_Model_checks_94 ⟨by decide, by decide⟩ (qv (fun H7 locs hq hF => ?_))
    obtain ⟨hq, -, fd_3, hm, hS, T, hRP, hT⟩ := hq
    have hfr := hfr.tr hq
    rw [hE.2] at hRP
    have hB := hB.sm hS (fun t h => by omega)
    have hTU := PM9.sm hTU hS (by omega) (by omega) (by omega)
    refine lv_aload_n hx hb d_Model_checks_97 rfl (lv_at hl 0 rfl) ?_
    refine lv_sipush (v := nI 160) hx hb d_Model_checks_98 (by decide) ?_
    refine q_cV (rest := []) E (c_Model_zero l g n0 mo 160 0 (nI pn) (nI tn) (nI wn) 0 14 hw0 fd_3 (by decide)) w_1000 w_15 w_997 w_999 (bw_s 23 rfl) hd_Model_zero rfl ⟨by decide, by decide⟩ (OB.recv E.2.2.2.2.2 (by rfl) hm.1) hm hF hl.1 rfl (Nat.le_of_ble_eq_true rfl) d_Model_checks_101 ⟨by decide, by decide⟩ (qv (fun H8 locs hq hF => ?_))
    obtain ⟨hq, fd_4, hm, hp1⟩ := hq
    have hfr := hfr.tr hq
    have hB := hB.off1 hp1.1 (by decide)
    have hT := PM9.off hT hp1.1 (by decide) (by decide) (by decide)
    have hTU := PM9.off hTU hp1.1 (by decide) (by decide) (by decide)
    have h0 := mq_0 hp1.2
    refine lv_aload_n hx hb d_Model_checks_104 rfl (lv_at hl 0 rfl) ?_
    refine lv_sipush (v := nI 158) hx hb d_Model_checks_105 (by decide) ?_
    refine lv_sipush (v := nI 160) hx hb d_Model_checks_108 (by decide) ?_
    refine lv_sipush (v := nI 158) hx hb d_Model_checks_111 (by decide) ?_
    refine q_cV (rest := []) E (M_Model_less l g n0 mo 158 160 158 0 (nI pn) (nI tn) (nI wn) fd_4 (by decide) (by decide) (by decide) 0 _ h0 hT.2.1) w_1109 w_15 w_1106 w_1108 (bw_s 31 rfl) hd_Model_less rfl ⟨by decide, by decide⟩ (OB.recv E.2.2.2.2.2 (by rfl) hm.1) hm hF hl.1 rfl (Nat.le_of_ble_eq_true rfl) d_Model_checks_114 ⟨by decide, by decide⟩ (qv (fun H9 locs hq hF => ?_))
    obtain ⟨hq, fd_5, hm, ho, hn⟩ := hq
    have hfr := hfr.tr (kjR hq)
    have hB := hB.off1 ho (by decide)
    have hTU := PM9.off hTU ho (by decide) (by decide) (by decide)
    have hR : PM9 fd_5 157 (NG T) := ⟨hT.1.off ho (by decide), hn.cg (Int.zero_sub _), hT.2.2.off ho (by decide)⟩
    refine lv_aload_n hx hb d_Model_checks_117 rfl (lv_at hl 0 rfl) ?_
    refine lv_sipush (v := nI 164) hx hb d_Model_checks_118 (by decide) ?_
    refine lv_iload_n hx hb d_Model_checks_121 rfl (lv_at hl 1 rfl) ?_
    refine q_cS (rest := [.int (nI 164), .ref mo]) E (c_Model_slot l g n0 (nI k1)) w_1154 w_15 w_1152 w_1153 hd_Model_slot rfl ⟨by decide, by decide⟩ trivial hF hl.1 rfl (Nat.le_of_ble_eq_true rfl) d_Model_checks_122 ⟨by decide, by decide⟩ (qi (fun rs H10 locs hq hF => ?_))
    obtain ⟨hrs, hq9⟩ := hq
    subst hrs
    subst hq9
    refine lv_topi (fun t9 e9 => ?_)
    obtain rfl : t9 = nI (32 + 3 * k1) := e9.trans (by rw [pk_mul, nI_add])
    refine lv_sipush (v := nI 157) hx hb d_Model_checks_125 (by decide) ?_
    refine q_cV (rest := []) E (M_Model_sum l g n0 mo 164 (32 + 3 * k1) 157 0 (nI pn) (nI tn) (nI wn) fd_5 fa (Or.inr ⟨by decide, by decide⟩) (Or.inl (by omega)) (Or.inr ⟨by decide, by decide⟩) hAQ (ptB B (32 + 3 * k1)) (NG T)) w_1175 w_15 w_1172 w_1174 (bw_s 42 rfl) hd_Model_sum rfl ⟨by decide, by decide⟩ (OB.recv E.2.2.2.2.2 (by rfl) hm.1) (⟨hm, (AJ.off hfr (show ¬ MR mo (mo + 4) by unfold MR; omega) hab0), hB.pm (by omega), hR⟩) hF hl.1 rfl (Nat.le_of_ble_eq_true rfl) d_Model_checks_128 ⟨by decide, by decide⟩ (qv (fun H11 locs hq hF => ?_))
    obtain ⟨hq, -, fd_6, hm, hS, hS9⟩ := hq
    have hfr := hfr.tr hq
    have hB := hB.sm hS (fun t h => by omega)
    have hTU := PM9.sm hTU hS (by omega) (by omega) (by omega)
    have hoS : onC (AD (ptB B (32 + 3 * k1)) (NG T)) := (hon k1 (by omega)).ad hRP.1.ng
    refine lv_aload_n hx hb d_Model_checks_131 rfl (lv_at hl 0 rfl) ?_
    refine lv_sipush (v := nI 164) hx hb d_Model_checks_132 (by decide) ?_
    refine lv_sipush (v := nI 161) hx hb d_Model_checks_135 (by decide) ?_
    refine q_cV (rest := []) E (M_Model_alike l g n0 mo 164 161 0 (nI pn) (nI tn) (nI wn) fd_6 fa (Or.inr ⟨by decide, by decide⟩) (Or.inr ⟨by decide, by decide⟩) hAQ (AD (ptB B (32 + 3 * k1)) (NG T)) Uq hoS hRU.1) w_1218 w_15 w_1215 w_1217 (bw_s 46 rfl) hd_Model_alike rfl ⟨by decide, by decide⟩ (OB.recv E.2.2.2.2.2 (by rfl) hm.1) (⟨hm, (AJ.off hfr (show ¬ MR mo (mo + 4) by unfold MR; omega) hab0), hS9, hTU⟩) hF hl.1 rfl (Nat.le_of_ble_eq_true rfl) d_Model_checks_138 ⟨by decide, by decide⟩ (qi (fun rz H12 locs hq hF => ?_))
    obtain ⟨hrz, hq, fd9, hm, hS⟩ := hq
    have hfr := hfr.tr hq
    have hB := hB.sm hS (fun t h => by omega)
    exact q_zret E hr (by rcases hrz with h | h <;> rw [h.1] <;> rfl) hlk (⟨rz, rfl, Or.inl ⟨hok, k1, k2, k3, k4, k5, e_k1, e_k2, e_k3, e_k4, e_k5, by omega, by omega, by omega, by omega, by omega, ⟨Uq, T, hRU, hRP, hrz⟩, hP.keep hfr hw0 hm hB⟩⟩) hF d_Model_checks_141
  refine lv_aload_n hx hb d_Model_checks_0 rfl (lv_at hl 0 rfl) ?_
  refine lv_iload_n hx hb d_Model_checks_1 rfl (lv_at hl 1 rfl) ?_
  refine q_cS (rest := [.ref mo]) E (c_Model_noPoint l g n0 a ) w_1151 w_15 w_1149 w_1150 hd_Model_noPoint rfl ⟨by decide, by decide⟩ trivial hF hl.1 rfl (Nat.le_of_ble_eq_true rfl) d_Model_checks_2 ⟨by decide, by decide⟩ (qi (fun r_0 H1 locs hq hF => ?_))
  obtain ⟨h_0, hq⟩ := hq
  subst hq
  rcases h_0 with ⟨rfl, f_0⟩ | ⟨rfl, f_0⟩
  · skip
    refine lv_if_ne (tgt := 38) hx hb d_Model_checks_5 (by decide) (fun _ => ?_) (fun h9 => absurd h9 (by decide))
    refine lv_iconst (v := nI 1) hx hb d_Model_checks_38 (by decide) ?_
    refine lv_goto (tgt := 43) hx hb d_Model_checks_39 (by decide) ?_
    have hl : lv_has ls 6 [(0, .ref mo), (1, .int a), (2, .int a2), (3, .int a3), (4, .int a4), (5, .int a5)] := lv_sub hl [0, 1, 2, 3, 4, 5] rfl
    exact bad _ ls (fun h => (f_0) h.1) hF hl
  · skip
    refine lv_if_ne (tgt := 38) hx hb d_Model_checks_5 (by decide) (fun h9 => absurd (by decide) h9) (fun _ => ?_)
    refine lv_iload_n hx hb d_Model_checks_8 rfl (lv_at hl 2 rfl) ?_
    refine q_cS (rest := [.ref mo]) E (c_Model_noPoint l g n0 a2 ) w_1151 w_15 w_1149 w_1150 hd_Model_noPoint rfl ⟨by decide, by decide⟩ trivial hF hl.1 rfl (Nat.le_of_ble_eq_true rfl) d_Model_checks_9 ⟨by decide, by decide⟩ (qi (fun r_1 H2 locs hq hF => ?_))
    obtain ⟨h_1, hq⟩ := hq
    subst hq
    rcases h_1 with ⟨rfl, f_1⟩ | ⟨rfl, f_1⟩
    · skip
      refine lv_if_ne (tgt := 38) hx hb d_Model_checks_12 (by decide) (fun _ => ?_) (fun h9 => absurd h9 (by decide))
      refine lv_iconst (v := nI 1) hx hb d_Model_checks_38 (by decide) ?_
      refine lv_goto (tgt := 43) hx hb d_Model_checks_39 (by decide) ?_
      have hl : lv_has ls 6 [(0, .ref mo), (1, .int a), (2, .int a2), (3, .int a3), (4, .int a4), (5, .int a5)] := lv_sub hl [0, 1, 2, 3, 4, 5] rfl
      exact bad _ ls (fun h => (f_1) h.2.1) hF hl
    · skip
      refine lv_if_ne (tgt := 38) hx hb d_Model_checks_12 (by decide) (fun h9 => absurd (by decide) h9) (fun _ => ?_)
      refine lv_iload_n hx hb d_Model_checks_15 rfl (lv_at hl 3 rfl) ?_
      refine q_cS (rest := [.ref mo]) E (c_Model_noScalar l g n0 a3 ) w_1064 w_15 w_1062 w_1063 hd_Model_noScalar rfl ⟨by decide, by decide⟩ trivial hF hl.1 rfl (Nat.le_of_ble_eq_true rfl) d_Model_checks_16 ⟨by decide, by decide⟩ (qi (fun r_2 H3 locs hq hF => ?_))
      obtain ⟨h_2, hq⟩ := hq
      subst hq
      rcases h_2 with ⟨rfl, f_2⟩ | ⟨rfl, f_2⟩
      · skip
        refine lv_if_ne (tgt := 38) hx hb d_Model_checks_19 (by decide) (fun _ => ?_) (fun h9 => absurd h9 (by decide))
        refine lv_iconst (v := nI 1) hx hb d_Model_checks_38 (by decide) ?_
        refine lv_goto (tgt := 43) hx hb d_Model_checks_39 (by decide) ?_
        have hl : lv_has ls 6 [(0, .ref mo), (1, .int a), (2, .int a2), (3, .int a3), (4, .int a4), (5, .int a5)] := lv_sub hl [0, 1, 2, 3, 4, 5] rfl
        exact bad _ ls (fun h => (f_2) h.2.2.1) hF hl
      · skip
        refine lv_if_ne (tgt := 38) hx hb d_Model_checks_19 (by decide) (fun h9 => absurd (by decide) h9) (fun _ => ?_)
        refine lv_iload hx hb d_Model_checks_22 (lv_at hl 4 rfl) ?_
        refine q_cS (rest := [.ref mo]) E (c_Model_noScalar l g n0 a4 ) w_1064 w_15 w_1062 w_1063 hd_Model_noScalar rfl ⟨by decide, by decide⟩ trivial hF hl.1 rfl (Nat.le_of_ble_eq_true rfl) d_Model_checks_24 ⟨by decide, by decide⟩ (qi (fun r_3 H4 locs hq hF => ?_))
        obtain ⟨h_3, hq⟩ := hq
        subst hq
        rcases h_3 with ⟨rfl, f_3⟩ | ⟨rfl, f_3⟩
        · skip
          refine lv_if_ne (tgt := 38) hx hb d_Model_checks_27 (by decide) (fun _ => ?_) (fun h9 => absurd h9 (by decide))
          refine lv_iconst (v := nI 1) hx hb d_Model_checks_38 (by decide) ?_
          refine lv_goto (tgt := 43) hx hb d_Model_checks_39 (by decide) ?_
          have hl : lv_has ls 6 [(0, .ref mo), (1, .int a), (2, .int a2), (3, .int a3), (4, .int a4), (5, .int a5)] := lv_sub hl [0, 1, 2, 3, 4, 5] rfl
          exact bad _ ls (fun h => (f_3) h.2.2.2.1) hF hl
        · skip
          refine lv_if_ne (tgt := 38) hx hb d_Model_checks_27 (by decide) (fun h9 => absurd (by decide) h9) (fun _ => ?_)
          refine lv_iload hx hb d_Model_checks_30 (lv_at hl 5 rfl) ?_
          refine q_cS (rest := [.ref mo]) E (c_Model_noScalar l g n0 a5 ) w_1064 w_15 w_1062 w_1063 hd_Model_noScalar rfl ⟨by decide, by decide⟩ trivial hF hl.1 rfl (Nat.le_of_ble_eq_true rfl) d_Model_checks_32 ⟨by decide, by decide⟩ (qi (fun r_4 H5 locs hq hF => ?_))
          obtain ⟨h_4, hq⟩ := hq
          subst hq
          rcases h_4 with ⟨rfl, f_4⟩ | ⟨rfl, f_4⟩
          · skip
            refine lv_if_eq (tgt := 42) hx hb d_Model_checks_35 (by decide) (fun h9 => absurd h9 (by decide)) (fun _ => ?_)
            refine lv_iconst (v := nI 1) hx hb d_Model_checks_38 (by decide) ?_
            refine lv_goto (tgt := 43) hx hb d_Model_checks_39 (by decide) ?_
            have hl : lv_has ls 6 [(0, .ref mo), (1, .int a), (2, .int a2), (3, .int a3), (4, .int a4), (5, .int a5)] := lv_sub hl [0, 1, 2, 3, 4, 5] rfl
            exact bad _ ls (fun h => (f_4) h.2.2.2.2) hF hl
          · skip
            refine lv_if_eq (tgt := 42) hx hb d_Model_checks_35 (by decide) (fun _ => ?_) (fun h9 => absurd (by decide) h9)
            refine lv_iconst (v := nI 0) hx hb d_Model_checks_42 (by decide) ?_
            have hl : lv_has ls 6 [(0, .ref mo), (1, .int a), (2, .int a2), (3, .int a3), (4, .int a4), (5, .int a5)] := lv_sub hl [0, 1, 2, 3, 4, 5] rfl
            exact good _ ls ⟨f_0, f_1, f_2, f_3, f_4⟩ hF hl
set_option maxHeartbeats 4000000 in
set_option maxRecDepth 100000 in
theorem W_Model_setup (l : Launch) (g : WG) (n0 : Nat → Prop) (mo : Nat) (th : Int32) (pn tn wn : Nat) (B : Nat → Int) (a : Int32) (n : Int32) (hoG : onC (ptB B 116)) : Ctr l y_Model_setup (.code y_Model_setup prog_11_method_54_code 4 none) 6 143 0 0 n0 g [.ref mo, .int a, .int n] (fun H => MVP g n0 H mo th pn tn wn B) (QV (fun H H' => ((okS a (nI 1) ∧ okC n (nI 1) (nI 16)) ∧ (∃ k1 k2, a = nI k1 ∧ n = nI k2 ∧ k1 < 32 ∧ k2 ≤ 16 ∧ ∃ B1, (∀ k, k < 68 ∨ 116 ≤ k → B1 k = B k) ∧ (∀ j, j < k2 → RP (ptB B 116) (B k1 ^ j % RI) (ptB B1 (68 + 3 * j))) ∧ MVP g n0 H' mo 0 k2 tn wn B1)) ∨ (¬ (okS a (nI 1) ∧ okC n (nI 1) (nI 16)) ∧ MVP g n0 H' mo 1 pn tn wn B))) := by
  refine ctr_mk l (lv0 := [(0, .ref mo), (1, .int a), (2, .int n)]) (by decide) (Nat.le_of_ble_eq_true rfl) rfl ?_
  intro p e s m below meth c ls E hr hlk hnm hl hP
  have hx := E.1
  have hb := E.2.1
  have hK := E.2.2.2.2.2
  have hF : ∀ q ∈ ([] : List Loc), n0 q.base := fun q hq => absurd hq List.not_mem_nil
  obtain ⟨⟨w9, n9, fd, hw9, hm, hB⟩, ⟨fa, hab0, hAT, hAQ⟩, hho, -, -, hbd, hmn, -, -, hn8⟩ := id hP
  have hfr : FRM (MR mo) s.heap s.heap := FRM.rf
  have bad : ∀ (locs : List Loc) (ls : Array Slot), ¬ (okS a (nI 1) ∧ okC n (nI 1) (nI 16)) → (∀ q ∈ locs, n0 q.base) → lv_has ls 4 [(0, .ref mo), (1, .int a), (2, .int n)] → W p l e { frames := 6, cells := 0, slots := 0, locals := 143 } s m [.ref mo, .int a, .int n].toArray below meth c s.heap locs 0 0 (MQ below (QcP (QV (fun H H' => ((okS a (nI 1) ∧ okC n (nI 1) (nI 16)) ∧ (∃ k1 k2, a = nI k1 ∧ n = nI k2 ∧ k1 < 32 ∧ k2 ≤ 16 ∧ ∃ B1, (∀ k, k < 68 ∨ 116 ≤ k → B1 k = B k) ∧ (∀ j, j < k2 → RP (ptB B 116) (B k1 ^ j % RI) (ptB B1 (68 + 3 * j))) ∧ MVP g n0 H' mo 0 k2 tn wn B1)) ∨ (¬ (okS a (nI 1) ∧ okC n (nI 1) (nI 16)) ∧ MVP g n0 H' mo 1 pn tn wn B)))) [.ref mo, .int a, .int n].toArray s 0 0 (fun q => n0 q)) (F0 m 25 ls [.int (nI 1), .ref mo]) := by
    intro  locs   ls hno hF hl
    refine lv_iconst (v := nI 1) hx hb d_Model_setup_25 (by decide) ?_
    refine q_cV (rest := []) E (c_Model_fails l g n0 mo th (nI pn) (nI tn) (nI wn) w9 n9 hw9 (nI 1) (nI 1) fd hmn (Or.inl rfl)) w_1056 w_15 w_1053 w_1055 (bw_s 24 rfl) hd_Model_fails rfl ⟨by decide, by decide⟩ (OB.recv E.2.2.2.2.2 (by rfl) hm.1) hm hF hl.1 rfl (Nat.le_of_ble_eq_true rfl) d_Model_setup_26 ⟨by decide, by decide⟩ (qi (fun rf H1 locs hq hF => ?_))
    obtain ⟨hrf, hq, hm⟩ := hq
    subst hrf
    have hfr := hfr.tr hq
    rw [if_neg (by decide)] at hm
    refine lv_if_eq (tgt := 33) hx hb d_Model_setup_29 (by decide) (fun h9 => absurd h9 (by decide)) (fun _ => ?_)
    exact q_vret E hr hlk (⟨rfl, Or.inr ⟨hno, hP.keep hfr hw9 hm hB⟩⟩) hF d_Model_setup_32
  have good : ∀ (locs : List Loc) (ls : Array Slot), okS a (nI 1) ∧ okC n (nI 1) (nI 16) → (∀ q ∈ locs, n0 q.base) → lv_has ls 4 [(0, .ref mo), (1, .int a), (2, .int n)] → W p l e { frames := 6, cells := 0, slots := 0, locals := 143 } s m [.ref mo, .int a, .int n].toArray below meth c s.heap locs 0 0 (MQ below (QcP (QV (fun H H' => ((okS a (nI 1) ∧ okC n (nI 1) (nI 16)) ∧ (∃ k1 k2, a = nI k1 ∧ n = nI k2 ∧ k1 < 32 ∧ k2 ≤ 16 ∧ ∃ B1, (∀ k, k < 68 ∨ 116 ≤ k → B1 k = B k) ∧ (∀ j, j < k2 → RP (ptB B 116) (B k1 ^ j % RI) (ptB B1 (68 + 3 * j))) ∧ MVP g n0 H' mo 0 k2 tn wn B1)) ∨ (¬ (okS a (nI 1) ∧ okC n (nI 1) (nI 16)) ∧ MVP g n0 H' mo 1 pn tn wn B)))) [.ref mo, .int a, .int n].toArray s 0 0 (fun q => n0 q)) (F0 m 25 ls [.int (nI 0), .ref mo]) := by
    intro  locs   ls hok hF hl
    refine lv_iconst (v := nI 1) hx hb d_Model_setup_25 (by decide) ?_
    refine q_cV (rest := []) E (c_Model_fails l g n0 mo th (nI pn) (nI tn) (nI wn) w9 n9 hw9 (nI 0) (nI 1) fd hmn (Or.inr rfl)) w_1056 w_15 w_1053 w_1055 (bw_s 24 rfl) hd_Model_fails rfl ⟨by decide, by decide⟩ (OB.recv E.2.2.2.2.2 (by rfl) hm.1) hm hF hl.1 rfl (Nat.le_of_ble_eq_true rfl) d_Model_setup_26 ⟨by decide, by decide⟩ (qi (fun rf H1 locs hq hF => ?_))
    obtain ⟨hrf, hq, hm⟩ := hq
    subst hrf
    have hfr := hfr.tr hq
    rw [if_pos nI_0] at hm
    refine lv_if_eq (tgt := 33) hx hb d_Model_setup_29 (by decide) (fun _ => ?_) (fun h9 => absurd (by decide) h9)
    obtain ⟨k1, e_k1, h_k1⟩ := okS_nat (by decide) (by decide) hok.1
    rw [e_k1] at hl
    obtain ⟨k2, e_k2, h_k2, h2_k2⟩ := okC_nat (by decide) (by decide) hok.2
    rw [e_k2] at hl
    refine lv_aload_n hx hb d_Model_setup_33 rfl (lv_at hl 0 rfl) ?_
    refine lv_iload_n hx hb d_Model_setup_34 rfl (lv_at hl 2 rfl) ?_
    refine q_put (C := "KateDeskModel") (T := T_Model) (N := 14) (ci := 8) (ty := .int) E hm.1 in_Model ty_Model tyok_Model nm_Model rfl 8 (by decide) w_1009 rfl rfl (by decide +kernel) rfl rfl (Nat.le_of_ble_eq_true rfl) hmn hF d_Model_setup_35 (fun H2 locs hq ho2 hF => ?_)
    have hm : MS g n0 H2 mo 0 (nI k2) (nI tn) (nI wn) w9 n9 fd := hm.frm hq (by omega) (by omega) (by omega) (by omega) ho2
    have hfr := hfr.tr (hq.mono (fun q h => Or.inl h))
    refine lv_aload_n hx hb d_Model_setup_38 rfl (lv_at hl 0 rfl) ?_
    refine lv_sipush (v := nI 165) hx hb d_Model_setup_39 (by decide) ?_
    refine q_cV (rest := []) E (c_Model_one l g n0 mo 165 0 (nI k2) (nI tn) (nI wn) w9 n9 hw9 fd (by decide)) w_971 w_15 w_968 w_970 (bw_s 16 rfl) hd_Model_one rfl ⟨by decide, by decide⟩ (OB.recv E.2.2.2.2.2 (by rfl) hm.1) hm hF hl.1 rfl (Nat.le_of_ble_eq_true rfl) d_Model_setup_42 ⟨by decide, by decide⟩ (qv (fun H3 locs hq hF => ?_))
    obtain ⟨hq, fd_1, hm, hp1⟩ := hq
    have hfr := hfr.tr hq
    have hB := hB.off1 hp1.1 (by decide)
    have h165 : NV fd_1 165 (B k1 ^ 0 % RI) := (VL_ext (h := fun k => if k = 0 then (1 : Int64) else 0) (fun k hk => hp1.2 k hk)).trans (by rw [Int.pow_zero]; decide +kernel)
    refine lv_iconst (v := nI 0) hx hb d_Model_setup_45 (by decide) ?_
    refine lv_istore_n (lv' := [(3, .int (nI 0)), (0, .ref mo), (1, .int (nI k1)), (2, .int (nI k2))]) hx hb d_Model_setup_46 rfl hl (by decide) rfl (fun ls hl => ?_)
    have hl : lv_has ls 4 [(3, .int (nI 0)), (0, .ref mo), (1, .int (nI k1)), (2, .int (nI k2))] := lv_sub hl [0, 1, 2, 3] rfl
    have loop : ∀ (k : Nat) (i : Nat) (H : Heap) (locs : List Loc) (ls : Array Slot) (w n8 : Nat) (fd1 : Nat → Int64) (B1 : Nat → Int), i + k = k2 → WH w n8 → FRM (MR mo) s.heap H → MS g n0 H mo 0 (nI k2) (nI tn) (nI wn) w n8 fd1 → BV9 fd1 B1 → NV fd1 165 (B k1 ^ i % RI) → (∀ j, j < i → RP (ptB B 116) (B k1 ^ j % RI) (ptB B1 (68 + 3 * j))) → (∀ k, k < 68 ∨ 116 ≤ k → B1 k = B k) → (∀ q ∈ locs, n0 q.base) → lv_has ls 4 [(3, .int (nI i)), (0, .ref mo), (1, .int (nI k1)), (2, .int (nI k2))] → W p l e { frames := 6, cells := 0, slots := 0, locals := 143 } s m [.ref mo, .int a, .int n].toArray below meth c H locs 0 0 (MQ below (QcP (QV (fun H H' => ((okS a (nI 1) ∧ okC n (nI 1) (nI 16)) ∧ (∃ k1 k2, a = nI k1 ∧ n = nI k2 ∧ k1 < 32 ∧ k2 ≤ 16 ∧ ∃ B1, (∀ k, k < 68 ∨ 116 ≤ k → B1 k = B k) ∧ (∀ j, j < k2 → RP (ptB B 116) (B k1 ^ j % RI) (ptB B1 (68 + 3 * j))) ∧ MVP g n0 H' mo 0 k2 tn wn B1)) ∨ (¬ (okS a (nI 1) ∧ okC n (nI 1) (nI 16)) ∧ MVP g n0 H' mo 1 pn tn wn B)))) [.ref mo, .int a, .int n].toArray s 0 0 (fun q => n0 q)) (F0 m 47 ls []) := by
      intro k
      induction k with
      | zero =>
        intro  i   H   locs   ls   w n8   fd1   B1 hi hw hfr hm hB h165 hPB hsa hF hl
        obtain rfl : i = k2 := by omega
        refine lv_iload_n hx hb d_Model_setup_47 rfl (lv_at hl 0 rfl) ?_
        refine lv_iload_n hx hb d_Model_setup_48 rfl (lv_at hl 3 rfl) ?_
        refine lv_icmp_ge (tgt := 94) hx hb d_Model_setup_49 (by decide) (fun _ => ?_) (fun h9 => absurd (nI_le (Nat.le_refl _) (by omega)) h9)
        exact q_vret E hr hlk (⟨rfl, Or.inl ⟨hok, k1, _, e_k1, e_k2, by omega, by omega, B1, hsa, hPB, hP.fin hfr hw hm hB ⟨by omega, hbd.2⟩⟩⟩) hF d_Model_setup_94
      | succ k ih =>
        intro  i   H   locs   ls   w n8   fd1   B1 hi hw hfr hm hB h165 hPB hsa hF hl
        refine lv_iload_n hx hb d_Model_setup_47 rfl (lv_at hl 0 rfl) ?_
        refine lv_iload_n hx hb d_Model_setup_48 rfl (lv_at hl 3 rfl) ?_
        refine lv_icmp_ge (tgt := 94) hx hb d_Model_setup_49 (by decide) (fun h9 => absurd h9 (nI_ge (by omega) (by omega))) (fun _ => ?_)
        refine lv_aload_n hx hb d_Model_setup_52 rfl (lv_at hl 1 rfl) ?_
        refine lv_iconst (v := nI 0) hx hb d_Model_setup_53 (by decide) ?_
        refine q_cV (rest := []) E (c_Model_use l g n0 mo 0 (nI k2) (nI tn) (nI wn) w n8 hw 0 14 hw0 fd1 hmn) w_967 w_15 w_964 w_966 (bw_s 15 rfl) hd_Model_use rfl ⟨by decide, by decide⟩ (OB.recv E.2.2.2.2.2 (by rfl) hm.1) hm hF hl.1 rfl (Nat.le_of_ble_eq_true rfl) d_Model_setup_54 ⟨by decide, by decide⟩ (qv (fun H1 locs hq hF => ?_))
        obtain ⟨hq, hm⟩ := hq
        have hfr := hfr.tr hq
        refine lv_aload_n hx hb d_Model_setup_57 rfl (lv_at hl 1 rfl) ?_
        refine lv_bipush (v := nI 68) hx hb d_Model_setup_58 (by decide) ?_
        refine lv_iconst (v := nI 3) hx hb d_Model_setup_60 (by decide) ?_
        refine lv_iload_n hx hb d_Model_setup_61 rfl (lv_at hl 0 rfl) ?_
        refine lv_imul hx hb d_Model_setup_62 ?_
        refine lv_topi (fun t9 e9 => ?_)
        obtain rfl : t9 = nI (3 * i) := e9.trans (pk_mul _ _)
        refine lv_iadd hx hb d_Model_setup_63 ?_
        refine lv_topi (fun t9 e9 => ?_)
        obtain rfl : t9 = nI (68 + (3 * i)) := e9.trans (nI_add _ _)
        refine lv_sipush (v := nI 165) hx hb d_Model_setup_64 (by decide) ?_
        refine lv_bipush (v := nI 116) hx hb d_Model_setup_67 (by decide) ?_
        have hE : NV fd1 165 (((B k1 ^ i % RI).toNat : Nat) : Int) := by rw [Int.toNat_of_nonneg (rm_r _).1]; exact h165
        have hG : ptB B1 116 = ptB B 116 := by show (B1 116, B1 117, B1 118) = (B 116, B 117, B 118); rw [hsa 116 (by omega), hsa 117 (by omega), hsa 118 (by omega)]
        refine q_cV (rest := []) E (M_Model_multiple l g n0 mo (68 + 3 * i) 165 116 0 (nI k2) (nI tn) (nI wn) fd1 fa (Or.inl (by omega)) (Or.inr ⟨by decide, by decide⟩) (Or.inl (by decide)) hAQ (ptB B1 116) (by rw [hG]; exact hoG) (B k1 ^ i % RI).toNat) w_1167 w_15 w_1164 w_1166 (bw_s 40 rfl) hd_Model_multiple rfl ⟨by decide, by decide⟩ (OB.recv E.2.2.2.2.2 (by rfl) hm.1) (⟨hm, (AJ.off hfr (show ¬ MR mo (mo + 4) by unfold MR; omega) hab0), hE, hB.pm (by decide)⟩) hF hl.1 rfl (Nat.le_of_ble_eq_true rfl) d_Model_setup_69 ⟨by decide, by decide⟩ (qv (fun H2 locs hq hF => ?_))
        obtain ⟨hq, -, fd_2, hm, hS, T, hRP, hT⟩ := hq
        have hfr := hfr.tr hq
        rw [Int.toNat_of_nonneg (rm_r _).1, hG] at hRP
        have h165 : NV fd_2 165 (B k1 ^ i % RI) := (hS.sv (by omega) (Nat.le_refl 14)).trans h165
        have hB := hB.set hS (fun t h => by omega) hT (by omega)
        have hPB := PB_nx hPB hRP
        have hsa : ∀ k, k < 68 ∨ 116 ≤ k → updP B1 (68 + 3 * i) T k = B k := fun k hk => (upd_oth (by omega)).trans (hsa k hk)
        obtain ⟨B2, eB2⟩ : ∃ B2, B2 = updP B1 (68 + 3 * i) T := ⟨_, rfl⟩
        rw [← eB2] at hB hPB hsa
        have hk1 : B2 k1 = B k1 := hsa k1 (by omega)
        refine lv_aload_n hx hb d_Model_setup_72 rfl (lv_at hl 1 rfl) ?_
        refine lv_iconst (v := nI 1) hx hb d_Model_setup_73 (by decide) ?_
        refine q_cV (rest := []) E (c_Model_use l g n0 mo 0 (nI k2) (nI tn) (nI wn) 0 14 hw0 1 10 hw1 fd_2 hmn) w_967 w_15 w_964 w_966 (bw_s 15 rfl) hd_Model_use rfl ⟨by decide, by decide⟩ (OB.recv E.2.2.2.2.2 (by rfl) hm.1) hm hF hl.1 rfl (Nat.le_of_ble_eq_true rfl) d_Model_setup_74 ⟨by decide, by decide⟩ (qv (fun H3 locs hq hF => ?_))
        obtain ⟨hq, hm⟩ := hq
        have hfr := hfr.tr hq
        refine lv_aload_n hx hb d_Model_setup_77 rfl (lv_at hl 1 rfl) ?_
        refine lv_sipush (v := nI 165) hx hb d_Model_setup_78 (by decide) ?_
        refine lv_sipush (v := nI 165) hx hb d_Model_setup_81 (by decide) ?_
        refine lv_iload_n hx hb d_Model_setup_84 rfl (lv_at hl 2 rfl) ?_
        refine q_cV (rest := []) E (N_Model_product l g n0 mo 165 165 k1 0 (nI k2) (nI tn) (nI wn) fd_2 (by decide) (by decide) (by omega) fa hAT (B k1 ^ i % RI) (B k1) hm.2.2.2.2.2.1 h165 (by rw [← hk1]; exact (hB k1 (by omega)).1) (rm_r _).2 (by rw [← hk1]; exact (hB k1 (by omega)).2.1 (by omega))) w_1113 w_15 w_1110 w_1112 (bw_s 32 rfl) hd_Model_product rfl ⟨by decide, by decide⟩ (OB.recv E.2.2.2.2.2 (by rfl) hm.1) (⟨hm, (AJ.off hfr (show ¬ MR mo (mo + 4) by unfold MR; omega) hab0)⟩) hF hl.1 rfl (Nat.le_of_ble_eq_true rfl) d_Model_setup_85 ⟨by decide, by decide⟩ (qv (fun H4 locs hq hF => ?_))
        obtain ⟨hq, fd_3, hm, ho, hn⟩ := hq
        have hfr := hfr.tr (kjR hq)
        have hB := hB.off1 ho (by decide)
        rw [pw_m] at hn
        refine lv_iinc (k := 0) (v := nI (i + 1)) (lv' := [(3, .int (nI (i + 1))), (0, .ref mo), (1, .int (nI k1)), (2, .int (nI k2))]) hx hb d_Model_setup_88 hl rfl (i_inc i) (by decide) rfl (fun ls hl => ?_)
        refine lv_goto (tgt := 47) hx hb d_Model_setup_91 (by decide) ?_
        have hl : lv_has ls 4 [(3, .int (nI (i + 1))), (0, .ref mo), (1, .int (nI k1)), (2, .int (nI k2))] := lv_sub hl [0, 1, 2, 3] rfl
        exact ih (i + 1) _ _ ls 1 10 _ B2 (by omega) hw1 hfr hm hB hn hPB hsa hF hl
    exact loop k2 0 _ _ ls w9 n9 _ B (by omega) hw9 hfr hm hB h165 (fun j hj => absurd hj (Nat.not_lt_zero _)) (fun k _ => rfl) hF hl
  refine lv_aload_n hx hb d_Model_setup_0 rfl (lv_at hl 0 rfl) ?_
  refine lv_iload_n hx hb d_Model_setup_1 rfl (lv_at hl 1 rfl) ?_
  refine q_cS (rest := [.ref mo]) E (c_Model_noScalar l g n0 a ) w_1064 w_15 w_1062 w_1063 hd_Model_noScalar rfl ⟨by decide, by decide⟩ trivial hF hl.1 rfl (Nat.le_of_ble_eq_true rfl) d_Model_setup_2 ⟨by decide, by decide⟩ (qi (fun r_0 H1 locs hq hF => ?_))
  obtain ⟨h_0, hq⟩ := hq
  subst hq
  rcases h_0 with ⟨rfl, f_0⟩ | ⟨rfl, f_0⟩
  · skip
    refine lv_if_ne (tgt := 20) hx hb d_Model_setup_5 (by decide) (fun _ => ?_) (fun h9 => absurd h9 (by decide))
    refine lv_iconst (v := nI 1) hx hb d_Model_setup_20 (by decide) ?_
    refine lv_goto (tgt := 25) hx hb d_Model_setup_21 (by decide) ?_
    have hl : lv_has ls 4 [(0, .ref mo), (1, .int a), (2, .int n)] := lv_sub hl [0, 1, 2] rfl
    exact bad _ ls (fun h => (f_0) h.1) hF hl
  · skip
    refine lv_if_ne (tgt := 20) hx hb d_Model_setup_5 (by decide) (fun h9 => absurd (by decide) h9) (fun _ => ?_)
    refine lv_iload_n hx hb d_Model_setup_8 rfl (lv_at hl 2 rfl) ?_
    refine lv_i2l (v := n.toInt64) hx hb d_Model_setup_9 rfl ?_
    refine lv_lconst (v := 1) hx hb d_Model_setup_10 (by decide) ?_
    refine lv_ldc2 (v := 16) hx hb E.2.2.2.1 (E.2.2.2.2.1 _ w_1223) d_Model_setup_11 ?_
    refine q_cS (rest := [.ref mo]) E (c_Model_in l g n0 n.toInt64 1 16 ) w_1101 w_15 w_1099 w_1100 hd_Model_in rfl ⟨by decide, by decide⟩ trivial hF hl.1 rfl (Nat.le_of_ble_eq_true rfl) d_Model_setup_14 ⟨by decide, by decide⟩ (qi (fun r_1 H2 locs hq hF => ?_))
    obtain ⟨h_1, hq⟩ := hq
    subst hq
    rcases h_1 with ⟨rfl, f_1⟩ | ⟨rfl, f_1⟩
    · skip
      refine lv_if_ne (tgt := 24) hx hb d_Model_setup_17 (by decide) (fun h9 => absurd (by decide) h9) (fun _ => ?_)
      refine lv_iconst (v := nI 1) hx hb d_Model_setup_20 (by decide) ?_
      refine lv_goto (tgt := 25) hx hb d_Model_setup_21 (by decide) ?_
      have hl : lv_has ls 4 [(0, .ref mo), (1, .int a), (2, .int n)] := lv_sub hl [0, 1, 2] rfl
      exact bad _ ls (fun h => (fun q => f_1 ((in_okC (a := 1) (b := 16) (by decide) (by decide) (by decide) (by decide)).mpr q)) h.2) hF hl
    · skip
      refine lv_if_ne (tgt := 24) hx hb d_Model_setup_17 (by decide) (fun _ => ?_) (fun h9 => absurd h9 (by decide))
      refine lv_iconst (v := nI 0) hx hb d_Model_setup_24 (by decide) ?_
      have hl : lv_has ls 4 [(0, .ref mo), (1, .int a), (2, .int n)] := lv_sub hl [0, 1, 2] rfl
      exact good _ ls ⟨f_0, (in_okC (a := 1) (b := 16) (by decide) (by decide) (by decide) (by decide)).mp f_1⟩ hF hl
