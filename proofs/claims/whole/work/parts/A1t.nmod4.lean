set_option maxHeartbeats 4000000 in
set_option maxRecDepth 100000 in
theorem N_Model_value (l : Launch) (g : WG) (n0 : Nat → Prop) (mo r a c9 zs : Nat) (th pw td wr : Int32) (fd fa : Nat → Int64) (hr1 : r < 170) (hac : a + c9 ≤ 167) (hz1 : zs < 170) (hz7 : zs ≠ 167) (hAT : (∀ j, j ≤ 10 → PP 1 10 ∣ VL (fun k => fa (210 * 1 + 14 * j + k)) 10 - 268435456 ^ (10 + j))) (B : Nat → Int) (Z : Int) (hZ : NV fd zs Z) (hZr : Z < RI) (hB : ∀ k, k < c9 → NV fd (a + k) (B (a + k)) ∧ B (a + k) < RI) : Ctr l y_Model_value (.code y_Model_value prog_11_method_56_code 6 none) 3 79 0 0 n0 g [.ref mo, .int (nI r), .int (nI a), .int (nI c9), .int (nI zs)] (fun H => MS g n0 H mo th pw td wr 1 10 fd ∧ AJ g H (mo + 4) 420 fa) (QV (fun H H' => FRM (MR mo) H H' ∧ AJ g H' (mo + 4) 420 fa ∧ ∃ fd', MS g n0 H' mo th pw td wr 1 10 fd' ∧ (∀ j, (j < 14 * 167 ∨ 14 * 167 + 14 ≤ j) → (j < 14 * r ∨ 14 * r + 14 ≤ j) → fd' j = fd j) ∧ NV fd' r (hvS B a Z c9 0))) := by
  refine ctr_mk l (lv0 := [(0, .ref mo), (1, .int (nI r)), (2, .int (nI a)), (3, .int (nI c9)), (4, .int (nI zs))]) (by decide) (Nat.le_of_ble_eq_true rfl) rfl ?_
  intro p e s m below meth c ls E hr hlk hnm hl hP
  have hx := E.1
  have hb := E.2.1
  have hK := E.2.2.2.2.2
  have hF : ∀ q ∈ ([] : List Loc), n0 q.base := fun q hq => absurd hq List.not_mem_nil
  obtain ⟨hm, hab⟩ := hP
  have hfr : FRM (MR mo) s.heap s.heap := FRM.rf
  have loop : ∀ (k : Nat) (H : Heap) (locs : List Loc) (ls : Array Slot) (v : Int32) (fd1 : Nat → Int64) (v1 : Int), k ≤ c9 → v = nI k - 1 → hvS B a Z k v1 = hvS B a Z c9 0 → v1 < RI → FRM (MR mo) s.heap H → MS g n0 H mo th pw td wr 1 10 fd1 → AJ g H (mo + 4) 420 fa → NV fd1 167 v1 → (∀ j, (j < 14 * 167 ∨ 14 * 167 + 14 ≤ j) → fd1 j = fd j) → (∀ q ∈ locs, n0 q.base) → lv_has ls 6 [(5, .int v), (0, .ref mo), (1, .int (nI r)), (2, .int (nI a)), (4, .int (nI zs))] → W p l e { frames := 3, cells := 0, slots := 0, locals := 79 } s m [.ref mo, .int (nI r), .int (nI a), .int (nI c9), .int (nI zs)].toArray below meth c H locs 0 0 (MQ below (QcP (QV (fun H H' => FRM (MR mo) H H' ∧ AJ g H' (mo + 4) 420 fa ∧ ∃ fd', MS g n0 H' mo th pw td wr 1 10 fd' ∧ (∀ j, (j < 14 * 167 ∨ 14 * 167 + 14 ≤ j) → (j < 14 * r ∨ 14 * r + 14 ≤ j) → fd' j = fd j) ∧ NV fd' r (hvS B a Z c9 0)))) [.ref mo, .int (nI r), .int (nI a), .int (nI c9), .int (nI zs)].toArray s 0 0 (fun q => n0 q)) (F0 m 12 ls []) := by
    intro k
    induction k with
    | zero =>
      intro  H   locs   ls   v   fd1   v1 hkc hv0 hdv hv1 hfr hm hab h167 hsm hF hl
      subst hv0
      refine lv_iload hx hb d_Model_value_12 (lv_at hl 0 rfl) ?_
      refine lv_if_lt (tgt := 49) hx hb d_Model_value_14 (by decide) (fun _ => ?_) (fun h9 => absurd (by decide) h9)
      refine lv_aload_n hx hb d_Model_value_49 rfl (lv_at hl 1 rfl) ?_
      refine lv_iload_n hx hb d_Model_value_50 rfl (lv_at hl 2 rfl) ?_
      refine lv_sipush (v := nI 167) hx hb d_Model_value_51 (by decide) ?_
      have hdv : v1 = hvS B a Z c9 0 := hdv
      rw [hdv] at h167
      refine q_cV (rest := []) E (c_Model_move l g n0 mo r 167 th pw td wr 1 10 w1 fd1 hr1 (by decide)) w_1076 w_15 w_1073 w_1075 (bw_s 27 rfl) hd_Model_move rfl ⟨by decide, by decide⟩ (OB.recv E.2.2.2.2.2 (by rfl) hm.1) hm hF hl.1 rfl (Nat.le_of_ble_eq_true rfl) d_Model_value_54 ⟨by decide, by decide⟩ (qv (fun H1 locs hq hF => ?_))
      obtain ⟨hq, fd2, hm, hpw⟩ := hq
      have hab := AJ.off hq (by unfold MR; omega) hab
      exact q_vret E hr hlk (⟨rfl, hfr.tr hq, hab, fd2, hm, fun j h1 h2 => (hpw.1 j h2).trans (hsm j h1), (VL_ext (fun k hk => hpw.2 k hk)).trans h167⟩) hF d_Model_value_57
    | succ k ih =>
      intro  H   locs   ls   v   fd1   v1 hkc hv0 hdv hv1 hfr hm hab h167 hsm hF hl
      rw [nI_pred] at hv0
      subst hv0
      refine lv_iload hx hb d_Model_value_12 (lv_at hl 0 rfl) ?_
      refine lv_if_lt (tgt := 49) hx hb d_Model_value_14 (by decide) (fun h9 => absurd h9 (nI_pos (by omega))) (fun _ => ?_)
      refine lv_aload_n hx hb d_Model_value_17 rfl (lv_at hl 1 rfl) ?_
      refine lv_sipush (v := nI 167) hx hb d_Model_value_18 (by decide) ?_
      refine lv_sipush (v := nI 167) hx hb d_Model_value_21 (by decide) ?_
      refine lv_iload hx hb d_Model_value_24 (lv_at hl 4 rfl) ?_
      obtain ⟨hbk, hbr⟩ := hB k (by omega)
      refine q_cV (rest := []) E (N_Model_product l g n0 mo 167 167 zs th pw td wr fd1 (by decide) (by decide) hz1 fa hAT v1 Z hm.2.2.2.2.2.1 h167 (hZ.off hsm hz7) hv1 hZr) w_1113 w_15 w_1110 w_1112 (bw_s 32 rfl) hd_Model_product rfl ⟨by decide, by decide⟩ (OB.recv E.2.2.2.2.2 (by rfl) hm.1) (⟨hm, hab⟩) hF hl.1 rfl (Nat.le_of_ble_eq_true rfl) d_Model_value_26 ⟨by decide, by decide⟩ (qv (fun H1 locs hq hF => ?_))
      obtain ⟨hq, fd2, hm, ho, h167⟩ := hq
      have hab := hq.ajo (by omega) hab
      have hfr := hfr.tr (kjR hq)
      have hsm : (∀ j, (j < 14 * 167 ∨ 14 * 167 + 14 ≤ j) → fd2 j = fd j) := fun j hj => (ho j hj).trans (hsm j hj)
      refine lv_aload_n hx hb d_Model_value_29 rfl (lv_at hl 1 rfl) ?_
      refine lv_sipush (v := nI 167) hx hb d_Model_value_30 (by decide) ?_
      refine lv_sipush (v := nI 167) hx hb d_Model_value_33 (by decide) ?_
      refine lv_iload_n hx hb d_Model_value_36 rfl (lv_at hl 3 rfl) ?_
      refine lv_iload hx hb d_Model_value_37 (lv_at hl 0 rfl) ?_
      refine lv_iadd hx hb d_Model_value_39 ?_
      refine lv_topi (fun t9 e9 => ?_)
      obtain rfl : t9 = nI (a + k) := e9.trans (nI_add _ _)
      refine q_cV (rest := []) E (N_Model_add l g n0 mo 167 167 (a + k) th pw td wr fd2 (by decide) (by decide) (by omega) ((v1 * Z) % RI) (B (a + k)) hm.2.2.2.2.2.1 h167 (hbk.off hsm (by omega)) (rm_r _).2 hbr) w_975 w_15 w_972 w_974 (bw_s 17 rfl) hd_Model_add rfl ⟨by decide, by decide⟩ (OB.recv E.2.2.2.2.2 (by rfl) hm.1) hm hF hl.1 rfl (Nat.le_of_ble_eq_true rfl) d_Model_value_40 ⟨by decide, by decide⟩ (qv (fun H2 locs hq hF => ?_))
      obtain ⟨hq, fd3, hm, ho, h167⟩ := hq
      rw [add_e] at h167
      have hab := hq.ajo (by omega) hab
      have hfr := hfr.tr (kjR hq)
      have hsm : (∀ j, (j < 14 * 167 ∨ 14 * 167 + 14 ≤ j) → fd3 j = fd j) := fun j hj => (ho j hj).trans (hsm j hj)
      refine lv_iinc (k := 0) (v := nI k - 1) (lv' := [(5, .int (nI k - 1)), (0, .ref mo), (1, .int (nI r)), (2, .int (nI a)), (4, .int (nI zs))]) hx hb d_Model_value_43 hl rfl (i_dec _) (by decide) rfl (fun ls hl => ?_)
      refine lv_goto (tgt := 12) hx hb d_Model_value_46 (by decide) ?_
      have hl : lv_has ls 6 [(5, .int (nI k - 1)), (0, .ref mo), (1, .int (nI r)), (2, .int (nI a)), (4, .int (nI zs))] := lv_sub hl [0, 1, 2, 3, 4] rfl
      exact ih _ _ ls _ fd3 _ (by omega) rfl hdv (rm_r _).2 hfr hm hab h167 hsm hF hl
  refine lv_aload_n hx hb d_Model_value_0 rfl (lv_at hl 0 rfl) ?_
  refine lv_sipush (v := nI 167) hx hb d_Model_value_1 (by decide) ?_
  refine q_cV (rest := []) E (c_Model_zero l g n0 mo 167 th pw td wr 1 10 w1 fd (by decide)) w_1000 w_15 w_997 w_999 (bw_s 23 rfl) hd_Model_zero rfl ⟨by decide, by decide⟩ (OB.recv E.2.2.2.2.2 (by rfl) hm.1) hm hF hl.1 rfl (Nat.le_of_ble_eq_true rfl) d_Model_value_4 ⟨by decide, by decide⟩ (qv (fun H1 locs hq hF => ?_))
  obtain ⟨hq, fd1, hm, hpw⟩ := hq
  have hab := AJ.off hq (by unfold MR; omega) hab
  have hfr := hfr.tr hq
  refine lv_iload_n hx hb d_Model_value_7 rfl (lv_at hl 3 rfl) ?_
  refine lv_iconst (v := nI 1) hx hb d_Model_value_8 (by decide) ?_
  refine lv_isub hx hb d_Model_value_9 ?_
  refine lv_istore (lv' := [(5, .int ((nI c9) - (nI 1))), (0, .ref mo), (1, .int (nI r)), (2, .int (nI a)), (3, .int (nI c9)), (4, .int (nI zs))]) hx hb d_Model_value_10 hl (by decide) rfl (fun ls hl => ?_)
  have hl : lv_has ls 6 [(5, .int ((nI c9) - (nI 1))), (0, .ref mo), (1, .int (nI r)), (2, .int (nI a)), (4, .int (nI zs))] := lv_sub hl [0, 1, 2, 3, 5] rfl
  exact loop c9 _ _ ls _ fd1 0 (Nat.le_refl _) rfl rfl RI_pos hfr hm hab ((VL_ext (fun k hk => hpw.2 k hk)).trans VL_z14) hpw.1 hF hl
