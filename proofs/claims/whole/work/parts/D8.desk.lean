theorem onC_PN : onC PN := PN_PE.on onC_O
theorem pz_pa {g : WG} {H : Heap} {b k : Nat} {P : P3} (h : LPt g H (b + 34 + 1 + 4 * k + 1) (b + 34 + 1 + 4 * k + 2) (b + 34 + 1 + 4 * k + 3) P) : LPt g H (kPA1 b k) (kPA2 b k) (kPA3 b k) P := by
  rw [show kPA1 b k = b + 34 + 1 + 4 * k + 1 by unfold kPA1; omega, show kPA2 b k = b + 34 + 1 + 4 * k + 2 by unfold kPA2; omega, show kPA3 b k = b + 34 + 1 + 4 * k + 3 by unfold kPA3; omega]
  exact h
set_option maxHeartbeats 4000000 in
set_option maxRecDepth 100000 in
theorem P_Desk_init (l : Launch) (g : WG) (n0 : Nat → Prop) (s0 : State) (hn0 : ∀ q, n0 q → s0.heap.size ≤ q) (b : Nat) (hkh : KH s0) (hna : ∀ q, b ≤ q → n0 q) (hne1 : va_Nw (.methodLinkNest "KateDesk" 33 y_Row_init "KateDesk") s0) (hne2 : va_Nw (.methodLinkNest "KateDesk$Sums" 9 y_Desk_newPoints "KateDesk") s0) : CtrW l y_Desk_init (.code y_Desk_init prog_1_method_1_code 4 none) 6 178 500 10003 n0 g s0 [.ref b] (fun H => OB g H b 5 [.null, .null, .null, .null, .null, .null, .null, .null, .int 0, .null, .null, .null, .null, .null, .null, .null] ∧ H.size = b + 1 ∧ OLD s0 H) (QV (fun H H' => ((∃ mr mq, mr = 268435455 ∧ mq = 268238845 ∧ DK g n0 H' b 0 0 0 mr mq ∧ FRESH g H' b) ∧ CX g H' b ∧ CR g H' b ∧ SCA g H' b (fun _ => 0) ∧ PTS g H' b (fun _ => PN) ∧ (∀ j, j < 16 → AB g H' (b + 444 + 1 + j) 257 (fun _ => 0)) ∧ AJ g H' (b + 168) 14 (hxF hb60 64 64) ∧ ∀ k, k < 4 → J14 g n0 H' (b + 465 + 1 + k)) ∧ H'.size = b + 501 ∧ ∀ q, q < b → H'[q]? = H[q]?)) := by
  refine ctrW_mk l (lv0 := [(0, .ref b)]) (by decide) (Nat.le_of_ble_eq_true rfl) rfl ?_
  intro p e s m below meth c ls E hw0 hr hlk hnm hl hP
  have hx := E.1
  have hb := E.2.1
  have hK := E.2.2.2.2.2
  have hF : ∀ q ∈ ([] : List Loc), n0 q.base := fun q hq => absurd hq List.not_mem_nil
  obtain ⟨ho, hsz, hold⟩ := hP
  have hlow : ∀ q, q < b → s.heap[q]? = s.heap[q]? := fun _ _ => rfl
  have na0 : n0 b := hna b (Nat.le_refl _)
  have hup : ∀ {c : Nat} q, b + c ≤ q → n0 q := fun q h => hna q (Nat.le_trans (Nat.le_add_right _ _) h)
  have hc : SB b s.heap s.heap := SB.rf
  refine lv_aload_n hx hb d_Desk_init_0 rfl (lv_at hl 0 rfl) ?_
  refine W.objInit hx hb E.2.2.2.1 (E.2.2.2.2.1 _ w_30) (E.2.2.2.2.1 _ w_31) (E.2.2.2.2.1 _ w_32) rfl (by rw [E.2.2.1]; exact hl.1) rfl d_Desk_init_1 (Nat.le_of_ble_eq_true rfl) (Nat.le_of_ble_eq_true rfl) ?_
  refine lv_aload_n hx hb d_Desk_init_4 rfl (lv_at hl 0 rfl) ?_
  refine lv_bipush (v := nI 32) hx hb d_Desk_init_5 (by decide) ?_
  refine lv_bipush (v := nI 14) hx hb d_Desk_init_7 (by decide) ?_
  refine q_maJ E (nI_pos (by decide)) (nI_pos (by decide)) (N := 32) (M := 14) (nI_clamp (by decide)) (nI_clamp (by decide)) (by decide) (by decide) w_33 (by decide) (by decide) hsz d_Desk_init_9 (fun H1 hsz2 hnw hso hsi => ?_)
  have hs : SB b s.heap H1 := SB.grow hsz (by rw [show H1.size = b + 34 from hsz2]; exact Nat.add_le_add_left (show 1 ≤ 34 by decide) _) hnw
  have hsz : H1.size = b + 34 := hsz2
  have ho := ho.eq (hnw b (k_mo (by decide)))
  have hlow : ∀ q, q < b → H1[q]? = s.heap[q]? := fun q hq9 => (hnw q (k_lt hq9)).trans (hlow q hq9)
  have hc := hc.tr hs
  clear hs hsz2 hnw
  have e0 := hc
  clear hc
  have hc : SB b H1 H1 := SB.rf
  refine q_putF (C := "KateDesk") (T := T_Desk) (N := 16) (ci := 5) (ty := .array (.array (.long))) E ho in_Desk ty_Desk tyok_Desk nm_Desk rfl 5 (by decide) w_344 rfl rfl hnm rfl (by decide +kernel) rfl rfl (Nat.le_of_ble_eq_true rfl) na0 hF d_Desk_init_13 (fun H2 locs hq ho2 hF => ?_)
  have hsz := hq.1.trans hsz
  have ho := ho2
  have hc := hc.tr (SB.frm hq)
  have hlow : ∀ q, q < b → H2[q]? = s.heap[q]? := fun q hq9 => (hq.2 q (Nat.ne_of_lt hq9)).trans (hlow q hq9)
  clear hq ho2
  refine lv_aload_n hx hb d_Desk_init_16 rfl (lv_at hl 0 rfl) ?_
  refine lv_bipush (v := nI 12) hx hb d_Desk_init_17 (by decide) ?_
  refine q_cS (rest := [.ref b]) E (c_Desk_newPoints l g n0 (b + 34) 12 (by decide) hup) w_37 w_1 w_35 w_36 hd_Desk_newPoints rfl ⟨by decide, by decide⟩ hsz hF hl.1 rfl (Nat.le_of_ble_eq_true rfl) d_Desk_init_19 ⟨by decide, by decide⟩ (qr (fun r34 H3 locs hq hF => ?_))
  obtain ⟨hr9, hsz2, hnw, hpo, hpi⟩ := hq
  subst hr9
  have hs : SB b H2 H3 := SB.grow hsz (by rw [show H3.size = b + 83 from hsz2]; exact Nat.add_le_add_left (show 34 ≤ 83 by decide) _) hnw
  have hsz : H3.size = b + 83 := hsz2
  have ho := ho.eq (hnw b (k_mo (by decide)))
  have hlow : ∀ q, q < b → H3[q]? = s.heap[q]? := fun q hq9 => (hnw q (k_lt hq9)).trans (hlow q hq9)
  have hc := hc.tr hs
  clear hs hsz2 hnw
  have e1 := hc
  clear hc
  have hc : SB b H3 H3 := SB.rf
  refine q_putF (C := "KateDesk") (T := T_Desk) (N := 16) (ci := 5) (ty := .array (.object "KateDesk$Point")) E ho in_Desk ty_Desk tyok_Desk nm_Desk rfl 6 (by decide) w_345 rfl rfl hnm rfl (by decide +kernel) rfl rfl (Nat.le_of_ble_eq_true rfl) na0 hF d_Desk_init_22 (fun H4 locs hq ho2 hF => ?_)
  have hsz := hq.1.trans hsz
  have ho := ho2
  have hc := hc.tr (SB.frm hq)
  have hlow : ∀ q, q < b → H4[q]? = s.heap[q]? := fun q hq9 => (hq.2 q (Nat.ne_of_lt hq9)).trans (hlow q hq9)
  clear hq ho2
  refine lv_aload_n hx hb d_Desk_init_25 rfl (lv_at hl 0 rfl) ?_
  refine lv_bipush (v := nI 16) hx hb d_Desk_init_26 (by decide) ?_
  refine q_cS (rest := [.ref b]) E (c_Desk_newPoints l g n0 (b + 83) 16 (by decide) hup) w_37 w_1 w_35 w_36 hd_Desk_newPoints rfl ⟨by decide, by decide⟩ hsz hF hl.1 rfl (Nat.le_of_ble_eq_true rfl) d_Desk_init_28 ⟨by decide, by decide⟩ (qr (fun r83 H5 locs hq hF => ?_))
  obtain ⟨hr9, hsz2, hnw, hwo, hwi⟩ := hq
  subst hr9
  have hs : SB b H4 H5 := SB.grow hsz (by rw [show H5.size = b + 148 from hsz2]; exact Nat.add_le_add_left (show 83 ≤ 148 by decide) _) hnw
  have hsz : H5.size = b + 148 := hsz2
  have ho := ho.eq (hnw b (k_mo (by decide)))
  have hlow : ∀ q, q < b → H5[q]? = s.heap[q]? := fun q hq9 => (hnw q (k_lt hq9)).trans (hlow q hq9)
  have hc := hc.tr hs
  clear hs hsz2 hnw
  have e2 := hc
  clear hc
  have hc : SB b H5 H5 := SB.rf
  refine q_putF (C := "KateDesk") (T := T_Desk) (N := 16) (ci := 5) (ty := .array (.object "KateDesk$Point")) E ho in_Desk ty_Desk tyok_Desk nm_Desk rfl 7 (by decide) w_346 rfl rfl hnm rfl (by decide +kernel) rfl rfl (Nat.le_of_ble_eq_true rfl) na0 hF d_Desk_init_31 (fun H6 locs hq ho2 hF => ?_)
  have hsz := hq.1.trans hsz
  have ho := ho2
  have hc := hc.tr (SB.frm hq)
  have hlow : ∀ q, q < b → H6[q]? = s.heap[q]? := fun q hq9 => (hq.2 q (Nat.ne_of_lt hq9)).trans (hlow q hq9)
  clear hq ho2
  refine lv_aload_n hx hb d_Desk_init_34 rfl (lv_at hl 0 rfl) ?_
  refine lv_iconst (v := nI 0) hx hb d_Desk_init_35 (by decide) ?_
  refine q_put (C := "KateDesk") (T := T_Desk) (N := 16) (ci := 5) (ty := .int) E ho in_Desk ty_Desk tyok_Desk nm_Desk rfl 8 (by decide) w_347 rfl rfl (by decide +kernel) rfl rfl (Nat.le_of_ble_eq_true rfl) na0 hF d_Desk_init_36 (fun H7 locs hq ho2 hF => ?_)
  have hsz := hq.1.trans hsz
  have ho := ho2
  have hc := hc.tr (SB.frm hq)
  have hlow : ∀ q, q < b → H7[q]? = s.heap[q]? := fun q hq9 => (hq.2 q (Nat.ne_of_lt hq9)).trans (hlow q hq9)
  clear hq ho2
  refine lv_aload_n hx hb d_Desk_init_39 rfl (lv_at hl 0 rfl) ?_
  refine q_new (C := "KateDesk$Row") (T := T_Row) (N := 2) (ci := 3) (fs := [.null, .int 0]) E in_Row ty_Row tyok_Row rfl w_65 w_66 w_3 (by decide +kernel) (by decide) (by decide) hsz d_Desk_init_40 (fun H8 hsz2 hnw1 hob => ?_)
  have hlow1 : ∀ q, q < b → H8[q]? = s.heap[q]? := fun q hq9 => (hnw1 q (k_lt hq9)).trans (hlow q hq9)
  refine lv_dup hx hb d_Desk_init_43 rfl ?_
  refine q_cIN (rest := [.ref (b + 148), .ref b]) E (c_Row_init l g n0 (b + 148) (hna _ (Nat.le_add_right _ _))) w_69 w_3 (va_Nw.warmM hw0 hne1) w_68 rfl hd_Row_init rfl ⟨by decide, by decide⟩ (⟨hob, hsz2⟩) hF hl.1 rfl (Nat.le_of_ble_eq_true rfl) d_Desk_init_44 ⟨by decide, by decide⟩ (qv (fun H9 locs hq hF => ?_))
  obtain ⟨⟨htp, htc⟩, hsz3, hnw2⟩ := hq
  have hnw : ∀ q, q < b + 148 → H9[q]? = H7[q]? := fun q h => (hnw2 q h).trans (hnw1 q h)
  have hsz2 : H9.size = b + 150 := hsz3
  clear hnw1 hnw2 hsz3 hlow1
  have hs : SB b H7 H9 := SB.grow hsz (by rw [show H9.size = b + 150 from hsz2]; exact Nat.add_le_add_left (show 148 ≤ 150 by decide) _) hnw
  have hsz : H9.size = b + 150 := hsz2
  have ho := ho.eq (hnw b (k_mo (by decide)))
  have hlow : ∀ q, q < b → H9[q]? = s.heap[q]? := fun q hq9 => (hnw q (k_lt hq9)).trans (hlow q hq9)
  have hc := hc.tr hs
  clear hs hsz2 hnw
  have e3 := hc
  clear hc
  have hc : SB b H9 H9 := SB.rf
  refine q_putF (C := "KateDesk") (T := T_Desk) (N := 16) (ci := 5) (ty := .object "KateDesk$Row") E ho in_Desk ty_Desk tyok_Desk nm_Desk rfl 9 (by decide) w_348 rfl rfl hnm rfl (by decide +kernel) rfl rfl (Nat.le_of_ble_eq_true rfl) na0 hF d_Desk_init_47 (fun H10 locs hq ho2 hF => ?_)
  have hsz := hq.1.trans hsz
  have ho := ho2
  have hc := hc.tr (SB.frm hq)
  have hlow : ∀ q, q < b → H10[q]? = s.heap[q]? := fun q hq9 => (hq.2 q (Nat.ne_of_lt hq9)).trans (hlow q hq9)
  clear hq ho2
  refine lv_aload_n hx hb d_Desk_init_50 rfl (lv_at hl 0 rfl) ?_
  refine q_new (C := "KateDesk$Row") (T := T_Row) (N := 2) (ci := 3) (fs := [.null, .int 0]) E in_Row ty_Row tyok_Row rfl w_65 w_66 w_3 (by decide +kernel) (by decide) (by decide) hsz d_Desk_init_51 (fun H11 hsz2 hnw1 hob => ?_)
  have hlow1 : ∀ q, q < b → H11[q]? = s.heap[q]? := fun q hq9 => (hnw1 q (k_lt hq9)).trans (hlow q hq9)
  refine lv_dup hx hb d_Desk_init_54 rfl ?_
  refine q_cIN (rest := [.ref (b + 150), .ref b]) E (c_Row_init l g n0 (b + 150) (hna _ (Nat.le_add_right _ _))) w_69 w_3 (va_Nw.warmM hw0 hne1) w_68 rfl hd_Row_init rfl ⟨by decide, by decide⟩ (⟨hob, hsz2⟩) hF hl.1 rfl (Nat.le_of_ble_eq_true rfl) d_Desk_init_55 ⟨by decide, by decide⟩ (qv (fun H12 locs hq hF => ?_))
  obtain ⟨⟨hwr, hwc⟩, hsz3, hnw2⟩ := hq
  have hnw : ∀ q, q < b + 150 → H12[q]? = H10[q]? := fun q h => (hnw2 q h).trans (hnw1 q h)
  have hsz2 : H12.size = b + 152 := hsz3
  clear hnw1 hnw2 hsz3 hlow1
  have hs : SB b H10 H12 := SB.grow hsz (by rw [show H12.size = b + 152 from hsz2]; exact Nat.add_le_add_left (show 150 ≤ 152 by decide) _) hnw
  have hsz : H12.size = b + 152 := hsz2
  have ho := ho.eq (hnw b (k_mo (by decide)))
  have hlow : ∀ q, q < b → H12[q]? = s.heap[q]? := fun q hq9 => (hnw q (k_lt hq9)).trans (hlow q hq9)
  have hc := hc.tr hs
  clear hs hsz2 hnw
  have e4 := hc
  clear hc
  have hc : SB b H12 H12 := SB.rf
  refine q_putF (C := "KateDesk") (T := T_Desk) (N := 16) (ci := 5) (ty := .object "KateDesk$Row") E ho in_Desk ty_Desk tyok_Desk nm_Desk rfl 10 (by decide) w_349 rfl rfl hnm rfl (by decide +kernel) rfl rfl (Nat.le_of_ble_eq_true rfl) na0 hF d_Desk_init_58 (fun H13 locs hq ho2 hF => ?_)
  have hsz := hq.1.trans hsz
  have ho := ho2
  have hc := hc.tr (SB.frm hq)
  have hlow : ∀ q, q < b → H13[q]? = s.heap[q]? := fun q hq9 => (hq.2 q (Nat.ne_of_lt hq9)).trans (hlow q hq9)
  clear hq ho2
  refine lv_aload_n hx hb d_Desk_init_61 rfl (lv_at hl 0 rfl) ?_
  refine q_new (C := "KateDesk$Point") (T := T_Point) (N := 3) (ci := 2) (fs := [.null, .null, .null]) E in_Point ty_Point tyok_Point rfl w_38 w_40 w_2 (by decide +kernel) (by decide) (by decide) hsz d_Desk_init_62 (fun H14 hsz2 hnw1 hob => ?_)
  have hlow1 : ∀ q, q < b → H14[q]? = s.heap[q]? := fun q hq9 => (hnw1 q (k_lt hq9)).trans (hlow q hq9)
  refine lv_dup hx hb d_Desk_init_65 rfl ?_
  refine q_cI (rest := [.ref (b + 152), .ref b]) E (c_Point_init l g n0 (b + 152) (fun q h1 _ => hup q h1)) w_43 w_2 w_41 w_42 rfl hd_Point_init rfl ⟨by decide, by decide⟩ (⟨hob, hsz2⟩) hF hl.1 rfl (Nat.le_of_ble_eq_true rfl) d_Desk_init_66 ⟨by decide, by decide⟩ (qv (fun H15 locs hq hF => ?_))
  obtain ⟨hhp, hsz3, hnw2⟩ := hq
  have hnw : ∀ q, q < b + 152 → H15[q]? = H13[q]? := fun q h => (hnw2 q h).trans (hnw1 q h)
  have hsz2 : H15.size = b + 156 := hsz3
  clear hnw1 hnw2 hsz3 hlow1
  have hs : SB b H13 H15 := SB.grow hsz (by rw [show H15.size = b + 156 from hsz2]; exact Nat.add_le_add_left (show 152 ≤ 156 by decide) _) hnw
  have hsz : H15.size = b + 156 := hsz2
  have ho := ho.eq (hnw b (k_mo (by decide)))
  have hlow : ∀ q, q < b → H15[q]? = s.heap[q]? := fun q hq9 => (hnw q (k_lt hq9)).trans (hlow q hq9)
  have hc := hc.tr hs
  clear hs hsz2 hnw
  have e5 := hc
  clear hc
  have hc : SB b H15 H15 := SB.rf
  have hhp : PZ g H15 (b + 152) := hhp
  refine q_putF (C := "KateDesk") (T := T_Desk) (N := 16) (ci := 5) (ty := .object "KateDesk$Point") E ho in_Desk ty_Desk tyok_Desk nm_Desk rfl 12 (by decide) w_351 rfl rfl hnm rfl (by decide +kernel) rfl rfl (Nat.le_of_ble_eq_true rfl) na0 hF d_Desk_init_69 (fun H16 locs hq ho2 hF => ?_)
  have hsz := hq.1.trans hsz
  have ho := ho2
  have hc := hc.tr (SB.frm hq)
  have hlow : ∀ q, q < b → H16[q]? = s.heap[q]? := fun q hq9 => (hq.2 q (Nat.ne_of_lt hq9)).trans (hlow q hq9)
  clear hq ho2
  refine lv_aload_n hx hb d_Desk_init_72 rfl (lv_at hl 0 rfl) ?_
  refine q_new (C := "KateDesk$Point") (T := T_Point) (N := 3) (ci := 2) (fs := [.null, .null, .null]) E in_Point ty_Point tyok_Point rfl w_38 w_40 w_2 (by decide +kernel) (by decide) (by decide) hsz d_Desk_init_73 (fun H17 hsz2 hnw1 hob => ?_)
  have hlow1 : ∀ q, q < b → H17[q]? = s.heap[q]? := fun q hq9 => (hnw1 q (k_lt hq9)).trans (hlow q hq9)
  refine lv_dup hx hb d_Desk_init_76 rfl ?_
  refine q_cI (rest := [.ref (b + 156), .ref b]) E (c_Point_init l g n0 (b + 156) (fun q h1 _ => hup q h1)) w_43 w_2 w_41 w_42 rfl hd_Point_init rfl ⟨by decide, by decide⟩ (⟨hob, hsz2⟩) hF hl.1 rfl (Nat.le_of_ble_eq_true rfl) d_Desk_init_77 ⟨by decide, by decide⟩ (qv (fun H18 locs hq hF => ?_))
  obtain ⟨hmu, hsz3, hnw2⟩ := hq
  have hnw : ∀ q, q < b + 156 → H18[q]? = H16[q]? := fun q h => (hnw2 q h).trans (hnw1 q h)
  have hsz2 : H18.size = b + 160 := hsz3
  clear hnw1 hnw2 hsz3 hlow1
  have hs : SB b H16 H18 := SB.grow hsz (by rw [show H18.size = b + 160 from hsz2]; exact Nat.add_le_add_left (show 156 ≤ 160 by decide) _) hnw
  have hsz : H18.size = b + 160 := hsz2
  have ho := ho.eq (hnw b (k_mo (by decide)))
  have hlow : ∀ q, q < b → H18[q]? = s.heap[q]? := fun q hq9 => (hnw q (k_lt hq9)).trans (hlow q hq9)
  have hc := hc.tr hs
  clear hs hsz2 hnw
  have e6 := hc
  clear hc
  have hc : SB b H18 H18 := SB.rf
  have hmu : PZ g H18 (b + 156) := hmu
  refine q_putF (C := "KateDesk") (T := T_Desk) (N := 16) (ci := 5) (ty := .object "KateDesk$Point") E ho in_Desk ty_Desk tyok_Desk nm_Desk rfl 13 (by decide) w_352 rfl rfl hnm rfl (by decide +kernel) rfl rfl (Nat.le_of_ble_eq_true rfl) na0 hF d_Desk_init_80 (fun H19 locs hq ho2 hF => ?_)
  have hsz := hq.1.trans hsz
  have ho := ho2
  have hc := hc.tr (SB.frm hq)
  have hlow : ∀ q, q < b → H19[q]? = s.heap[q]? := fun q hq9 => (hq.2 q (Nat.ne_of_lt hq9)).trans (hlow q hq9)
  clear hq ho2
  refine lv_aload_n hx hb d_Desk_init_83 rfl (lv_at hl 0 rfl) ?_
  refine lv_bipush (v := nI 14) hx hb d_Desk_init_84 (by decide) ?_
  refine q_newJ E 14 rfl (by decide) w_64 (by decide) (by decide) hsz d_Desk_init_86 (fun H20 hsz2 hnw hhs => ?_)
  have hs : SB b H19 H20 := SB.grow hsz (by rw [show H20.size = b + 161 from hsz2]; exact Nat.add_le_add_left (show 160 ≤ 161 by decide) _) hnw
  have hsz : H20.size = b + 161 := hsz2
  have ho := ho.eq (hnw b (k_mo (by decide)))
  have hlow : ∀ q, q < b → H20[q]? = s.heap[q]? := fun q hq9 => (hnw q (k_lt hq9)).trans (hlow q hq9)
  have hc := hc.tr hs
  clear hs hsz2 hnw
  have e7 := hc
  clear hc
  have hc : SB b H20 H20 := SB.rf
  refine q_putF (C := "KateDesk") (T := T_Desk) (N := 16) (ci := 5) (ty := .array (.long)) E ho in_Desk ty_Desk tyok_Desk nm_Desk rfl 14 (by decide) w_353 rfl rfl hnm rfl (by decide +kernel) rfl rfl (Nat.le_of_ble_eq_true rfl) na0 hF d_Desk_init_88 (fun H21 locs hq ho2 hF => ?_)
  have hsz := hq.1.trans hsz
  have ho := ho2
  have hc := hc.tr (SB.frm hq)
  have hlow : ∀ q, q < b → H21[q]? = s.heap[q]? := fun q hq9 => (hq.2 q (Nat.ne_of_lt hq9)).trans (hlow q hq9)
  clear hq ho2
  refine lv_aload_n hx hb d_Desk_init_91 rfl (lv_at hl 0 rfl) ?_
  refine lv_bipush (v := nI 14) hx hb d_Desk_init_92 (by decide) ?_
  refine q_newJ E 14 rfl (by decide) w_64 (by decide) (by decide) hsz d_Desk_init_94 (fun H22 hsz2 hnw hfa => ?_)
  have hs : SB b H21 H22 := SB.grow hsz (by rw [show H22.size = b + 162 from hsz2]; exact Nat.add_le_add_left (show 161 ≤ 162 by decide) _) hnw
  have hsz : H22.size = b + 162 := hsz2
  have ho := ho.eq (hnw b (k_mo (by decide)))
  have hlow : ∀ q, q < b → H22[q]? = s.heap[q]? := fun q hq9 => (hnw q (k_lt hq9)).trans (hlow q hq9)
  have hc := hc.tr hs
  clear hs hsz2 hnw
  have e8 := hc
  clear hc
  have hc : SB b H22 H22 := SB.rf
  refine q_putF (C := "KateDesk") (T := T_Desk) (N := 16) (ci := 5) (ty := .array (.long)) E ho in_Desk ty_Desk tyok_Desk nm_Desk rfl 15 (by decide) w_354 rfl rfl hnm rfl (by decide +kernel) rfl rfl (Nat.le_of_ble_eq_true rfl) na0 hF d_Desk_init_96 (fun H23 locs hq ho2 hF => ?_)
  have hsz := hq.1.trans hsz
  have ho := ho2
  have hc := hc.tr (SB.frm hq)
  have hlow : ∀ q, q < b → H23[q]? = s.heap[q]? := fun q hq9 => (hq.2 q (Nat.ne_of_lt hq9)).trans (hlow q hq9)
  clear hq ho2
  obtain ⟨hks, ⟨a1, hr1, hk1⟩, ⟨a2, hr2, hk2⟩, hkg⟩ := hkh
  refine q_new (C := "KateDesk$Field") (T := T_Field) (N := 7) (ci := 1) (fs := [.null, .null, .null, .null, .null, .null, .long 0]) E in_Field ty_Field tyok_Field rfl w_81 w_82 w_4 (by decide +kernel) (by decide) (by decide) hsz d_Desk_init_99 (fun H24 hsz2 hnw1 hob => ?_)
  have hlow1 : ∀ q, q < b → H24[q]? = s.heap[q]? := fun q hq9 => (hnw1 q (k_lt hq9)).trans (hlow q hq9)
  refine lv_dup hx hb d_Desk_init_102 rfl ?_
  refine va_ldcS E.1 E.2.1 E.2.2.2.1 (vk_R.warm hw0 hr1) d_Desk_init_103 ?_
  refine q_cIW (rest := [.ref (b + 162)]) E hw0 (R_Field_init l g n0 s0 hn0 a1 hks hk1 (b + 162) hup) w_86 w_4 w_84 w_85 rfl hd_Field_init rfl ⟨by decide, by decide⟩ (⟨hob, hsz2, hold.lt (hn0 _ na0) hlow1⟩) hF hl.1 rfl (Nat.le_of_ble_eq_true rfl) d_Desk_init_105 ⟨by decide, by decide⟩ (qv (fun H25 locs hq hF => ?_))
  obtain ⟨⟨hfr, hf4⟩, hsz3, hnw2⟩ := hq
  obtain ⟨mr, emr⟩ : ∃ mr : Int64, mr = 268435455 := ⟨_, rfl⟩
  rw [← emr] at hfr
  have hmr := hf4.1.ext (fun k hk => (kR_hx k hk).symm)
  have hnw : ∀ q, q < b + 162 → H25[q]? = H23[q]? := fun q h => (hnw2 q h).trans (hnw1 q h)
  have hsz2 : H25.size = b + 169 := hsz3
  clear hnw1 hnw2 hsz3 hlow1
  have hs : SB b H23 H25 := SB.grow hsz (by rw [show H25.size = b + 169 from hsz2]; exact Nat.add_le_add_left (show 162 ≤ 169 by decide) _) hnw
  have hsz : H25.size = b + 169 := hsz2
  have ho := ho.eq (hnw b (k_mo (by decide)))
  have hlow : ∀ q, q < b → H25[q]? = s.heap[q]? := fun q hq9 => (hnw q (k_lt hq9)).trans (hlow q hq9)
  have hc := hc.tr hs
  clear hs hsz2 hnw
  have e9 := hc
  clear hc
  have hc : SB b H25 H25 := SB.rf
  refine lv_astore_n (lv' := [(1, .ref (b + 162)), (0, .ref b)]) hx hb d_Desk_init_108 rfl hl (by decide) rfl (fun ls hl => ?_)
  refine q_new (C := "KateDesk$Field") (T := T_Field) (N := 7) (ci := 1) (fs := [.null, .null, .null, .null, .null, .null, .long 0]) E in_Field ty_Field tyok_Field rfl w_81 w_82 w_4 (by decide +kernel) (by decide) (by decide) hsz d_Desk_init_109 (fun H26 hsz2 hnw1 hob => ?_)
  have hlow1 : ∀ q, q < b → H26[q]? = s.heap[q]? := fun q hq9 => (hnw1 q (k_lt hq9)).trans (hlow q hq9)
  refine lv_dup hx hb d_Desk_init_112 rfl ?_
  refine va_ldcS E.1 E.2.1 E.2.2.2.1 (vk_R.warm hw0 hr2) d_Desk_init_113 ?_
  refine q_cIW (rest := [.ref (b + 169)]) E hw0 (Q_Field_init l g n0 s0 hn0 a2 hks hk2 (b + 169) hup) w_86 w_4 w_84 w_85 rfl hd_Field_init rfl ⟨by decide, by decide⟩ (⟨hob, hsz2, hold.lt (hn0 _ na0) hlow1⟩) hF hl.1 rfl (Nat.le_of_ble_eq_true rfl) d_Desk_init_115 ⟨by decide, by decide⟩ (qv (fun H27 locs hq hF => ?_))
  obtain ⟨⟨hfq, hq4⟩, hsz3, hnw2⟩ := hq
  obtain ⟨mq, emq⟩ : ∃ mq : Int64, mq = 268238845 := ⟨_, rfl⟩
  rw [← emq] at hfq
  have hmq := hq4.1.ext (fun k hk => (kQ_hx k hk).symm)
  have hnw : ∀ q, q < b + 169 → H27[q]? = H25[q]? := fun q h => (hnw2 q h).trans (hnw1 q h)
  have hsz2 : H27.size = b + 176 := hsz3
  clear hnw1 hnw2 hsz3 hlow1
  have hs : SB b H25 H27 := SB.grow hsz (by rw [show H27.size = b + 176 from hsz2]; exact Nat.add_le_add_left (show 169 ≤ 176 by decide) _) hnw
  have hsz : H27.size = b + 176 := hsz2
  have ho := ho.eq (hnw b (k_mo (by decide)))
  have hlow : ∀ q, q < b → H27[q]? = s.heap[q]? := fun q hq9 => (hnw q (k_lt hq9)).trans (hlow q hq9)
  have hc := hc.tr hs
  clear hs hsz2 hnw
  have e10 := hc
  clear hc
  have hc : SB b H27 H27 := SB.rf
  refine lv_astore_n (lv' := [(2, .ref (b + 169)), (1, .ref (b + 162)), (0, .ref b)]) hx hb d_Desk_init_118 rfl hl (by decide) rfl (fun ls hl => ?_)
  refine q_new (C := "KateDesk$Curve") (T := T_Curve) (N := 10) (ci := 0) (fs := [.null, .null, .null, .null, .null, .null, .null, .null, .null, .null]) E in_Curve ty_Curve tyok_Curve rfl w_199 w_200 w_11 (by decide +kernel) (by decide) (by decide) hsz d_Desk_init_119 (fun H28 hsz2 hnw1 hob => ?_)
  have hlow1 : ∀ q, q < b → H28[q]? = s.heap[q]? := fun q hq9 => (hnw1 q (k_lt hq9)).trans (hlow q hq9)
  refine lv_dup hx hb d_Desk_init_122 rfl ?_
  refine lv_aload_n hx hb d_Desk_init_123 rfl (lv_at hl 0 rfl) ?_
  refine q_cI (rest := [.ref (b + 176)]) E (c_Curve_init l g n0 (b + 176) (b + 169) (fun q h1 _ => hup q h1)) w_203 w_11 w_201 w_202 rfl hd_Curve_init rfl ⟨by decide, by decide⟩ (⟨hob, hsz2⟩) hF hl.1 rfl (Nat.le_of_ble_eq_true rfl) d_Desk_init_124 ⟨by decide, by decide⟩ (qv (fun H29 locs hq hF => ?_))
  obtain ⟨⟨hcv, hc1, hc2, hc3, hc4, hc5, hc6, hc7, hc8, hc9⟩, hsz3, hnw2⟩ := hq
  have hnw : ∀ q, q < b + 176 → H29[q]? = H27[q]? := fun q h => (hnw2 q h).trans (hnw1 q h)
  have hsz2 : H29.size = b + 186 := hsz3
  clear hnw1 hnw2 hsz3 hlow1
  have hs : SB b H27 H29 := SB.grow hsz (by rw [show H29.size = b + 186 from hsz2]; exact Nat.add_le_add_left (show 176 ≤ 186 by decide) _) hnw
  have hsz : H29.size = b + 186 := hsz2
  have ho := ho.eq (hnw b (k_mo (by decide)))
  have hlow : ∀ q, q < b → H29[q]? = s.heap[q]? := fun q hq9 => (hnw q (k_lt hq9)).trans (hlow q hq9)
  have hc := hc.tr hs
  clear hs hsz2 hnw
  have e11 := hc
  clear hc
  have hc : SB b H29 H29 := SB.rf
  refine lv_astore_n (lv' := [(3, .ref (b + 176)), (2, .ref (b + 169)), (1, .ref (b + 162)), (0, .ref b)]) hx hb d_Desk_init_127 rfl hl (by decide) rfl (fun ls hl => ?_)
  refine lv_aload_n hx hb d_Desk_init_128 rfl (lv_at hl 3 rfl) ?_
  refine lv_aload_n hx hb d_Desk_init_129 rfl (lv_at hl 2 rfl) ?_
  refine q_putF (C := "KateDesk") (T := T_Desk) (N := 16) (ci := 5) (ty := .object "KateDesk$Field") E ho in_Desk ty_Desk tyok_Desk nm_Desk rfl 0 (by decide) w_339 rfl rfl hnm rfl (by decide +kernel) rfl rfl (Nat.le_of_ble_eq_true rfl) na0 hF d_Desk_init_130 (fun H30 locs hq ho2 hF => ?_)
  have hsz := hq.1.trans hsz
  have ho := ho2
  have hc := hc.tr (SB.frm hq)
  have hlow : ∀ q, q < b → H30[q]? = s.heap[q]? := fun q hq9 => (hq.2 q (Nat.ne_of_lt hq9)).trans (hlow q hq9)
  clear hq ho2
  refine lv_aload_n hx hb d_Desk_init_133 rfl (lv_at hl 3 rfl) ?_
  refine lv_aload_n hx hb d_Desk_init_134 rfl (lv_at hl 0 rfl) ?_
  refine q_putF (C := "KateDesk") (T := T_Desk) (N := 16) (ci := 5) (ty := .object "KateDesk$Curve") E ho in_Desk ty_Desk tyok_Desk nm_Desk rfl 1 (by decide) w_340 rfl rfl hnm rfl (by decide +kernel) rfl rfl (Nat.le_of_ble_eq_true rfl) na0 hF d_Desk_init_135 (fun H31 locs hq ho2 hF => ?_)
  have hsz := hq.1.trans hsz
  have ho := ho2
  have hc := hc.tr (SB.frm hq)
  have hlow : ∀ q, q < b → H31[q]? = s.heap[q]? := fun q hq9 => (hq.2 q (Nat.ne_of_lt hq9)).trans (hlow q hq9)
  clear hq ho2
  refine lv_aload_n hx hb d_Desk_init_138 rfl (lv_at hl 3 rfl) ?_
  refine q_new (C := "KateDesk$Sums") (T := T_Sums) (N := 4) (ci := 4) (fs := [.null, .null, .null, .null]) E in_Sums ty_Sums tyok_Sums rfl w_236 w_237 w_12 (by decide +kernel) (by decide) (by decide) hsz d_Desk_init_139 (fun H32 hsz2 hnw1 hob => ?_)
  have hlow1 : ∀ q, q < b → H32[q]? = s.heap[q]? := fun q hq9 => (hnw1 q (k_lt hq9)).trans (hlow q hq9)
  refine lv_dup hx hb d_Desk_init_142 rfl ?_
  refine lv_aload_n hx hb d_Desk_init_143 rfl (lv_at hl 0 rfl) ?_
  refine q_cIW (rest := [.ref (b + 186), .ref b]) E hw0 (c_Sums_init l g n0 s0 (b + 186) (b + 176) hup hne2) w_240 w_12 w_238 w_239 rfl hd_Sums_init rfl ⟨by decide, by decide⟩ (⟨hob, hsz2⟩) hF hl.1 rfl (Nat.le_of_ble_eq_true rfl) d_Desk_init_144 ⟨by decide, by decide⟩ (qv (fun H33 locs hq hF => ?_))
  obtain ⟨⟨hsu, hod, hop, hdo, hdi, hsm⟩, hsz3, hnw2⟩ := hq
  have hnw : ∀ q, q < b + 186 → H33[q]? = H31[q]? := fun q h => (hnw2 q h).trans (hnw1 q h)
  have hsz2 : H33.size = b + 465 := hsz3
  clear hnw1 hnw2 hsz3 hlow1
  have hs : SB b H31 H33 := SB.grow hsz (by rw [show H33.size = b + 465 from hsz2]; exact Nat.add_le_add_left (show 186 ≤ 465 by decide) _) hnw
  have hsz : H33.size = b + 465 := hsz2
  have ho := ho.eq (hnw b (k_mo (by decide)))
  have hlow : ∀ q, q < b → H33[q]? = s.heap[q]? := fun q hq9 => (hnw q (k_lt hq9)).trans (hlow q hq9)
  have hc := hc.tr hs
  clear hs hsz2 hnw
  have e12 := hc
  clear hc
  have hc : SB b H33 H33 := SB.rf
  have hsm : PZ g H33 (b + 461) := hsm
  refine q_putF (C := "KateDesk") (T := T_Desk) (N := 16) (ci := 5) (ty := .object "KateDesk$Sums") E ho in_Desk ty_Desk tyok_Desk nm_Desk rfl 2 (by decide) w_341 rfl rfl hnm rfl (by decide +kernel) rfl rfl (Nat.le_of_ble_eq_true rfl) na0 hF d_Desk_init_147 (fun H34 locs hq ho2 hF => ?_)
  have hsz := hq.1.trans hsz
  have ho := ho2
  have hc := hc.tr (SB.frm hq)
  have hlow : ∀ q, q < b → H34[q]? = s.heap[q]? := fun q hq9 => (hq.2 q (Nat.ne_of_lt hq9)).trans (hlow q hq9)
  clear hq ho2
  have hfn := hfq.sb (e11.tr (e12.tr hc)) (k_m (by decide)) (fq_ne169 b)
  have hqn4 := hq4.sb (e11.tr (e12.tr hc)) (show b < b + 169 from k_mo (by decide))
  refine lv_aload_n hx hb d_Desk_init_150 rfl (lv_at hl 3 rfl) ?_
  refine q_new (C := "KateDesk$Forms") (T := T_Forms) (N := 6) (ci := 6) (fs := [.null, .null, .null, .null, .null, .null]) E in_Forms ty_Forms tyok_Forms rfl w_260 w_261 w_13 (by decide +kernel) (by decide) (by decide) hsz d_Desk_init_151 (fun H35 hsz2 hnw1 hob => ?_)
  have hlow1 : ∀ q, q < b → H35[q]? = s.heap[q]? := fun q hq9 => (hnw1 q (k_lt hq9)).trans (hlow q hq9)
  refine lv_dup hx hb d_Desk_init_154 rfl ?_
  refine lv_aload_n hx hb d_Desk_init_155 rfl (lv_at hl 1 rfl) ?_
  refine lv_aload_n hx hb d_Desk_init_156 rfl (lv_at hl 0 rfl) ?_
  refine q_cI (rest := [.ref (b + 465), .ref b]) E (Q_Forms_init l g n0 (b + 465) (b + 176) (b + 169) (kF (b + 169)) mq (tn_d_8 b b) (fq_lt169 b) hup) w_264 w_13 w_262 w_263 rfl hd_Forms_init rfl ⟨by decide, by decide⟩ (⟨hob, hsz2, hfn.on hnw1 (tn_d_12 b b) (fq_lt169 b), hqn4.1.eq (hnw1 _ (show b + 175 < b + 465 from Nat.add_lt_add_left (by decide) _))⟩) hF hl.1 rfl (Nat.le_of_ble_eq_true rfl) d_Desk_init_157 ⟨by decide, by decide⟩ (qv (fun H36 locs hq hF => ?_))
  obtain ⟨⟨hfm, hfj, hr1e⟩, hsz3, hnw2⟩ := hq
  have hnw : ∀ q, q < b + 465 → H36[q]? = H34[q]? := fun q h => (hnw2 q h).trans (hnw1 q h)
  have hsz2 : H36.size = b + 470 := hsz3
  clear hnw1 hnw2 hsz3 hlow1
  have hs : SB b H34 H36 := SB.grow hsz (by rw [show H36.size = b + 470 from hsz2]; exact Nat.add_le_add_left (show 465 ≤ 470 by decide) _) hnw
  have hsz : H36.size = b + 470 := hsz2
  have ho := ho.eq (hnw b (k_mo (by decide)))
  have hlow : ∀ q, q < b → H36[q]? = s.heap[q]? := fun q hq9 => (hnw q (k_lt hq9)).trans (hlow q hq9)
  have hc := hc.tr hs
  clear hs hsz2 hnw
  have e13 := hc
  clear hc
  have hc : SB b H36 H36 := SB.rf
  clear hfn
  refine q_putF (C := "KateDesk") (T := T_Desk) (N := 16) (ci := 5) (ty := .object "KateDesk$Forms") E ho in_Desk ty_Desk tyok_Desk nm_Desk rfl 3 (by decide) w_342 rfl rfl hnm rfl (by decide +kernel) rfl rfl (Nat.le_of_ble_eq_true rfl) na0 hF d_Desk_init_160 (fun H37 locs hq ho2 hF => ?_)
  have hsz := hq.1.trans hsz
  have ho := ho2
  have hc := hc.tr (SB.frm hq)
  have hlow : ∀ q, q < b → H37[q]? = s.heap[q]? := fun q hq9 => (hq.2 q (Nat.ne_of_lt hq9)).trans (hlow q hq9)
  clear hq ho2
  have hfn := hfr.sb (e10.tr (e11.tr (e12.tr (e13.tr hc)))) (k_m (by decide)) (fq_ne162 b)
  have hfn4 := hf4.sb (e10.tr (e11.tr (e12.tr (e13.tr hc)))) (show b < b + 162 from k_mo (by decide))
  refine lv_aload_n hx hb d_Desk_init_163 rfl (lv_at hl 3 rfl) ?_
  refine q_new (C := "KateDesk$Polynomials") (T := T_Polys) (N := 9) (ci := 7) (fs := [.null, .null, .null, .null, .null, .null, .null, .null, .null]) E in_Polys ty_Polys tyok_Polys rfl w_291 w_292 w_14 (by decide +kernel) (by decide) (by decide) hsz d_Desk_init_164 (fun H38 hsz2 hnw1 hob => ?_)
  have hlow1 : ∀ q, q < b → H38[q]? = s.heap[q]? := fun q hq9 => (hnw1 q (k_lt hq9)).trans (hlow q hq9)
  refine lv_dup hx hb d_Desk_init_167 rfl ?_
  refine lv_aload_n hx hb d_Desk_init_168 rfl (lv_at hl 2 rfl) ?_
  refine q_cI (rest := [.ref (b + 470), .ref b]) E (R_Polys_init l g n0 (b + 470) (b + 162) (kF (b + 162)) mr (tn_d_9 b b) (fq_lt162 b) hup emr) w_295 w_14 w_293 w_294 rfl hd_Polys_init rfl ⟨by decide, by decide⟩ (⟨hob, hsz2, hfn.on hnw1 (tn_d_13 b b) (fq_lt162 b), hfn4.1.eq (hnw1 _ (show b + 168 < b + 470 from Nat.add_lt_add_left (by decide) _)), hfn4.2.2.2.1.imp (fun f hf => ⟨hf.1.eq (hnw1 _ (show b + 165 < b + 470 from Nat.add_lt_add_left (by decide) _)), hf.2⟩)⟩) hF hl.1 rfl (Nat.le_of_ble_eq_true rfl) d_Desk_init_169 ⟨by decide, by decide⟩ (qv (fun H39 locs hq hF => ?_))
  obtain ⟨⟨hpl, hpy, hpv, hpw, hp7, hp1⟩, hsz3, hnw2⟩ := hq
  have hnw : ∀ q, q < b + 470 → H39[q]? = H37[q]? := fun q h => (hnw2 q h).trans (hnw1 q h)
  have hsz2 : H39.size = b + 495 := hsz3
  clear hnw1 hnw2 hsz3 hlow1
  have hs : SB b H37 H39 := SB.grow hsz (by rw [show H39.size = b + 495 from hsz2]; exact Nat.add_le_add_left (show 470 ≤ 495 by decide) _) hnw
  have hsz : H39.size = b + 495 := hsz2
  have ho := ho.eq (hnw b (k_mo (by decide)))
  have hlow : ∀ q, q < b → H39[q]? = s.heap[q]? := fun q hq9 => (hnw q (k_lt hq9)).trans (hlow q hq9)
  have hc := hc.tr hs
  clear hs hsz2 hnw
  have e14 := hc
  clear hc
  have hc : SB b H39 H39 := SB.rf
  clear hfn
  refine q_putF (C := "KateDesk") (T := T_Desk) (N := 16) (ci := 5) (ty := .object "KateDesk$Polynomials") E ho in_Desk ty_Desk tyok_Desk nm_Desk rfl 4 (by decide) w_343 rfl rfl hnm rfl (by decide +kernel) rfl rfl (Nat.le_of_ble_eq_true rfl) na0 hF d_Desk_init_172 (fun H40 locs hq ho2 hF => ?_)
  have hsz := hq.1.trans hsz
  have ho := ho2
  have hc := hc.tr (SB.frm hq)
  have hlow : ∀ q, q < b → H40[q]? = s.heap[q]? := fun q hq9 => (hq.2 q (Nat.ne_of_lt hq9)).trans (hlow q hq9)
  clear hq ho2
  have hfn := hfq.sb (e11.tr (e12.tr (e13.tr (e14.tr hc)))) (k_m (by decide)) (fq_ne169 b)
  have hqg4 := hq4.sb (e11.tr (e12.tr (e13.tr (e14.tr hc)))) (show b < b + 169 from k_mo (by decide))
  refine lv_aload_n hx hb d_Desk_init_175 rfl (lv_at hl 3 rfl) ?_
  refine lv_aload_n hx hb d_Desk_init_176 rfl (lv_at hl 1 rfl) ?_
  refine q_cSW (rest := [.ref b]) E hw0 (QG_Desk_newGenerator l g n0 s0 hn0 (b + 169) (b + 495) (kF (b + 169)) mq ⟨hks, ⟨a1, hr1, hk1⟩, ⟨a2, hr2, hk2⟩, hkg⟩ hup emq) w_333 w_1 w_331 w_332 hd_Desk_newGenerator rfl ⟨by decide, by decide⟩ (⟨hold.lt (hn0 _ na0) hlow, hsz, hfn, hqg4.1, hqg4.2.1, hqg4.2.2.2.1⟩) hF hl.1 rfl (Nat.le_of_ble_eq_true rfl) d_Desk_init_177 ⟨by decide, by decide⟩ (qr (fun rg H41 locs hq hF => ?_))
  obtain ⟨hr9, hsz2, hnw, hge, hgl⟩ := hq
  subst hr9
  clear hfn
  have hs : SB b H40 H41 := SB.grow hsz (by rw [show H41.size = b + 501 from hsz2]; exact Nat.add_le_add_left (show 495 ≤ 501 by decide) _) hnw
  have hsz : H41.size = b + 501 := hsz2
  have ho := ho.eq (hnw b (k_mo (by decide)))
  have hlow : ∀ q, q < b → H41[q]? = s.heap[q]? := fun q hq9 => (hnw q (k_lt hq9)).trans (hlow q hq9)
  have hc := hc.tr hs
  clear hs hsz2 hnw
  have e15 := hc
  clear hc
  have hc : SB b H41 H41 := SB.rf
  refine q_putF (C := "KateDesk") (T := T_Desk) (N := 16) (ci := 5) (ty := .object "KateDesk$Point") E ho in_Desk ty_Desk tyok_Desk nm_Desk rfl 11 (by decide) w_350 rfl rfl hnm rfl (by decide +kernel) rfl rfl (Nat.le_of_ble_eq_true rfl) na0 hF d_Desk_init_180 (fun H42 locs hq ho2 hF => ?_)
  have hsz := hq.1.trans hsz
  have ho := ho2
  have hc := hc.tr (SB.frm hq)
  have hlow : ∀ q, q < b → H42[q]? = s.heap[q]? := fun q hq9 => (hq.2 q (Nat.ne_of_lt hq9)).trans (hlow q hq9)
  clear hq ho2
  have E0 := (e1.tr (e2.tr (e3.tr (e4.tr (e5.tr (e6.tr (e7.tr (e8.tr (e9.tr (e10.tr (e11.tr (e12.tr (e13.tr (e14.tr (e15.tr hc)))))))))))))))
  have E1 := (e2.tr (e3.tr (e4.tr (e5.tr (e6.tr (e7.tr (e8.tr (e9.tr (e10.tr (e11.tr (e12.tr (e13.tr (e14.tr (e15.tr hc))))))))))))))
  have E2 := (e3.tr (e4.tr (e5.tr (e6.tr (e7.tr (e8.tr (e9.tr (e10.tr (e11.tr (e12.tr (e13.tr (e14.tr (e15.tr hc)))))))))))))
  have E3 := (e4.tr (e5.tr (e6.tr (e7.tr (e8.tr (e9.tr (e10.tr (e11.tr (e12.tr (e13.tr (e14.tr (e15.tr hc))))))))))))
  have E4 := (e5.tr (e6.tr (e7.tr (e8.tr (e9.tr (e10.tr (e11.tr (e12.tr (e13.tr (e14.tr (e15.tr hc)))))))))))
  have E5 := (e6.tr (e7.tr (e8.tr (e9.tr (e10.tr (e11.tr (e12.tr (e13.tr (e14.tr (e15.tr hc))))))))))
  have E6 := (e7.tr (e8.tr (e9.tr (e10.tr (e11.tr (e12.tr (e13.tr (e14.tr (e15.tr hc)))))))))
  have E7 := (e8.tr (e9.tr (e10.tr (e11.tr (e12.tr (e13.tr (e14.tr (e15.tr hc))))))))
  have E8 := (e9.tr (e10.tr (e11.tr (e12.tr (e13.tr (e14.tr (e15.tr hc)))))))
  have E9 := (e10.tr (e11.tr (e12.tr (e13.tr (e14.tr (e15.tr hc))))))
  have E10 := (e11.tr (e12.tr (e13.tr (e14.tr (e15.tr hc)))))
  have E11 := (e12.tr (e13.tr (e14.tr (e15.tr hc))))
  have E12 := (e13.tr (e14.tr (e15.tr hc)))
  have E13 := (e14.tr (e15.tr hc))
  have E14 := (e15.tr hc)
  have E15 := hc
  have hso : AR g.2.2.2.2.2.1 H42 (b + 1) 32 (fun j => b + 1 + 1 + j) := hso.sb E0 (show ¬ b + 1 = b from k_m (by decide))
  have hsi : ∀ j, j < 32 → AJ g H42 (b + 1 + 1 + j) 14 (fun _ => 0) := fun j hj => (hsi j hj).sb E0 (tn_d_0 b j)
  have hpo : AR g.2.2.2.2.1 H42 (b + 34) 12 (fun k => b + 34 + 1 + 4 * k) := hpo.sb E1 (show ¬ b + 34 = b from k_m (by decide))
  have hpi : ∀ k, k < 12 → PZ g H42 (b + 34 + 1 + 4 * k) := fun k hk => (hpi k hk).sb E1 (tn_d_1 b k)
  have hwo : AR g.2.2.2.2.1 H42 (b + 83) 16 (fun k => b + 83 + 1 + 4 * k) := hwo.sb E2 (show ¬ b + 83 = b from k_m (by decide))
  have hwi : ∀ k, k < 16 → PZ g H42 (b + 83 + 1 + 4 * k) := fun k hk => (hwi k hk).sb E2 (tn_d_2 b k)
  have htp : OB g H42 (b + 148) 3 [.ref (b + 149), .int 0] := htp.sb E3 (show ¬ b + 148 = b from k_m (by decide))
  have htc : AB g H42 (b + 149) 96 (fun _ => 0) := htc.sb E3 (show ¬ b + 149 = b from k_m (by decide))
  have hwr : OB g H42 (b + 150) 3 [.ref (b + 151), .int 0] := hwr.sb E4 (show ¬ b + 150 = b from k_m (by decide))
  have hwc : AB g H42 (b + 151) 96 (fun _ => 0) := hwc.sb E4 (show ¬ b + 151 = b from k_m (by decide))
  have hhp : PZ g H42 (b + 152) := hhp.sb E5 (tn_d_3 b b)
  have hmu : PZ g H42 (b + 156) := hmu.sb E6 (tn_d_4 b b)
  have hhs : AJ g H42 (b + 160) 14 (fun _ => 0) := hhs.sb E7 (show ¬ b + 160 = b from k_m (by decide))
  have hfa : AJ g H42 (b + 161) 14 (fun _ => 0) := hfa.sb E8 (show ¬ b + 161 = b from k_m (by decide))
  have hfr : FD g n0 H42 (b + 162) (kF (b + 162)) mr := hfr.sb E9 (show ¬ b + 162 = b from k_m (by decide)) (fq_ne162 b)
  have hmr : AJ g H42 (b + 168) 14 (hxF hb60 64 64) := hmr.sb E9 (show ¬ b + 168 = b from k_m (by decide))
  have hf4 : FR4 g H42 (b + 162) := hf4.sb E9 (show b < b + 162 from k_mo (by decide))
  have hfq : FD g n0 H42 (b + 169) (kF (b + 169)) mq := hfq.sb E10 (show ¬ b + 169 = b from k_m (by decide)) (fq_ne169 b)
  have hq4 : FQ4 g H42 (b + 169) := hq4.sb E10 (show b < b + 169 from k_mo (by decide))
  have hmq : AJ g H42 (b + 175) 14 (hxF hb65 96 96) := hmq.sb E10 (show ¬ b + 175 = b from k_m (by decide))
  have hcv : OB g H42 (b + 176) 0 [.ref (b + 169), .ref (b + 177), .ref (b + 178), .ref (b + 179), .ref (b + 180), .ref (b + 181), .ref (b + 182), .ref (b + 183), .ref (b + 184), .ref (b + 185)] := hcv.sb E11 (show ¬ b + 176 = b from k_m (by decide))
  have hc1 : AJ g H42 (b + 177) 14 (fun _ => 0) := hc1.sb E11 (show ¬ b + 177 = b from k_m (by decide))
  have hc2 : AJ g H42 (b + 178) 14 (fun _ => 0) := hc2.sb E11 (show ¬ b + 178 = b from k_m (by decide))
  have hc3 : AJ g H42 (b + 179) 14 (fun _ => 0) := hc3.sb E11 (show ¬ b + 179 = b from k_m (by decide))
  have hc4 : AJ g H42 (b + 180) 14 (fun _ => 0) := hc4.sb E11 (show ¬ b + 180 = b from k_m (by decide))
  have hc5 : AJ g H42 (b + 181) 14 (fun _ => 0) := hc5.sb E11 (show ¬ b + 181 = b from k_m (by decide))
  have hc6 : AJ g H42 (b + 182) 14 (fun _ => 0) := hc6.sb E11 (show ¬ b + 182 = b from k_m (by decide))
  have hc7 : AJ g H42 (b + 183) 14 (fun _ => 0) := hc7.sb E11 (show ¬ b + 183 = b from k_m (by decide))
  have hc8 : AJ g H42 (b + 184) 14 (fun _ => 0) := hc8.sb E11 (show ¬ b + 184 = b from k_m (by decide))
  have hc9 : AJ g H42 (b + 185) 14 (fun _ => 0) := hc9.sb E11 (show ¬ b + 185 = b from k_m (by decide))
  have hsu : OB g H42 (b + 186) 4 [.ref (b + 176), .ref (b + 187), .ref (b + 444), .ref (b + 461)] := hsu.sb E12 (show ¬ b + 186 = b from k_m (by decide))
  have hod : AR g.2.2.2.2.1 H42 (b + 187) 64 (fun k => b + 187 + 1 + 4 * k) := hod.sb E12 (show ¬ b + 187 = b from k_m (by decide))
  have hop : ∀ k, k < 64 → PZ g H42 (b + 187 + 1 + 4 * k) := fun k hk => (hop k hk).sb E12 (tn_d_5 b k)
  have hdo : AR g.2.2.2.2.2.2 H42 (b + 444) 16 (fun j => b + 444 + 1 + j) := hdo.sb E12 (show ¬ b + 444 = b from k_m (by decide))
  have hdi : ∀ j, j < 16 → AB g H42 (b + 444 + 1 + j) 257 (fun _ => 0) := fun j hj => (hdi j hj).sb E12 (tn_d_6 b j)
  have hsm : PZ g H42 (b + 461) := hsm.sb E12 (tn_d_7 b b)
  have hfm : OB g H42 (b + 465) 6 [.ref (b + 169), .ref (b + 176), .ref (b + 466), .ref (b + 467), .ref (b + 468), .ref (b + 469)] := hfm.sb E13 (show ¬ b + 465 = b from k_m (by decide))
  have hr1e : ∃ f, AJ g H42 (b + 466) 14 f ∧ RV f ((E9Q : Nat) : Int) := hr1e.imp (fun f hf => ⟨hf.1.sb E13 (show b + 466 ≠ b from k_m (by decide)), hf.2⟩)
  have hcq : CQ g H42 b := ⟨hmr.ext kR_hx, hq4.1, hq4.2.1, hq4.2.2.1, hq4.2.2.2.1, hr1e⟩
  have hfj : ∀ k, k < 4 → J14 g n0 H42 (b + 465 + 1 + k) := fun k hk => (hfj k hk).sb E13 (tn_fj b k)
  have hpl : OB g H42 (b + 470) 7 [.ref (b + 162), .ref (b + 471), .ref (b + 472), .ref (b + 473), .ref (b + 474), .ref (b + 475), .ref (b + 476), .ref (b + 477), .ref (b + 478)] := hpl.sb E14 (show ¬ b + 470 = b from k_m (by decide))
  have hpy : ∀ k, k < 7 → J14 g n0 H42 (b + 470 + 1 + k) := fun k hk => (hpy k hk).sb E14 (tn_d_10 b k)
  have hpv : AR g.2.2.2.2.2.1 H42 (b + 478) 16 (fun j => b + 478 + 1 + j) := hpv.sb E14 (show ¬ b + 478 = b from k_m (by decide))
  have hcr : CR g H42 b := ⟨hf4.1, hf4.2.1, hf4.2.2.1, hf4.2.2.2.1, hf4.2.2.2.2, hp7.imp (fun f hf => ⟨hf.1.sb E14 (show b + 471 ≠ b from k_m (by decide)), hf.2⟩), hp1.imp (fun f hf => ⟨hf.1.sb E14 (show b + 472 ≠ b from k_m (by decide)), hf.2⟩)⟩
  have hsc : SCA g H42 b (fun _ => 0) := fun k hk => ⟨_, hsi k hk, RV_z, RI_pos⟩
  have hpts : PTS g H42 b (fun _ => PN) := fun k hk => ⟨pz_pa (hpi k hk).lpt, onC_PN⟩
  have hpw : ∀ j, j < 16 → J14 g n0 H42 (b + 478 + 1 + j) := fun j hj => (hpw j hj).sb E14 (tn_d_11 b j)
  have hge : PT g n0 H42 (b + 495) (b + 496) (b + 497) (b + 498) := hge.sb E15 (show ¬ b + 495 = b from k_m (by decide)) (show ¬ b + 496 = b from k_m (by decide)) (show ¬ b + 497 = b from k_m (by decide)) (show ¬ b + 498 = b from k_m (by decide))
  have hcx : CX g H42 b := ⟨hcq, ⟨hgl.1.imp (fun f hf => ⟨hf.1.sb E15 (show b + 496 ≠ b from k_m (by decide)), hf.2⟩), hgl.2.1.imp (fun f hf => ⟨hf.1.sb E15 (show b + 497 ≠ b from k_m (by decide)), hf.2⟩), hgl.2.2.imp (fun f hf => ⟨hf.1.sb E15 (show b + 498 ≠ b from k_m (by decide)), hf.2⟩)⟩, hq4.2.2.2.2⟩
  exact q_vret E hr hlk (⟨rfl, ⟨⟨mr, mq, emr, emq, dk_mk hna ho hso hsi hpo hpi hwo hwi htp htc hwr hwc hhp hmu hhs hfa hfr hmr hfq hmq hcv hc1 hc2 hc3 hc4 hc5 hc6 hc7 hc8 hc9 hsu hod hop hdo hdi hsm hfm hpl hpy hpv hpw hge⟩, hcx, hcr, hsc, hpts, hdi, hmr, hfj⟩, hsz, hlow⟩) hF d_Desk_init_183
