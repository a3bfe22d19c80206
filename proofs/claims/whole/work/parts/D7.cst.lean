theorem RV_7 : RV (vp_updL (fun _ => 0) 0 7) 7 := ⟨by
  have h : ∀ k : Fin 14, 0 ≤ (vp_updL (fun _ => 0) 0 7 k.val).toInt ∧ (vp_updL (fun _ => 0) 0 7 k.val).toInt < 268435456 := by decide +kernel
  exact fun k hk => h ⟨k, hk⟩, by decide +kernel⟩
set_option maxHeartbeats 4000000 in
set_option maxRecDepth 100000 in
theorem R_Polys_init (l : Launch) (g : WG) (n0 : Nat → Prop) (o : Nat) (fo : Nat) (F : Nat → Nat) (mi : Int64) (hfo : fo < o) (hFo : ∀ k, k < 6 → F k < o) (hna : ∀ q, o ≤ q → n0 q) (hmi : mi = 268435455) : Ctr l y_Polys_init (.code y_Polys_init prog_7_method_1_code 2 none) 3 157 24 338 n0 g [.ref o, .ref fo] (fun H => OB g H o 7 [.null, .null, .null, .null, .null, .null, .null, .null, .null] ∧ H.size = o + 1 ∧ FD g n0 H fo F mi ∧ AJ g H (F 0) 14 kR ∧ ∃ f3, AJ g H (F 3) 14 f3 ∧ RV f3 W2R) (QV (fun H H' => (OB g H' o 7 [.ref fo, .ref (o + 1), .ref (o + 2), .ref (o + 3), .ref (o + 4), .ref (o + 5), .ref (o + 6), .ref (o + 7), .ref (o + 8)] ∧ (∀ k, k < 7 → J14 g n0 H' (o + 1 + k)) ∧ AR g.2.2.2.2.2.1 H' (o + 8) 16 (fun j => o + 8 + 1 + j) ∧ (∀ j, j < 16 → J14 g n0 H' (o + 8 + 1 + j)) ∧ (∃ f, AJ g H' (o + 1) 14 f ∧ RV f ((7 * WR) % RI)) ∧ ∃ f, AJ g H' (o + 2) 14 f ∧ RV f 1) ∧ H'.size = o + 25 ∧ ∀ q, q < o → H'[q]? = H[q]?)) := by
  refine ctr_mk l (lv0 := [(0, .ref o), (1, .ref fo)]) (by decide) (Nat.le_of_ble_eq_true rfl) rfl ?_
  intro p e s m below meth c ls E hr hlk hnm hl hP
  have hx := E.1
  have hb := E.2.1
  have hK := E.2.2.2.2.2
  have hF : ∀ q ∈ ([] : List Loc), n0 q.base := fun q hq => absurd hq List.not_mem_nil
  obtain ⟨ho, hsz, hfd, hM, f3, hf3, hv3⟩ := hP
  have hlow : ∀ q, q < o → s.heap[q]? = s.heap[q]? := fun _ _ => rfl
  have na0 : n0 (o + 0) := hna _ (by omega)
  have na1 : n0 (o + 1) := hna _ (by omega)
  have na2 : n0 (o + 2) := hna _ (by omega)
  have na3 : n0 (o + 3) := hna _ (by omega)
  have na4 : n0 (o + 4) := hna _ (by omega)
  have na5 : n0 (o + 5) := hna _ (by omega)
  have na6 : n0 (o + 6) := hna _ (by omega)
  have na7 : n0 (o + 7) := hna _ (by omega)
  refine lv_aload_n hx hb d_Polys_init_0 rfl (lv_at hl 0 rfl) ?_
  refine W.objInit hx hb E.2.2.2.1 (E.2.2.2.2.1 _ w_296) (E.2.2.2.2.1 _ w_31) (E.2.2.2.2.1 _ w_32) rfl (by rw [E.2.2.1]; exact hl.1) rfl d_Polys_init_1 (Nat.le_of_ble_eq_true rfl) (Nat.le_of_ble_eq_true rfl) ?_
  refine lv_aload_n hx hb d_Polys_init_4 rfl (lv_at hl 0 rfl) ?_
  refine lv_bipush (v := nI 14) hx hb d_Polys_init_5 (by decide) ?_
  refine q_newJ E 14 rfl (by decide) w_64 (by decide) (by decide) hsz d_Polys_init_7 (fun H1 hsz2 hnw h_1 => ?_)
  have hsz : H1.size = o + 2 := hsz2
  clear hsz2
  have ho := ho.eq (hnw o (k_mo (by decide)))
  have hlow : ∀ q, q < o → H1[q]? = s.heap[q]? := fun q hq9 => (hnw q (k_lt hq9)).trans (hlow q hq9)
  clear hnw
  refine q_putF (C := "KateDesk$Polynomials") (T := T_Polys) (N := 9) (ci := 7) (ty := .array (.long)) E ho in_Polys ty_Polys tyok_Polys nm_Polys rfl 1 (by decide) w_304 rfl rfl hnm rfl (by decide +kernel) rfl rfl (Nat.le_of_ble_eq_true rfl) na0 hF d_Polys_init_9 (fun H2 locs hq ho2 hF => ?_)
  have hsz := hq.1.trans hsz
  have ho := ho2
  have h_1 := AJ.off hq (show ¬ o + 1 = o from k_m (by decide)) h_1
  have hlow : ∀ q, q < o → H2[q]? = s.heap[q]? := fun q hq9 => (hq.2 q (show ¬ q = o from Nat.ne_of_lt hq9)).trans (hlow q hq9)
  clear hq ho2
  refine lv_aload_n hx hb d_Polys_init_12 rfl (lv_at hl 0 rfl) ?_
  refine lv_bipush (v := nI 14) hx hb d_Polys_init_13 (by decide) ?_
  refine q_newJ E 14 rfl (by decide) w_64 (by decide) (by decide) hsz d_Polys_init_15 (fun H3 hsz2 hnw h_2 => ?_)
  have hsz : H3.size = o + 3 := hsz2
  clear hsz2
  have ho := ho.eq (hnw o (k_mo (by decide)))
  have h_1 := h_1.eq (hnw _ (Nat.add_lt_add_left (by decide) _))
  have hlow : ∀ q, q < o → H3[q]? = s.heap[q]? := fun q hq9 => (hnw q (k_lt hq9)).trans (hlow q hq9)
  clear hnw
  refine q_putF (C := "KateDesk$Polynomials") (T := T_Polys) (N := 9) (ci := 7) (ty := .array (.long)) E ho in_Polys ty_Polys tyok_Polys nm_Polys rfl 2 (by decide) w_305 rfl rfl hnm rfl (by decide +kernel) rfl rfl (Nat.le_of_ble_eq_true rfl) na0 hF d_Polys_init_17 (fun H4 locs hq ho2 hF => ?_)
  have hsz := hq.1.trans hsz
  have ho := ho2
  have h_1 := AJ.off hq (show ¬ o + 1 = o from k_m (by decide)) h_1
  have h_2 := AJ.off hq (show ¬ o + 2 = o from k_m (by decide)) h_2
  have hlow : ∀ q, q < o → H4[q]? = s.heap[q]? := fun q hq9 => (hq.2 q (show ¬ q = o from Nat.ne_of_lt hq9)).trans (hlow q hq9)
  clear hq ho2
  refine lv_aload_n hx hb d_Polys_init_20 rfl (lv_at hl 0 rfl) ?_
  refine lv_bipush (v := nI 14) hx hb d_Polys_init_21 (by decide) ?_
  refine q_newJ E 14 rfl (by decide) w_64 (by decide) (by decide) hsz d_Polys_init_23 (fun H5 hsz2 hnw h_3 => ?_)
  have hsz : H5.size = o + 4 := hsz2
  clear hsz2
  have ho := ho.eq (hnw o (k_mo (by decide)))
  have h_1 := h_1.eq (hnw _ (Nat.add_lt_add_left (by decide) _))
  have h_2 := h_2.eq (hnw _ (Nat.add_lt_add_left (by decide) _))
  have hlow : ∀ q, q < o → H5[q]? = s.heap[q]? := fun q hq9 => (hnw q (k_lt hq9)).trans (hlow q hq9)
  clear hnw
  refine q_putF (C := "KateDesk$Polynomials") (T := T_Polys) (N := 9) (ci := 7) (ty := .array (.long)) E ho in_Polys ty_Polys tyok_Polys nm_Polys rfl 3 (by decide) w_306 rfl rfl hnm rfl (by decide +kernel) rfl rfl (Nat.le_of_ble_eq_true rfl) na0 hF d_Polys_init_25 (fun H6 locs hq ho2 hF => ?_)
  have hsz := hq.1.trans hsz
  have ho := ho2
  have h_1 := AJ.off hq (show ¬ o + 1 = o from k_m (by decide)) h_1
  have h_2 := AJ.off hq (show ¬ o + 2 = o from k_m (by decide)) h_2
  have h_3 := AJ.off hq (show ¬ o + 3 = o from k_m (by decide)) h_3
  have hlow : ∀ q, q < o → H6[q]? = s.heap[q]? := fun q hq9 => (hq.2 q (show ¬ q = o from Nat.ne_of_lt hq9)).trans (hlow q hq9)
  clear hq ho2
  refine lv_aload_n hx hb d_Polys_init_28 rfl (lv_at hl 0 rfl) ?_
  refine lv_bipush (v := nI 14) hx hb d_Polys_init_29 (by decide) ?_
  refine q_newJ E 14 rfl (by decide) w_64 (by decide) (by decide) hsz d_Polys_init_31 (fun H7 hsz2 hnw h_4 => ?_)
  have hsz : H7.size = o + 5 := hsz2
  clear hsz2
  have ho := ho.eq (hnw o (k_mo (by decide)))
  have h_1 := h_1.eq (hnw _ (Nat.add_lt_add_left (by decide) _))
  have h_2 := h_2.eq (hnw _ (Nat.add_lt_add_left (by decide) _))
  have h_3 := h_3.eq (hnw _ (Nat.add_lt_add_left (by decide) _))
  have hlow : ∀ q, q < o → H7[q]? = s.heap[q]? := fun q hq9 => (hnw q (k_lt hq9)).trans (hlow q hq9)
  clear hnw
  refine q_putF (C := "KateDesk$Polynomials") (T := T_Polys) (N := 9) (ci := 7) (ty := .array (.long)) E ho in_Polys ty_Polys tyok_Polys nm_Polys rfl 4 (by decide) w_307 rfl rfl hnm rfl (by decide +kernel) rfl rfl (Nat.le_of_ble_eq_true rfl) na0 hF d_Polys_init_33 (fun H8 locs hq ho2 hF => ?_)
  have hsz := hq.1.trans hsz
  have ho := ho2
  have h_1 := AJ.off hq (show ¬ o + 1 = o from k_m (by decide)) h_1
  have h_2 := AJ.off hq (show ¬ o + 2 = o from k_m (by decide)) h_2
  have h_3 := AJ.off hq (show ¬ o + 3 = o from k_m (by decide)) h_3
  have h_4 := AJ.off hq (show ¬ o + 4 = o from k_m (by decide)) h_4
  have hlow : ∀ q, q < o → H8[q]? = s.heap[q]? := fun q hq9 => (hq.2 q (show ¬ q = o from Nat.ne_of_lt hq9)).trans (hlow q hq9)
  clear hq ho2
  refine lv_aload_n hx hb d_Polys_init_36 rfl (lv_at hl 0 rfl) ?_
  refine lv_bipush (v := nI 14) hx hb d_Polys_init_37 (by decide) ?_
  refine q_newJ E 14 rfl (by decide) w_64 (by decide) (by decide) hsz d_Polys_init_39 (fun H9 hsz2 hnw h_5 => ?_)
  have hsz : H9.size = o + 6 := hsz2
  clear hsz2
  have ho := ho.eq (hnw o (k_mo (by decide)))
  have h_1 := h_1.eq (hnw _ (Nat.add_lt_add_left (by decide) _))
  have h_2 := h_2.eq (hnw _ (Nat.add_lt_add_left (by decide) _))
  have h_3 := h_3.eq (hnw _ (Nat.add_lt_add_left (by decide) _))
  have h_4 := h_4.eq (hnw _ (Nat.add_lt_add_left (by decide) _))
  have hlow : ∀ q, q < o → H9[q]? = s.heap[q]? := fun q hq9 => (hnw q (k_lt hq9)).trans (hlow q hq9)
  clear hnw
  refine q_putF (C := "KateDesk$Polynomials") (T := T_Polys) (N := 9) (ci := 7) (ty := .array (.long)) E ho in_Polys ty_Polys tyok_Polys nm_Polys rfl 5 (by decide) w_308 rfl rfl hnm rfl (by decide +kernel) rfl rfl (Nat.le_of_ble_eq_true rfl) na0 hF d_Polys_init_41 (fun H10 locs hq ho2 hF => ?_)
  have hsz := hq.1.trans hsz
  have ho := ho2
  have h_1 := AJ.off hq (show ¬ o + 1 = o from k_m (by decide)) h_1
  have h_2 := AJ.off hq (show ¬ o + 2 = o from k_m (by decide)) h_2
  have h_3 := AJ.off hq (show ¬ o + 3 = o from k_m (by decide)) h_3
  have h_4 := AJ.off hq (show ¬ o + 4 = o from k_m (by decide)) h_4
  have h_5 := AJ.off hq (show ¬ o + 5 = o from k_m (by decide)) h_5
  have hlow : ∀ q, q < o → H10[q]? = s.heap[q]? := fun q hq9 => (hq.2 q (show ¬ q = o from Nat.ne_of_lt hq9)).trans (hlow q hq9)
  clear hq ho2
  refine lv_aload_n hx hb d_Polys_init_44 rfl (lv_at hl 0 rfl) ?_
  refine lv_bipush (v := nI 14) hx hb d_Polys_init_45 (by decide) ?_
  refine q_newJ E 14 rfl (by decide) w_64 (by decide) (by decide) hsz d_Polys_init_47 (fun H11 hsz2 hnw h_6 => ?_)
  have hsz : H11.size = o + 7 := hsz2
  clear hsz2
  have ho := ho.eq (hnw o (k_mo (by decide)))
  have h_1 := h_1.eq (hnw _ (Nat.add_lt_add_left (by decide) _))
  have h_2 := h_2.eq (hnw _ (Nat.add_lt_add_left (by decide) _))
  have h_3 := h_3.eq (hnw _ (Nat.add_lt_add_left (by decide) _))
  have h_4 := h_4.eq (hnw _ (Nat.add_lt_add_left (by decide) _))
  have h_5 := h_5.eq (hnw _ (Nat.add_lt_add_left (by decide) _))
  have hlow : ∀ q, q < o → H11[q]? = s.heap[q]? := fun q hq9 => (hnw q (k_lt hq9)).trans (hlow q hq9)
  clear hnw
  refine q_putF (C := "KateDesk$Polynomials") (T := T_Polys) (N := 9) (ci := 7) (ty := .array (.long)) E ho in_Polys ty_Polys tyok_Polys nm_Polys rfl 6 (by decide) w_309 rfl rfl hnm rfl (by decide +kernel) rfl rfl (Nat.le_of_ble_eq_true rfl) na0 hF d_Polys_init_49 (fun H12 locs hq ho2 hF => ?_)
  have hsz := hq.1.trans hsz
  have ho := ho2
  have h_1 := AJ.off hq (show ¬ o + 1 = o from k_m (by decide)) h_1
  have h_2 := AJ.off hq (show ¬ o + 2 = o from k_m (by decide)) h_2
  have h_3 := AJ.off hq (show ¬ o + 3 = o from k_m (by decide)) h_3
  have h_4 := AJ.off hq (show ¬ o + 4 = o from k_m (by decide)) h_4
  have h_5 := AJ.off hq (show ¬ o + 5 = o from k_m (by decide)) h_5
  have h_6 := AJ.off hq (show ¬ o + 6 = o from k_m (by decide)) h_6
  have hlow : ∀ q, q < o → H12[q]? = s.heap[q]? := fun q hq9 => (hq.2 q (show ¬ q = o from Nat.ne_of_lt hq9)).trans (hlow q hq9)
  clear hq ho2
  refine lv_aload_n hx hb d_Polys_init_52 rfl (lv_at hl 0 rfl) ?_
  refine lv_bipush (v := nI 14) hx hb d_Polys_init_53 (by decide) ?_
  refine q_newJ E 14 rfl (by decide) w_64 (by decide) (by decide) hsz d_Polys_init_55 (fun H13 hsz2 hnw h_7 => ?_)
  have hsz : H13.size = o + 8 := hsz2
  clear hsz2
  have ho := ho.eq (hnw o (k_mo (by decide)))
  have h_1 := h_1.eq (hnw _ (Nat.add_lt_add_left (by decide) _))
  have h_2 := h_2.eq (hnw _ (Nat.add_lt_add_left (by decide) _))
  have h_3 := h_3.eq (hnw _ (Nat.add_lt_add_left (by decide) _))
  have h_4 := h_4.eq (hnw _ (Nat.add_lt_add_left (by decide) _))
  have h_5 := h_5.eq (hnw _ (Nat.add_lt_add_left (by decide) _))
  have h_6 := h_6.eq (hnw _ (Nat.add_lt_add_left (by decide) _))
  have hlow : ∀ q, q < o → H13[q]? = s.heap[q]? := fun q hq9 => (hnw q (k_lt hq9)).trans (hlow q hq9)
  clear hnw
  refine q_putF (C := "KateDesk$Polynomials") (T := T_Polys) (N := 9) (ci := 7) (ty := .array (.long)) E ho in_Polys ty_Polys tyok_Polys nm_Polys rfl 7 (by decide) w_310 rfl rfl hnm rfl (by decide +kernel) rfl rfl (Nat.le_of_ble_eq_true rfl) na0 hF d_Polys_init_57 (fun H14 locs hq ho2 hF => ?_)
  have hsz := hq.1.trans hsz
  have ho := ho2
  have h_1 := AJ.off hq (show ¬ o + 1 = o from k_m (by decide)) h_1
  have h_2 := AJ.off hq (show ¬ o + 2 = o from k_m (by decide)) h_2
  have h_3 := AJ.off hq (show ¬ o + 3 = o from k_m (by decide)) h_3
  have h_4 := AJ.off hq (show ¬ o + 4 = o from k_m (by decide)) h_4
  have h_5 := AJ.off hq (show ¬ o + 5 = o from k_m (by decide)) h_5
  have h_6 := AJ.off hq (show ¬ o + 6 = o from k_m (by decide)) h_6
  have h_7 := AJ.off hq (show ¬ o + 7 = o from k_m (by decide)) h_7
  have hlow : ∀ q, q < o → H14[q]? = s.heap[q]? := fun q hq9 => (hq.2 q (show ¬ q = o from Nat.ne_of_lt hq9)).trans (hlow q hq9)
  clear hq ho2
  refine lv_aload_n hx hb d_Polys_init_60 rfl (lv_at hl 0 rfl) ?_
  refine lv_bipush (v := nI 16) hx hb d_Polys_init_61 (by decide) ?_
  refine lv_bipush (v := nI 14) hx hb d_Polys_init_63 (by decide) ?_
  refine q_maJ E (nI_pos (by decide)) (nI_pos (by decide)) (N := 16) (M := 14) (nI_clamp (by decide)) (nI_clamp (by decide)) (by decide) (by decide) w_297 (by decide) (by decide) hsz d_Polys_init_65 (fun H15 hsz2 hnw hvo hvi => ?_)
  have hsz : H15.size = o + 25 := hsz2
  clear hsz2
  have ho := ho.eq (hnw o (k_mo (by decide)))
  have h_1 := h_1.eq (hnw _ (Nat.add_lt_add_left (by decide) _))
  have h_2 := h_2.eq (hnw _ (Nat.add_lt_add_left (by decide) _))
  have h_3 := h_3.eq (hnw _ (Nat.add_lt_add_left (by decide) _))
  have h_4 := h_4.eq (hnw _ (Nat.add_lt_add_left (by decide) _))
  have h_5 := h_5.eq (hnw _ (Nat.add_lt_add_left (by decide) _))
  have h_6 := h_6.eq (hnw _ (Nat.add_lt_add_left (by decide) _))
  have h_7 := h_7.eq (hnw _ (Nat.add_lt_add_left (by decide) _))
  have hlow : ∀ q, q < o → H15[q]? = s.heap[q]? := fun q hq9 => (hnw q (k_lt hq9)).trans (hlow q hq9)
  clear hnw
  have hj : ∀ k, k < 7 → J14 g n0 H15 (o + 1 + k) := by
    intro k hk
    match k, hk with
    | 0, _ => exact ⟨na1, _, h_1⟩
    | 1, _ => exact ⟨na2, _, h_2⟩
    | 2, _ => exact ⟨na3, _, h_3⟩
    | 3, _ => exact ⟨na4, _, h_4⟩
    | 4, _ => exact ⟨na5, _, h_5⟩
    | 5, _ => exact ⟨na6, _, h_6⟩
    | 6, _ => exact ⟨na7, _, h_7⟩
  have hvi : ∀ j, j < 16 → J14 g n0 H15 (o + 8 + 1 + j) := fun j hj => ⟨hna _ (tn_po1 o j), _, hvi j hj⟩
  clear h_3 h_4 h_5 h_6 h_7
  refine q_putF (C := "KateDesk$Polynomials") (T := T_Polys) (N := 9) (ci := 7) (ty := .array (.array (.long))) E ho in_Polys ty_Polys tyok_Polys nm_Polys rfl 8 (by decide) w_311 rfl rfl hnm rfl (by decide +kernel) rfl rfl (Nat.le_of_ble_eq_true rfl) na0 hF d_Polys_init_69 (fun H16 locs hq ho2 hF => ?_)
  have hsz := hq.1.trans hsz
  have ho := ho2
  have hs := SB.frm hq
  have hlow : ∀ q, q < o → H16[q]? = s.heap[q]? := fun q hq9 => (hq.2 q (Nat.ne_of_lt hq9)).trans (hlow q hq9)
  have hj := fun k hk => (hj k hk).sb hs (tn_po3 o k)
  have hvi := fun j hj => (hvi j hj).sb hs (tn_po2 o j)
  have hvo := hvo.sb hs (show o + 8 ≠ o from k_m (by decide))
  have h_1 := h_1.sb hs (show o + 1 ≠ o from k_m (by decide))
  have h_2 := h_2.sb hs (show o + 2 ≠ o from k_m (by decide))
  clear hs hq ho2
  refine lv_aload_n hx hb d_Polys_init_72 rfl (lv_at hl 0 rfl) ?_
  refine lv_aload_n hx hb d_Polys_init_73 rfl (lv_at hl 1 rfl) ?_
  refine q_putF (C := "KateDesk$Polynomials") (T := T_Polys) (N := 9) (ci := 7) (ty := .object "KateDesk$Field") E ho in_Polys ty_Polys tyok_Polys nm_Polys rfl 0 (by decide) w_303 rfl rfl hnm rfl (by decide +kernel) rfl rfl (Nat.le_of_ble_eq_true rfl) na0 hF d_Polys_init_74 (fun H17 locs hq ho2 hF => ?_)
  have hsz := hq.1.trans hsz
  have ho := ho2
  have hs := SB.frm hq
  have hlow : ∀ q, q < o → H17[q]? = s.heap[q]? := fun q hq9 => (hq.2 q (Nat.ne_of_lt hq9)).trans (hlow q hq9)
  have hj := fun k hk => (hj k hk).sb hs (tn_po3 o k)
  have hvi := fun j hj => (hvi j hj).sb hs (tn_po2 o j)
  have hvo := hvo.sb hs (show o + 8 ≠ o from k_m (by decide))
  have h_1 := h_1.sb hs (show o + 1 ≠ o from k_m (by decide))
  have h_2 := h_2.sb hs (show o + 2 ≠ o from k_m (by decide))
  clear hs hq ho2
  refine lv_aload_n hx hb d_Polys_init_77 rfl (lv_at hl 0 rfl) ?_
  refine q_get (C := "KateDesk$Polynomials") (T := T_Polys) (N := 9) (ci := 7) E ho in_Polys rfl 2 (by decide) w_305 rfl rfl d_Polys_init_78 ?_
  refine lv_iconst (v := nI 0) hx hb d_Polys_init_81 (by decide) ?_
  refine lv_lconst (v := 1) hx hb d_Polys_init_82 (by decide) ?_
  refine q_last E h_2 na2 hF 0 rfl (by decide) (by decide) d_Polys_init_83 (fun H18 locs hq h_2 hF => ?_)
  have ho := hq.ob hK ho
  have hsz := hq.1.trans hsz
  have hlow : ∀ q, q < o → H18[q]? = s.heap[q]? := fun q hq9 => (hq.off (show ¬ q = o + 2 from k_ne2 hq9)).trans (hlow q hq9)
  have hj := fun k hk => hq.j (hj k hk)
  have hvi := fun j hj => hq.j (hvi j hj)
  have hvo := hq.arJ hK hvo
  have h_1 := hq.ajo (show ¬ o + 1 = o + 2 from k_ne (by decide)) h_1
  clear hq
  refine lv_aload_n hx hb d_Polys_init_84 rfl (lv_at hl 0 rfl) ?_
  refine q_get (C := "KateDesk$Polynomials") (T := T_Polys) (N := 9) (ci := 7) E ho in_Polys rfl 1 (by decide) w_304 rfl rfl d_Polys_init_85 ?_
  refine lv_iconst (v := nI 0) hx hb d_Polys_init_88 (by decide) ?_
  refine lv_ldc2 (v := 7) hx hb E.2.2.2.1 (E.2.2.2.2.1 _ w_298) d_Polys_init_89 ?_
  refine q_last E h_1 na1 hF 0 rfl (by decide) (by decide) d_Polys_init_92 (fun H19 locs hq h_1 hF => ?_)
  have ho := hq.ob hK ho
  have hsz := hq.1.trans hsz
  have hlow : ∀ q, q < o → H19[q]? = s.heap[q]? := fun q hq9 => (hq.off (show ¬ q = o + 1 from k_ne2 hq9)).trans (hlow q hq9)
  have hj := fun k hk => hq.j (hj k hk)
  have hvi := fun j hj => hq.j (hvi j hj)
  have hvo := hq.arJ hK hvo
  have h_2 := hq.ajo (show ¬ o + 2 = o + 1 from k_ne (by decide)) h_2
  clear hq
  have hfd := hfd.on hlow hfo hFo
  refine lv_aload_n hx hb d_Polys_init_93 rfl (lv_at hl 1 rfl) ?_
  refine lv_aload_n hx hb d_Polys_init_94 rfl (lv_at hl 0 rfl) ?_
  refine q_get (C := "KateDesk$Polynomials") (T := T_Polys) (N := 9) (ci := 7) E ho in_Polys rfl 1 (by decide) w_304 rfl rfl d_Polys_init_95 ?_
  refine lv_aload_n hx hb d_Polys_init_98 rfl (lv_at hl 0 rfl) ?_
  refine q_get (C := "KateDesk$Polynomials") (T := T_Polys) (N := 9) (ci := 7) E ho in_Polys rfl 1 (by decide) w_304 rfl rfl d_Polys_init_99 ?_
  refine q_cV (rest := []) E (R_Field_lift l g n0 fo (o + 1) (o + 1) F mi _ 7 RV_7 (by decide) (Nat.ne_of_lt (Nat.lt_of_lt_of_le (hFo 0 (by decide)) (Nat.le_add_right _ _))) hmi) w_302 w_4 w_299 w_300 w_301 hd_Field_lift rfl ⟨by decide, by decide⟩ (OB.recv E.2.2.2.2.2 (by rfl) hfd.1) (⟨hfd, ⟨na1, _, h_1⟩, h_1, hM.eq (hlow _ (hFo 0 (by decide))), _, hf3.eq (hlow _ (hFo 3 (by decide))), hv3⟩) hF hl.1 rfl (Nat.le_of_ble_eq_true rfl) d_Polys_init_102 ⟨by decide, by decide⟩ (qv (fun H20 locs hq hF => ?_))
  obtain ⟨hq, f9, h_1, v_1⟩ := hq
  have ho := hq.ob hK ho
  have hsz := hq.1.trans hsz
  have hlow : ∀ q, q < o → H20[q]? = s.heap[q]? := fun q hq9 => (hq.off (show ¬ q = o + 1 from k_ne2 hq9)).trans (hlow q hq9)
  have hj := fun k hk => hq.j (hj k hk)
  have hvi := fun j hj => hq.j (hvi j hj)
  have hvo := hq.arJ hK hvo
  have h_2 := hq.ajo (show ¬ o + 2 = o + 1 from k_ne (by decide)) h_2
  clear hq
  exact q_vret E hr hlk (⟨rfl, ⟨ho, hj, hvo, hvi, ⟨_, h_1, v_1⟩, _, h_2, RV_1⟩, hsz, hlow⟩) hF d_Polys_init_105
theorem RV_inc {f : Nat → Int64} {x : Int} (h : RV f x) (hx : x % 268435456 + 1 < 268435456) : RV (vp_updL f 0 (f 0 + 1)) (x + 1) := by
  have e0 : (f 0).toInt = x % 268435456 := by
    have h9 := VL_lim (f := f) (q := 0) (by decide) h.1
    rw [Int.pow_zero, Int.ediv_one, h.2] at h9
    exact h9
  have d0 := h.1 0 (by decide)
  have e1 : (f 0 + 1).toInt = (f 0).toInt + 1 := by
    have h1 : (1 : Int64).toInt = 1 := by decide
    have d1 := d0.1
    have d2 := d0.2
    rw [i64_add (by rw [h1]; omega) (by rw [h1]; omega), h1]
  refine ⟨fun k hk => ?_, ?_⟩
  · by_cases e : k = 0
    · subst e
      rw [show vp_updL f 0 (f 0 + 1) 0 = f 0 + 1 by simp [vp_updL]]
      exact ⟨by rw [e1]; have := d0.1; omega, by rw [e1, e0]; omega⟩
    · rw [show vp_updL f 0 (f 0 + 1) k = f k by simp [vp_updL, e]]
      exact h.1 k hk
  · rw [VL_upd (by decide), e1, h.2, Int.pow_zero, Int.mul_one]
    omega
theorem E9_i : (QJ / 2 ^ 2) % 268435456 + 1 < 268435456 ∧ QJ / 2 ^ 2 + 1 = ((E9Q : Nat) : Int) := by decide +kernel
set_option maxHeartbeats 4000000 in
set_option maxRecDepth 100000 in
theorem Q_Forms_init (l : Launch) (g : WG) (n0 : Nat → Prop) (o cu : Nat) (fo : Nat) (F : Nat → Nat) (mi : Int64) (hfo : fo < o) (hFo : ∀ k, k < 6 → F k < o) (hna : ∀ q, o ≤ q → n0 q) : Ctr l y_Forms_init (.code y_Forms_init prog_4_method_1_code 3 none) 2 49 4 56 n0 g [.ref o, .ref fo, .ref cu] (fun H => OB g H o 6 [.null, .null, .null, .null, .null, .null] ∧ H.size = o + 1 ∧ FD g n0 H fo F mi ∧ AJ g H (F 0) 14 kQ) (QV (fun H H' => (OB g H' o 6 [.ref fo, .ref cu, .ref (o + 1), .ref (o + 2), .ref (o + 3), .ref (o + 4)] ∧ (∀ k, k < 4 → J14 g n0 H' (o + 1 + k)) ∧ ∃ f, AJ g H' (o + 1) 14 f ∧ RV f ((E9Q : Nat) : Int)) ∧ H'.size = o + 5 ∧ ∀ q, q < o → H'[q]? = H[q]?)) := by
  refine ctr_mk l (lv0 := [(0, .ref o), (1, .ref fo), (2, .ref cu)]) (by decide) (Nat.le_of_ble_eq_true rfl) rfl ?_
  intro p e s m below meth c ls E hr hlk hnm hl hP
  have hx := E.1
  have hb := E.2.1
  have hK := E.2.2.2.2.2
  have hF : ∀ q ∈ ([] : List Loc), n0 q.base := fun q hq => absurd hq List.not_mem_nil
  obtain ⟨ho, hsz, hfd, hM⟩ := hP
  have hlow : ∀ q, q < o → s.heap[q]? = s.heap[q]? := fun _ _ => rfl
  have na0 : n0 (o + 0) := hna _ (by omega)
  have na1 : n0 (o + 1) := hna _ (by omega)
  have na2 : n0 (o + 2) := hna _ (by omega)
  have na3 : n0 (o + 3) := hna _ (by omega)
  have na4 : n0 (o + 4) := hna _ (by omega)
  refine lv_aload_n hx hb d_Forms_init_0 rfl (lv_at hl 0 rfl) ?_
  refine W.objInit hx hb E.2.2.2.1 (E.2.2.2.2.1 _ w_265) (E.2.2.2.2.1 _ w_31) (E.2.2.2.2.1 _ w_32) rfl (by rw [E.2.2.1]; exact hl.1) rfl d_Forms_init_1 (Nat.le_of_ble_eq_true rfl) (Nat.le_of_ble_eq_true rfl) ?_
  refine lv_aload_n hx hb d_Forms_init_4 rfl (lv_at hl 0 rfl) ?_
  refine lv_bipush (v := nI 14) hx hb d_Forms_init_5 (by decide) ?_
  refine q_newJ E 14 rfl (by decide) w_64 (by decide) (by decide) hsz d_Forms_init_7 (fun H1 hsz2 hnw h_1 => ?_)
  have hsz : H1.size = o + 2 := hsz2
  clear hsz2
  have ho := ho.eq (hnw o (k_mo (by decide)))
  have hlow : ∀ q, q < o → H1[q]? = s.heap[q]? := fun q hq9 => (hnw q (k_lt hq9)).trans (hlow q hq9)
  clear hnw
  refine q_putF (C := "KateDesk$Forms") (T := T_Forms) (N := 6) (ci := 6) (ty := .array (.long)) E ho in_Forms ty_Forms tyok_Forms nm_Forms rfl 2 (by decide) w_274 rfl rfl hnm rfl (by decide +kernel) rfl rfl (Nat.le_of_ble_eq_true rfl) na0 hF d_Forms_init_9 (fun H2 locs hq ho2 hF => ?_)
  have hsz := hq.1.trans hsz
  have ho := ho2
  have h_1 := AJ.off hq (show ¬ o + 1 = o from k_m (by decide)) h_1
  have hlow : ∀ q, q < o → H2[q]? = s.heap[q]? := fun q hq9 => (hq.2 q (show ¬ q = o from Nat.ne_of_lt hq9)).trans (hlow q hq9)
  clear hq ho2
  refine lv_aload_n hx hb d_Forms_init_12 rfl (lv_at hl 0 rfl) ?_
  refine lv_bipush (v := nI 14) hx hb d_Forms_init_13 (by decide) ?_
  refine q_newJ E 14 rfl (by decide) w_64 (by decide) (by decide) hsz d_Forms_init_15 (fun H3 hsz2 hnw h_2 => ?_)
  have hsz : H3.size = o + 3 := hsz2
  clear hsz2
  have ho := ho.eq (hnw o (k_mo (by decide)))
  have h_1 := h_1.eq (hnw _ (Nat.add_lt_add_left (by decide) _))
  have hlow : ∀ q, q < o → H3[q]? = s.heap[q]? := fun q hq9 => (hnw q (k_lt hq9)).trans (hlow q hq9)
  clear hnw
  refine q_putF (C := "KateDesk$Forms") (T := T_Forms) (N := 6) (ci := 6) (ty := .array (.long)) E ho in_Forms ty_Forms tyok_Forms nm_Forms rfl 3 (by decide) w_275 rfl rfl hnm rfl (by decide +kernel) rfl rfl (Nat.le_of_ble_eq_true rfl) na0 hF d_Forms_init_17 (fun H4 locs hq ho2 hF => ?_)
  have hsz := hq.1.trans hsz
  have ho := ho2
  have h_1 := AJ.off hq (show ¬ o + 1 = o from k_m (by decide)) h_1
  have h_2 := AJ.off hq (show ¬ o + 2 = o from k_m (by decide)) h_2
  have hlow : ∀ q, q < o → H4[q]? = s.heap[q]? := fun q hq9 => (hq.2 q (show ¬ q = o from Nat.ne_of_lt hq9)).trans (hlow q hq9)
  clear hq ho2
  refine lv_aload_n hx hb d_Forms_init_20 rfl (lv_at hl 0 rfl) ?_
  refine lv_bipush (v := nI 14) hx hb d_Forms_init_21 (by decide) ?_
  refine q_newJ E 14 rfl (by decide) w_64 (by decide) (by decide) hsz d_Forms_init_23 (fun H5 hsz2 hnw h_3 => ?_)
  have hsz : H5.size = o + 4 := hsz2
  clear hsz2
  have ho := ho.eq (hnw o (k_mo (by decide)))
  have h_1 := h_1.eq (hnw _ (Nat.add_lt_add_left (by decide) _))
  have h_2 := h_2.eq (hnw _ (Nat.add_lt_add_left (by decide) _))
  have hlow : ∀ q, q < o → H5[q]? = s.heap[q]? := fun q hq9 => (hnw q (k_lt hq9)).trans (hlow q hq9)
  clear hnw
  refine q_putF (C := "KateDesk$Forms") (T := T_Forms) (N := 6) (ci := 6) (ty := .array (.long)) E ho in_Forms ty_Forms tyok_Forms nm_Forms rfl 4 (by decide) w_276 rfl rfl hnm rfl (by decide +kernel) rfl rfl (Nat.le_of_ble_eq_true rfl) na0 hF d_Forms_init_25 (fun H6 locs hq ho2 hF => ?_)
  have hsz := hq.1.trans hsz
  have ho := ho2
  have h_1 := AJ.off hq (show ¬ o + 1 = o from k_m (by decide)) h_1
  have h_2 := AJ.off hq (show ¬ o + 2 = o from k_m (by decide)) h_2
  have h_3 := AJ.off hq (show ¬ o + 3 = o from k_m (by decide)) h_3
  have hlow : ∀ q, q < o → H6[q]? = s.heap[q]? := fun q hq9 => (hq.2 q (show ¬ q = o from Nat.ne_of_lt hq9)).trans (hlow q hq9)
  clear hq ho2
  refine lv_aload_n hx hb d_Forms_init_28 rfl (lv_at hl 0 rfl) ?_
  refine lv_bipush (v := nI 14) hx hb d_Forms_init_29 (by decide) ?_
  refine q_newJ E 14 rfl (by decide) w_64 (by decide) (by decide) hsz d_Forms_init_31 (fun H7 hsz2 hnw h_4 => ?_)
  have hsz : H7.size = o + 5 := hsz2
  clear hsz2
  have ho := ho.eq (hnw o (k_mo (by decide)))
  have h_1 := h_1.eq (hnw _ (Nat.add_lt_add_left (by decide) _))
  have h_2 := h_2.eq (hnw _ (Nat.add_lt_add_left (by decide) _))
  have h_3 := h_3.eq (hnw _ (Nat.add_lt_add_left (by decide) _))
  have hlow : ∀ q, q < o → H7[q]? = s.heap[q]? := fun q hq9 => (hnw q (k_lt hq9)).trans (hlow q hq9)
  clear hnw
  refine q_putF (C := "KateDesk$Forms") (T := T_Forms) (N := 6) (ci := 6) (ty := .array (.long)) E ho in_Forms ty_Forms tyok_Forms nm_Forms rfl 5 (by decide) w_277 rfl rfl hnm rfl (by decide +kernel) rfl rfl (Nat.le_of_ble_eq_true rfl) na0 hF d_Forms_init_33 (fun H8 locs hq ho2 hF => ?_)
  have hsz := hq.1.trans hsz
  have ho := ho2
  have h_1 := AJ.off hq (show ¬ o + 1 = o from k_m (by decide)) h_1
  have h_2 := AJ.off hq (show ¬ o + 2 = o from k_m (by decide)) h_2
  have h_3 := AJ.off hq (show ¬ o + 3 = o from k_m (by decide)) h_3
  have h_4 := AJ.off hq (show ¬ o + 4 = o from k_m (by decide)) h_4
  have hlow : ∀ q, q < o → H8[q]? = s.heap[q]? := fun q hq9 => (hq.2 q (show ¬ q = o from Nat.ne_of_lt hq9)).trans (hlow q hq9)
  clear hq ho2
  refine lv_aload_n hx hb d_Forms_init_36 rfl (lv_at hl 0 rfl) ?_
  refine lv_aload_n hx hb d_Forms_init_37 rfl (lv_at hl 1 rfl) ?_
  refine q_putF (C := "KateDesk$Forms") (T := T_Forms) (N := 6) (ci := 6) (ty := .object "KateDesk$Field") E ho in_Forms ty_Forms tyok_Forms nm_Forms rfl 0 (by decide) w_272 rfl rfl hnm rfl (by decide +kernel) rfl rfl (Nat.le_of_ble_eq_true rfl) na0 hF d_Forms_init_38 (fun H9 locs hq ho2 hF => ?_)
  have hsz := hq.1.trans hsz
  have ho := ho2
  have h_1 := AJ.off hq (show ¬ o + 1 = o from k_m (by decide)) h_1
  have h_2 := AJ.off hq (show ¬ o + 2 = o from k_m (by decide)) h_2
  have h_3 := AJ.off hq (show ¬ o + 3 = o from k_m (by decide)) h_3
  have h_4 := AJ.off hq (show ¬ o + 4 = o from k_m (by decide)) h_4
  have hlow : ∀ q, q < o → H9[q]? = s.heap[q]? := fun q hq9 => (hq.2 q (show ¬ q = o from Nat.ne_of_lt hq9)).trans (hlow q hq9)
  clear hq ho2
  refine lv_aload_n hx hb d_Forms_init_41 rfl (lv_at hl 0 rfl) ?_
  refine lv_aload_n hx hb d_Forms_init_42 rfl (lv_at hl 2 rfl) ?_
  refine q_putF (C := "KateDesk$Forms") (T := T_Forms) (N := 6) (ci := 6) (ty := .object "KateDesk$Curve") E ho in_Forms ty_Forms tyok_Forms nm_Forms rfl 1 (by decide) w_273 rfl rfl hnm rfl (by decide +kernel) rfl rfl (Nat.le_of_ble_eq_true rfl) na0 hF d_Forms_init_43 (fun H10 locs hq ho2 hF => ?_)
  have hsz := hq.1.trans hsz
  have ho := ho2
  have h_1 := AJ.off hq (show ¬ o + 1 = o from k_m (by decide)) h_1
  have h_2 := AJ.off hq (show ¬ o + 2 = o from k_m (by decide)) h_2
  have h_3 := AJ.off hq (show ¬ o + 3 = o from k_m (by decide)) h_3
  have h_4 := AJ.off hq (show ¬ o + 4 = o from k_m (by decide)) h_4
  have hlow : ∀ q, q < o → H10[q]? = s.heap[q]? := fun q hq9 => (hq.2 q (show ¬ q = o from Nat.ne_of_lt hq9)).trans (hlow q hq9)
  clear hq ho2
  have hfd := hfd.on hlow hfo hFo
  have hM := hM.eq (hlow _ (hFo 0 (by decide)))
  refine lv_aload_n hx hb d_Forms_init_46 rfl (lv_at hl 0 rfl) ?_
  refine q_get (C := "KateDesk$Forms") (T := T_Forms) (N := 6) (ci := 6) E ho in_Forms rfl 2 (by decide) w_274 rfl rfl d_Forms_init_47 ?_
  refine lv_aload_n hx hb d_Forms_init_50 rfl (lv_at hl 1 rfl) ?_
  refine q_get (C := "KateDesk$Field") (T := T_Field) (N := 7) (ci := 1) E hfd.1 in_Field rfl 0 (by decide) w_171 rfl rfl d_Forms_init_51 ?_
  refine lv_iconst (v := nI 2) hx hb d_Forms_init_54 (by decide) ?_
  refine q_cS (rest := []) E (V_Limbs_shiftRight l g n0 (o + 1) (F 0) 2 kQ QJ kQ_rv (by decide) (Nat.ne_of_lt (Nat.lt_of_lt_of_le (hFo 0 (by decide)) (Nat.le_add_right _ _)))) w_268 w_5 w_266 w_267 hd_Limbs_shiftRight rfl ⟨by decide, by decide⟩ (⟨⟨na1, _, h_1⟩, hM⟩) hF hl.1 rfl (Nat.le_of_ble_eq_true rfl) d_Forms_init_55 ⟨by decide, by decide⟩ (qv (fun H11 locs hq hF => ?_))
  obtain ⟨hq, fe, hfe, hve⟩ := hq
  have ho := hq.ob hK ho
  have h1 : J14 g n0 H11 (o + 1) := hq.j ⟨na1, _, h_1⟩
  have h2 : J14 g n0 H11 (o + 2) := hq.j ⟨na2, _, h_2⟩
  have h3 : J14 g n0 H11 (o + 3) := hq.j ⟨na3, _, h_3⟩
  have h4 : J14 g n0 H11 (o + 4) := hq.j ⟨na4, _, h_4⟩
  have hsz := hq.1.trans hsz
  have hlow : ∀ q, q < o → H11[q]? = s.heap[q]? := fun q hq9 => (hq.off (show ¬ q = o + 1 from k_ne2 hq9)).trans (hlow q hq9)
  clear hq
  refine lv_aload_n hx hb d_Forms_init_58 rfl (lv_at hl 0 rfl) ?_
  refine q_get (C := "KateDesk$Forms") (T := T_Forms) (N := 6) (ci := 6) E ho in_Forms rfl 2 (by decide) w_274 rfl rfl d_Forms_init_59 ?_
  refine lv_iconst (v := nI 0) hx hb d_Forms_init_62 (by decide) ?_
  refine lv_dup2_11 hx hb d_Forms_init_63 rfl rfl ?_
  refine q_lald (N := 14) (f := fe) E hfe 0 rfl (by decide) (by decide) d_Forms_init_64 ?_
  refine lv_lconst (v := 1) hx hb d_Forms_init_65 (by decide) ?_
  refine lv_ladd hx hb d_Forms_init_66 ?_
  refine q_last (N := 14) E hfe na1 hF 0 rfl (by decide) (by decide) d_Forms_init_67 (fun H12 locs hq hfe2 hF => ?_)
  exact q_vret E hr hlk (⟨rfl, ⟨hq.ob hK ho, fun k hk => match k, hk with | 0, _ => hq.j h1 | 1, _ => hq.j h2 | 2, _ => hq.j h3 | 3, _ => hq.j h4, _, hfe2, by rw [← E9_i.2]; exact RV_inc hve E9_i.1⟩, hq.1.trans hsz, fun q hq9 => (hq.off (show ¬ q = o + 1 from k_ne2 hq9)).trans (hlow q hq9)⟩) hF d_Forms_init_68
theorem gx_v : RV (hxF hb292 96 96) 3685416753713387016781088315183077757961620795782546409894578378688607592378376318836054947676345821548104185464507 := ⟨by
  have h : ∀ k : Fin 14, 0 ≤ (hxF hb292 96 96 k.val).toInt ∧ (hxF hb292 96 96 k.val).toInt < 268435456 := by decide +kernel
  exact fun k hk => h ⟨k, hk⟩, by decide +kernel⟩
theorem gy_v : RV (hxF hb301 96 96) 1339506544944476473020471379941921221584933875938349620426543736416511423956333506472724655353366534992391756441569 := ⟨by
  have h : ∀ k : Fin 14, 0 ≤ (hxF hb301 96 96 k.val).toInt ∧ (hxF hb301 96 96 k.val).toInt < 268435456 := by decide +kernel
  exact fun k hk => h ⟨k, hk⟩, by decide +kernel⟩
theorem one_v {f : Nat → Int64} (h : RV f WQ) : RV f ((1 * WQ) % QJ) := by
  rw [show (1 * WQ) % QJ = WQ by decide +kernel]
  exact h
theorem pn_y : (WIQ * WQ) % QJ = 1 := by decide +kernel
theorem pn_0 : (0 * WQ) % QJ = 0 := by decide +kernel
theorem PZ.lpt {g : WG} {H : Heap} {o : Nat} (h : PZ g H o) : LPt g H (o + 1) (o + 2) (o + 3) PN := ⟨⟨_, h.2.1, by rw [show PN.1 = 0 from rfl, pn_0]; exact RV_z⟩, ⟨_, h.2.2.1, by rw [show PN.2.1 = WIQ from rfl, pn_y]; exact RV_1⟩, ⟨_, h.2.2.2, by rw [show PN.2.2 = 0 from rfl, pn_0]; exact RV_z⟩⟩
set_option maxHeartbeats 4000000 in
set_option maxRecDepth 100000 in
theorem QG_Desk_newGenerator (l : Launch) (g : WG) (n0 : Nat → Prop) (s0 : State) (hn0 : ∀ q, n0 q → s0.heap.size ≤ q) (fo h : Nat) (F : Nat → Nat) (mi : Int64) (hkh : KH s0) (hna : ∀ q, h ≤ q → n0 q) (hmi : mi = 268238845) : CtrW l y_Desk_newGenerator (.code y_Desk_newGenerator prog_1_method_28_code 2 (some (FieldType.object "KateDesk$Point"))) 5 157 6 73 n0 g s0 [.ref fo] (fun H => OLD s0 H ∧ H.size = h ∧ FD g n0 H fo F mi ∧ AJ g H (F 0) 14 kQ ∧ (∃ f, AJ g H (F 1) 14 f ∧ RV f WQ) ∧ ∃ f, AJ g H (F 3) 14 f ∧ RV f W2Q) (QR (fun r H H' => r = h ∧ H'.size = h + 6 ∧ (∀ q, q < h → H'[q]? = H[q]?) ∧ PT g n0 H' h (h + 1) (h + 2) (h + 3) ∧ LPt g H' (h + 1) (h + 2) (h + 3) G9)) := by
  refine ctrW_mk l (lv0 := [(0, .ref fo)]) (by decide) (Nat.le_of_ble_eq_true rfl) rfl ?_
  intro p e s m below meth c ls E hw0 hr hlk hnm hl hP
  have hx := E.1
  have hb := E.2.1
  have hK := E.2.2.2.2.2
  have hF : ∀ q ∈ ([] : List Loc), n0 q.base := fun q hq => absurd hq List.not_mem_nil
  obtain ⟨hold, hsz, hfd, hM, ⟨fq1, hf1, hv1⟩, f3, hf3, hv3⟩ := hP
  obtain ⟨hks, -, -, ⟨a1, hr1, hk1⟩, ⟨a2, hr2, hk2⟩⟩ := hkh
  have hfl : fo < h := by rw [← hsz]; exact hfd.1.lt
  have hFl : ∀ k, k < 6 → F k < h := fun k hk => by rw [← hsz]; exact hfd.lt hk
  have na0 : n0 (h + 0) := hna _ (by omega)
  have na1 : n0 (h + 1) := hna _ (by omega)
  have na2 : n0 (h + 2) := hna _ (by omega)
  have na3 : n0 (h + 3) := hna _ (by omega)
  have na4 : n0 (h + 4) := hna _ (by omega)
  have na5 : n0 (h + 5) := hna _ (by omega)
  have hlow : ∀ q, q < h → s.heap[q]? = s.heap[q]? := fun _ _ => rfl
  refine q_new (C := "KateDesk$Point") (T := T_Point) (N := 3) (ci := 2) (fs := [.null, .null, .null]) E in_Point ty_Point tyok_Point rfl w_38 w_40 w_2 (by decide +kernel) (by decide) (by decide) hsz d_Desk_newGenerator_0 (fun H1 hsz2 hnw ho => ?_)
  have hlow : ∀ q, q < h → H1[q]? = s.heap[q]? := hnw
  clear hnw
  refine lv_dup hx hb d_Desk_newGenerator_3 rfl ?_
  refine q_cI (rest := [.ref h]) E (c_Point_init l g n0 h (fun q h1 _ => hna q h1)) w_43 w_2 w_41 w_42 rfl hd_Point_init rfl ⟨by decide, by decide⟩ (⟨ho, hsz2⟩) hF hl.1 rfl (Nat.le_of_ble_eq_true rfl) d_Desk_newGenerator_4 ⟨by decide, by decide⟩ (qv (fun H2 locs hq hF => ?_))
  obtain ⟨⟨ho, hx9, hy9, hz9⟩, hsz3, hnw⟩ := hq
  have hlow : ∀ q, q < h → H2[q]? = s.heap[q]? := fun q hq9 => (hnw q hq9).trans (hlow q hq9)
  clear hnw
  have hx9 : J14 g n0 H2 (h + 1) := ⟨na1, _, hx9⟩
  have hy9 : J14 g n0 H2 (h + 2) := ⟨na2, _, hy9⟩
  have hz9 : J14 g n0 H2 (h + 3) := ⟨na3, _, hz9⟩
  refine lv_astore_n (lv' := [(1, .ref h), (0, .ref fo)]) hx hb d_Desk_newGenerator_7 rfl hl (by decide) rfl (fun ls hl => ?_)
  refine lv_aload_n hx hb d_Desk_newGenerator_8 rfl (lv_at hl 1 rfl) ?_
  refine lv_aload_n hx hb d_Desk_newGenerator_9 rfl (lv_at hl 0 rfl) ?_
  refine q_get (C := "KateDesk$Point") (T := T_Point) (N := 3) (ci := 2) E ho in_Point rfl 0 (by decide) w_48 rfl rfl d_Desk_newGenerator_10 ?_
  refine q_ldcSW E.1 E.2.1 E.2.2.2.1 (vk_R.warm hw0 hr1) d_Desk_newGenerator_13 ?_
  have ho1 : OLD s0 H2 := hold.lt (hn0 _ na0) hlow
  refine q_cSW (rest := [.ref (h + 1), .ref fo]) E hw0 (c_Limbs_fromHex l g n0 s0 hn0 a1 96 hb292 hks hk1 (h + 4) (by decide) na4) w_90 w_5 w_335 w_89 hd_Limbs_fromHex rfl ⟨by decide, by decide⟩ (⟨ho1, hsz3⟩) hF hl.1 rfl (Nat.le_of_ble_eq_true rfl) d_Desk_newGenerator_16 ⟨by decide, by decide⟩ (qr (fun r0 H3 locs hq hF => ?_))
  obtain ⟨hr9, hsz4, hnw, hn9⟩ := hq
  subst hr9
  have hlow : ∀ q, q < h → H3[q]? = s.heap[q]? := fun q hq9 => (hnw q (k_lt hq9)).trans (hlow q hq9)
  have ho := ho.eq (hnw h (k_mo (by decide)))
  have hx9 : J14 g n0 H3 _ := ⟨hx9.1, hx9.2.imp (fun f hf => hf.eq (hnw _ (Nat.add_lt_add_left (by decide) _)))⟩
  have hy9 : J14 g n0 H3 _ := ⟨hy9.1, hy9.2.imp (fun f hf => hf.eq (hnw _ (Nat.add_lt_add_left (by decide) _)))⟩
  have hz9 : J14 g n0 H3 _ := ⟨hz9.1, hz9.2.imp (fun f hf => hf.eq (hnw _ (Nat.add_lt_add_left (by decide) _)))⟩
  have hA9 := hn9
  have hn9 : J14 g n0 H3 (h + 4) := ⟨na4, _, hn9⟩
  clear hnw ho1
  have hfdl := (hfd.grow (fun q hq9 => hlow q (by rw [← hsz]; exact hq9)))
  refine q_cV (rest := []) E (Q_Field_lift l g n0 fo (h + 1) (h + 4) F mi _ 3685416753713387016781088315183077757961620795782546409894578378688607592378376318836054947676345821548104185464507 gx_v (by decide +kernel) (Nat.ne_of_lt (Nat.lt_of_lt_of_le (hFl 0 (by decide)) (Nat.le_add_right _ _))) hmi) w_302 w_4 w_336 w_300 w_301 hd_Field_lift rfl ⟨by decide, by decide⟩ (OB.recv E.2.2.2.2.2 (by rfl) hfdl.1) (⟨hfdl, hx9, hA9, hM.eq (hlow _ (hFl 0 (by decide))), f3, hf3.eq (hlow _ (hFl 3 (by decide))), hv3⟩) hF hl.1 rfl (Nat.le_of_ble_eq_true rfl) d_Desk_newGenerator_19 ⟨by decide, by decide⟩ (qv (fun H4 locs hq hF => ?_))
  obtain ⟨hq, f59, hA59, hV59⟩ := hq
  have hLx : LW g H4 (h + 1) 3685416753713387016781088315183077757961620795782546409894578378688607592378376318836054947676345821548104185464507 := ⟨f59, hA59, hV59⟩
  have hlow : ∀ q, q < h → H4[q]? = s.heap[q]? := fun q hq9 => (hq.off (show ¬ q = h + 1 from k_ne2 hq9)).trans (hlow q hq9)
  have ho := hq.ob hK ho
  have hx9 := hq.j hx9
  have hy9 := hq.j hy9
  have hz9 := hq.j hz9
  have hsz4 := hq.1.trans hsz4
  clear hq hfdl hn9
  refine lv_aload_n hx hb d_Desk_newGenerator_22 rfl (lv_at hl 1 rfl) ?_
  refine lv_aload_n hx hb d_Desk_newGenerator_23 rfl (lv_at hl 0 rfl) ?_
  refine q_get (C := "KateDesk$Point") (T := T_Point) (N := 3) (ci := 2) E ho in_Point rfl 1 (by decide) w_52 rfl rfl d_Desk_newGenerator_24 ?_
  refine q_ldcSW E.1 E.2.1 E.2.2.2.1 (vk_R.warm hw0 hr2) d_Desk_newGenerator_27 ?_
  have ho1 : OLD s0 H4 := hold.lt (hn0 _ na0) hlow
  refine q_cSW (rest := [.ref (h + 2), .ref fo]) E hw0 (c_Limbs_fromHex l g n0 s0 hn0 a2 96 hb301 hks hk2 (h + 5) (by decide) na5) w_90 w_5 w_335 w_89 hd_Limbs_fromHex rfl ⟨by decide, by decide⟩ (⟨ho1, hsz4⟩) hF hl.1 rfl (Nat.le_of_ble_eq_true rfl) d_Desk_newGenerator_30 ⟨by decide, by decide⟩ (qr (fun r1 H5 locs hq hF => ?_))
  obtain ⟨hr9, hsz4, hnw, hn9⟩ := hq
  subst hr9
  have hlow : ∀ q, q < h → H5[q]? = s.heap[q]? := fun q hq9 => (hnw q (k_lt hq9)).trans (hlow q hq9)
  have ho := ho.eq (hnw h (k_mo (by decide)))
  obtain ⟨f8, a8, v8⟩ := hLx
  have hLx : LW g _ (h + 1) 3685416753713387016781088315183077757961620795782546409894578378688607592378376318836054947676345821548104185464507 := ⟨f8, a8.eq (hnw (h + 1) (Nat.add_lt_add_left (by decide) _)), v8⟩
  have hx9 : J14 g n0 H5 _ := ⟨hx9.1, hx9.2.imp (fun f hf => hf.eq (hnw _ (Nat.add_lt_add_left (by decide) _)))⟩
  have hy9 : J14 g n0 H5 _ := ⟨hy9.1, hy9.2.imp (fun f hf => hf.eq (hnw _ (Nat.add_lt_add_left (by decide) _)))⟩
  have hz9 : J14 g n0 H5 _ := ⟨hz9.1, hz9.2.imp (fun f hf => hf.eq (hnw _ (Nat.add_lt_add_left (by decide) _)))⟩
  have hA9 := hn9
  have hn9 : J14 g n0 H5 (h + 5) := ⟨na5, _, hn9⟩
  clear hnw ho1
  have hfdl := (hfd.grow (fun q hq9 => hlow q (by rw [← hsz]; exact hq9)))
  refine q_cV (rest := []) E (Q_Field_lift l g n0 fo (h + 2) (h + 5) F mi _ 1339506544944476473020471379941921221584933875938349620426543736416511423956333506472724655353366534992391756441569 gy_v (by decide +kernel) (Nat.ne_of_lt (Nat.lt_of_lt_of_le (hFl 0 (by decide)) (Nat.le_add_right _ _))) hmi) w_302 w_4 w_336 w_300 w_301 hd_Field_lift rfl ⟨by decide, by decide⟩ (OB.recv E.2.2.2.2.2 (by rfl) hfdl.1) (⟨hfdl, hy9, hA9, hM.eq (hlow _ (hFl 0 (by decide))), f3, hf3.eq (hlow _ (hFl 3 (by decide))), hv3⟩) hF hl.1 rfl (Nat.le_of_ble_eq_true rfl) d_Desk_newGenerator_33 ⟨by decide, by decide⟩ (qv (fun H6 locs hq hF => ?_))
  obtain ⟨hq, f69, hA69, hV69⟩ := hq
  have hLy : LW g H6 (h + 2) 1339506544944476473020471379941921221584933875938349620426543736416511423956333506472724655353366534992391756441569 := ⟨f69, hA69, hV69⟩
  have hLx := hLx.off hq (show ¬ h + 1 = h + 2 from k_ne (by decide))
  have hlow : ∀ q, q < h → H6[q]? = s.heap[q]? := fun q hq9 => (hq.off (show ¬ q = h + 2 from k_ne2 hq9)).trans (hlow q hq9)
  have ho := hq.ob hK ho
  have hx9 := hq.j hx9
  have hy9 := hq.j hy9
  have hz9 := hq.j hz9
  have hsz4 := hq.1.trans hsz4
  clear hq hfdl hn9
  refine lv_aload_n hx hb d_Desk_newGenerator_36 rfl (lv_at hl 0 rfl) ?_
  refine q_get (C := "KateDesk$Point") (T := T_Point) (N := 3) (ci := 2) E ho in_Point rfl 2 (by decide) w_56 rfl rfl d_Desk_newGenerator_37 ?_
  have hfdl := (hfd.grow (fun q hq9 => hlow q (by rw [← hsz]; exact hq9)))
  refine lv_aload_n hx hb d_Desk_newGenerator_40 rfl (lv_at hl 1 rfl) ?_
  refine q_get (C := "KateDesk$Field") (T := T_Field) (N := 7) (ci := 1) E hfdl.1 in_Field rfl 1 (by decide) w_177 rfl rfl d_Desk_newGenerator_41 ?_
  have hf9 := hf1.eq (hlow _ (hFl 1 (by decide)))
  refine q_cS (rest := []) E (c_Limbs_copy l g n0 (h + 3) (F 1) fq1) w_146 w_5 w_338 w_145 hd_Limbs_copy rfl ⟨by decide, by decide⟩ (⟨hz9, hf9⟩) hF hl.1 rfl (Nat.le_of_ble_eq_true rfl) d_Desk_newGenerator_44 ⟨by decide, by decide⟩ (qv (fun H7 locs hq hF => ?_))
  refine lv_aload_n hx hb d_Desk_newGenerator_47 rfl (lv_at hl 0 rfl) ?_
  exact q_aret E hr (Or.inl ⟨_, rfl⟩) hlk (⟨_, rfl, rfl, hq.1.1.trans hsz4, fun q hq9 => (hq.1.off (show ¬ q = h + 3 from k_ne2 hq9)).trans (hlow q hq9), ⟨hq.1.ob hK ho, hq.1.j hx9, hq.1.j hy9, hq.1.j hz9⟩, hLx.off hq.1 (show ¬ h + 1 = h + 3 from k_ne (by decide)), hLy.off hq.1 (show ¬ h + 2 = h + 3 from k_ne (by decide)), fq1, hq.2, one_v hv1⟩) hF d_Desk_newGenerator_48
