theorem tn_fj (b k : Nat) : b + 465 + 1 + k ≠ b := by omega
set_option maxHeartbeats 4000000 in
set_option maxRecDepth 100000 in
theorem v_Forms_init (l : Launch) (g : WG) (n0 : Nat → Prop) (o cu : Nat) (fo : Nat) (F : Nat → Nat) (mi : Int64) (hfo : fo < o) (hFo : ∀ k, k < 6 → F k < o) (hna : ∀ q, o ≤ q → n0 q) : Ctr l y_Forms_init (.code y_Forms_init prog_4_method_1_code 3 none) 2 49 4 56 n0 g [.ref o, .ref fo, .ref cu] (fun H => OB g H o 6 [.null, .null, .null, .null, .null, .null] ∧ H.size = o + 1 ∧ FD g n0 H fo F mi) (QV (fun H H' => (OB g H' o 6 [.ref fo, .ref cu, .ref (o + 1), .ref (o + 2), .ref (o + 3), .ref (o + 4)] ∧ ∀ k, k < 4 → J14 g n0 H' (o + 1 + k)) ∧ H'.size = o + 5 ∧ ∀ q, q < o → H'[q]? = H[q]?)) := by
  refine ctr_mk l (lv0 := [(0, .ref o), (1, .ref fo), (2, .ref cu)]) (by decide) (Nat.le_of_ble_eq_true rfl) rfl ?_
  intro p e s m below meth c ls E hr hlk hnm hl hP
  have hx := E.1
  have hb := E.2.1
  have hK := E.2.2.2.2.2
  have hF : ∀ q ∈ ([] : List Loc), n0 q.base := fun q hq => absurd hq List.not_mem_nil
  obtain ⟨ho, hsz, hfd⟩ := hP
  have hlow : ∀ q, q < o → s.heap[q]? = s.heap[q]? := fun _ _ => rfl
  have na0 : n0 (o + 0) := hna _ (by omega)
  have na1 : n0 (o + 1) := hna _ (by omega)
  have na2 : n0 (o + 2) := hna _ (by omega)
  have na3 : n0 (o + 3) := hna _ (by omega)
  have na4 : n0 (o + 4) := hna _ (by omega)
  refine lv_aload_n hx hb d_Forms_init_0 rfl (lv_at hl 0 rfl) ?_
  refine W.objInit hx hb E.2.2.2.1 (E.2.2.2.2.1 _ w_265) (E.2.2.2.2.1 _ w_31) (E.2.2.2.2.1 _ w_32) rfl (by rw [E.2.2.1]; exact hl.1) rfl d_Forms_init_1 (Nat.le_of_ble_eq_true rfl) (Nat.le_of_ble_eq_true rfl) ?_
  refine lv_aload_n hx hb d_Forms_init_4 rfl (lv_at hl 0 rfl) ?_
  refine lv_bipush (v := nI 14) hx hb d_Forms_init_5 (by decide) ?_
  refine q_newJ E 14 rfl (by decide) w_64 (by decide) (by decide) hsz d_Forms_init_7 (fun H1 hsz2 hnw h_1 => ?_)
  have hsz : H1.size = o + 2 := hsz2
  clear hsz2
  have ho := ho.eq (hnw o (k_mo (by decide)))
  have hlow : ∀ q, q < o → H1[q]? = s.heap[q]? := fun q hq9 => (hnw q (k_lt hq9)).trans (hlow q hq9)
  clear hnw
  refine q_putF (C := "KateDesk$Forms") (T := T_Forms) (N := 6) (ci := 6) (ty := .array (.long)) E ho in_Forms ty_Forms tyok_Forms nm_Forms rfl 2 (by decide) w_274 rfl rfl hnm rfl (by decide +kernel) rfl rfl (Nat.le_of_ble_eq_true rfl) na0 hF d_Forms_init_9 (fun H2 locs hq ho2 hF => ?_)
  have hsz := hq.1.trans hsz
  have ho := ho2
  have h_1 := AJ.off hq (show ¬ o + 1 = o from k_m (by decide)) h_1
  have hlow : ∀ q, q < o → H2[q]? = s.heap[q]? := fun q hq9 => (hq.2 q (show ¬ q = o from Nat.ne_of_lt hq9)).trans (hlow q hq9)
  clear hq ho2
  refine lv_aload_n hx hb d_Forms_init_12 rfl (lv_at hl 0 rfl) ?_
  refine lv_bipush (v := nI 14) hx hb d_Forms_init_13 (by decide) ?_
  refine q_newJ E 14 rfl (by decide) w_64 (by decide) (by decide) hsz d_Forms_init_15 (fun H3 hsz2 hnw h_2 => ?_)
  have hsz : H3.size = o + 3 := hsz2
  clear hsz2
  have ho := ho.eq (hnw o (k_mo (by decide)))
  have h_1 := h_1.eq (hnw _ (Nat.add_lt_add_left (by decide) _))
  have hlow : ∀ q, q < o → H3[q]? = s.heap[q]? := fun q hq9 => (hnw q (k_lt hq9)).trans (hlow q hq9)
  clear hnw
  refine q_putF (C := "KateDesk$Forms") (T := T_Forms) (N := 6) (ci := 6) (ty := .array (.long)) E ho in_Forms ty_Forms tyok_Forms nm_Forms rfl 3 (by decide) w_275 rfl rfl hnm rfl (by decide +kernel) rfl rfl (Nat.le_of_ble_eq_true rfl) na0 hF d_Forms_init_17 (fun H4 locs hq ho2 hF => ?_)
  have hsz := hq.1.trans hsz
  have ho := ho2
  have h_1 := AJ.off hq (show ¬ o + 1 = o from k_m (by decide)) h_1
  have h_2 := AJ.off hq (show ¬ o + 2 = o from k_m (by decide)) h_2
  have hlow : ∀ q, q < o → H4[q]? = s.heap[q]? := fun q hq9 => (hq.2 q (show ¬ q = o from Nat.ne_of_lt hq9)).trans (hlow q hq9)
  clear hq ho2
  refine lv_aload_n hx hb d_Forms_init_20 rfl (lv_at hl 0 rfl) ?_
  refine lv_bipush (v := nI 14) hx hb d_Forms_init_21 (by decide) ?_
  refine q_newJ E 14 rfl (by decide) w_64 (by decide) (by decide) hsz d_Forms_init_23 (fun H5 hsz2 hnw h_3 => ?_)
  have hsz : H5.size = o + 4 := hsz2
  clear hsz2
  have ho := ho.eq (hnw o (k_mo (by decide)))
  have h_1 := h_1.eq (hnw _ (Nat.add_lt_add_left (by decide) _))
  have h_2 := h_2.eq (hnw _ (Nat.add_lt_add_left (by decide) _))
  have hlow : ∀ q, q < o → H5[q]? = s.heap[q]? := fun q hq9 => (hnw q (k_lt hq9)).trans (hlow q hq9)
  clear hnw
  refine q_putF (C := "KateDesk$Forms") (T := T_Forms) (N := 6) (ci := 6) (ty := .array (.long)) E ho in_Forms ty_Forms tyok_Forms nm_Forms rfl 4 (by decide) w_276 rfl rfl hnm rfl (by decide +kernel) rfl rfl (Nat.le_of_ble_eq_true rfl) na0 hF d_Forms_init_25 (fun H6 locs hq ho2 hF => ?_)
  have hsz := hq.1.trans hsz
  have ho := ho2
  have h_1 := AJ.off hq (show ¬ o + 1 = o from k_m (by decide)) h_1
  have h_2 := AJ.off hq (show ¬ o + 2 = o from k_m (by decide)) h_2
  have h_3 := AJ.off hq (show ¬ o + 3 = o from k_m (by decide)) h_3
  have hlow : ∀ q, q < o → H6[q]? = s.heap[q]? := fun q hq9 => (hq.2 q (show ¬ q = o from Nat.ne_of_lt hq9)).trans (hlow q hq9)
  clear hq ho2
  refine lv_aload_n hx hb d_Forms_init_28 rfl (lv_at hl 0 rfl) ?_
  refine lv_bipush (v := nI 14) hx hb d_Forms_init_29 (by decide) ?_
  refine q_newJ E 14 rfl (by decide) w_64 (by decide) (by decide) hsz d_Forms_init_31 (fun H7 hsz2 hnw h_4 => ?_)
  have hsz : H7.size = o + 5 := hsz2
  clear hsz2
  have ho := ho.eq (hnw o (k_mo (by decide)))
  have h_1 := h_1.eq (hnw _ (Nat.add_lt_add_left (by decide) _))
  have h_2 := h_2.eq (hnw _ (Nat.add_lt_add_left (by decide) _))
  have h_3 := h_3.eq (hnw _ (Nat.add_lt_add_left (by decide) _))
  have hlow : ∀ q, q < o → H7[q]? = s.heap[q]? := fun q hq9 => (hnw q (k_lt hq9)).trans (hlow q hq9)
  clear hnw
  refine q_putF (C := "KateDesk$Forms") (T := T_Forms) (N := 6) (ci := 6) (ty := .array (.long)) E ho in_Forms ty_Forms tyok_Forms nm_Forms rfl 5 (by decide) w_277 rfl rfl hnm rfl (by decide +kernel) rfl rfl (Nat.le_of_ble_eq_true rfl) na0 hF d_Forms_init_33 (fun H8 locs hq ho2 hF => ?_)
  have hsz := hq.1.trans hsz
  have ho := ho2
  have h_1 := AJ.off hq (show ¬ o + 1 = o from k_m (by decide)) h_1
  have h_2 := AJ.off hq (show ¬ o + 2 = o from k_m (by decide)) h_2
  have h_3 := AJ.off hq (show ¬ o + 3 = o from k_m (by decide)) h_3
  have h_4 := AJ.off hq (show ¬ o + 4 = o from k_m (by decide)) h_4
  have hlow : ∀ q, q < o → H8[q]? = s.heap[q]? := fun q hq9 => (hq.2 q (show ¬ q = o from Nat.ne_of_lt hq9)).trans (hlow q hq9)
  clear hq ho2
  refine lv_aload_n hx hb d_Forms_init_36 rfl (lv_at hl 0 rfl) ?_
  refine lv_aload_n hx hb d_Forms_init_37 rfl (lv_at hl 1 rfl) ?_
  refine q_putF (C := "KateDesk$Forms") (T := T_Forms) (N := 6) (ci := 6) (ty := .object "KateDesk$Field") E ho in_Forms ty_Forms tyok_Forms nm_Forms rfl 0 (by decide) w_272 rfl rfl hnm rfl (by decide +kernel) rfl rfl (Nat.le_of_ble_eq_true rfl) na0 hF d_Forms_init_38 (fun H9 locs hq ho2 hF => ?_)
  have hsz := hq.1.trans hsz
  have ho := ho2
  have h_1 := AJ.off hq (show ¬ o + 1 = o from k_m (by decide)) h_1
  have h_2 := AJ.off hq (show ¬ o + 2 = o from k_m (by decide)) h_2
  have h_3 := AJ.off hq (show ¬ o + 3 = o from k_m (by decide)) h_3
  have h_4 := AJ.off hq (show ¬ o + 4 = o from k_m (by decide)) h_4
  have hlow : ∀ q, q < o → H9[q]? = s.heap[q]? := fun q hq9 => (hq.2 q (show ¬ q = o from Nat.ne_of_lt hq9)).trans (hlow q hq9)
  clear hq ho2
  refine lv_aload_n hx hb d_Forms_init_41 rfl (lv_at hl 0 rfl) ?_
  refine lv_aload_n hx hb d_Forms_init_42 rfl (lv_at hl 2 rfl) ?_
  refine q_putF (C := "KateDesk$Forms") (T := T_Forms) (N := 6) (ci := 6) (ty := .object "KateDesk$Curve") E ho in_Forms ty_Forms tyok_Forms nm_Forms rfl 1 (by decide) w_273 rfl rfl hnm rfl (by decide +kernel) rfl rfl (Nat.le_of_ble_eq_true rfl) na0 hF d_Forms_init_43 (fun H10 locs hq ho2 hF => ?_)
  have hsz := hq.1.trans hsz
  have ho := ho2
  have h_1 := AJ.off hq (show ¬ o + 1 = o from k_m (by decide)) h_1
  have h_2 := AJ.off hq (show ¬ o + 2 = o from k_m (by decide)) h_2
  have h_3 := AJ.off hq (show ¬ o + 3 = o from k_m (by decide)) h_3
  have h_4 := AJ.off hq (show ¬ o + 4 = o from k_m (by decide)) h_4
  have hlow : ∀ q, q < o → H10[q]? = s.heap[q]? := fun q hq9 => (hq.2 q (show ¬ q = o from Nat.ne_of_lt hq9)).trans (hlow q hq9)
  clear hq ho2
  have hfd := hfd.on hlow hfo hFo
  refine lv_aload_n hx hb d_Forms_init_46 rfl (lv_at hl 0 rfl) ?_
  refine q_get (C := "KateDesk$Forms") (T := T_Forms) (N := 6) (ci := 6) E ho in_Forms rfl 2 (by decide) w_274 rfl rfl d_Forms_init_47 ?_
  refine lv_aload_n hx hb d_Forms_init_50 rfl (lv_at hl 1 rfl) ?_
  refine q_get (C := "KateDesk$Field") (T := T_Field) (N := 7) (ci := 1) E hfd.1 in_Field rfl 0 (by decide) w_171 rfl rfl d_Forms_init_51 ?_
  refine lv_iconst (v := nI 2) hx hb d_Forms_init_54 (by decide) ?_
  refine q_cS (rest := []) E (c_Limbs_shiftRight l g n0 (o + 1) (F 0) (nI 2)) w_268 w_5 w_266 w_267 hd_Limbs_shiftRight rfl ⟨by decide, by decide⟩ (⟨⟨na1, _, h_1⟩, hfd.2 0 (by decide)⟩) hF hl.1 rfl (Nat.le_of_ble_eq_true rfl) d_Forms_init_55 ⟨by decide, by decide⟩ (qv (fun H11 locs hq hF => ?_))
  have ho := hq.ob hK ho
  have h1 : J14 g n0 H11 (o + 1) := hq.j ⟨na1, _, h_1⟩
  have h2 : J14 g n0 H11 (o + 2) := hq.j ⟨na2, _, h_2⟩
  have h3 : J14 g n0 H11 (o + 3) := hq.j ⟨na3, _, h_3⟩
  have h4 : J14 g n0 H11 (o + 4) := hq.j ⟨na4, _, h_4⟩
  have hsz := hq.1.trans hsz
  have hlow : ∀ q, q < o → H11[q]? = s.heap[q]? := fun q hq9 => (hq.off (show ¬ q = o + 1 from k_ne2 hq9)).trans (hlow q hq9)
  clear hq
  refine lv_aload_n hx hb d_Forms_init_58 rfl (lv_at hl 0 rfl) ?_
  refine q_get (C := "KateDesk$Forms") (T := T_Forms) (N := 6) (ci := 6) E ho in_Forms rfl 2 (by decide) w_274 rfl rfl d_Forms_init_59 ?_
  refine lv_iconst (v := nI 0) hx hb d_Forms_init_62 (by decide) ?_
  refine lv_dup2_11 hx hb d_Forms_init_63 rfl rfl ?_
  refine q_laldS E h1 0 rfl (by decide) d_Forms_init_64 (fun v1 => ?_)
  refine lv_lconst (v := 1) hx hb d_Forms_init_65 (by decide) ?_
  refine lv_ladd hx hb d_Forms_init_66 ?_
  refine q_lastS E h1 hF 0 rfl (by decide) d_Forms_init_67 (fun H12 locs hq hF => ?_)
  exact q_vret E hr hlk (⟨rfl, ⟨hq.ob hK ho, fun k hk => match k, hk with | 0, _ => hq.j h1 | 1, _ => hq.j h2 | 2, _ => hq.j h3 | 3, _ => hq.j h4⟩, hq.1.trans hsz, fun q hq9 => (hq.off (show ¬ q = o + 1 from k_ne2 hq9)).trans (hlow q hq9)⟩) hF d_Forms_init_68
