theorem d_Law_law_40 : decode code 40 = .ok (.tableswitch 1571 0 20 #[100, 200, 263, 343, 410, 482, 574, 622, 678, 742, 797, 869, 929, 1001, 1076, 1124, 1184, 1256, 1367, 1443, 1515], 100) := by decide +kernel
theorem i_inc6 (i : Nat) : nI i + Int32.ofInt 6 = nI (i + 6) := nI_add i 6
set_option maxHeartbeats 4000000 in
set_option maxRecDepth 100000 in
/-- from the head of the loop, whatever the objects hold, the law comes to its end with true -/
theorem law_loop {p : Program} {l : Launch} {e : Env} {s : State} {m : MethodId} {below : List Frame} {meth : Method} {c : Code} {g : WG} {sb L : Nat} {xs : Nat → Int32} {b : Nat} {mr mq : Int64} (E : EV p m c code 8 s #[Value.ref sb] "KateDeskLaw" g) (hr : meth.sig.returnType = ret) (hlk : meth.locks = false) (hb0 : s.heap.size ≤ b) (hsb : sb < s.heap.size) (hxs : XS l s) (hno1 : va_Nc "java/lang/ArithmeticException" "java/lang/IllegalArgumentException" s) (hno2 : va_Nc "java/lang/IllegalStateException" "java/lang/IllegalArgumentException" s) (hL : L ≤ 3072) : ∀ (k i : Nat) (H : Heap) (locs : List Loc) (ls : Array Slot) (th : Int32) (pn tn wn wm cells slots : Nat) (A : Nat → Int), L ≤ i + 6 * k + 5 → i ≤ L + 5 → cells + k ≤ 1201024 ∧ slots + 6 * k ≤ 5493034 → LG g s H b pn tn wn mr mq → MVP g (nMT (b + 501)) H (b + 501) th pn tn wm A → TW g H b pn tn wn wm A mr mq → va_X sb L xs s H → (∀ q ∈ locs, HXA s q.base) → lv_has ls 8 [(4, .int (nI i)), (3, .ref (b + 510)), (2, .ref (b + 501)), (1, .ref b), (0, .ref sb)] → W p l e room_1 s m #[Value.ref sb] below meth c H locs cells slots (lw_Z below #[Value.ref sb] s) (F0 m 23 ls []) := by
  have hx := E.1
  have hb := E.2.1
  intro k
  induction k with
  | zero =>
    intro i H locs ls th pn tn wn wm cells slots A hk hi hcs hG hM hT hX hF hl
    refine lv_iload hx hb d_Law_law_23 (lv_at hl 0 rfl) ?_
    refine lv_aload_n hx hb d_Law_law_25 rfl (lv_at hl 4 rfl) ?_
    refine q_xlen E hX d_Law_law_26 ?_
    refine lv_bipush (v := nI 6) hx hb d_Law_law_27 (by decide) ?_
    refine lv_isub hx hb d_Law_law_29 ?_
    refine lv_icmp_gt (tgt := 1617) hx hb d_Law_law_30 (by decide) (fun _ => ?_) (fun h9 => absurd (ends6 hL (by omega) (by omega)) h9)
    exact law_true E hr hlk hF (by omega) (by omega)
  | succ k ih =>
    intro i H locs ls th pn tn wn wm cells slots A hk hi hcs hG hM hT hX hF hl
    refine lv_iload hx hb d_Law_law_23 (lv_at hl 0 rfl) ?_
    refine lv_aload_n hx hb d_Law_law_25 rfl (lv_at hl 4 rfl) ?_
    refine q_xlen E hX d_Law_law_26 ?_
    refine lv_bipush (v := nI 6) hx hb d_Law_law_27 (by decide) ?_
    refine lv_isub hx hb d_Law_law_29 ?_
    by_cases h6 : L < i + 6
    · skip
      refine lv_icmp_gt (tgt := 1617) hx hb d_Law_law_30 (by decide) (fun _ => ?_) (fun h9 => absurd (ends6 hL (by omega) (by omega)) h9)
      exact law_true E hr hlk hF (by omega) (by omega)
    have h6 : i + 6 ≤ L := Nat.le_of_not_lt h6
    have hN : LNX p l e s m below meth c g sb L xs b mr mq i (cells + 1) (slots + 6) := by
      intro H locs ls th pn tn wn wm A hG hM hT hX hF hl
      refine lv_iinc (k := 0) (v := nI (i + 6)) (lv' := [(4, .int (nI (i + 6))), (3, .ref (b + 510)), (2, .ref (b + 501)), (1, .ref b), (0, .ref sb)]) hx hb d_Law_law_1611 hl rfl (i_inc6 i) (by decide) rfl (fun ls hl => ?_)
      refine lv_goto (tgt := 23) hx hb d_Law_law_1614 (by decide) ?_
      have hl : lv_has ls 8 [(4, .int (nI (i + 6))), (3, .ref (b + 510)), (2, .ref (b + 501)), (1, .ref b), (0, .ref sb)] := lv_sub hl [0, 1, 2, 3, 4] rfl
      exact ih (i + 6) H locs ls th pn tn wn wm _ _ A (by omega) (by omega) ⟨by omega, by omega⟩ hG hM hT hX hF hl
    have hc : cells + 1 ≤ room_1.cells ∧ slots + 6 ≤ room_1.slots := ⟨show cells + 1 ≤ 1201024 by omega, show slots + 6 ≤ 5493034 by omega⟩
    refine lv_icmp_gt (tgt := 1617) hx hb d_Law_law_30 (by decide) (fun h9 => absurd h9 (goes6 hL h6)) (fun _ => ?_)
    refine lv_aload_n hx hb d_Law_law_33 rfl (lv_at hl 4 rfl) ?_
    refine lv_iload hx hb d_Law_law_34 (lv_at hl 0 rfl) ?_
    refine q_xld E hX i rfl (by omega) (by omega) d_Law_law_36 ?_
    refine lv_bipush (v := nI 31) hx hb d_Law_law_37 (by decide) ?_
    refine lv_iand hx hb d_Law_law_39 ?_
    obtain ⟨j, hj, ej⟩ := pk_andE (xs i) (m := nI 31) 5 (by decide)
    refine lv_topi (fun t9 e9 => ?_)
    obtain rfl : t9 = nI j := e9.trans (ej)
    rcases Nat.lt_or_ge j 21 with h21 | h21
    · match j, h21 with
      | 0, _ =>
        refine lv_tableIn (tgt := 140) (off := 100) hx hb d_Law_law_40 (by decide) (by decide) (by decide) (by decide) ?_
        exact k_feed E hr hlk hb0 hsb hxs hno2 hL h6 hc hN hG hM hT hX hF hl
      | 1, _ =>
        refine lv_tableIn (tgt := 240) (off := 200) hx hb d_Law_law_40 (by decide) (by decide) (by decide) (by decide) ?_
        exact k_number E hr hlk hb0 hsb hxs hL h6 hc hN hG hM hT hX hF hl
      | 2, _ =>
        refine lv_tableIn (tgt := 303) (off := 263) hx hb d_Law_law_40 (by decide) (by decide) (by decide) (by decide) ?_
        exact k_set E hr hlk hb0 hsb hxs hL h6 hc hN hG hM hT hX hF hl
      | 3, _ =>
        refine lv_tableIn (tgt := 383) (off := 343) hx hb d_Law_law_40 (by decide) (by decide) (by decide) (by decide) ?_
        exact k_word E hr hlk hb0 hsb hxs hL h6 hc hN hG hM hT hX hF hl
      | 4, _ =>
        refine lv_tableIn (tgt := 450) (off := 410) hx hb d_Law_law_40 (by decide) (by decide) (by decide) (by decide) ?_
        exact k_reckon E hr hlk hb0 hsb hxs hno1 hL h6 hc hN hG hM hT hX hF hl
      | 5, _ =>
        refine lv_tableIn (tgt := 522) (off := 482) hx hb d_Law_law_40 (by decide) (by decide) (by decide) (by decide) ?_
        exact k_power E hr hlk hb0 hsb hxs hL h6 hc hN hG hM hT hX hF hl
      | 6, _ =>
        refine lv_tableIn (tgt := 614) (off := 574) hx hb d_Law_law_40 (by decide) (by decide) (by decide) (by decide) ?_
        exact k_unity E hr hlk hb0 hsb hxs hL h6 hc hN hG hM hT hX hF hl
      | 7, _ =>
        refine lv_tableIn (tgt := 662) (off := 622) hx hb d_Law_law_40 (by decide) (by decide) (by decide) (by decide) ?_
        exact k_point E hr hlk hb0 hsb hxs hL h6 hc hN hG hM hT hX hF hl
      | 8, _ =>
        refine lv_tableIn (tgt := 718) (off := 678) hx hb d_Law_law_40 (by decide) (by decide) (by decide) (by decide) ?_
        exact k_bytes E hr hlk hb0 hsb hxs hL h6 hc hN hG hM hT hX hF hl
      | 9, _ =>
        refine lv_tableIn (tgt := 782) (off := 742) hx hb d_Law_law_40 (by decide) (by decide) (by decide) (by decide) ?_
        exact k_out E hr hlk hb0 hsb hxs hL h6 hc hN hG hM hT hX hF hl
      | 10, _ =>
        refine lv_tableIn (tgt := 837) (off := 797) hx hb d_Law_law_40 (by decide) (by decide) (by decide) (by decide) ?_
        exact k_join E hr hlk hb0 hsb hxs hL h6 hc hN hG hM hT hX hF hl
      | 11, _ =>
        refine lv_tableIn (tgt := 909) (off := 869) hx hb d_Law_law_40 (by decide) (by decide) (by decide) (by decide) ?_
        exact k_times E hr hlk hb0 hsb hxs hL h6 hc hN hG hM hT hX hF hl
      | 12, _ =>
        refine lv_tableIn (tgt := 969) (off := 929) hx hb d_Law_law_40 (by decide) (by decide) (by decide) (by decide) ?_
        exact k_combine E hr hlk hb0 hsb hxs hL h6 hc hN hG hM hT hX hF hl
      | 13, _ =>
        refine lv_tableIn (tgt := 1041) (off := 1001) hx hb d_Law_law_40 (by decide) (by decide) (by decide) (by decide) ?_
        exact k_same E hr hlk hb0 hsb hxs hL h6 hc hN hG hM hT hX hF hl
      | 14, _ =>
        refine lv_tableIn (tgt := 1116) (off := 1076) hx hb d_Law_law_40 (by decide) (by decide) (by decide) (by decide) ?_
        exact k_setup E hr hlk hb0 hsb hxs hL h6 hc hN hG hM hT hX hF hl
      | 15, _ =>
        refine lv_tableIn (tgt := 1164) (off := 1124) hx hb d_Law_law_40 (by decide) (by decide) (by decide) (by decide) ?_
        exact k_commit E hr hlk hb0 hsb hxs hno2 hL h6 hc hN hG hM hT hX hF hl
      | 16, _ =>
        refine lv_tableIn (tgt := 1224) (off := 1184) hx hb d_Law_law_40 (by decide) (by decide) (by decide) (by decide) ?_
        exact k_open E hr hlk hb0 hsb hxs hL h6 hc hN hG hM hT hX hF hl
      | 17, _ =>
        refine lv_tableIn (tgt := 1296) (off := 1256) hx hb d_Law_law_40 (by decide) (by decide) (by decide) (by decide) ?_
        exact k_checks E hr hlk hb0 hsb hxs hL h6 hc hN hG hM hT hX hF hl
      | 18, _ =>
        refine lv_tableIn (tgt := 1407) (off := 1367) hx hb d_Law_law_40 (by decide) (by decide) (by decide) (by decide) ?_
        exact k_transform E hr hlk hb0 hsb hxs hL h6 hc hN hG hM hT hX hF hl
      | 19, _ =>
        refine lv_tableIn (tgt := 1483) (off := 1443) hx hb d_Law_law_40 (by decide) (by decide) (by decide) (by decide) ?_
        exact k_lagrange E hr hlk hb0 hsb hxs hL h6 hc hN hG hM hT hX hF hl
      | 20, _ =>
        refine lv_tableIn (tgt := 1555) (off := 1515) hx hb d_Law_law_40 (by decide) (by decide) (by decide) (by decide) ?_
        exact k_look E hr hlk hb0 hsb hxs hL h6 hc hN hG hM hT hX hF hl
      | k + 21, h => exact absurd h (Nat.not_lt.mpr (Nat.le_add_left 21 k))
    · refine lv_tableOut (tgt := 1611) hx hb d_Law_law_40 (Or.inr (by rw [nI_toInt (by omega)]; omega)) (by decide) ?_
      exact W.widen (Nat.le_succ _) (Nat.le_add_right _ 6) (hN _ _ ls _ _ _ _ _ _ hG hM hT hX hF hl)
set_option maxHeartbeats 4000000 in
set_option maxRecDepth 100000 in
/-- from the entry, for every script of at most 3072 ints, the law comes to its end with true -/
theorem whole_start {p : Program} {e : Env} {s : State} {m : MethodId} {below : List Frame} {meth : Method} {c : Code} (l : Launch) (hfl : l.flags = flags0) {sb L : Nat} {xs : Nat → Int32} (hL : L ≤ 3072) (C0 : lw_At p s m meth c sb L xs) : W p l e room_1 s m #[Value.ref sb] below meth c s.heap [] 0 0 (lw_Z below #[Value.ref sb] s) (entryFrame m ([Value.ref sb] : List Value).toArray 8) := by
  obtain ⟨hx, hb, hr, hml, hown, hts, hX, hbl, hlk, hgv⟩ := C0
  obtain ⟨⟨g, hKW⟩, hxs, hkh, hne1, hne2, hno1, hno2⟩ := law_start hfl hts hgv
  have E : EV p m c code 8 s #[Value.ref sb] "KateDeskLaw" g := ⟨hx, hb, hml, hown, fun w hw => hts w (bw_tbl hw), hKW⟩
  have hl := lv_entry [Value.ref sb] (n := 8) (Nat.le_of_ble_eq_true rfl)
  rw [lg_entry_eq]
  rw [show lv_args 0 [Value.ref sb] = [(0, .ref sb)] from rfl] at hl
  clear hts hgv
  have hK := E.2.2.2.2.2
  have hw0 := State.WarmedH.refl s
  have hF : ∀ q ∈ ([] : List Loc), HXA s q.base := fun q hq => absurd hq List.not_mem_nil
  obtain ⟨b, hb9⟩ : ∃ b, s.heap.size = b := ⟨_, rfl⟩
  have hb0 : s.heap.size ≤ b := Nat.le_of_eq hb9
  refine q_new (C := "KateDesk") (T := T_Desk) (N := 16) (ci := 5) (fs := [.null, .null, .null, .null, .null, .null, .null, .null, .int 0, .null, .null, .null, .null, .null, .null, .null]) E in_Desk ty_Desk tyok_Desk rfl w_25 w_26 w_1 (by decide +kernel) (by decide) (by decide) hb9 d_Law_law_0 (fun H1 hsz2 hnw ho => ?_)
  refine lv_dup hx hb d_Law_law_3 rfl ?_
  refine q_cIW (rest := [.ref b]) E hw0 (P_Desk_init l g (HXA s) s (fun _ h => h) b hkh (fun q h => Nat.le_trans hb0 h) hne1 hne2) w_29 w_1 w_27 w_28 rfl hd_Desk_init rfl ⟨by decide, by decide⟩ (⟨ho, hsz2, fun q hq => hnw q (by rw [← hb9]; exact hq)⟩) hF hl.1 rfl (Nat.le_of_ble_eq_true rfl) d_Law_law_4 ⟨by decide, by decide⟩ (qv (fun H2 locs hq hF => ?_))
  obtain ⟨⟨⟨mr, mq, hmr, hmq, hdk, -⟩, hcx, hcr, hsa, hpts, hdi, -, hfj⟩, hsz3, hnw2⟩ := hq
  have hds := ds_start hdk hdi hfj
  have hlow : ∀ q, q < b → H2[q]? = s.heap[q]? := fun q h => (hnw2 q h).trans (hnw q h)
  clear hnw hnw2 hsz2 ho hdk hdi hfj
  refine lv_astore_n (lv' := [(1, .ref b), (0, .ref sb)]) hx hb d_Law_law_7 rfl hl (by decide) rfl (fun ls hl => ?_)
  refine q_new (C := "KateDeskModel") (T := T_Model) (N := 14) (ci := 8) (fs := [.int 0, .null, .null, .null, .null, .null, .int 0, .int 0, .int 0, .null, .int 0, .null, .int 0, .null]) E in_Model ty_Model tyok_Model rfl w_907 w_908 w_15 (by decide +kernel) (by decide) (by decide) hsz3 d_Law_law_8 (fun H3 hsz2 hnw3 ho => ?_)
  refine lv_dup hx hb d_Law_law_11 rfl ?_
  refine q_cI (rest := [.ref (b + 501)]) E ((P_Model_init l g (nM (b + 501)) (b + 501) (fun q h1 h2 => ⟨h1, h2⟩)).up (nM_up hb0)) w_911 w_15 w_909 w_910 rfl hd_Model_init rfl ⟨by decide, by decide⟩ (⟨ho, hsz2⟩) hF hl.1 rfl (Nat.le_of_ble_eq_true rfl) d_Law_law_12 ⟨by decide, by decide⟩ (qv (fun H4 locs hq hF => ?_))
  obtain ⟨⟨fd, fa, hms, hbv, hat, hAT, hAQ⟩, hho, h6, h7, hsz5, hnw5⟩ := hq
  clear ho hsz2
  have hmp : MVP g (nMT (b + 501)) H4 (b + 501) 0 0 0 0 B0 := MVP.toT (n0 := nM (b + 501)) ⟨⟨0, 14, fd, Or.inl ⟨rfl, rfl⟩, hms, hbv⟩, ⟨fa, hat, hAT, hAQ⟩, hho, h6, h7, ⟨by decide, by decide, by decide⟩, nM_c (c := 0) (by decide), trivial, trivial, nM_c (by decide)⟩
  refine lv_astore_n (lv' := [(2, .ref (b + 501)), (1, .ref b), (0, .ref sb)]) hx hb d_Law_law_15 rfl hl (by decide) rfl (fun ls hl => ?_)
  refine lv_iconst (v := nI 1) hx hb d_Law_law_16 (by decide) ?_
  refine q_newJ E 1 rfl (by decide) w_64 (by decide) (by decide) hsz5 d_Law_law_17 (fun H5 hsz6 hnw6 hA => ?_)
  have hd : ∀ q, q < b + 501 → H5[q]? = H2[q]? := fun q h => (hnw6 q (Nat.lt_of_lt_of_le h (Nat.le_add_right _ _))).trans ((hnw5 q h).trans (hnw3 q h))
  have hdn : ∀ q, nD b q → H5[q]? = H2[q]? := fun q h => hd q (Nat.lt_succ_of_le h.2)
  have hlw : ∀ q, q < s.heap.size → H5[q]? = s.heap[q]? := fun q h => (hd q (Nat.lt_of_lt_of_le h (Nat.le_trans hb0 (Nat.le_add_right _ _)))).trans (hlow q (Nat.lt_of_lt_of_le h hb0))
  have hmn : ∀ q, q < b + 501 + 9 → H5[q]? = H4[q]? := hnw6
  have hG : LG g s H5 b 0 0 0 mr mq := ⟨hlw, Nat.le_of_eq hsz6.symm, hds.onD hdn, _, hA⟩
  have hE9 : ∀ q, kCW b q → H5[q]? = _ := fun q h => hdn q (by unfold kCW kE5 kPX at h; unfold nD; omega)
  have hT : TW g H5 b 0 0 0 0 B0 mr mq := by
    obtain ⟨c0, hc0⟩ := hG.d.tp.2
    obtain ⟨m0, hm0⟩ := h6
    obtain ⟨c7, hc7⟩ := hG.d.wr.2
    obtain ⟨m7, hm7⟩ := h7
    have hcw : CW g H5 b 0 B0 (fun _ => PN) (fun _ => PN) := CW.eqC (pn := 0) ⟨hcr, hcx, hsa0 hsa, hpts, fun k hk => absurd hk (Nat.not_lt_zero _)⟩ (by decide) hE9
    exact ⟨⟨hmr, hmq, rfl⟩, ⟨hcw.1.1, c0, m0, fun _ => 0, hc0, AI.eq hm0 (hmn _ (by omega)), fun _ => Nat.zero_lt_succ _, fun j hj => absurd hj (Nat.not_lt_zero _)⟩, ⟨c7, m7, fun _ => 0, hc7, AI.eq hm7 (hmn _ (by omega)), fun j hj => absurd hj (Nat.not_lt_zero _)⟩, _, _, hcw, rl_0⟩
  clear hE9
  have hM : MVP g (nMT (b + 501)) H5 (b + 501) 0 0 0 0 B0 := hmp.on (fun q h1 h2 => hmn q (Nat.lt_succ_of_le h2))
  have hX := hX.kept (hlw sb hbl)
  clear hds hms hho h6 h7 hA hnw6 hnw5 hnw3 hd hdn hlow hmn hlw hsz3 hsz5 hsz6 hmp
  refine lv_astore_n (lv' := [(3, .ref (b + 510)), (2, .ref (b + 501)), (1, .ref b), (0, .ref sb)]) hx hb d_Law_law_19 rfl hl (by decide) rfl (fun ls hl => ?_)
  refine lv_iconst (v := nI 0) hx hb d_Law_law_20 (by decide) ?_
  refine lv_istore (lv' := [(4, .int (nI 0)), (3, .ref (b + 510)), (2, .ref (b + 501)), (1, .ref b), (0, .ref sb)]) hx hb d_Law_law_21 hl (by decide) rfl (fun ls hl => ?_)
  have hl : lv_has ls 8 [(4, .int (nI 0)), (3, .ref (b + 510)), (2, .ref (b + 501)), (1, .ref b), (0, .ref sb)] := lv_sub hl [0, 1, 2, 3, 4] rfl
  exact law_loop E hr hlk hb0 hbl hxs hno1 hno2 hL 512 0 _ _ ls _ _ _ _ _ _ _ _ (by omega) (by omega) ⟨by decide, by decide⟩ hG hM hT hX hF hl
set_option maxHeartbeats 4000000 in
theorem lw_walk (l : Launch) (hfl : l.flags = flags0) (b : Addr) (xs : List Int32) : MetFree l x (headSpec (Jvm.Cond.code x code maxLocals ret :: tables_1) room_1) (lw_P b xs) (fun _ _ _ _ _ => True) lw_Q := by
  refine MetFree.of_bodyS (code := code) (maxLocals := maxLocals) (ret := ret) (by decide) ?_ ?_
  · intro args s m h hn
    obtain ⟨meth, c, h1, h2, h3, h4, h5, h6, -, -⟩ := Cond.code_spec hn (atoms_spec (ws := Jvm.Cond.code x code maxLocals ret :: tables_1) h _ List.mem_cons_self)
    exact ⟨meth, c, h1, h2, h3, h4, h5, h6⟩
  · intro p e s m args below meth c s₁ B hml0 hP _
    obtain ⟨rfl, hx, hbd, hgv⟩ := hP
    obtain ⟨scr, harrAt, hlist, hof, hsmall⟩ := hx
    obtain ⟨hcb, hkn, -, -⟩ := State.arrayAt?_spec harrAt
    have hown : s.vm.findClass R_law = some m.cls := findClass_of_methodNamed B.named
    have hts0 : ∀ c ∈ (Jvm.Cond.code x code maxLocals ret :: tables_1), c.before #[Value.ref b] s = true := atoms_spec (ws := Jvm.Cond.code x code maxLocals ret :: tables_1) B.pre
    have hts : ∀ w ∈ lw_tbl, w.before #[Value.ref b] s = true := k2_hts_sels lw_privs (fun w hw => hts0 w (List.mem_cons_of_mem _ hw)) lw_privs_ok
    have hml : c.maxLocals = 8 := B.maxLocals_eq (hts0 _ List.mem_cons_self)
    have X₀ : Stand p l e room_1 s m #[Value.ref b] below meth c s₁ [] 0 0 := Stand.of_body B
    have hh0 : s₁.heap = s.heap := by rw [B.state]; rfl
    have hsz : scr.slots.size = xs.length := by rw [← Array.length_toList, hlist, List.length_map]
    have hval : ∀ j : Nat, j < xs.length → scr.slots[j]? = some (.int (xs.getD j 0)) := fun j hj => by
      rw [← Array.getElem?_toList, hlist]
      simp [hj]
    have hbl : b < s.heap.size := (Array.getElem?_eq_some_iff.mp hcb).1
    have hX : va_X b xs.length (fun j => xs.getD j 0) s s.heap := ⟨scr, hcb, hof, hkn, hsz, hval⟩
    have K : W p l e room_1 s m #[Value.ref b] below meth c s₁.heap [] 0 0 (lw_Z below #[Value.ref b] s) (entryFrame m ([Value.ref b] : List Value).toArray 8) := by
      rw [hh0]
      exact whole_start l hfl hbd ⟨B.exec, B.bytes, B.returns, hml, hown, hts, hX, hbl, B.notSynchronized, hgv⟩
    obtain ⟨t, a1, o, b1, b2, b3⟩ := K s₁ rfl X₀
    exact ⟨t, o, a1, b1, b2, b3⟩
theorem lw_pre_spec {args : Array Value} {s : State} (h : (Jvm.Cond.and given_1 narrow_1).before args s = true) (hr : rest_1_c.before args s = true) : ∃ (b : Addr) (xs : List Int32), lw_P b xs args s := by
  have hs := flat_of_before _ h
  have hq := flat_of_before _ hr
  have hc : (Cond.count 1).before args s = true := hs _ (by decide +kernel)
  have harr : (Cond.arrayOf (.arg 0) .int).before args s = true := hs _ (by decide +kernel)
  have hle : (Cond.le (.length (.arg 0)) (.int 3072)).before args s = true := hs _ (by decide +kernel)
  have hlen : (Cond.isInt (.length (.arg 0))).before args s = true := hq _ (by decide +kernel)
  have hall : (Cond.all (.arg 0) (.isInt (.elem (.arg 0) (.index 0)))).before args s = true := hq _ (by decide +kernel)
  obtain ⟨b, xs, hb, hx⟩ := State.ints_of_pre rfl harr hlen hall
  have hsm : xs.length < 2 ^ 31 := hx.choose_spec.2.2.2
  have hev : (Term.length (.arg 0)).eval args s none [] s = some (.int xs.length.toInt32) := hx.length_eval hb
  have hv := Cond.le_ints hev (show (Term.int 3072).eval args s none [] s = some (.int 3072) from rfl)
  have hd : xs.length.toInt32 ≤ 3072 := by
    simpa [Cond.before, Cond.holds, hv] using hle
  have hN : xs.length ≤ 3072 := (Int32.ofNat_le_ofNat hsm (by decide)).mp (show Int32.ofNat xs.length ≤ Int32.ofNat 3072 from hd)
  exact ⟨b, xs, Cond.one_arg hc (show args[0]? = some (.ref b) from hb), hx, hN, h⟩
theorem lw_comes (l : Launch) (hfl : l.flags = flags0) : Comes l x (Jvm.Cond.code x code maxLocals ret :: tables_1) room_1 (fun tb e args s => Calls_1 tb e args s ∧ rest_1 tb e args s ∧ Pre_1 tb e args s)
    (fun _ _ args s o t => lw_Q args s o t) := by
  intro p e ha hc hk s m args below hf hfit hheap happ hpre
  obtain ⟨b, xs, hP⟩ := lw_pre_spec hpre.2.2 hpre.2.1
  obtain ⟨k, o, h1, h2, h3, hQ⟩ := lw_walk l hfl b xs p e ha hc hk s m args below hf ((Spec.applies_iff_loose hf).mp happ).1 hP trivial
  exact ⟨k, o, h1, h2, h3, hQ⟩
theorem lw_frame {s t : State} {o : Outcome} {args : Array Value} (h : Framed s o t [] 1201024 5493034) :
    Framed s o t (fieldLocs frame_1_writes args s ++ arrayLocs frame_1_arrays args s ++ staticLocs frame_1_statics s) 1201024 5493034 := h
theorem lw_limb (L : Cond) (hL : ∀ (args : Array Value) (s t : State), L.after args s (.returned (some (.int 1))) t = true) :
    ArmFor flags0 classFile x code maxLocals ret World_1 tables_1 room_1 Calls_1 rest_1 Pre_1
      (fun tb e a s o t => postC L tb e a s o t ∧ Framed s o t (fieldLocs frame_1_writes a s ++ arrayLocs frame_1_arrays a s ++ staticLocs frame_1_statics s) 1201024 5493034) := by
  intro l hfl _ _ p e ha hc hk s m args below hf hfit hheap happ hpre
  obtain ⟨k, o, h1, h2, h3, rfl, hF⟩ := lw_comes l hfl p e ha hc hk s m args below hf hfit hheap happ hpre
  exact ⟨k, _, h1, h2, h3, hL args s _, lw_frame hF⟩
theorem i_vc : Claimed_1_1 ∧ Claimed_1_2 := ⟨lw_limb limb_1_1 (fun args s t => by simp [limb_1_1, Cond.after, Cond.holds, Cond.value]), lw_limb limb_1_2 (fun args s t => Cond.after_iff.mpr (by
  first | (rw [show limb_1_2 = Cond.eq .result (.int 1) from rfl, Cond.eq_ints (x := 1) (y := 1) rfl rfl]; simp; done) | (simp [limb_1_2, Cond.value, Term.eval]; done)))⟩
