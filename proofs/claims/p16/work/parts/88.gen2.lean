/-- the sums but for their digits -/
def SO (g : WG) (n0 : Nat → Prop) (H : Heap) (o cu od dg sm s1 s2 s3 fo : Nat) (F : Nat → Nat) (mi : Int64) (X O O1 O2 O3 : Nat → Nat) : Prop :=
  OB g H o 4 [.ref cu, .ref od, .ref dg, .ref sm] ∧ CV g n0 H cu fo F mi X ∧ PT g n0 H sm s1 s2 s3 ∧ AR g.2.2.2.2.1 H od 64 O ∧ ∀ k, k < 64 → PT g n0 H (O k) (O1 k) (O2 k) (O3 k)
theorem KJ.so {g : WG} {S : Nat → Prop} {n0 : Nat → Prop} {H H' : Heap} {U : State} (h : KJ g S H H') (hK : KW g U) {o cu od dg sm s1 s2 s3 fo : Nat} {F : Nat → Nat} {mi : Int64} {X O O1 O2 O3 : Nat → Nat} (hf : SO g n0 H o cu od dg sm s1 s2 s3 fo F mi X O O1 O2 O3) : SO g n0 H' o cu od dg sm s1 s2 s3 fo F mi X O O1 O2 O3 :=
  ⟨h.ob hK hf.1, h.cv hK hf.2.1, h.pt hK hf.2.2.1, h.arP hK hf.2.2.2.1, fun k hk => h.pt hK (hf.2.2.2.2 k hk)⟩
/-- a digit: -7 to 7 -/
def sd (x : Int32) : Prop := ∃ k, k < 15 ∧ x = nI k - nI 7
theorem sd_0 : sd 0 := ⟨7, by decide, by decide⟩
theorem sd_step : ∀ d, d < 17 → nI d &&& nI 1 = nI 1 → (∃ k, k < 15 ∧ vp_nar .byte ((nI d - ((nI d >>> (nI 3 &&& 31)) <<< (nI 4 &&& 31))).toInt8.toInt32) = nI k - nI 7) ∧ ∃ c, c < 2 ∧ nI d >>> (nI 3 &&& 31) = nI c := by
  have h : ∀ d : Fin 17, nI d.val &&& nI 1 = nI 1 → (∃ k : Fin 15, ((nI d.val - ((nI d.val >>> (nI 3 &&& 31)) <<< (nI 4 &&& 31))).toInt8.toInt32).toInt8.toInt32 = nI k.val - nI 7) ∧ ∃ c : Fin 2, nI d.val >>> (nI 3 &&& 31) = nI c.val := by decide +kernel
  intro d hd ho
  obtain ⟨⟨k, hk⟩, ⟨c, hc⟩⟩ := h ⟨d, hd⟩ ho
  exact ⟨⟨k.val, k.isLt, hk⟩, c.val, c.isLt, hc⟩
theorem sd_abs : ∀ x, sd x → ∃ j, j < 4 ∧ (if 0 ≤ x then x else 0 - x) / nI 2 = nI j := by
  have h : ∀ k : Fin 15, ∃ j : Fin 4, (if 0 ≤ nI k.val - nI 7 then nI k.val - nI 7 else 0 - (nI k.val - nI 7)) / nI 2 = nI j.val := by decide +kernel
  rintro x ⟨k, hk, rfl⟩
  obtain ⟨j, hj⟩ := h ⟨k, hk⟩
  exact ⟨j.val, j.isLt, hj⟩
theorem mn4 {i cnt : Nat} (h : i ≤ cnt) (hc : cnt < 257) : (if nI cnt - nI i < nI 4 then nI cnt - nI i else nI 4) = nI (min 4 (cnt - i)) := by
  rw [pk_sub h]
  by_cases h4 : cnt - i < 4
  · rw [if_pos (nI_lt h4 (by decide)), Nat.min_eq_right (by omega)]
  · rw [if_neg (nI_nlt (by omega) (by omega)), Nat.min_eq_left (by omega)]
theorem sd_upd {f : Nat → Int32} {i : Nat} {x : Int32} (h : ∀ j, j < 257 → sd (f j)) (hx : sd x) : ∀ j, j < 257 → sd (upd f i x j) := by
  intro j hj
  by_cases e : j = i
  · simp only [upd, e, if_true]; exact hx
  · simp only [upd, e, if_false]; exact h j hj
set_option maxHeartbeats 4000000 in
set_option maxRecDepth 100000 in
theorem v_Sums_tabulate (l : Launch) (g : WG) (n0 : Nat → Prop) (o cu od dg sm s1 s2 s3 : Nat) (fo : Nat) (F : Nat → Nat) (mi : Int64) (X : Nat → Nat) (O O1 O2 O3 : Nat → Nat) (t : Nat) (b b1 b2 b3 : Nat) (ht : t < 16) : Ctr l y_Sums_tabulate (.code y_Sums_tabulate prog_9_method_3_code 5 none) 4 187 0 0 n0 g [.ref o, .int (nI t), .ref b] (fun H => SO g n0 H o cu od dg sm s1 s2 s3 fo F mi X O O1 O2 O3 ∧ PT g n0 H b b1 b2 b3) (QV (fun H H' => KJ g (fun q => n0 q) H H')) := by
  refine ctr_mk l (lv0 := [(0, .ref o), (1, .int (nI t)), (2, .ref b)]) (by decide) (Nat.le_of_ble_eq_true rfl) rfl ?_
  intro p e s m below meth c ls E hr hlk hnm hl hP
  have hx := E.1
  have hb := E.2.1
  have hK := E.2.2.2.2.2
  have hF : ∀ q ∈ ([] : List Loc), n0 q.base := fun q hq => absurd hq List.not_mem_nil
  obtain ⟨hsu, h_b⟩ := hP
  have hk : KJ g (fun q => n0 q) s.heap s.heap := KJ.rf
  refine lv_iload_n hx hb d_Sums_tabulate_0 rfl (lv_at hl 1 rfl) ?_
  refine lv_iconst (v := nI 4) hx hb d_Sums_tabulate_1 (by decide) ?_
  refine lv_imul hx hb d_Sums_tabulate_2 ?_
  refine lv_topi (fun t9 e9 => ?_)
  obtain rfl : t9 = nI (t * 4) := e9.trans (pk_mul t 4)
  refine lv_istore_n (lv' := [(3, .int (nI (t * 4))), (0, .ref o), (1, .int (nI t)), (2, .ref b)]) hx hb d_Sums_tabulate_3 rfl hl (by decide) rfl (fun ls hl => ?_)
  refine lv_aload_n hx hb d_Sums_tabulate_4 rfl (lv_at hl 1 rfl) ?_
  refine q_get (C := "KateDesk$Sums") (T := T_Sums) (N := 4) (ci := 4) E ((hk.so hK hsu).1) in_Sums rfl 1 (by decide) w_248 rfl rfl d_Sums_tabulate_5 ?_
  refine lv_iload_n hx hb d_Sums_tabulate_8 rfl (lv_at hl 0 rfl) ?_
  refine q_aald (t := 3) E rfl rfl ((hk.so hK hsu).2.2.2.1) (t * 4) rfl (by omega) (by decide) d_Sums_tabulate_9 ?_
  refine lv_aload_n hx hb d_Sums_tabulate_10 rfl (lv_at hl 3 rfl) ?_
  refine q_cV (rest := []) E (c_Point_copy l g n0 (O (t * 4)) (O1 (t * 4)) (O2 (t * 4)) (O3 (t * 4)) b b1 b2 b3) w_697 w_2 w_694 w_695 w_696 hd_Point_copy rfl ⟨by decide, by decide⟩ (OB.recv E.2.2.2.2.2 (by rfl) (((hk.so hK hsu).2.2.2.2 (t * 4) (by omega)).1)) (⟨(hk.so hK hsu).2.2.2.2 (t * 4) (by omega), hk.pt hK h_b⟩) hF hl.1 rfl (Nat.le_of_ble_eq_true rfl) d_Sums_tabulate_11 ⟨by decide, by decide⟩ (qv (fun H1 locs hq hF => ?_))
  have hk := hk.tr (hq.1.mono (pt_le (hsu.2.2.2.2 (t * 4) (by omega))))
  refine lv_aload_n hx hb d_Sums_tabulate_14 rfl (lv_at hl 1 rfl) ?_
  refine q_get (C := "KateDesk$Sums") (T := T_Sums) (N := 4) (ci := 4) E ((hk.so hK hsu).1) in_Sums rfl 0 (by decide) w_247 rfl rfl d_Sums_tabulate_15 ?_
  refine lv_aload_n hx hb d_Sums_tabulate_18 rfl (lv_at hl 1 rfl) ?_
  refine q_get (C := "KateDesk$Sums") (T := T_Sums) (N := 4) (ci := 4) E ((hk.so hK hsu).1) in_Sums rfl 3 (by decide) w_250 rfl rfl d_Sums_tabulate_19 ?_
  refine lv_aload_n hx hb d_Sums_tabulate_22 rfl (lv_at hl 3 rfl) ?_
  refine q_cV (rest := []) E (c_Curve_twice l g n0 cu fo F mi X sm s1 s2 s3 b b1 b2 b3) w_702 w_11 w_699 w_700 w_701 hd_Curve_twice rfl ⟨by decide, by decide⟩ (OB.recv E.2.2.2.2.2 (by rfl) ((hk.so hK hsu).2.1.1)) (⟨(hk.so hK hsu).2.1, (hk.so hK hsu).2.2.1, hk.pt hK h_b⟩) hF hl.1 rfl (Nat.le_of_ble_eq_true rfl) d_Sums_tabulate_23 ⟨by decide, by decide⟩ (qv (fun H2 locs hq hF => ?_))
  have hk := hk.tr hq
  refine lv_iload_n hx hb d_Sums_tabulate_26 rfl (lv_at hl 0 rfl) ?_
  refine lv_iconst (v := nI 1) hx hb d_Sums_tabulate_27 (by decide) ?_
  refine lv_iadd hx hb d_Sums_tabulate_28 ?_
  refine lv_topi (fun t9 e9 => ?_)
  obtain rfl : t9 = nI (t * 4 + 1) := e9.trans (nI_add _ _)
  refine lv_istore (lv' := [(4, .int (nI (t * 4 + 1))), (3, .int (nI (t * 4))), (0, .ref o), (1, .int (nI t)), (2, .ref b)]) hx hb d_Sums_tabulate_29 hl (by decide) rfl (fun ls hl => ?_)
  have hl : lv_has ls 5 [(4, .int (nI (t * 4 + 1))), (3, .int (nI (t * 4))), (0, .ref o)] := lv_sub hl [0, 1, 2] rfl
  have loop : ∀ (k : Nat) (i : Nat) (H : Heap) (locs : List Loc) (ls : Array Slot), i + k = t * 4 + 4 → t * 4 + 1 ≤ i → KJ g (fun q => n0 q) s.heap H → (∀ q ∈ locs, n0 q.base) → lv_has ls 5 [(4, .int (nI i)), (3, .int (nI (t * 4))), (0, .ref o)] → W p l e { frames := 4, cells := 0, slots := 0, locals := 187 } s m [.ref o, .int (nI t), .ref b].toArray below meth c H locs 0 0 (MQ below (QcP (QV (fun H H' => KJ g (fun q => n0 q) H H'))) [.ref o, .int (nI t), .ref b].toArray s 0 0 (fun q => n0 q)) (F0 m 31 ls []) := by
    intro k
    induction k with
    | zero =>
      intro  i   H   locs   ls hi hi2 hk hF hl
      obtain rfl : i = t * 4 + 4 := by omega
      refine lv_iload hx hb d_Sums_tabulate_31 (lv_at hl 0 rfl) ?_
      refine lv_iload_n hx hb d_Sums_tabulate_33 rfl (lv_at hl 1 rfl) ?_
      refine lv_iconst (v := nI 4) hx hb d_Sums_tabulate_34 (by decide) ?_
      refine lv_iadd hx hb d_Sums_tabulate_35 ?_
      refine lv_topi (fun t9 e9 => ?_)
      obtain rfl : t9 = nI (t * 4 + 4) := e9.trans (nI_add _ _)
      refine lv_icmp_ge (tgt := 73) hx hb d_Sums_tabulate_36 (by decide) (fun _ => ?_) (fun h9 => absurd (nI_le (Nat.le_refl _) (by omega)) h9)
      exact q_vret E hr hlk (⟨rfl, hk⟩) hF d_Sums_tabulate_73
    | succ k ih =>
      intro  i   H   locs   ls hi hi2 hk hF hl
      refine lv_iload hx hb d_Sums_tabulate_31 (lv_at hl 0 rfl) ?_
      refine lv_iload_n hx hb d_Sums_tabulate_33 rfl (lv_at hl 1 rfl) ?_
      refine lv_iconst (v := nI 4) hx hb d_Sums_tabulate_34 (by decide) ?_
      refine lv_iadd hx hb d_Sums_tabulate_35 ?_
      refine lv_topi (fun t9 e9 => ?_)
      obtain rfl : t9 = nI (t * 4 + 4) := e9.trans (nI_add _ _)
      refine lv_icmp_ge (tgt := 73) hx hb d_Sums_tabulate_36 (by decide) (fun h9 => absurd h9 (nI_ge (by omega) (by omega))) (fun _ => ?_)
      refine lv_aload_n hx hb d_Sums_tabulate_39 rfl (lv_at hl 2 rfl) ?_
      refine q_get (C := "KateDesk$Sums") (T := T_Sums) (N := 4) (ci := 4) E ((hk.so hK hsu).1) in_Sums rfl 0 (by decide) w_247 rfl rfl d_Sums_tabulate_40 ?_
      refine lv_aload_n hx hb d_Sums_tabulate_43 rfl (lv_at hl 2 rfl) ?_
      refine q_get (C := "KateDesk$Sums") (T := T_Sums) (N := 4) (ci := 4) E ((hk.so hK hsu).1) in_Sums rfl 1 (by decide) w_248 rfl rfl d_Sums_tabulate_44 ?_
      refine lv_iload hx hb d_Sums_tabulate_47 (lv_at hl 0 rfl) ?_
      refine q_aald (t := 3) E rfl rfl ((hk.so hK hsu).2.2.2.1) i rfl (by omega) (by decide) d_Sums_tabulate_49 ?_
      refine lv_aload_n hx hb d_Sums_tabulate_50 rfl (lv_at hl 2 rfl) ?_
      refine q_get (C := "KateDesk$Sums") (T := T_Sums) (N := 4) (ci := 4) E ((hk.so hK hsu).1) in_Sums rfl 1 (by decide) w_248 rfl rfl d_Sums_tabulate_51 ?_
      refine lv_iload hx hb d_Sums_tabulate_54 (lv_at hl 0 rfl) ?_
      refine lv_iconst (v := nI 1) hx hb d_Sums_tabulate_56 (by decide) ?_
      refine lv_isub hx hb d_Sums_tabulate_57 ?_
      refine lv_topi (fun t9 e9 => ?_)
      obtain rfl : t9 = nI (i - 1) := e9.trans (pk_sub (by omega))
      refine q_aald (t := 3) E rfl rfl ((hk.so hK hsu).2.2.2.1) (i - 1) rfl (by omega) (by decide) d_Sums_tabulate_58 ?_
      refine lv_aload_n hx hb d_Sums_tabulate_59 rfl (lv_at hl 2 rfl) ?_
      refine q_get (C := "KateDesk$Sums") (T := T_Sums) (N := 4) (ci := 4) E ((hk.so hK hsu).1) in_Sums rfl 3 (by decide) w_250 rfl rfl d_Sums_tabulate_60 ?_
      refine lv_iconst (v := nI 0) hx hb d_Sums_tabulate_63 (by decide) ?_
      refine q_cV (rest := []) E (c_Curve_add l g n0 cu fo F mi X (O i) (O1 i) (O2 i) (O3 i) (O (i - 1)) (O1 (i - 1)) (O2 (i - 1)) (O3 (i - 1)) sm s1 s2 s3 (nI 0)) w_711 w_11 w_708 w_709 w_710 hd_Curve_add rfl ⟨by decide, by decide⟩ (OB.recv E.2.2.2.2.2 (by rfl) ((hk.so hK hsu).2.1.1)) (⟨(hk.so hK hsu).2.1, (hk.so hK hsu).2.2.2.2 i (by omega), (hk.so hK hsu).2.2.2.2 (i - 1) (by omega), (hk.so hK hsu).2.2.1⟩) hF hl.1 rfl (Nat.le_of_ble_eq_true rfl) d_Sums_tabulate_64 ⟨by decide, by decide⟩ (qv (fun H1 locs hq hF => ?_))
      have hk := hk.tr hq
      refine lv_iinc (k := 0) (v := nI (i + 1)) (lv' := [(4, .int (nI (i + 1))), (3, .int (nI (t * 4))), (0, .ref o)]) hx hb d_Sums_tabulate_67 hl rfl (i_inc i) (by decide) rfl (fun ls hl => ?_)
      refine lv_goto (tgt := 31) hx hb d_Sums_tabulate_70 (by decide) ?_
      have hl : lv_has ls 5 [(4, .int (nI (i + 1))), (3, .int (nI (t * 4))), (0, .ref o)] := lv_sub hl [0, 1, 2] rfl
      exact ih (i + 1) H1 locs ls (by omega) (by omega) hk hF hl
  exact loop 3 (t * 4 + 1) _ _ ls (by omega) (by omega) hk hF hl
set_option maxHeartbeats 4000000 in
set_option maxRecDepth 100000 in
theorem v_Sums_recode (l : Launch) (g : WG) (n0 : Nat → Prop) (o cu od dg sm : Nat) (DG : Nat → Nat) (t a cnt : Nat) (from0 : Int32) (ht : t < 16) (hc : cnt < 257) : Ctr l y_Sums_recode (.code y_Sums_recode prog_9_method_4_code 10 none) 1 26 0 0 n0 g [.ref o, .int (nI t), .ref a, .int from0, .int (nI cnt)] (fun H => OB g H o 4 [.ref cu, .ref od, .ref dg, .ref sm] ∧ AR g.2.2.2.2.2.2 H dg 16 DG ∧ (n0 (DG t) ∧ ∃ f, AB g H (DG t) 257 f) ∧ J14 g n0 H a) (QV (fun H H' => KJ g (fun q => q = DG t) H H' ∧ ∃ f, AB g H' (DG t) 257 f ∧ ∀ j, j < 257 → sd (f j))) := by
  refine ctr_mk l (lv0 := [(0, .ref o), (1, .int (nI t)), (2, .ref a), (3, .int from0), (4, .int (nI cnt))]) (by decide) (Nat.le_of_ble_eq_true rfl) rfl ?_
  intro p e s m below meth c ls E hr hlk hnm hl hP
  have hx := E.1
  have hb := E.2.1
  have hK := E.2.2.2.2.2
  have hF : ∀ q ∈ ([] : List Loc), n0 q.base := fun q hq => absurd hq List.not_mem_nil
  obtain ⟨ho, hdr, ⟨hd0, f0, hf0⟩, hA⟩ := hP
  refine lv_aload_n hx hb d_Sums_recode_0 rfl (lv_at hl 0 rfl) ?_
  refine q_get (C := "KateDesk$Sums") (T := T_Sums) (N := 4) (ci := 4) E ho in_Sums rfl 2 (by decide) w_249 rfl rfl d_Sums_recode_1 ?_
  refine lv_iload_n hx hb d_Sums_recode_4 rfl (lv_at hl 1 rfl) ?_
  refine q_aald (t := 5) E rfl rfl hdr t rfl ht (by decide) d_Sums_recode_5 ?_
  refine lv_astore (lv' := [(5, .ref (DG t)), (0, .ref o), (1, .int (nI t)), (2, .ref a), (3, .int from0), (4, .int (nI cnt))]) hx hb d_Sums_recode_6 hl (by decide) rfl (fun ls hl => ?_)
  refine lv_aload hx hb d_Sums_recode_8 (lv_at hl 0 rfl) ?_
  refine lv_iconst (v := nI 0) hx hb d_Sums_recode_10 (by decide) ?_
  refine q_cS (rest := []) E (c_Arrays_fill0 l g n0 (DG t) 257 (nI 0) f0 (by decide)) w_684 w_21 w_682 w_683 hd_Arrays_fill0 rfl ⟨by decide, by decide⟩ (⟨hd0, hf0⟩) hF hl.1 rfl (Nat.le_of_ble_eq_true rfl) d_Sums_recode_11 ⟨by decide, by decide⟩ (qv (fun H1 locs hq hF => ?_))
  have hk := hq.1
  have hz : AB g H1 (DG t) 257 (fun _ => 0) := hq.2
  refine lv_iconst (v := nI 0) hx hb d_Sums_recode_14 (by decide) ?_
  refine lv_istore (lv' := [(6, .int (nI 0)), (5, .ref (DG t)), (0, .ref o), (1, .int (nI t)), (2, .ref a), (3, .int from0), (4, .int (nI cnt))]) hx hb d_Sums_recode_15 hl (by decide) rfl (fun ls hl => ?_)
  refine lv_iconst (v := nI 0) hx hb d_Sums_recode_17 (by decide) ?_
  refine lv_istore (lv' := [(7, .int (nI 0)), (6, .int (nI 0)), (5, .ref (DG t)), (0, .ref o), (1, .int (nI t)), (2, .ref a), (3, .int from0), (4, .int (nI cnt))]) hx hb d_Sums_recode_18 hl (by decide) rfl (fun ls hl => ?_)
  refine lv_iconst (v := nI 0) hx hb d_Sums_recode_20 (by decide) ?_
  refine lv_istore (lv' := [(8, .int (nI 0)), (7, .int (nI 0)), (6, .int (nI 0)), (5, .ref (DG t)), (0, .ref o), (1, .int (nI t)), (2, .ref a), (3, .int from0), (4, .int (nI cnt))]) hx hb d_Sums_recode_21 hl (by decide) rfl (fun ls hl => ?_)
  have hl : lv_has ls 10 [(8, .int (nI 0)), (6, .int (nI 0)), (7, .int (nI 0)), (0, .ref o), (2, .ref a), (3, .int from0), (4, .int (nI cnt)), (5, .ref (DG t))] := lv_sub hl [0, 2, 1, 4, 6, 7, 8, 3] rfl
  have lp : ∀ (k : Nat) (i cr : Nat) (fr9 : Int32) (H : Heap) (locs : List Loc) (ls : Array Slot) (f : Nat → Int32), i + k = cnt + 1 → cr < 2 → KJ g (fun q => q = DG t) s.heap H → AB g H (DG t) 257 f → (∀ j, j < 257 → sd (f j)) → (∀ q ∈ locs, n0 q.base) → lv_has ls 10 [(8, .int (nI i)), (6, .int (nI cr)), (7, .int fr9), (0, .ref o), (2, .ref a), (3, .int from0), (4, .int (nI cnt)), (5, .ref (DG t))] → W p l e { frames := 1, cells := 0, slots := 0, locals := 26 } s m [.ref o, .int (nI t), .ref a, .int from0, .int (nI cnt)].toArray below meth c H locs 0 0 (MQ below (QcP (QV (fun H H' => KJ g (fun q => q = DG t) H H' ∧ ∃ f, AB g H' (DG t) 257 f ∧ ∀ j, j < 257 → sd (f j)))) [.ref o, .int (nI t), .ref a, .int from0, .int (nI cnt)].toArray s 0 0 (fun q => n0 q)) (F0 m 23 ls []) := by
    intro k
    induction k with
    | zero =>
      intro  i cr   fr9   H   locs   ls   f hi hcr hk hf hsd hF hl
      obtain rfl : i = cnt + 1 := by omega
      refine lv_iload hx hb d_Sums_recode_23 (lv_at hl 0 rfl) ?_
      refine lv_iload hx hb d_Sums_recode_25 (lv_at hl 6 rfl) ?_
      refine lv_icmp_gt (tgt := 99) hx hb d_Sums_recode_27 (by decide) (fun _ => ?_) (fun h9 => absurd (nI_lt (by omega) (by omega)) h9)
      exact q_vret E hr hlk (⟨rfl, hk, f, hf, hsd⟩) hF d_Sums_recode_99
    | succ k ih =>
      intro  i cr   fr9   H   locs   ls   f hi hcr hk hf hsd hF hl
      have hic : i ≤ cnt := by omega
      refine lv_iload hx hb d_Sums_recode_23 (lv_at hl 0 rfl) ?_
      refine lv_iload hx hb d_Sums_recode_25 (lv_at hl 6 rfl) ?_
      refine lv_icmp_gt (tgt := 99) hx hb d_Sums_recode_27 (by decide) (fun h9 => absurd h9 (nI_nlt hic (by omega))) (fun _ => ?_)
      refine lv_iload hx hb d_Sums_recode_30 (lv_at hl 1 rfl) ?_
      refine lv_aload_n hx hb d_Sums_recode_32 rfl (lv_at hl 4 rfl) ?_
      refine lv_iload_n hx hb d_Sums_recode_33 rfl (lv_at hl 5 rfl) ?_
      refine lv_iload hx hb d_Sums_recode_34 (lv_at hl 0 rfl) ?_
      refine lv_iadd hx hb d_Sums_recode_36 ?_
      refine lv_iconst (v := nI 4) hx hb d_Sums_recode_37 (by decide) ?_
      refine lv_iload hx hb d_Sums_recode_38 (lv_at hl 6 rfl) ?_
      refine lv_iload hx hb d_Sums_recode_40 (lv_at hl 0 rfl) ?_
      refine lv_isub hx hb d_Sums_recode_42 ?_
      refine va_mmin E.1 E.2.1 (E.2.2.1.trans hl.1.symm) E.2.2.2.1 (E.2.2.2.2.1 _ w_685) (E.2.2.2.2.1 _ w_686) (E.2.2.2.2.1 _ w_23) (E.2.2.2.2.1 _ w_687) (by decide) (Nat.le_of_ble_eq_true rfl) (Nat.le_of_ble_eq_true rfl) (Nat.le_of_ble_eq_true rfl) d_Sums_recode_43 ?_
      refine lv_topi (fun t9 e9 => ?_)
      obtain rfl : t9 = nI (min 4 (cnt - i)) := e9.trans (mn4 hic hc)
      refine q_cS (rest := [.int (nI cr)]) E (v_Limbs_bits l g n0 a _ (min 4 (cnt - i)) (Nat.le_trans (Nat.min_le_left _ _) (by decide))) w_271 w_5 w_688 w_270 hd_Limbs_bits rfl ⟨by decide, by decide⟩ (hk.j hA) hF hl.1 rfl (Nat.le_of_ble_eq_true rfl) d_Sums_recode_46 ⟨by decide, by decide⟩ (ql (fun r2 H1 locs hq hF => ?_))
      obtain ⟨⟨jb, hjb, rfl⟩, hq⟩ := hq
      have hq := hq.symm
      subst hq
      have hj16 : jb < 16 := Nat.lt_of_lt_of_le hjb (Nat.le_trans (Nat.pow_le_pow_right (by decide) (Nat.min_le_left 4 _)) (by decide))
      refine lv_l2i (v := (lN jb).toInt32) hx hb d_Sums_recode_49 rfl ?_
      refine lv_topi (fun t9 e9 => ?_)
      obtain rfl : t9 = nI jb := e9.trans (lN_i jb)
      refine lv_iadd hx hb d_Sums_recode_50 ?_
      refine lv_topi (fun t9 e9 => ?_)
      obtain rfl : t9 = nI (cr + jb) := e9.trans (nI_add _ _)
      refine lv_istore (lv' := [(9, .int (nI (cr + jb))), (8, .int (nI i)), (6, .int (nI cr)), (7, .int fr9), (0, .ref o), (2, .ref a), (3, .int from0), (4, .int (nI cnt)), (5, .ref (DG t))]) hx hb d_Sums_recode_51 hl (by decide) rfl (fun ls hl => ?_)
      refine lv_iload hx hb d_Sums_recode_53 (lv_at hl 1 rfl) ?_
      refine lv_iload hx hb d_Sums_recode_55 (lv_at hl 3 rfl) ?_
      refine lv_icmp_lt (tgt := 93) hx hb d_Sums_recode_57 (by decide) (fun h1 => ?_) (fun h1 => ?_)
      rotate_left
      · skip
        refine lv_iload hx hb d_Sums_recode_60 (lv_at hl 0 rfl) ?_
        refine lv_iconst (v := nI 1) hx hb d_Sums_recode_62 (by decide) ?_
        refine lv_iand hx hb d_Sums_recode_63 ?_
        refine lv_iconst (v := nI 1) hx hb d_Sums_recode_64 (by decide) ?_
        refine lv_icmp_ne (tgt := 93) hx hb d_Sums_recode_65 (by decide) (fun h2 => ?_) (fun h2 => ?_)
        rotate_left
        · skip
          obtain ⟨⟨kd, hkd, ekd⟩, cn, hcn, ecn⟩ := sd_step (cr + jb) (by omega) h2
          refine lv_iload hx hb d_Sums_recode_68 (lv_at hl 0 rfl) ?_
          refine lv_iconst (v := nI 3) hx hb d_Sums_recode_70 (by decide) ?_
          refine lv_ishr hx hb d_Sums_recode_71 ?_
          refine lv_topi (fun t9 e9 => ?_)
          obtain rfl : t9 = nI cn := e9.trans (ecn)
          refine lv_istore (lv' := [(6, .int (nI cn)), (9, .int (nI (cr + jb))), (8, .int (nI i)), (7, .int fr9), (0, .ref o), (2, .ref a), (3, .int from0), (4, .int (nI cnt)), (5, .ref (DG t))]) hx hb d_Sums_recode_72 hl (by decide) rfl (fun ls hl => ?_)
          refine lv_aload hx hb d_Sums_recode_74 (lv_at hl 8 rfl) ?_
          refine lv_iload hx hb d_Sums_recode_76 (lv_at hl 2 rfl) ?_
          refine lv_iload hx hb d_Sums_recode_78 (lv_at hl 1 rfl) ?_
          refine lv_iload hx hb d_Sums_recode_80 (lv_at hl 0 rfl) ?_
          refine lv_iconst (v := nI 4) hx hb d_Sums_recode_82 (by decide) ?_
          refine lv_ishl hx hb d_Sums_recode_83 ?_
          refine lv_isub hx hb d_Sums_recode_84 ?_
          refine lv_i2b (v := ((nI (cr + jb)) - ((nI cn) <<< ((nI 4) &&& 31))).toInt8.toInt32) hx hb d_Sums_recode_85 rfl ?_
          refine q_bast E hf hd0 hF i rfl (by omega) (by decide) d_Sums_recode_86 (fun H2 locs hq hf2 hF => ?_)
          have hk := hk.tr hq
          have hsd2 : ∀ j, j < 257 → sd (upd f i (vp_nar .byte ((nI (cr + jb) - (nI cn <<< (nI 4 &&& 31))).toInt8.toInt32)) j) := sd_upd hsd ⟨kd, hkd, by rw [← ecn]; exact ekd⟩
          refine lv_iload hx hb d_Sums_recode_87 (lv_at hl 2 rfl) ?_
          refine lv_iconst (v := nI 4) hx hb d_Sums_recode_89 (by decide) ?_
          refine lv_iadd hx hb d_Sums_recode_90 ?_
          refine lv_istore (lv' := [(7, .int ((nI i) + (nI 4))), (6, .int (nI cn)), (9, .int (nI (cr + jb))), (8, .int (nI i)), (0, .ref o), (2, .ref a), (3, .int from0), (4, .int (nI cnt)), (5, .ref (DG t))]) hx hb d_Sums_recode_91 hl (by decide) rfl (fun ls hl => ?_)
          refine lv_iinc (k := 3) (v := nI (i + 1)) (lv' := [(8, .int (nI (i + 1))), (7, .int ((nI i) + (nI 4))), (6, .int (nI cn)), (9, .int (nI (cr + jb))), (0, .ref o), (2, .ref a), (3, .int from0), (4, .int (nI cnt)), (5, .ref (DG t))]) hx hb d_Sums_recode_93 hl rfl (i_inc i) (by decide) rfl (fun ls hl => ?_)
          refine lv_goto (tgt := 23) hx hb d_Sums_recode_96 (by decide) ?_
          have hl : lv_has ls 10 [(8, .int (nI (i + 1))), (6, .int (nI cn)), (7, .int ((nI i) + (nI 4))), (0, .ref o), (2, .ref a), (3, .int from0), (4, .int (nI cnt)), (5, .ref (DG t))] := lv_sub hl [0, 2, 1, 4, 5, 6, 7, 8] rfl
          exact ih (i + 1) cn _ _ _ ls _ (by omega) hcn hk hf2 hsd2 hF hl
        refine lv_iinc (k := 1) (v := nI (i + 1)) (lv' := [(8, .int (nI (i + 1))), (9, .int (nI (cr + jb))), (6, .int (nI cr)), (7, .int fr9), (0, .ref o), (2, .ref a), (3, .int from0), (4, .int (nI cnt)), (5, .ref (DG t))]) hx hb d_Sums_recode_93 hl rfl (i_inc i) (by decide) rfl (fun ls hl => ?_)
        refine lv_goto (tgt := 23) hx hb d_Sums_recode_96 (by decide) ?_
        have hl : lv_has ls 10 [(8, .int (nI (i + 1))), (6, .int (nI cr)), (7, .int fr9), (0, .ref o), (2, .ref a), (3, .int from0), (4, .int (nI cnt)), (5, .ref (DG t))] := lv_sub hl [0, 2, 3, 4, 5, 6, 7, 8] rfl
        exact ih (i + 1) cr fr9 _ _ ls f (by omega) hcr hk hf hsd hF hl
      refine lv_iinc (k := 1) (v := nI (i + 1)) (lv' := [(8, .int (nI (i + 1))), (9, .int (nI (cr + jb))), (6, .int (nI cr)), (7, .int fr9), (0, .ref o), (2, .ref a), (3, .int from0), (4, .int (nI cnt)), (5, .ref (DG t))]) hx hb d_Sums_recode_93 hl rfl (i_inc i) (by decide) rfl (fun ls hl => ?_)
      refine lv_goto (tgt := 23) hx hb d_Sums_recode_96 (by decide) ?_
      have hl : lv_has ls 10 [(8, .int (nI (i + 1))), (6, .int (nI cr)), (7, .int fr9), (0, .ref o), (2, .ref a), (3, .int from0), (4, .int (nI cnt)), (5, .ref (DG t))] := lv_sub hl [0, 2, 3, 4, 5, 6, 7, 8] rfl
      exact ih (i + 1) cr fr9 _ _ ls f (by omega) hcr hk hf hsd hF hl
  exact lp (cnt + 1) 0 0 _ _ _ ls _ (by omega) (by decide) hk hz (fun _ _ => sd_0) hF hl
set_option maxHeartbeats 4000000 in
set_option maxRecDepth 100000 in
theorem v_Sums_total (l : Launch) (g : WG) (n0 : Nat → Prop) (o cu od dg sm s1 s2 s3 : Nat) (fo : Nat) (F : Nat → Nat) (mi : Int64) (X : Nat → Nat) (O O1 O2 O3 : Nat → Nat) (DG : Nat → Nat) (n : Nat) (t t1 t2 t3 : Nat) (hn : n ≤ 16) (hs : s3 ≠ s2) (hdn : ∀ k, k < 16 → ¬ n0 (DG k)) : Ctr l y_Sums_total (.code y_Sums_total prog_9_method_5_code 7 none) 4 187 0 0 n0 g [.ref o, .ref t, .int (nI n)] (fun H => SO g n0 H o cu od dg sm s1 s2 s3 fo F mi X O O1 O2 O3 ∧ PT g n0 H t t1 t2 t3 ∧ AR g.2.2.2.2.2.2 H dg 16 DG ∧ (∀ k, k < n → ∃ f, AB g H (DG k) 257 f ∧ ∀ j, j < 257 → sd (f j))) (QV (fun H H' => KJ g (fun q => n0 q) H H')) := by
  refine ctr_mk l (lv0 := [(0, .ref o), (1, .ref t), (2, .int (nI n))]) (by decide) (Nat.le_of_ble_eq_true rfl) rfl ?_
  intro p e s m below meth c ls E hr hlk hnm hl hP
  have hx := E.1
  have hb := E.2.1
  have hK := E.2.2.2.2.2
  have hF : ∀ q ∈ ([] : List Loc), n0 q.base := fun q hq => absurd hq List.not_mem_nil
  obtain ⟨hso, h_t, hdr, hdz⟩ := hP
  have hk : KJ g (fun q => n0 q) s.heap s.heap := KJ.rf
  refine lv_aload_n hx hb d_Sums_total_0 rfl (lv_at hl 0 rfl) ?_
  refine q_get (C := "KateDesk$Sums") (T := T_Sums) (N := 4) (ci := 4) E ((hk.so hK hso).1) in_Sums rfl 3 (by decide) w_250 rfl rfl d_Sums_total_1 ?_
  refine q_cV (rest := []) E (c_Point_becomeNothing l g n0 sm s1 s2 s3 hs) w_635 w_2 w_721 w_633 w_634 hd_Point_becomeNothing rfl ⟨by decide, by decide⟩ (OB.recv E.2.2.2.2.2 (by rfl) ((hk.so hK hso).2.2.1.1)) ((hk.so hK hso).2.2.1) hF hl.1 rfl (Nat.le_of_ble_eq_true rfl) d_Sums_total_4 ⟨by decide, by decide⟩ (qv (fun H1 locs hq hF => ?_))
  have hk := hk.tr (hq.1.mono (pt_le hso.2.2.1))
  refine lv_iconst (v := nI 0) hx hb d_Sums_total_7 (by decide) ?_
  refine lv_istore_n (lv' := [(3, .int (nI 0)), (0, .ref o), (1, .ref t), (2, .int (nI n))]) hx hb d_Sums_total_8 rfl hl (by decide) rfl (fun ls hl => ?_)
  refine lv_sipush (v := nI 256) hx hb d_Sums_total_9 (by decide) ?_
  refine lv_istore (lv' := [(4, .int (nI 256)), (3, .int (nI 0)), (0, .ref o), (1, .ref t), (2, .int (nI n))]) hx hb d_Sums_total_12 hl (by decide) rfl (fun ls hl => ?_)
  have hl : lv_has ls 7 [(4, .int (nI 256)), (3, .int (nI 0)), (0, .ref o), (1, .ref t), (2, .int (nI n))] := lv_sub hl [0, 1, 2, 3, 4] rfl
  have lp : ∀ (k : Nat) (bg : Int32) (H : Heap) (locs : List Loc) (ls : Array Slot) (x : Int32), k ≤ 257 → x = nI k - 1 → KJ g (fun q => n0 q) s.heap H → (∀ q ∈ locs, n0 q.base) → lv_has ls 7 [(4, .int x), (3, .int bg), (0, .ref o), (1, .ref t), (2, .int (nI n))] → W p l e { frames := 4, cells := 0, slots := 0, locals := 187 } s m [.ref o, .ref t, .int (nI n)].toArray below meth c H locs 0 0 (MQ below (QcP (QV (fun H H' => KJ g (fun q => n0 q) H H'))) [.ref o, .ref t, .int (nI n)].toArray s 0 0 (fun q => n0 q)) (F0 m 14 ls []) := by
    intro k
    induction k with
    | zero =>
      intro  bg   H   locs   ls   x hk0 hxx hk hF hl
      subst hxx
      refine lv_iload hx hb d_Sums_total_14 (lv_at hl 0 rfl) ?_
      refine lv_if_lt (tgt := 120) hx hb d_Sums_total_16 (by decide) (fun _ => ?_) (fun h9 => absurd (by decide) h9)
      refine lv_aload_n hx hb d_Sums_total_120 rfl (lv_at hl 3 rfl) ?_
      refine lv_aload_n hx hb d_Sums_total_121 rfl (lv_at hl 2 rfl) ?_
      refine q_get (C := "KateDesk$Sums") (T := T_Sums) (N := 4) (ci := 4) E ((hk.so hK hso).1) in_Sums rfl 3 (by decide) w_250 rfl rfl d_Sums_total_122 ?_
      refine q_cV (rest := []) E (c_Point_copy l g n0 t t1 t2 t3 sm s1 s2 s3) w_697 w_2 w_694 w_695 w_696 hd_Point_copy rfl ⟨by decide, by decide⟩ (OB.recv E.2.2.2.2.2 (by rfl) ((hk.pt hK h_t).1)) (⟨hk.pt hK h_t, (hk.so hK hso).2.2.1⟩) hF hl.1 rfl (Nat.le_of_ble_eq_true rfl) d_Sums_total_125 ⟨by decide, by decide⟩ (qv (fun H1 locs hq hF => ?_))
      have hk := hk.tr (hq.1.mono (pt_le h_t))
      exact q_vret E hr hlk (⟨rfl, hk⟩) hF d_Sums_total_128
    | succ k ih =>
      intro  bg   H   locs   ls   x hk0 hxx hk hF hl
      rw [nI_pred] at hxx
      subst hxx
      have inner : ∀ (k2 : Nat) (i : Nat) (bg2 : Int32) (H : Heap) (locs : List Loc) (ls : Array Slot), i + k2 = n → KJ g (fun q => n0 q) s.heap H → (∀ q ∈ locs, n0 q.base) → lv_has ls 7 [(5, .int (nI i)), (4, .int (nI k)), (3, .int bg2), (0, .ref o), (1, .ref t), (2, .int (nI n))] → W p l e { frames := 4, cells := 0, slots := 0, locals := 187 } s m [.ref o, .ref t, .int (nI n)].toArray below meth c H locs 0 0 (MQ below (QcP (QV (fun H H' => KJ g (fun q => n0 q) H H'))) [.ref o, .ref t, .int (nI n)].toArray s 0 0 (fun q => n0 q)) (F0 m 41 ls []) := by
        intro k2
        induction k2 with
        | zero =>
          intro  i   bg2   H   locs   ls hi hk hF hl
          obtain rfl : i = n := by omega
          refine lv_iload hx hb d_Sums_total_41 (lv_at hl 0 rfl) ?_
          refine lv_iload_n hx hb d_Sums_total_43 rfl (lv_at hl 5 rfl) ?_
          refine lv_icmp_ge (tgt := 114) hx hb d_Sums_total_44 (by decide) (fun _ => ?_) (fun h9 => absurd (nI_le (Nat.le_refl _) (by omega)) h9)
          refine lv_iinc (k := 1) (v := nI k - 1) (lv' := [(4, .int (nI k - 1)), (5, .int (nI i)), (3, .int bg2), (0, .ref o), (1, .ref t), (2, .int (nI i))]) hx hb d_Sums_total_114 hl rfl (i_dec (nI k)) (by decide) rfl (fun ls hl => ?_)
          refine lv_goto (tgt := 14) hx hb d_Sums_total_117 (by decide) ?_
          have hl : lv_has ls 7 [(4, .int (nI k - 1)), (3, .int bg2), (0, .ref o), (1, .ref t), (2, .int (nI i))] := lv_sub hl [0, 2, 3, 4, 5] rfl
          exact ih _ _ _ ls _ (by omega) rfl hk hF hl
        | succ k2 ih2 =>
          intro  i   bg2   H   locs   ls hi hk hF hl
          have hin : i < n := by omega
          refine lv_iload hx hb d_Sums_total_41 (lv_at hl 0 rfl) ?_
          refine lv_iload_n hx hb d_Sums_total_43 rfl (lv_at hl 5 rfl) ?_
          refine lv_icmp_ge (tgt := 114) hx hb d_Sums_total_44 (by decide) (fun h9 => absurd h9 (nI_ge hin (by omega))) (fun _ => ?_)
          refine lv_aload_n hx hb d_Sums_total_47 rfl (lv_at hl 3 rfl) ?_
          refine q_get (C := "KateDesk$Sums") (T := T_Sums) (N := 4) (ci := 4) E ((hk.so hK hso).1) in_Sums rfl 2 (by decide) w_249 rfl rfl d_Sums_total_48 ?_
          refine lv_iload hx hb d_Sums_total_51 (lv_at hl 0 rfl) ?_
          refine q_aald (t := 5) E rfl rfl (hk.arB hK hdr) i rfl (by omega) (by decide) d_Sums_total_53 ?_
          obtain ⟨fd, hfd, hsd⟩ := hdz i hin
          have hfd := hk.abo (hdn i (by omega)) hfd
          refine lv_iload hx hb d_Sums_total_54 (lv_at hl 1 rfl) ?_
          refine q_bald E hfd k rfl (by omega) (by decide) d_Sums_total_56 ?_
          refine lv_topi (fun dk edk => ?_)
          refine lv_istore (lv' := [(6, .int dk), (5, .int (nI i)), (4, .int (nI k)), (3, .int bg2), (0, .ref o), (1, .ref t), (2, .int (nI n))]) hx hb d_Sums_total_57 hl (by decide) rfl (fun ls hl => ?_)
          refine lv_iload hx hb d_Sums_total_59 (lv_at hl 0 rfl) ?_
          refine lv_if_eq (tgt := 108) hx hb d_Sums_total_61 (by decide) (fun h0 => ?_) (fun h0 => ?_)
          rotate_left
          · skip
            obtain ⟨jd, hjd, ejd⟩ := sd_abs dk (by rw [edk]; exact hsd k (by omega))
            refine lv_aload_n hx hb d_Sums_total_64 rfl (lv_at hl 4 rfl) ?_
            refine q_get (C := "KateDesk$Sums") (T := T_Sums) (N := 4) (ci := 4) E ((hk.so hK hso).1) in_Sums rfl 0 (by decide) w_247 rfl rfl d_Sums_total_65 ?_
            refine lv_aload_n hx hb d_Sums_total_68 rfl (lv_at hl 4 rfl) ?_
            refine q_get (C := "KateDesk$Sums") (T := T_Sums) (N := 4) (ci := 4) E ((hk.so hK hso).1) in_Sums rfl 3 (by decide) w_250 rfl rfl d_Sums_total_69 ?_
            refine lv_aload_n hx hb d_Sums_total_72 rfl (lv_at hl 4 rfl) ?_
            refine q_get (C := "KateDesk$Sums") (T := T_Sums) (N := 4) (ci := 4) E ((hk.so hK hso).1) in_Sums rfl 3 (by decide) w_250 rfl rfl d_Sums_total_73 ?_
            refine lv_aload_n hx hb d_Sums_total_76 rfl (lv_at hl 4 rfl) ?_
            refine q_get (C := "KateDesk$Sums") (T := T_Sums) (N := 4) (ci := 4) E ((hk.so hK hso).1) in_Sums rfl 1 (by decide) w_248 rfl rfl d_Sums_total_77 ?_
            refine lv_iload hx hb d_Sums_total_80 (lv_at hl 1 rfl) ?_
            refine lv_iconst (v := nI 4) hx hb d_Sums_total_82 (by decide) ?_
            refine lv_imul hx hb d_Sums_total_83 ?_
            refine lv_topi (fun t9 e9 => ?_)
            obtain rfl : t9 = nI (i * 4) := e9.trans (pk_mul _ _)
            refine lv_iload hx hb d_Sums_total_84 (lv_at hl 0 rfl) ?_
            refine va_mabs E.1 E.2.1 (E.2.2.1.trans hl.1.symm) E.2.2.2.1 (E.2.2.2.2.1 _ w_722) (E.2.2.2.2.1 _ w_723) (E.2.2.2.2.1 _ w_23) (E.2.2.2.2.1 _ w_724) (by decide) (Nat.le_of_ble_eq_true rfl) (Nat.le_of_ble_eq_true rfl) (Nat.le_of_ble_eq_true rfl) d_Sums_total_86 ?_
            refine lv_iconst (v := nI 2) hx hb d_Sums_total_89 (by decide) ?_
            refine lv_idiv hx hb d_Sums_total_90 (by decide) ?_
            refine lv_topi (fun t9 e9 => ?_)
            obtain rfl : t9 = nI jd := e9.trans (ejd)
            refine lv_iadd hx hb d_Sums_total_91 ?_
            refine lv_topi (fun t9 e9 => ?_)
            obtain rfl : t9 = nI (i * 4 + jd) := e9.trans (nI_add _ _)
            refine q_aald (t := 3) E rfl rfl ((hk.so hK hso).2.2.2.1) (i * 4 + jd) rfl (by omega) (by decide) d_Sums_total_92 ?_
            refine lv_iload hx hb d_Sums_total_93 (lv_at hl 0 rfl) ?_
            refine lv_if_ge (tgt := 102) hx hb d_Sums_total_95 (by decide) (fun hg => ?_) (fun hg => ?_)
            rotate_left
            · skip
              refine lv_iconst (v := nI 1) hx hb d_Sums_total_98 (by decide) ?_
              refine lv_goto (tgt := 103) hx hb d_Sums_total_99 (by decide) ?_
              refine q_cV (rest := []) E (c_Curve_add l g n0 cu fo F mi X sm s1 s2 s3 sm s1 s2 s3 (O (i * 4 + jd)) (O1 (i * 4 + jd)) (O2 (i * 4 + jd)) (O3 (i * 4 + jd)) (nI 1)) w_711 w_11 w_708 w_709 w_710 hd_Curve_add rfl ⟨by decide, by decide⟩ (OB.recv E.2.2.2.2.2 (by rfl) ((hk.so hK hso).2.1.1)) (⟨(hk.so hK hso).2.1, (hk.so hK hso).2.2.1, (hk.so hK hso).2.2.1, (hk.so hK hso).2.2.2.2 (i * 4 + jd) (by omega)⟩) hF hl.1 rfl (Nat.le_of_ble_eq_true rfl) d_Sums_total_103 ⟨by decide, by decide⟩ (qv (fun H1 locs hq hF => ?_))
              have hk := hk.tr hq
              refine lv_iconst (v := nI 1) hx hb d_Sums_total_106 (by decide) ?_
              refine lv_istore_n (lv' := [(3, .int (nI 1)), (6, .int dk), (5, .int (nI i)), (4, .int (nI k)), (0, .ref o), (1, .ref t), (2, .int (nI n))]) hx hb d_Sums_total_107 rfl hl (by decide) rfl (fun ls hl => ?_)
              refine lv_iinc (k := 2) (v := nI (i + 1)) (lv' := [(5, .int (nI (i + 1))), (3, .int (nI 1)), (6, .int dk), (4, .int (nI k)), (0, .ref o), (1, .ref t), (2, .int (nI n))]) hx hb d_Sums_total_108 hl rfl (i_inc i) (by decide) rfl (fun ls hl => ?_)
              refine lv_goto (tgt := 41) hx hb d_Sums_total_111 (by decide) ?_
              have hl : lv_has ls 7 [(5, .int (nI (i + 1))), (4, .int (nI k)), (3, .int (nI 1)), (0, .ref o), (1, .ref t), (2, .int (nI n))] := lv_sub hl [0, 3, 1, 4, 5, 6] rfl
              exact ih2 (i + 1) _ _ _ ls (by omega) hk hF hl
            refine lv_iconst (v := nI 0) hx hb d_Sums_total_102 (by decide) ?_
            refine q_cV (rest := []) E (c_Curve_add l g n0 cu fo F mi X sm s1 s2 s3 sm s1 s2 s3 (O (i * 4 + jd)) (O1 (i * 4 + jd)) (O2 (i * 4 + jd)) (O3 (i * 4 + jd)) (nI 0)) w_711 w_11 w_708 w_709 w_710 hd_Curve_add rfl ⟨by decide, by decide⟩ (OB.recv E.2.2.2.2.2 (by rfl) ((hk.so hK hso).2.1.1)) (⟨(hk.so hK hso).2.1, (hk.so hK hso).2.2.1, (hk.so hK hso).2.2.1, (hk.so hK hso).2.2.2.2 (i * 4 + jd) (by omega)⟩) hF hl.1 rfl (Nat.le_of_ble_eq_true rfl) d_Sums_total_103 ⟨by decide, by decide⟩ (qv (fun H1 locs hq hF => ?_))
            have hk := hk.tr hq
            refine lv_iconst (v := nI 1) hx hb d_Sums_total_106 (by decide) ?_
            refine lv_istore_n (lv' := [(3, .int (nI 1)), (6, .int dk), (5, .int (nI i)), (4, .int (nI k)), (0, .ref o), (1, .ref t), (2, .int (nI n))]) hx hb d_Sums_total_107 rfl hl (by decide) rfl (fun ls hl => ?_)
            refine lv_iinc (k := 2) (v := nI (i + 1)) (lv' := [(5, .int (nI (i + 1))), (3, .int (nI 1)), (6, .int dk), (4, .int (nI k)), (0, .ref o), (1, .ref t), (2, .int (nI n))]) hx hb d_Sums_total_108 hl rfl (i_inc i) (by decide) rfl (fun ls hl => ?_)
            refine lv_goto (tgt := 41) hx hb d_Sums_total_111 (by decide) ?_
            have hl : lv_has ls 7 [(5, .int (nI (i + 1))), (4, .int (nI k)), (3, .int (nI 1)), (0, .ref o), (1, .ref t), (2, .int (nI n))] := lv_sub hl [0, 3, 1, 4, 5, 6] rfl
            exact ih2 (i + 1) _ _ _ ls (by omega) hk hF hl
          refine lv_iinc (k := 1) (v := nI (i + 1)) (lv' := [(5, .int (nI (i + 1))), (6, .int dk), (4, .int (nI k)), (3, .int bg2), (0, .ref o), (1, .ref t), (2, .int (nI n))]) hx hb d_Sums_total_108 hl rfl (i_inc i) (by decide) rfl (fun ls hl => ?_)
          refine lv_goto (tgt := 41) hx hb d_Sums_total_111 (by decide) ?_
          have hl : lv_has ls 7 [(5, .int (nI (i + 1))), (4, .int (nI k)), (3, .int bg2), (0, .ref o), (1, .ref t), (2, .int (nI n))] := lv_sub hl [0, 2, 3, 4, 5, 6] rfl
          exact ih2 (i + 1) _ _ _ ls (by omega) hk hF hl
      refine lv_iload hx hb d_Sums_total_14 (lv_at hl 0 rfl) ?_
      refine lv_if_lt (tgt := 120) hx hb d_Sums_total_16 (by decide) (fun h9 => absurd h9 (nI_pos (by omega))) (fun _ => ?_)
      refine lv_iload_n hx hb d_Sums_total_19 rfl (lv_at hl 1 rfl) ?_
      refine lv_if_eq (tgt := 38) hx hb d_Sums_total_20 (by decide) (fun hb9 => ?_) (fun hb9 => ?_)
      rotate_left
      · skip
        refine lv_aload_n hx hb d_Sums_total_23 rfl (lv_at hl 2 rfl) ?_
        refine q_get (C := "KateDesk$Sums") (T := T_Sums) (N := 4) (ci := 4) E ((hk.so hK hso).1) in_Sums rfl 0 (by decide) w_247 rfl rfl d_Sums_total_24 ?_
        refine lv_aload_n hx hb d_Sums_total_27 rfl (lv_at hl 2 rfl) ?_
        refine q_get (C := "KateDesk$Sums") (T := T_Sums) (N := 4) (ci := 4) E ((hk.so hK hso).1) in_Sums rfl 3 (by decide) w_250 rfl rfl d_Sums_total_28 ?_
        refine lv_aload_n hx hb d_Sums_total_31 rfl (lv_at hl 2 rfl) ?_
        refine q_get (C := "KateDesk$Sums") (T := T_Sums) (N := 4) (ci := 4) E ((hk.so hK hso).1) in_Sums rfl 3 (by decide) w_250 rfl rfl d_Sums_total_32 ?_
        refine q_cV (rest := []) E (c_Curve_twice l g n0 cu fo F mi X sm s1 s2 s3 sm s1 s2 s3) w_702 w_11 w_699 w_700 w_701 hd_Curve_twice rfl ⟨by decide, by decide⟩ (OB.recv E.2.2.2.2.2 (by rfl) ((hk.so hK hso).2.1.1)) (⟨(hk.so hK hso).2.1, (hk.so hK hso).2.2.1, (hk.so hK hso).2.2.1⟩) hF hl.1 rfl (Nat.le_of_ble_eq_true rfl) d_Sums_total_35 ⟨by decide, by decide⟩ (qv (fun H1 locs hq hF => ?_))
        have hk := hk.tr hq
        refine lv_iconst (v := nI 0) hx hb d_Sums_total_38 (by decide) ?_
        refine lv_istore (lv' := [(5, .int (nI 0)), (4, .int (nI k)), (3, .int bg), (0, .ref o), (1, .ref t), (2, .int (nI n))]) hx hb d_Sums_total_39 hl (by decide) rfl (fun ls hl => ?_)
        have hl : lv_has ls 7 [(5, .int (nI 0)), (4, .int (nI k)), (3, .int bg), (0, .ref o), (1, .ref t), (2, .int (nI n))] := lv_sub hl [0, 1, 2, 3, 4, 5] rfl
        exact inner n 0 _ _ _ ls (by omega) hk hF hl
      refine lv_iconst (v := nI 0) hx hb d_Sums_total_38 (by decide) ?_
      refine lv_istore (lv' := [(5, .int (nI 0)), (4, .int (nI k)), (3, .int bg), (0, .ref o), (1, .ref t), (2, .int (nI n))]) hx hb d_Sums_total_39 hl (by decide) rfl (fun ls hl => ?_)
      have hl : lv_has ls 7 [(5, .int (nI 0)), (4, .int (nI k)), (3, .int bg), (0, .ref o), (1, .ref t), (2, .int (nI n))] := lv_sub hl [0, 1, 2, 3, 4, 5] rfl
      exact inner n 0 _ _ _ ls (by omega) hk hF hl
  exact lp 257 _ _ _ ls _ (by decide) (by decide) hk hF hl
