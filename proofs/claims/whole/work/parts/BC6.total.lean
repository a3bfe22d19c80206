theorem RSm_ad {P : Nat → P3} {n i : Nat} {z : Nat → Int} {T W : P3} {w : Int} (hP : AC P n) (hi : i < n) (h : RSm P n z T) (hw : RP (P i) w W) : RSm P n (fun q => z q + (if q = i then w else 0)) (AD T W) := RSm.add hP h (RSm_1 hP hi hw)
theorem RSm_PN {P : Nat → P3} {n : Nat} (hP : AC P n) : RSm P n (fun _ => 0) PN := (RSm_O hP).cg PN_PE
theorem ts_k {d : Nat → Int} {k : Nat} (hk : k < 257) : 2 * TT d 257 (257 - (k + 1)) + d k = TT d 257 (257 - k) := by
  obtain ⟨m, hm⟩ : ∃ m, 257 - (k + 1) = m := ⟨_, rfl⟩
  have e : 257 - k = m + 1 := by omega
  rw [hm, e]
  show _ = 2 * TT d 257 m + d (257 - 1 - m)
  rw [show 257 - 1 - m = k by omega]
set_option maxHeartbeats 4000000 in
set_option maxRecDepth 100000 in
theorem L_Sums_total (l : Launch) (g : WG) (n0 : Nat → Prop) (o cu od dg sm s1 s2 s3 : Nat) (fo : Nat) (F : Nat → Nat) (mi : Int64) (X : Nat → Nat) (O O1 O2 O3 : Nat → Nat) (DG : Nat → Nat) (n : Nat) (t t1 t2 t3 : Nat) (P : Nat → P3) (Wt : Nat → Nat → P3) (fdg : Nat → Nat → Int32) (hPC : AC P n) (hn : n ≤ 16) (hmi : mi = 268238845) (hA9 : SAP F X O1 O2 O3 s1 s2 s3) (hts : t1 ≠ t2 ∧ t1 ≠ t3 ∧ t2 ≠ t3) (hst : s2 ≠ t1 ∧ s3 ≠ t1 ∧ s3 ≠ t2) (hdo : ∀ q j, q < n → j < 257 → DO (fdg q j)) (hWt : ∀ q, q < n → (∃ j, j < 257 ∧ fdg q j ≠ 0) → ∀ m9 : Nat, m9 < 4 → RP (P q) (2 * (m9 : Int) + 1) (Wt q m9)) (hdn : ∀ k, k < 16 → ¬ (fun q => (∃ i, i < 9 ∧ q = X i) ∨ q = F 5 ∨ q = s1 ∨ q = s2 ∨ q = s3) (DG k)) : Ctr l y_Sums_total (.code y_Sums_total prog_9_method_5_code 7 none) 4 187 0 0 n0 g [.ref o, .ref t, .int (nI n)] (fun H => SO g n0 H o cu od dg sm s1 s2 s3 fo F mi X O O1 O2 O3 ∧ PT g n0 H t t1 t2 t3 ∧ AR g.2.2.2.2.2.2 H dg 16 DG ∧ AJ g H (F 0) 14 kQ ∧ (∀ q, q < n → AB g H (DG q) 257 (fdg q)) ∧ ∀ q, q < n → (∃ j, j < 257 ∧ fdg q j ≠ 0) → ∀ m9 : Nat, m9 < 4 → LPt g H (O1 (q * 4 + m9)) (O2 (q * 4 + m9)) (O3 (q * 4 + m9)) (Wt q m9)) (QV (fun H H' => KJ g (fun q => (∃ i, i < 9 ∧ q = X i) ∨ q = F 5 ∨ q = s1 ∨ q = s2 ∨ q = s3 ∨ q = t1 ∨ q = t2 ∨ q = t3) H H' ∧ ∃ T, RSm P n (fun q => DSg (fun j => (fdg q j).toInt) 257) T ∧ LPt g H' t1 t2 t3 T)) := by
  refine ctr_mk l (lv0 := [(0, .ref o), (1, .ref t), (2, .int (nI n))]) (by decide) (Nat.le_of_ble_eq_true rfl) rfl ?_
  intro p e s m below meth c ls E hr hlk hnm hl hP
  have hx := E.1
  have hb := E.2.1
  have hK := E.2.2.2.2.2
  have hF : ∀ q ∈ ([] : List Loc), n0 q.base := fun q hq => absurd hq List.not_mem_nil
  obtain ⟨hso, h_t, hdr, hM, hdz, hLt⟩ := hP
  obtain ⟨hXA, hOX, hFO, hO5, hOO, hOD, hsX, hFs, hs5, hss, hsO⟩ := hA9
  have hk : KJ g (fun q => (∃ i, i < 9 ∧ q = X i) ∨ q = F 5 ∨ q = s1 ∨ q = s2 ∨ q = s3) s.heap s.heap := KJ.rf
  refine lv_aload_n hx hb d_Sums_total_0 rfl (lv_at hl 0 rfl) ?_
  refine q_get (C := "KateDesk$Sums") (T := T_Sums) (N := 4) (ci := 4) E ((hk.so hK hso).1) in_Sums rfl 3 (by decide) w_250 rfl rfl d_Sums_total_1 ?_
  refine q_cV (rest := []) E (L_Point_becomeNothing l g n0 sm s1 s2 s3 hss) w_635 w_2 w_721 w_633 w_634 hd_Point_becomeNothing rfl ⟨by decide, by decide⟩ (OB.recv E.2.2.2.2.2 (by rfl) ((hk.so hK hso).2.2.1.1)) ((hk.so hK hso).2.2.1) hF hl.1 rfl (Nat.le_of_ble_eq_true rfl) d_Sums_total_4 ⟨by decide, by decide⟩ (qv (fun H1 locs hq hF => ?_))
  obtain ⟨hq, hT⟩ := hq
  have hk := hk.tr (hq.mono (fun q h => Or.inr (Or.inr h)))
  refine lv_iconst (v := nI 0) hx hb d_Sums_total_7 (by decide) ?_
  refine lv_istore_n (lv' := [(3, .int (nI 0)), (0, .ref o), (1, .ref t), (2, .int (nI n))]) hx hb d_Sums_total_8 rfl hl (by decide) rfl (fun ls hl => ?_)
  refine lv_sipush (v := nI 256) hx hb d_Sums_total_9 (by decide) ?_
  refine lv_istore (lv' := [(4, .int (nI 256)), (3, .int (nI 0)), (0, .ref o), (1, .ref t), (2, .int (nI n))]) hx hb d_Sums_total_12 hl (by decide) rfl (fun ls hl => ?_)
  have hl : lv_has ls 7 [(4, .int (nI 256)), (3, .int (nI 0)), (0, .ref o), (1, .ref t), (2, .int (nI n))] := lv_sub hl [0, 1, 2, 3, 4] rfl
  have lp : ∀ (k : Nat) (bg : Int32) (H : Heap) (locs : List Loc) (ls : Array Slot) (x : Int32) (T : P3), k ≤ 257 → x = nI k - 1 → KJ g (fun q => (∃ i, i < 9 ∧ q = X i) ∨ q = F 5 ∨ q = s1 ∨ q = s2 ∨ q = s3) s.heap H → LPt g H s1 s2 s3 T → (∀ q ∈ locs, n0 q.base) → RSm P n (fun q => TT (fun j => (fdg q j).toInt) 257 (257 - k)) T → (bg = 0 → ∀ q, q < n → TT (fun j => (fdg q j).toInt) 257 (257 - k) = 0) → lv_has ls 7 [(4, .int x), (3, .int bg), (0, .ref o), (1, .ref t), (2, .int (nI n))] → W p l e { frames := 4, cells := 0, slots := 0, locals := 187 } s m [.ref o, .ref t, .int (nI n)].toArray below meth c H locs 0 0 (MQ below (QcP (QV (fun H H' => KJ g (fun q => (∃ i, i < 9 ∧ q = X i) ∨ q = F 5 ∨ q = s1 ∨ q = s2 ∨ q = s3 ∨ q = t1 ∨ q = t2 ∨ q = t3) H H' ∧ ∃ T, RSm P n (fun q => DSg (fun j => (fdg q j).toInt) 257) T ∧ LPt g H' t1 t2 t3 T))) [.ref o, .ref t, .int (nI n)].toArray s 0 0 (fun q => n0 q)) (F0 m 14 ls []) := by
    intro k
    induction k with
    | zero =>
      intro  bg   H   locs   ls   x   T hk0 hxx hk hT hF hRS hbg hl
      subst hxx
      refine lv_iload hx hb d_Sums_total_14 (lv_at hl 0 rfl) ?_
      refine lv_if_lt (tgt := 120) hx hb d_Sums_total_16 (by decide) (fun _ => ?_) (fun h9 => absurd (by decide) h9)
      refine lv_aload_n hx hb d_Sums_total_120 rfl (lv_at hl 3 rfl) ?_
      refine lv_aload_n hx hb d_Sums_total_121 rfl (lv_at hl 2 rfl) ?_
      refine q_get (C := "KateDesk$Sums") (T := T_Sums) (N := 4) (ci := 4) E ((hk.so hK hso).1) in_Sums rfl 3 (by decide) w_250 rfl rfl d_Sums_total_122 ?_
      refine q_cV (rest := []) E (L_Point_copy l g n0 t t1 t2 t3 sm s1 s2 s3 T hts hst) w_697 w_2 w_694 w_695 w_696 hd_Point_copy rfl ⟨by decide, by decide⟩ (OB.recv E.2.2.2.2.2 (by rfl) ((hk.pt hK h_t).1)) (⟨hk.pt hK h_t, (hk.so hK hso).2.2.1, hT⟩) hF hl.1 rfl (Nat.le_of_ble_eq_true rfl) d_Sums_total_125 ⟨by decide, by decide⟩ (qv (fun H1 locs hq hF => ?_))
      obtain ⟨hq, hT9⟩ := hq
      have hk9 : KJ g (fun q => (∃ i, i < 9 ∧ q = X i) ∨ q = F 5 ∨ q = s1 ∨ q = s2 ∨ q = s3 ∨ q = t1 ∨ q = t2 ∨ q = t3) s.heap _ := (hk.mono (fun q h => h.elim Or.inl (fun h => h.elim (fun h => Or.inr (Or.inl h)) (fun h => h.elim (fun h => Or.inr (Or.inr (Or.inl h))) (fun h => h.elim (fun h => Or.inr (Or.inr (Or.inr (Or.inl h)))) (fun h => Or.inr (Or.inr (Or.inr (Or.inr (Or.inl h)))))))))).tr (hq.mono (fun q h => Or.inr (Or.inr (Or.inr (Or.inr (Or.inr h))))))
      exact q_vret E hr hlk (⟨rfl, hk9, T, hRS.ext (fun q hq => TT_all _ 257), hT9⟩) hF d_Sums_total_128
    | succ k ih =>
      intro  bg   H   locs   ls   x   T hk0 hxx hk hT hF hRS hbg hl
      rw [nI_pred] at hxx
      subst hxx
      have inner : ∀ (k2 : Nat) (i : Nat) (bg2 : Int32) (H : Heap) (locs : List Loc) (ls : Array Slot) (T : P3), i + k2 = n → KJ g (fun q => (∃ i, i < 9 ∧ q = X i) ∨ q = F 5 ∨ q = s1 ∨ q = s2 ∨ q = s3) s.heap H → LPt g H s1 s2 s3 T → (∀ q ∈ locs, n0 q.base) → RSm P n (fun q => 2 * TT (fun j => (fdg q j).toInt) 257 (257 - (k + 1)) + (if q < i then (fdg q k).toInt else 0)) T → (bg2 = 0 → (∀ q, q < n → TT (fun j => (fdg q j).toInt) 257 (257 - (k + 1)) = 0) ∧ ∀ q, q < i → (fdg q k).toInt = 0) → lv_has ls 7 [(5, .int (nI i)), (4, .int (nI k)), (3, .int bg2), (0, .ref o), (1, .ref t), (2, .int (nI n))] → W p l e { frames := 4, cells := 0, slots := 0, locals := 187 } s m [.ref o, .ref t, .int (nI n)].toArray below meth c H locs 0 0 (MQ below (QcP (QV (fun H H' => KJ g (fun q => (∃ i, i < 9 ∧ q = X i) ∨ q = F 5 ∨ q = s1 ∨ q = s2 ∨ q = s3 ∨ q = t1 ∨ q = t2 ∨ q = t3) H H' ∧ ∃ T, RSm P n (fun q => DSg (fun j => (fdg q j).toInt) 257) T ∧ LPt g H' t1 t2 t3 T))) [.ref o, .ref t, .int (nI n)].toArray s 0 0 (fun q => n0 q)) (F0 m 41 ls []) := by
        intro k2
        induction k2 with
        | zero =>
          intro  i   bg2   H   locs   ls   T hi hk hT hF hRS hbg hl
          obtain rfl : i = n := by omega
          refine lv_iload hx hb d_Sums_total_41 (lv_at hl 0 rfl) ?_
          refine lv_iload_n hx hb d_Sums_total_43 rfl (lv_at hl 5 rfl) ?_
          refine lv_icmp_ge (tgt := 114) hx hb d_Sums_total_44 (by decide) (fun _ => ?_) (fun h9 => absurd (nI_le (Nat.le_refl _) (by omega)) h9)
          refine lv_iinc (k := 1) (v := nI k - 1) (lv' := [(4, .int (nI k - 1)), (5, .int (nI i)), (3, .int bg2), (0, .ref o), (1, .ref t), (2, .int (nI i))]) hx hb d_Sums_total_114 hl rfl (i_dec (nI k)) (by decide) rfl (fun ls hl => ?_)
          refine lv_goto (tgt := 14) hx hb d_Sums_total_117 (by decide) ?_
          have hl : lv_has ls 7 [(4, .int (nI k - 1)), (3, .int bg2), (0, .ref o), (1, .ref t), (2, .int (nI i))] := lv_sub hl [0, 2, 3, 4, 5] rfl
          exact ih _ _ _ ls _ T (by omega) rfl hk hT hF (hRS.ext (fun q hq => by rw [if_pos hq]; exact ts_k (by omega))) (fun hb q hq => by have h9 := hbg hb; rw [← ts_k (by omega), h9.1 q hq, h9.2 q hq]; rfl) hl
        | succ k2 ih2 =>
          intro  i   bg2   H   locs   ls   T hi hk hT hF hRS hbg hl
          have hin : i < n := by omega
          refine lv_iload hx hb d_Sums_total_41 (lv_at hl 0 rfl) ?_
          refine lv_iload_n hx hb d_Sums_total_43 rfl (lv_at hl 5 rfl) ?_
          refine lv_icmp_ge (tgt := 114) hx hb d_Sums_total_44 (by decide) (fun h9 => absurd h9 (nI_ge hin (by omega))) (fun _ => ?_)
          refine lv_aload_n hx hb d_Sums_total_47 rfl (lv_at hl 3 rfl) ?_
          refine q_get (C := "KateDesk$Sums") (T := T_Sums) (N := 4) (ci := 4) E ((hk.so hK hso).1) in_Sums rfl 2 (by decide) w_249 rfl rfl d_Sums_total_48 ?_
          refine lv_iload hx hb d_Sums_total_51 (lv_at hl 0 rfl) ?_
          refine q_aald (t := 5) E rfl rfl (hk.arB hK hdr) i rfl (by omega) (by decide) d_Sums_total_53 ?_
          have hfd := hk.abo (hdn i (by omega)) (hdz i hin)
          refine lv_iload hx hb d_Sums_total_54 (lv_at hl 1 rfl) ?_
          refine q_bald E hfd k rfl (by omega) (by decide) d_Sums_total_56 ?_
          refine lv_topi (fun dk edk => ?_)
          refine lv_istore (lv' := [(6, .int dk), (5, .int (nI i)), (4, .int (nI k)), (3, .int bg2), (0, .ref o), (1, .ref t), (2, .int (nI n))]) hx hb d_Sums_total_57 hl (by decide) rfl (fun ls hl => ?_)
          refine lv_iload hx hb d_Sums_total_59 (lv_at hl 0 rfl) ?_
          refine lv_if_eq (tgt := 108) hx hb d_Sums_total_61 (by decide) (fun h0 => ?_) (fun h0 => ?_)
          rotate_left
          · skip
            obtain ⟨jd, hjd, hor⟩ : ∃ j, j < 4 ∧ (dk = nI (2 * j + 1) ∨ dk = 0 - nI (2 * j + 1)) := by rw [edk]; exact (hdo i k hin (by omega)).resolve_left (by rw [← edk]; exact h0)
            obtain ⟨da1, da2, da3, da4, da5, da6, da7, da8⟩ := do_abs jd hjd
            have hne : ∃ j, j < 257 ∧ fdg i j ≠ 0 := ⟨k, by omega, by rw [← edk]; exact h0⟩
            have hWL := (hLt i hin hne jd hjd).off hk (fun h => h.elim (fun h => by obtain ⟨i9, hi9, e⟩ := h; exact (hOX (i * 4 + jd) i9 (by omega) hi9).1 e) (fun h => h.elim (hO5 (i * 4 + jd) (by omega)).1 (fun h => h.elim (fun e => (hsO (i * 4 + jd) (by omega)).1.1 e.symm) (fun h => h.elim (fun e => (hsO (i * 4 + jd) (by omega)).2.1.1 e.symm) (fun e => (hsO (i * 4 + jd) (by omega)).2.2.1 e.symm))))) (fun h => h.elim (fun h => by obtain ⟨i9, hi9, e⟩ := h; exact (hOX (i * 4 + jd) i9 (by omega) hi9).2.1 e) (fun h => h.elim (hO5 (i * 4 + jd) (by omega)).2.1 (fun h => h.elim (fun e => (hsO (i * 4 + jd) (by omega)).1.2.1 e.symm) (fun h => h.elim (fun e => (hsO (i * 4 + jd) (by omega)).2.1.2.1 e.symm) (fun e => (hsO (i * 4 + jd) (by omega)).2.2.2.1 e.symm))))) (fun h => h.elim (fun h => by obtain ⟨i9, hi9, e⟩ := h; exact (hOX (i * 4 + jd) i9 (by omega) hi9).2.2 e) (fun h => h.elim (hO5 (i * 4 + jd) (by omega)).2.2 (fun h => h.elim (fun e => (hsO (i * 4 + jd) (by omega)).1.2.2 e.symm) (fun h => h.elim (fun e => (hsO (i * 4 + jd) (by omega)).2.1.2.2 e.symm) (fun e => (hsO (i * 4 + jd) (by omega)).2.2.2.2 e.symm)))))
            have hWR := hWt i hin hne jd hjd
            have ejd : (if 0 ≤ dk then dk else 0 - dk) / nI 2 = nI jd := by rcases hor with h | h <;> rw [h]; exact da1; exact da2
            refine lv_aload_n hx hb d_Sums_total_64 rfl (lv_at hl 4 rfl) ?_
            refine q_get (C := "KateDesk$Sums") (T := T_Sums) (N := 4) (ci := 4) E ((hk.so hK hso).1) in_Sums rfl 0 (by decide) w_247 rfl rfl d_Sums_total_65 ?_
            refine lv_aload_n hx hb d_Sums_total_68 rfl (lv_at hl 4 rfl) ?_
            refine q_get (C := "KateDesk$Sums") (T := T_Sums) (N := 4) (ci := 4) E ((hk.so hK hso).1) in_Sums rfl 3 (by decide) w_250 rfl rfl d_Sums_total_69 ?_
            refine lv_aload_n hx hb d_Sums_total_72 rfl (lv_at hl 4 rfl) ?_
            refine q_get (C := "KateDesk$Sums") (T := T_Sums) (N := 4) (ci := 4) E ((hk.so hK hso).1) in_Sums rfl 3 (by decide) w_250 rfl rfl d_Sums_total_73 ?_
            refine lv_aload_n hx hb d_Sums_total_76 rfl (lv_at hl 4 rfl) ?_
            refine q_get (C := "KateDesk$Sums") (T := T_Sums) (N := 4) (ci := 4) E ((hk.so hK hso).1) in_Sums rfl 1 (by decide) w_248 rfl rfl d_Sums_total_77 ?_
            refine lv_iload hx hb d_Sums_total_80 (lv_at hl 1 rfl) ?_
            refine lv_iconst (v := nI 4) hx hb d_Sums_total_82 (by decide) ?_
            refine lv_imul hx hb d_Sums_total_83 ?_
            refine lv_topi (fun t9 e9 => ?_)
            obtain rfl : t9 = nI (i * 4) := e9.trans (pk_mul _ _)
            refine lv_iload hx hb d_Sums_total_84 (lv_at hl 0 rfl) ?_
            refine va_mabs E.1 E.2.1 (E.2.2.1.trans hl.1.symm) E.2.2.2.1 (E.2.2.2.2.1 _ w_722) (E.2.2.2.2.1 _ w_723) (E.2.2.2.2.1 _ w_23) (E.2.2.2.2.1 _ w_724) (by decide) (Nat.le_of_ble_eq_true rfl) (Nat.le_of_ble_eq_true rfl) (Nat.le_of_ble_eq_true rfl) d_Sums_total_86 ?_
            refine lv_iconst (v := nI 2) hx hb d_Sums_total_89 (by decide) ?_
            refine lv_idiv hx hb d_Sums_total_90 (by decide) ?_
            refine lv_topi (fun t9 e9 => ?_)
            obtain rfl : t9 = nI jd := e9.trans (ejd)
            refine lv_iadd hx hb d_Sums_total_91 ?_
            refine lv_topi (fun t9 e9 => ?_)
            obtain rfl : t9 = nI (i * 4 + jd) := e9.trans (nI_add _ _)
            refine q_aald (t := 3) E rfl rfl ((hk.so hK hso).2.2.2.1) (i * 4 + jd) rfl (by omega) (by decide) d_Sums_total_92 ?_
            refine lv_iload hx hb d_Sums_total_93 (lv_at hl 0 rfl) ?_
            refine lv_if_ge (tgt := 102) hx hb d_Sums_total_95 (by decide) (fun hg => ?_) (fun hg => ?_)
            rotate_left
            · skip
              refine lv_iconst (v := nI 1) hx hb d_Sums_total_98 (by decide) ?_
              refine lv_goto (tgt := 103) hx hb d_Sums_total_99 (by decide) ?_
              refine q_cV (rest := []) E (L_Curve_add l g n0 cu fo F mi X sm s1 s2 s3 sm s1 s2 s3 (O (i * 4 + jd)) (O1 (i * 4 + jd)) (O2 (i * 4 + jd)) (O3 (i * 4 + jd)) (nI 1) T (Wt i jd) hXA hmi hsX (fun q hq => hOX _ q (by omega) hq) hs5 (hO5 _ (by omega)) (fun q hq => ⟨(hsX q hq).1.symm, (hsX q hq).2.1.symm, (hsX q hq).2.2.symm⟩) hFs hss) w_711 w_11 w_708 w_709 w_710 hd_Curve_add rfl ⟨by decide, by decide⟩ (OB.recv E.2.2.2.2.2 (by rfl) ((hk.so hK hso).2.1.1)) (⟨(hk.so hK hso).2.1, (hk.so hK hso).2.2.1, (hk.so hK hso).2.2.1, (hk.so hK hso).2.2.2.2 (i * 4 + jd) (by omega), (hk.ajo (fun h => h.elim (fun h => by obtain ⟨i9, hi9, e⟩ := h; exact hXA.2.1 i9 hi9 e) (fun h => h.elim hXA.2.2.2 (fun h => h.elim hFs.1 (fun h => h.elim hFs.2.1 hFs.2.2)))) hM), hT, hWL⟩) hF hl.1 rfl (Nat.le_of_ble_eq_true rfl) d_Sums_total_103 ⟨by decide, by decide⟩ (qv (fun H1 locs hq hF => ?_))
              obtain ⟨hq, R9, hR9, hT⟩ := hq
              rw [if_neg (show ¬ nI 1 = 0 by decide)] at hR9
              subst hR9
              have hT : LPt g H1 s1 s2 s3 (AD T (NG (Wt i jd))) := hT
              have hk := hk.tr hq
              have hdv : dk.toInt = -(2 * (jd : Int) + 1) := by rcases hor with h | h; exact absurd (by rw [h]; exact da3) hg; rw [h]; exact da6
              have hRS2 : RSm P n (fun q => 2 * TT (fun j => (fdg q j).toInt) 257 (257 - (k + 1)) + (if q < i + 1 then (fdg q k).toInt else 0)) (AD T (NG (Wt i jd))) := (RSm_ad hPC hin hRS (hWR.ng (hPC i hin))).ext (fun q hq => by
                by_cases c9 : q = i
                · subst c9; rw [if_neg (Nat.lt_irrefl q), if_pos rfl, if_pos (Nat.lt_succ_self q), ← edk, hdv, Int.add_zero]
                · rw [if_neg c9, Int.add_zero]; by_cases c8 : q < i; (rw [if_pos c8, if_pos (by omega)]); (rw [if_neg c8, if_neg (by omega)]))
              refine lv_iconst (v := nI 1) hx hb d_Sums_total_106 (by decide) ?_
              refine lv_istore_n (lv' := [(3, .int (nI 1)), (6, .int dk), (5, .int (nI i)), (4, .int (nI k)), (0, .ref o), (1, .ref t), (2, .int (nI n))]) hx hb d_Sums_total_107 rfl hl (by decide) rfl (fun ls hl => ?_)
              refine lv_iinc (k := 2) (v := nI (i + 1)) (lv' := [(5, .int (nI (i + 1))), (3, .int (nI 1)), (6, .int dk), (4, .int (nI k)), (0, .ref o), (1, .ref t), (2, .int (nI n))]) hx hb d_Sums_total_108 hl rfl (i_inc i) (by decide) rfl (fun ls hl => ?_)
              refine lv_goto (tgt := 41) hx hb d_Sums_total_111 (by decide) ?_
              have hl : lv_has ls 7 [(5, .int (nI (i + 1))), (4, .int (nI k)), (3, .int (nI 1)), (0, .ref o), (1, .ref t), (2, .int (nI n))] := lv_sub hl [0, 3, 1, 4, 5, 6] rfl
              exact ih2 (i + 1) _ _ _ ls _ (by omega) hk hT hF hRS2 (fun h => absurd h (by decide)) hl
            refine lv_iconst (v := nI 0) hx hb d_Sums_total_102 (by decide) ?_
            refine q_cV (rest := []) E (L_Curve_add l g n0 cu fo F mi X sm s1 s2 s3 sm s1 s2 s3 (O (i * 4 + jd)) (O1 (i * 4 + jd)) (O2 (i * 4 + jd)) (O3 (i * 4 + jd)) (nI 0) T (Wt i jd) hXA hmi hsX (fun q hq => hOX _ q (by omega) hq) hs5 (hO5 _ (by omega)) (fun q hq => ⟨(hsX q hq).1.symm, (hsX q hq).2.1.symm, (hsX q hq).2.2.symm⟩) hFs hss) w_711 w_11 w_708 w_709 w_710 hd_Curve_add rfl ⟨by decide, by decide⟩ (OB.recv E.2.2.2.2.2 (by rfl) ((hk.so hK hso).2.1.1)) (⟨(hk.so hK hso).2.1, (hk.so hK hso).2.2.1, (hk.so hK hso).2.2.1, (hk.so hK hso).2.2.2.2 (i * 4 + jd) (by omega), (hk.ajo (fun h => h.elim (fun h => by obtain ⟨i9, hi9, e⟩ := h; exact hXA.2.1 i9 hi9 e) (fun h => h.elim hXA.2.2.2 (fun h => h.elim hFs.1 (fun h => h.elim hFs.2.1 hFs.2.2)))) hM), hT, hWL⟩) hF hl.1 rfl (Nat.le_of_ble_eq_true rfl) d_Sums_total_103 ⟨by decide, by decide⟩ (qv (fun H1 locs hq hF => ?_))
            obtain ⟨hq, R9, hR9, hT⟩ := hq
            rw [if_pos (show nI 0 = 0 from rfl)] at hR9
            subst hR9
            have hT : LPt g H1 s1 s2 s3 (AD T (Wt i jd)) := hT
            have hk := hk.tr hq
            have hdv : dk.toInt = 2 * (jd : Int) + 1 := by rcases hor with h | h; rw [h]; exact da5; exact absurd hg (by rw [h]; exact da4)
            have hRS2 : RSm P n (fun q => 2 * TT (fun j => (fdg q j).toInt) 257 (257 - (k + 1)) + (if q < i + 1 then (fdg q k).toInt else 0)) (AD T (Wt i jd)) := (RSm_ad hPC hin hRS hWR).ext (fun q hq => by
              by_cases c9 : q = i
              · subst c9; rw [if_neg (Nat.lt_irrefl q), if_pos rfl, if_pos (Nat.lt_succ_self q), ← edk, hdv, Int.add_zero]
              · rw [if_neg c9, Int.add_zero]; by_cases c8 : q < i; (rw [if_pos c8, if_pos (by omega)]); (rw [if_neg c8, if_neg (by omega)]))
            refine lv_iconst (v := nI 1) hx hb d_Sums_total_106 (by decide) ?_
            refine lv_istore_n (lv' := [(3, .int (nI 1)), (6, .int dk), (5, .int (nI i)), (4, .int (nI k)), (0, .ref o), (1, .ref t), (2, .int (nI n))]) hx hb d_Sums_total_107 rfl hl (by decide) rfl (fun ls hl => ?_)
            refine lv_iinc (k := 2) (v := nI (i + 1)) (lv' := [(5, .int (nI (i + 1))), (3, .int (nI 1)), (6, .int dk), (4, .int (nI k)), (0, .ref o), (1, .ref t), (2, .int (nI n))]) hx hb d_Sums_total_108 hl rfl (i_inc i) (by decide) rfl (fun ls hl => ?_)
            refine lv_goto (tgt := 41) hx hb d_Sums_total_111 (by decide) ?_
            have hl : lv_has ls 7 [(5, .int (nI (i + 1))), (4, .int (nI k)), (3, .int (nI 1)), (0, .ref o), (1, .ref t), (2, .int (nI n))] := lv_sub hl [0, 3, 1, 4, 5, 6] rfl
            exact ih2 (i + 1) _ _ _ ls _ (by omega) hk hT hF hRS2 (fun h => absurd h (by decide)) hl
          have hd0 : (fdg i k).toInt = 0 := by rw [← edk, h0]; rfl
          refine lv_iinc (k := 1) (v := nI (i + 1)) (lv' := [(5, .int (nI (i + 1))), (6, .int dk), (4, .int (nI k)), (3, .int bg2), (0, .ref o), (1, .ref t), (2, .int (nI n))]) hx hb d_Sums_total_108 hl rfl (i_inc i) (by decide) rfl (fun ls hl => ?_)
          refine lv_goto (tgt := 41) hx hb d_Sums_total_111 (by decide) ?_
          have hl : lv_has ls 7 [(5, .int (nI (i + 1))), (4, .int (nI k)), (3, .int bg2), (0, .ref o), (1, .ref t), (2, .int (nI n))] := lv_sub hl [0, 2, 3, 4, 5, 6] rfl
          exact ih2 (i + 1) _ _ _ ls T (by omega) hk hT hF (hRS.ext (fun q hq => by by_cases c9 : q = i; (subst c9; rw [if_neg (Nat.lt_irrefl q), if_pos (Nat.lt_succ_self q), hd0]); (by_cases c8 : q < i; (rw [if_pos c8, if_pos (by omega)]); (rw [if_neg c8, if_neg (by omega)])))) (fun hb => ⟨(hbg hb).1, fun q hq => by by_cases c9 : q = i; (subst c9; exact hd0); (exact (hbg hb).2 q (by omega))⟩) hl
      refine lv_iload hx hb d_Sums_total_14 (lv_at hl 0 rfl) ?_
      refine lv_if_lt (tgt := 120) hx hb d_Sums_total_16 (by decide) (fun h9 => absurd h9 (nI_pos (by omega))) (fun _ => ?_)
      refine lv_iload_n hx hb d_Sums_total_19 rfl (lv_at hl 1 rfl) ?_
      refine lv_if_eq (tgt := 38) hx hb d_Sums_total_20 (by decide) (fun hb9 => ?_) (fun hb9 => ?_)
      rotate_left
      · skip
        refine lv_aload_n hx hb d_Sums_total_23 rfl (lv_at hl 2 rfl) ?_
        refine q_get (C := "KateDesk$Sums") (T := T_Sums) (N := 4) (ci := 4) E ((hk.so hK hso).1) in_Sums rfl 0 (by decide) w_247 rfl rfl d_Sums_total_24 ?_
        refine lv_aload_n hx hb d_Sums_total_27 rfl (lv_at hl 2 rfl) ?_
        refine q_get (C := "KateDesk$Sums") (T := T_Sums) (N := 4) (ci := 4) E ((hk.so hK hso).1) in_Sums rfl 3 (by decide) w_250 rfl rfl d_Sums_total_28 ?_
        refine lv_aload_n hx hb d_Sums_total_31 rfl (lv_at hl 2 rfl) ?_
        refine q_get (C := "KateDesk$Sums") (T := T_Sums) (N := 4) (ci := 4) E ((hk.so hK hso).1) in_Sums rfl 3 (by decide) w_250 rfl rfl d_Sums_total_32 ?_
        refine q_cV (rest := []) E (L_Curve_twice l g n0 cu fo F mi X sm s1 s2 s3 sm s1 s2 s3 T hXA hmi hsX (fun q hq => ⟨(hsX q hq).1.symm, (hsX q hq).2.1.symm, (hsX q hq).2.2.symm⟩) hFs hss) w_702 w_11 w_699 w_700 w_701 hd_Curve_twice rfl ⟨by decide, by decide⟩ (OB.recv E.2.2.2.2.2 (by rfl) ((hk.so hK hso).2.1.1)) (⟨(hk.so hK hso).2.1, (hk.so hK hso).2.2.1, (hk.so hK hso).2.2.1, (hk.ajo (fun h => h.elim (fun h => by obtain ⟨i9, hi9, e⟩ := h; exact hXA.2.1 i9 hi9 e) (fun h => h.elim hXA.2.2.2 (fun h => h.elim hFs.1 (fun h => h.elim hFs.2.1 hFs.2.2)))) hM), hT⟩) hF hl.1 rfl (Nat.le_of_ble_eq_true rfl) d_Sums_total_35 ⟨by decide, by decide⟩ (qv (fun H1 locs hq hF => ?_))
        obtain ⟨hq, hT⟩ := hq
        have hT : LPt g H1 s1 s2 s3 (DB T) := hT
        have hk := hk.tr hq
        refine lv_iconst (v := nI 0) hx hb d_Sums_total_38 (by decide) ?_
        refine lv_istore (lv' := [(5, .int (nI 0)), (4, .int (nI k)), (3, .int bg), (0, .ref o), (1, .ref t), (2, .int (nI n))]) hx hb d_Sums_total_39 hl (by decide) rfl (fun ls hl => ?_)
        have hl : lv_has ls 7 [(5, .int (nI 0)), (4, .int (nI k)), (3, .int bg), (0, .ref o), (1, .ref t), (2, .int (nI n))] := lv_sub hl [0, 1, 2, 3, 4, 5] rfl
        exact inner n 0 _ _ _ ls _ (by omega) hk hT hF ((hRS.db hPC).ext (fun q hq => by rw [if_neg (Nat.not_lt_zero q), Int.add_zero])) (fun h => absurd h hb9) hl
      refine lv_iconst (v := nI 0) hx hb d_Sums_total_38 (by decide) ?_
      refine lv_istore (lv' := [(5, .int (nI 0)), (4, .int (nI k)), (3, .int bg), (0, .ref o), (1, .ref t), (2, .int (nI n))]) hx hb d_Sums_total_39 hl (by decide) rfl (fun ls hl => ?_)
      have hl : lv_has ls 7 [(5, .int (nI 0)), (4, .int (nI k)), (3, .int bg), (0, .ref o), (1, .ref t), (2, .int (nI n))] := lv_sub hl [0, 1, 2, 3, 4, 5] rfl
      exact inner n 0 _ _ _ ls T (by omega) hk hT hF (hRS.ext (fun q hq => by rw [if_neg (Nat.not_lt_zero q), Int.add_zero, hbg hb9 q hq]; rfl)) (fun h => ⟨hbg h, fun q hq => absurd hq (Nat.not_lt_zero q)⟩) hl
  exact lp 257 _ _ _ ls _ PN (by decide) (by decide) hk hT hF (RSm_PN hPC) (fun _ q _ => rfl) hl
