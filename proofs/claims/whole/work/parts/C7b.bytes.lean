/-! what bytes leaves alone -/
def kWQ (b q : Nat) : Prop := q = b + 467 ∨ q = b + 468 ∨ q = b + 469 ∨ q = kFq b 5
def KW9 (g : WG) (H H' : Heap) (b : Nat) : Prop := ∃ H1 H2, FRM (fun q => q = b + 150 ∨ q = b + 151) H H1 ∧ KJ g (kWQ b) H1 H2 ∧ FRM (fun q => q = b + 150 ∨ q = b + 151) H2 H'
theorem KW9.aj {g : WG} {H H' : Heap} {b r n : Nat} {f : Nat → Int64} (h : KW9 g H H' b) (n1 : ¬ (r = b + 150 ∨ r = b + 151)) (n2 : ¬ kWQ b r) (hA : AJ g H r n f) : AJ g H' r n f := by
  obtain ⟨H1, H2, a, k, d⟩ := h
  exact AJ.off d n1 (k.ajo n2 (AJ.off a n1 hA))
theorem KW9.ab {g : WG} {H H' : Heap} {b r n : Nat} {f : Nat → Int32} (h : KW9 g H H' b) (n1 : ¬ (r = b + 150 ∨ r = b + 151)) (n2 : ¬ kWQ b r) (hA : AB g H r n f) : AB g H' r n f := by
  obtain ⟨H1, H2, a, k, d⟩ := h
  exact AB.off d n1 (k.abo n2 (AB.off a n1 hA))
theorem KW9.lw {g : WG} {H H' : Heap} {b r : Nat} {X : Int} (h : KW9 g H H' b) (n1 : ¬ (r = b + 150 ∨ r = b + 151)) (n2 : ¬ kWQ b r) (hA : LW g H r X) : LW g H' r X := hA.imp (fun _ q => ⟨h.aj n1 n2 q.1, q.2⟩)
theorem KW9.pts {g : WG} {H H' : Heap} {b : Nat} {P : Nat → P3} (h : KW9 g H H' b) (hp : PTS g H b P) : PTS g H' b P := fun k hk => ⟨⟨h.lw (by unfold kPA1; omega) (by unfold kWQ; rw [kFq_5]; unfold kPA1; omega) (hp k hk).1.1, h.lw (by unfold kPA2; omega) (by unfold kWQ; rw [kFq_5]; unfold kPA2; omega) (hp k hk).1.2.1, h.lw (by unfold kPA3; omega) (by unfold kWQ; rw [kFq_5]; unfold kPA3; omega) (hp k hk).1.2.2⟩, (hp k hk).2⟩
theorem KW9.pws {g : WG} {H H' : Heap} {b pn : Nat} {P : Nat → P3} (h : KW9 g H H' b) (h16 : pn ≤ 16) (hp : PWS g H b pn P) : PWS g H' b pn P := fun k hk => ⟨⟨h.lw (by unfold kPW1; omega) (by unfold kWQ; rw [kFq_5]; unfold kPW1; omega) (hp k hk).1.1, h.lw (by unfold kPW2; omega) (by unfold kWQ; rw [kFq_5]; unfold kPW2; omega) (hp k hk).1.2.1, h.lw (by unfold kPW3; omega) (by unfold kWQ; rw [kFq_5]; unfold kPW3; omega) (hp k hk).1.2.2⟩, (hp k hk).2⟩
theorem KW9.sca {g : WG} {H H' : Heap} {b : Nat} {A : Nat → Int} (h : KW9 g H H' b) (hp : SCA g H b A) : SCA g H' b A := fun k hk => (hp k hk).imp (fun f q => ⟨h.aj (by unfold kSc; omega) (by unfold kWQ; rw [kFq_5]; unfold kSc; omega) q.1, q.2⟩)
theorem KW9.cst {g : WG} {H H' : Heap} {b d : Nat} {f : Nat → Int64} (h : KW9 g H H' b) (h1 : ¬ (d = 150 ∨ d = 151)) (h2 : ¬ (d = 467 ∨ d = 468 ∨ d = 469 ∨ d = 174)) (hA : AJ g H (b + d) 14 f) : AJ g H' (b + d) 14 f := h.aj (by omega) (by unfold kWQ; rw [kFq_5]; omega) hA
theorem KW9.cx {g : WG} {H H' : Heap} {b : Nat} (h : KW9 g H H' b) (hc : CX g H b) : CX g H' b :=
  ⟨⟨h.cst (by decide) (by decide) hc.1.1, h.cst (by decide) (by decide) hc.1.2.1, hc.1.2.2.1.imp (fun f q => ⟨h.cst (by decide) (by decide) q.1, q.2⟩), hc.1.2.2.2.1.imp (fun f q => ⟨h.cst (by decide) (by decide) q.1, q.2⟩), hc.1.2.2.2.2.1.imp (fun f q => ⟨h.cst (by decide) (by decide) q.1, q.2⟩), hc.1.2.2.2.2.2.imp (fun f q => ⟨h.cst (by decide) (by decide) q.1, q.2⟩)⟩,
   ⟨hc.2.1.1.imp (fun f q => ⟨h.cst (by decide) (by decide) q.1, q.2⟩), hc.2.1.2.1.imp (fun f q => ⟨h.cst (by decide) (by decide) q.1, q.2⟩), hc.2.1.2.2.imp (fun f q => ⟨h.cst (by decide) (by decide) q.1, q.2⟩)⟩, hc.2.2.imp (fun f q => ⟨h.cst (by decide) (by decide) q.1, q.2⟩)⟩
theorem fk_w (b : Nat) : ∀ k, k < 5 → kFq b k ≠ b + 467 ∧ kFq b k ≠ b + 468 ∧ kFq b k ≠ b + 469 ∧ kFq b k ≠ kFq b 5 := by
  intro k hk
  rw [kFq_5]
  unfold kFq
  split <;> omega
theorem pa_w {b k : Nat} (hk : k < 12) : (kPA1 b k ≠ b + 467 ∧ kPA1 b k ≠ b + 468 ∧ kPA1 b k ≠ b + 469 ∧ kPA1 b k ≠ kFq b 5) ∧ (kPA2 b k ≠ b + 467 ∧ kPA2 b k ≠ b + 468 ∧ kPA2 b k ≠ b + 469 ∧ kPA2 b k ≠ kFq b 5) ∧ kPA3 b k ≠ b + 467 ∧ kPA3 b k ≠ b + 468 ∧ kPA3 b k ≠ b + 469 ∧ kPA3 b k ≠ kFq b 5 := by
  rw [kFq_5]
  unfold kPA1 kPA2 kPA3
  omega
theorem kwq_J {b q : Nat} (h : kWQ b q) : nJ b q := by
  rcases h with rfl | rfl | rfl | rfl
  · exact kc_nJ (by decide)
  · exact kc_nJ (by decide)
  · exact kc_nJ (by decide)
  · exact k5_nJ
/-- eight bytes -/
def OU9 (T : Nat → Nat) (k w : Nat) : Nat → Int64
  | 0 => 0
  | i + 1 => if k + i < w then OU9 T k w i ||| ((nI (T (k + i))).toInt64 <<< (((nI 8) * (nI i)).toInt64 &&& 63)) else OU9 T k w i
theorem OU9_st {T : Nat → Nat} {k w i : Nat} (h : ¬ k + i < w) (d : Nat) : OU9 T k w (i + d) = OU9 T k w i := by
  induction d with
  | zero => rfl
  | succ d ih =>
    show (if k + (i + d) < w then _ else OU9 T k w (i + d)) = _
    rw [if_neg (by omega), ih]
theorem OU9_cg {T T' : Nat → Nat} {k w : Nat} (h : ∀ j, j < w → T j = T' j) (i : Nat) : OU9 T k w i = OU9 T' k w i := by
  induction i with
  | zero => rfl
  | succ i ih =>
    show (if k + i < w then OU9 T k w i ||| ((nI (T (k + i))).toInt64 <<< (((nI 8) * (nI i)).toInt64 &&& 63)) else OU9 T k w i) = (if k + i < w then OU9 T' k w i ||| ((nI (T' (k + i))).toInt64 <<< (((nI 8) * (nI i)).toInt64 &&& 63)) else OU9 T' k w i)
    by_cases c : k + i < w
    · rw [if_pos c, if_pos c, ih, h _ c]
    · rw [if_neg c, if_neg c, ih]
set_option maxHeartbeats 4000000 in
set_option maxRecDepth 100000 in
theorem L_Desk_bytes (l : Launch) (g : WG) (b pn tn wn : Nat) (mr mq : Int64) (P V9 : Nat → P3) (A : Nat → Int) (hmq : mq = 268238845) (a : Nat) (sh : Int32) (ha : a < 12) : Ctr l y_Desk_bytes (.code y_Desk_bytes prog_1_method_10_code 3 none) 5 207 0 0 (nD b) g [.ref b, .int (nI a), .int sh] (fun H => DS g H H b pn tn wn mr mq ∧ CX g H b ∧ SCA g H b A ∧ PTS g H b P ∧ PWS g H b pn V9) (QV (fun H H' => ∃ n tb c9, DS g H H' b pn tn n mr mq ∧ KW9 g H H' b ∧ AB g H' (b + 151) 96 c9 ∧ TX9 (P a) sh n tb ∧ ∀ j, j < n → c9 j &&& 255 = nI (tb j))) := by
  refine ctr_mk l (lv0 := [(0, .ref b), (1, .int (nI a)), (2, .int sh)]) (by decide) (Nat.le_of_ble_eq_true rfl) rfl ?_
  intro p e s m below meth c ls E hr hlk hnm hl hP
  have hx := E.1
  have hb := E.2.1
  have hK := E.2.2.2.2.2
  have hF : ∀ q ∈ ([] : List Loc), nD b q.base := fun q hq => absurd hq List.not_mem_nil
  obtain ⟨hd, hcx, hsa, hpt, hpw⟩ := hP
  have hk : KJ g (kPS b) s.heap s.heap := KJ.rf
  refine lv_iload_n hx hb d_Desk_bytes_0 rfl (lv_at hl 1 rfl) ?_
  refine lv_iconst (v := nI 1) hx hb d_Desk_bytes_1 (by decide) ?_
  refine q_cS (rest := []) E (c_Desk_needPoints l g (nD b) (nI a) (nI 1) (okP_of (by decide) ha)) w_622 w_1 w_620 w_621 hd_Desk_needPoints rfl ⟨by decide, by decide⟩ trivial hF hl.1 rfl (Nat.le_of_ble_eq_true rfl) d_Desk_bytes_2 ⟨by decide, by decide⟩ (qv (fun H1 locs hq hF => ?_))
  have hq := hq.symm
  subst hq
  refine lv_aload_n hx hb d_Desk_bytes_5 rfl (lv_at hl 0 rfl) ?_
  refine q_get (C := "KateDesk") (T := T_Desk) (N := 16) (ci := 5) E hd.x.ob in_Desk rfl 3 (by decide) w_342 rfl rfl d_Desk_bytes_6 ?_
  refine lv_aload_n hx hb d_Desk_bytes_9 rfl (lv_at hl 0 rfl) ?_
  refine q_get (C := "KateDesk") (T := T_Desk) (N := 16) (ci := 5) E hd.x.ob in_Desk rfl 10 (by decide) w_349 rfl rfl d_Desk_bytes_10 ?_
  refine lv_aload_n hx hb d_Desk_bytes_13 rfl (lv_at hl 0 rfl) ?_
  refine q_get (C := "KateDesk") (T := T_Desk) (N := 16) (ci := 5) E hd.x.ob in_Desk rfl 6 (by decide) w_345 rfl rfl d_Desk_bytes_14 ?_
  refine lv_iload_n hx hb d_Desk_bytes_17 rfl (lv_at hl 1 rfl) ?_
  refine q_aald (t := 3) E rfl rfl hd.x.pa a rfl ha (by decide) d_Desk_bytes_18 ?_
  refine lv_iload_n hx hb d_Desk_bytes_19 rfl (lv_at hl 2 rfl) ?_
  refine q_cV (rest := []) E (L_Forms_write l g (nD b) (b + 465) (b + 176) (b + 169) (kFq b) mq (kX b) (b + 466) (b + 467) (b + 468) (b + 469) (nJ b) (kPA b a) (kPA1 b a) (kPA2 b a) (kPA3 b a) (b + 150) (b + 151) wn sh (P a) hmq (fap_d b) (fk_w b) (pa_w ha) (nd_148 (by decide)) (nd_148 (by decide)) ds_w1 ⟨by omega, by omega⟩ ⟨by omega, by omega⟩ ⟨by omega, by omega⟩ ⟨fun k hk => by unfold kFq; split <;> omega, by omega, by omega⟩ (pa_150 ha) (by omega)) w_741 w_13 w_738 w_739 w_740 hd_Forms_write rfl ⟨by decide, by decide⟩ (OB.recv E.2.2.2.2.2 (by rfl) hd.x.fm.1) (⟨hd.x.fm, hd.x.pt a ha, hd.wr, hpt.at hk ha, hcx.1.2.1, hcx.1.2.2.1, hcx.1.2.2.2.1, hcx.2.2⟩) hF hl.1 rfl (Nat.le_of_ble_eq_true rfl) d_Desk_bytes_20 ⟨by decide, by decide⟩ (qv (fun H2 locs hq hF => ?_))
  obtain ⟨X1, X2, f1, k2, f3, n9, tb, c9, hrw, hc9, htx, hall⟩ := hq
  have hkw : KW9 g s.heap H2 b := ⟨X1, X2, f1, k2, f3⟩
  have hd := hd.wchain hK f1 (k2.mono (fun q h => kwq_J h)) f3 ⟨hrw, c9, hc9⟩ htx.le
  exact q_vret E hr hlk (⟨rfl, n9, tb, c9, hd, hkw, hc9, htx, hall⟩) hF d_Desk_bytes_23
set_option maxHeartbeats 4000000 in
set_option maxRecDepth 100000 in
theorem L_Desk_out (l : Launch) (g : WG) (b pn tn wn : Nat) (mr mq : Int64) (k9 : Nat) (c9 : Nat → Int32) (T : Nat → Nat) (hT : ∀ j, j < wn → c9 j &&& 255 = nI (T j)) (hk9 : k9 < wn) (hw96 : wn ≤ 96) : Ctr l y_Desk_out (.code y_Desk_out prog_1_method_11_code 5 (some FieldType.long)) 1 21 0 0 (nD b) g [.ref b, .int (nI k9)] (fun H => DS g H H b pn tn wn mr mq ∧ AB g H (b + 151) 96 c9) (QL (fun r H H' => r = OU9 T k9 wn 8 ∧ H' = H)) := by
  refine ctr_mk l (lv0 := [(0, .ref b), (1, .int (nI k9))]) (by decide) (Nat.le_of_ble_eq_true rfl) rfl ?_
  intro p e s m below meth c ls E hr hlk hnm hl hP
  have hx := E.1
  have hb := E.2.1
  have hK := E.2.2.2.2.2
  have hF : ∀ q ∈ ([] : List Loc), nD b q.base := fun q hq => absurd hq List.not_mem_nil
  obtain ⟨hd, hc9⟩ := hP
  have lp : ∀ (k : Nat) (i : Nat) (locs : List Loc) (ls : Array Slot), i + k = 8 → (∀ q ∈ locs, nD b q.base) → lv_has ls 5 [(4, .int (nI i)), (2, .long (OU9 T k9 wn i)), (0, .ref b), (1, .int (nI k9))] → W p l e { frames := 1, cells := 0, slots := 0, locals := 21 } s m [.ref b, .int (nI k9)].toArray below meth c s.heap locs 0 0 (MQ below (QcP (QL (fun r H H' => r = OU9 T k9 wn 8 ∧ H' = H))) [.ref b, .int (nI k9)].toArray s 0 0 (fun q => nD b q)) (F0 m 30 ls []) := by
    intro k
    induction k with
    | zero =>
      intro  i   locs   ls hi hF hl
      obtain rfl : i = 8 := by omega
      refine lv_iload hx hb d_Desk_out_30 (lv_at hl 0 rfl) ?_
      refine lv_bipush (v := nI 8) hx hb d_Desk_out_32 (by decide) ?_
      refine lv_icmp_ge (tgt := 78) hx hb d_Desk_out_34 (by decide) (fun _ => ?_) (fun h9 => absurd (by decide) h9)
      refine lv_lload_n hx hb d_Desk_out_78 rfl (lv_at hl 1 rfl) ?_
      exact q_lret E hr hlk (⟨_, rfl, rfl, rfl⟩) hF d_Desk_out_79
    | succ k ih =>
      intro  i   locs   ls hi hF hl
      refine lv_iload hx hb d_Desk_out_30 (lv_at hl 0 rfl) ?_
      refine lv_bipush (v := nI 8) hx hb d_Desk_out_32 (by decide) ?_
      refine lv_icmp_ge (tgt := 78) hx hb d_Desk_out_34 (by decide) (fun h9 => absurd h9 (nI_ge (by omega) (by decide))) (fun _ => ?_)
      refine lv_iload_n hx hb d_Desk_out_37 rfl (lv_at hl 3 rfl) ?_
      refine lv_iload hx hb d_Desk_out_38 (lv_at hl 0 rfl) ?_
      refine lv_iadd hx hb d_Desk_out_40 ?_
      refine lv_topi (fun t9 e9 => ?_)
      obtain rfl : t9 = nI (k9 + i) := e9.trans (nI_add _ _)
      refine lv_aload_n hx hb d_Desk_out_41 rfl (lv_at hl 2 rfl) ?_
      refine q_get (C := "KateDesk") (T := T_Desk) (N := 16) (ci := 5) E hd.x.ob in_Desk rfl 10 (by decide) w_349 rfl rfl d_Desk_out_42 ?_
      refine q_get (C := "KateDesk$Row") (T := T_Row) (N := 2) (ci := 3) E hd.wr.1 in_Row rfl 1 (by decide) w_74 rfl rfl d_Desk_out_45 ?_
      refine lv_icmp_ge (tgt := 78) hx hb d_Desk_out_48 (by decide) (fun hc => ?_) (fun hc => ?_)
      · skip
        have hc : ¬ k9 + i < wn := fun h => nI_ge h (by omega) hc
        have e8 : OU9 T k9 wn 8 = OU9 T k9 wn i := by have h9 := OU9_st (T := T) hc (8 - i); rw [show i + (8 - i) = 8 by omega] at h9; exact h9
        refine lv_lload_n hx hb d_Desk_out_78 rfl (lv_at hl 1 rfl) ?_
        exact q_lret E hr hlk (⟨_, rfl, e8.symm, rfl⟩) hF d_Desk_out_79
      · skip
        have hc : k9 + i < wn := Classical.byContradiction (fun h => hc (nI_le (by omega) (by omega)))
        refine lv_lload_n hx hb d_Desk_out_51 rfl (lv_at hl 1 rfl) ?_
        refine lv_aload_n hx hb d_Desk_out_52 rfl (lv_at hl 2 rfl) ?_
        refine q_get (C := "KateDesk") (T := T_Desk) (N := 16) (ci := 5) E hd.x.ob in_Desk rfl 10 (by decide) w_349 rfl rfl d_Desk_out_53 ?_
        refine lv_iload_n hx hb d_Desk_out_56 rfl (lv_at hl 3 rfl) ?_
        refine lv_iload hx hb d_Desk_out_57 (lv_at hl 0 rfl) ?_
        refine lv_iadd hx hb d_Desk_out_59 ?_
        refine lv_topi (fun t9 e9 => ?_)
        obtain rfl : t9 = nI (k9 + i) := e9.trans (nI_add _ _)
        refine q_cV (rest := [.long (OU9 T k9 wn i)]) E (X_Row_at l g (nD b) (b + 150) (b + 151) wn (k9 + i) c9 hw96 hc) w_505 w_3 w_502 w_503 w_504 hd_Row_at rfl ⟨by decide, by decide⟩ (OB.recv E.2.2.2.2.2 (by rfl) hd.wr.1) (⟨hd.wr.1, hc9⟩) hF hl.1 rfl (Nat.le_of_ble_eq_true rfl) d_Desk_out_60 ⟨by decide, by decide⟩ (qi (fun rb H1 locs hq hF => ?_))
        obtain ⟨hrb, hq⟩ := hq
        have hq := hq.symm
        subst hq
        rw [hT (k9 + i) hc] at hrb
        subst hrb
        refine lv_i2l (v := (nI (T (k9 + i))).toInt64) hx hb d_Desk_out_63 rfl ?_
        refine lv_bipush (v := nI 8) hx hb d_Desk_out_64 (by decide) ?_
        refine lv_iload hx hb d_Desk_out_66 (lv_at hl 0 rfl) ?_
        refine lv_imul hx hb d_Desk_out_68 ?_
        refine lv_lshl (v := ((nI (T (k9 + i))).toInt64) <<< (((nI 8) * (nI i)).toInt64 &&& 63)) hx hb d_Desk_out_69 rfl ?_
        refine lv_lor hx hb d_Desk_out_70 ?_
        refine lv_topl (fun t9 e9 => ?_)
        obtain rfl : t9 = OU9 T k9 wn (i + 1) := e9.trans (by show _ = (if k9 + i < wn then _ else _); rw [if_pos hc])
        refine lv_lstore_n (lv' := [(2, .long (OU9 T k9 wn (i + 1))), (4, .int (nI i)), (0, .ref b), (1, .int (nI k9))]) hx hb d_Desk_out_71 rfl hl (by decide) rfl (fun ls hl => ?_)
        refine lv_iinc (k := 1) (v := nI (i + 1)) (lv' := [(4, .int (nI (i + 1))), (2, .long (OU9 T k9 wn (i + 1))), (0, .ref b), (1, .int (nI k9))]) hx hb d_Desk_out_72 hl rfl (i_inc i) (by decide) rfl (fun ls hl => ?_)
        refine lv_goto (tgt := 30) hx hb d_Desk_out_75 (by decide) ?_
        have hl : lv_has ls 5 [(4, .int (nI (i + 1))), (2, .long (OU9 T k9 wn (i + 1))), (0, .ref b), (1, .int (nI k9))] := lv_sub hl [0, 1, 2, 3] rfl
        exact ih (i + 1) _ ls (by omega) hF hl
  refine lv_iload_n hx hb d_Desk_out_0 rfl (lv_at hl 1 rfl) ?_
  refine lv_if_lt (tgt := 15) hx hb d_Desk_out_1 (by decide) (fun h9 => absurd h9 (nI_pos (by omega))) (fun _ => ?_)
  refine lv_iload_n hx hb d_Desk_out_4 rfl (lv_at hl 1 rfl) ?_
  refine lv_aload_n hx hb d_Desk_out_5 rfl (lv_at hl 0 rfl) ?_
  refine q_get (C := "KateDesk") (T := T_Desk) (N := 16) (ci := 5) E hd.x.ob in_Desk rfl 10 (by decide) w_349 rfl rfl d_Desk_out_6 ?_
  refine q_get (C := "KateDesk$Row") (T := T_Row) (N := 2) (ci := 3) E hd.wr.1 in_Row rfl 1 (by decide) w_74 rfl rfl d_Desk_out_9 ?_
  refine lv_icmp_lt (tgt := 25) hx hb d_Desk_out_12 (by decide) (fun _ => ?_) (fun h9 => absurd (nI_lt hk9 (by omega)) h9)
  refine lv_lconst (v := 0) hx hb d_Desk_out_25 (by decide) ?_
  refine lv_lstore_n (lv' := [(2, .long 0), (0, .ref b), (1, .int (nI k9))]) hx hb d_Desk_out_26 rfl hl (by decide) rfl (fun ls hl => ?_)
  refine lv_iconst (v := nI 0) hx hb d_Desk_out_27 (by decide) ?_
  refine lv_istore (lv' := [(4, .int (nI 0)), (2, .long 0), (0, .ref b), (1, .int (nI k9))]) hx hb d_Desk_out_28 hl (by decide) rfl (fun ls hl => ?_)
  have hl : lv_has ls 5 [(4, .int (nI 0)), (2, .long (OU9 T k9 wn 0)), (0, .ref b), (1, .int (nI k9))] := lv_sub hl [0, 1, 2, 3] rfl
  exact lp 8 0 _ ls (by omega) hF hl
