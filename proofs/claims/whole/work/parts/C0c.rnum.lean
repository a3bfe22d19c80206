/-- rows laid down for good, and the scalars -/
def kE5 (b q : Nat) : Prop := q = b + 168 ∨ (b + 163 ≤ q ∧ q ≤ b + 166) ∨ q = b + 471 ∨ q = b + 472 ∨ (b + 2 ≤ q ∧ q ≤ b + 33)
/-- what number writes beside the scalar -/
def kNB (b q : Nat) : Prop := q = b + 160 ∨ q = b + 148
theorem kNB_S {b : Nat} : ∀ q, kNB b q → nFS b q := fun q h => h.elim (fun h => Or.inl (sw_160 q h)) Or.inr
theorem kNB_E {b : Nat} {H0 H : Heap} (h : FRM (kNB b) H0 H) : ∀ q, kE5 b q → H[q]? = H0[q]? := fun q k => h.2 q (by unfold kNB; unfold kE5 at k; omega)
theorem DSS.of2 {g : WG} {H0 H H' : Heap} {U : State} {b p t w : Nat} {mr mq : Int64} (d : DS g H0 H b p t w mr mq) (hN : FRM (kNB b) H0 H) (hK : KW g U) (h : KJ g (kSW b) H H') : DSS g H0 H' b p t w mr mq := ⟨(hN.mono kNB_S).tr (h.frq kSW_F), d.2.1.kjD hK h (fun k hk => kSW_D hk), h.rw9 hK d.2.2.1, h.rw9 hK d.2.2.2.1, d.2.2.2.2⟩
theorem SCA.eqE {g : WG} {H H' : Heap} {b : Nat} {A : Nat → Int} (h : SCA g H b A) (he : ∀ q, kE5 b q → H'[q]? = H[q]?) : SCA g H' b A := fun k hk => (h k hk).imp (fun f hf => ⟨hf.1.eq (he _ (by unfold kE5 kSc; omega)), hf.2⟩)
theorem CR.eqE {g : WG} {H H' : Heap} {b : Nat} (h : CR g H b) (he : ∀ q, kE5 b q → H'[q]? = H[q]?) : CR g H' b := by
  have c0 : kE5 b (kFr b 0) := Or.inl rfl
  have c1 : kE5 b (kFr b 1) := Or.inr (Or.inl (show b + 163 ≤ b + 163 ∧ b + 163 ≤ b + 166 by omega))
  have c2 : kE5 b (kFr b 2) := Or.inr (Or.inl (show b + 163 ≤ b + 164 ∧ b + 164 ≤ b + 166 by omega))
  have c3 : kE5 b (kFr b 3) := Or.inr (Or.inl (show b + 163 ≤ b + 165 ∧ b + 165 ≤ b + 166 by omega))
  have c4 : kE5 b (kFr b 4) := Or.inr (Or.inl (show b + 163 ≤ b + 166 ∧ b + 166 ≤ b + 166 by omega))
  have c5 : kE5 b (kY b 0) := Or.inr (Or.inr (Or.inl rfl))
  have c6 : kE5 b (kY b 1) := Or.inr (Or.inr (Or.inr (Or.inl rfl)))
  exact ⟨h.1.eq (he _ c0), h.2.1.imp (fun f hf => ⟨hf.1.eq (he _ c1), hf.2⟩), h.2.2.1.imp (fun f hf => ⟨hf.1.eq (he _ c2), hf.2⟩), h.2.2.2.1.imp (fun f hf => ⟨hf.1.eq (he _ c3), hf.2⟩), h.2.2.2.2.1.imp (fun f hf => ⟨hf.1.eq (he _ c4), hf.2⟩), h.2.2.2.2.2.1.imp (fun f hf => ⟨hf.1.eq (he _ c5), hf.2⟩), h.2.2.2.2.2.2.imp (fun f hf => ⟨hf.1.eq (he _ c6), hf.2⟩)⟩
set_option maxHeartbeats 4000000 in
set_option maxRecDepth 100000 in
theorem R_Desk_number (l : Launch) (g : WG) (b pn tn wn : Nat) (mr mq : Int64) (A : Nat → Int) (a : Nat) (c9 : Nat → Int32) (t : Nat → Nat) (ht : ∀ j, t j < 256) (hct : ∀ j, j < tn → c9 j &&& 255 = nI (t j)) (ha : a < 32) (ht32 : tn ≤ 32) : Ctr l y_Desk_number (.code y_Desk_number prog_1_method_3_code 3 (some FieldType.boolean)) 2 81 0 0 (nD b) g [.ref b, .int (nI a)] (fun H => DS g H H b pn tn wn mr mq ∧ AB g H (b + 149) 96 c9 ∧ CR g H b ∧ SCA g H b A) (QI (fun r H H' => ((r = 1 ∧ ((tvN t tn : Nat) : Int) < VL kR 14 ∧ SCA g H' b (updI A a ((tvN t tn : Nat) : Int))) ∨ (r = 0 ∧ VL kR 14 ≤ ((tvN t tn : Nat) : Int) ∧ SCA g H' b A)) ∧ DSS g H H' b pn 0 wn mr mq ∧ CR g H' b)) := by
  refine ctr_mk l (lv0 := [(0, .ref b), (1, .int (nI a))]) (by decide) (Nat.le_of_ble_eq_true rfl) rfl ?_
  intro p e s m below meth c ls E hr hlk hnm hl hP
  obtain ⟨hP, hc0, hcr, hsa⟩ := hP
  have hN9 : FRM (kNB b) s.heap s.heap := FRM.rf
  have hx := E.1
  have hb := E.2.1
  have hK := E.2.2.2.2.2
  have hF : ∀ q ∈ ([] : List Loc), nD b q.base := fun q hq => absurd hq List.not_mem_nil
  have hd := hP
  have lp : ∀ (k : Nat) (i : Nat) (H : Heap) (locs : List Loc) (ls : Array Slot) (fh : Nat → Int64), i + k = tn → DS g s.heap H b pn tn wn mr mq → FRM (kNB b) s.heap H → AJ g H (b + 160) 14 fh → (∀ k, k < 14 → dg (fh k)) → VL fh 14 = ((tvN t i : Nat) : Int) → (∀ q ∈ locs, nD b q.base) → lv_has ls 3 [(2, .int (nI i)), (0, .ref b), (1, .int (nI a))] → W p l e { frames := 2, cells := 0, slots := 0, locals := 81 } s m [.ref b, .int (nI a)].toArray below meth c H locs 0 0 (MQ below (QcP (QI (fun r H H' => ((r = 1 ∧ ((tvN t tn : Nat) : Int) < VL kR 14 ∧ SCA g H' b (updI A a ((tvN t tn : Nat) : Int))) ∨ (r = 0 ∧ VL kR 14 ≤ ((tvN t tn : Nat) : Int) ∧ SCA g H' b A)) ∧ DSS g H H' b pn 0 wn mr mq ∧ CR g H' b))) [.ref b, .int (nI a)].toArray s 0 0 (fun q => nD b q)) (F0 m 14 ls []) := by
    intro k
    induction k with
    | zero =>
      intro  i   H   locs   ls   fh hi hd hN9 hfh hfd9 hfv9 hF hl
      obtain rfl : tn = i := by omega
      refine lv_iload_n hx hb d_Desk_number_14 rfl (lv_at hl 0 rfl) ?_
      refine lv_aload_n hx hb d_Desk_number_15 rfl (lv_at hl 1 rfl) ?_
      refine q_get (C := "KateDesk") (T := T_Desk) (N := 16) (ci := 5) E hd.x.ob in_Desk rfl 9 (by decide) w_348 rfl rfl d_Desk_number_16 ?_
      refine q_get (C := "KateDesk$Row") (T := T_Row) (N := 2) (ci := 3) E hd.tp.1 in_Row rfl 1 (by decide) w_74 rfl rfl d_Desk_number_19 ?_
      refine lv_icmp_ge (tgt := 47) hx hb d_Desk_number_22 (by decide) (fun _ => ?_) (fun h9 => absurd (nI_le (Nat.le_refl _) (by omega)) h9)
      refine lv_aload_n hx hb d_Desk_number_47 rfl (lv_at hl 1 rfl) ?_
      refine q_get (C := "KateDesk") (T := T_Desk) (N := 16) (ci := 5) E hd.x.ob in_Desk rfl 9 (by decide) w_348 rfl rfl d_Desk_number_48 ?_
      refine q_get (C := "KateDesk$Row") (T := T_Row) (N := 2) (ci := 3) E hd.tp.1 in_Row rfl 1 (by decide) w_74 rfl rfl d_Desk_number_51 ?_
      refine lv_bipush (v := nI 32) hx hb d_Desk_number_54 (by decide) ?_
      refine lv_icmp_gt (tgt := 80) hx hb d_Desk_number_56 (by decide) (fun h9 => absurd h9 (nI_ngt ht32 (by decide))) (fun _ => ?_)
      refine lv_aload_n hx hb d_Desk_number_59 rfl (lv_at hl 1 rfl) ?_
      refine q_get (C := "KateDesk") (T := T_Desk) (N := 16) (ci := 5) E hd.x.ob in_Desk rfl 14 (by decide) w_353 rfl rfl d_Desk_number_60 ?_
      refine lv_aload_n hx hb d_Desk_number_63 rfl (lv_at hl 1 rfl) ?_
      refine q_get (C := "KateDesk") (T := T_Desk) (N := 16) (ci := 5) E hd.x.ob in_Desk rfl 0 (by decide) w_339 rfl rfl d_Desk_number_64 ?_
      refine q_get (C := "KateDesk$Field") (T := T_Field) (N := 7) (ci := 1) E hd.x.fr.nd.1 in_Field rfl 0 (by decide) w_172 rfl rfl d_Desk_number_67 ?_
      refine q_cS (rest := []) E ((X_Limbs_less l g (nJ b) (b + 160) (kFr b 0) fh kR hfd9 kR_dg).up nJ_D) w_512 w_5 w_510 w_511 hd_Limbs_less rfl ⟨by decide, by decide⟩ (⟨hfh, (AJ.eq hcr.1 (hd.1.2 _ nf_168))⟩) hF hl.1 rfl (Nat.le_of_ble_eq_true rfl) d_Desk_number_70 ⟨by decide, by decide⟩ (qi (fun rl H1 locs hq hF => ?_))
      obtain ⟨hrl, hq⟩ := hq
      have hq := hq.symm
      subst hq
      rw [hfv9] at hrl
      refine lv_if_eq (tgt := 80) hx hb d_Desk_number_73 (by decide) (fun hz => ?_) (fun hz => ?_)
      · skip
        have hres : rl = 0 ∧ VL kR 14 ≤ ((tvN t tn : Nat) : Int) := by
          rcases hrl with ⟨h, h2⟩ | ⟨h, h2⟩
          · exact absurd (h.symm.trans hz) (by decide)
          · exact ⟨h, h2⟩
        refine lv_iconst (v := nI 0) hx hb d_Desk_number_80 (by decide) ?_
        refine lv_istore_n (lv' := [(2, .int (nI 0)), (0, .ref b), (1, .int (nI a))]) hx hb d_Desk_number_81 rfl hl (by decide) rfl (fun ls hl => ?_)
        refine lv_aload_n hx hb d_Desk_number_82 rfl (lv_at hl 1 rfl) ?_
        refine q_get (C := "KateDesk") (T := T_Desk) (N := 16) (ci := 5) E hd.x.ob in_Desk rfl 9 (by decide) w_348 rfl rfl d_Desk_number_83 ?_
        refine lv_iconst (v := nI 0) hx hb d_Desk_number_86 (by decide) ?_
        refine q_put (C := "KateDesk$Row") (T := T_Row) (N := 2) (ci := 3) (ty := .int) E hd.tp.1 in_Row ty_Row tyok_Row nm_Row rfl 1 (by decide) w_74 rfl rfl (by decide +kernel) rfl rfl (Nat.le_of_ble_eq_true rfl) (nd_148 (by decide)) hF d_Desk_number_87 (fun H2 locs hq ho2 hF => ?_)
        have hN9 := hN9.tr (hq.mono (fun q h => Or.inr h))
        have hd : DS g s.heap H2 b pn 0 wn mr mq := hd.tape hq ⟨ho2, hd.tp.2.imp (fun f hf => AB.off hq (show ¬ b + 149 = b + 148 from by omega) hf)⟩ (by decide)
        have hfh := AJ.off hq (show ¬ b + 160 = b + 148 by omega) hfh
        refine lv_iload_n hx hb d_Desk_number_90 rfl (lv_at hl 0 rfl) ?_
        refine lv_if_eq (tgt := 107) hx hb d_Desk_number_91 (by decide) (fun _ => ?_) (fun h9 => absurd (by decide) h9)
        refine lv_iload_n hx hb d_Desk_number_107 rfl (lv_at hl 0 rfl) ?_
        exact q_zret E hr rfl hlk (⟨_, rfl, Or.inr ⟨rfl, hres.2, hsa.eqE (kNB_E hN9)⟩, ⟨hN9.mono kNB_S, hd.2⟩, hcr.eqE (kNB_E hN9)⟩) hF d_Desk_number_108
      · skip
        have hres : rl = 1 ∧ ((tvN t tn : Nat) : Int) < VL kR 14 := by
          rcases hrl with ⟨h, h2⟩ | ⟨h, h2⟩
          · exact ⟨h, h2⟩
          · exact absurd h hz
        refine lv_iconst (v := nI 1) hx hb d_Desk_number_76 (by decide) ?_
        refine lv_goto (tgt := 81) hx hb d_Desk_number_77 (by decide) ?_
        refine lv_istore_n (lv' := [(2, .int (nI 1)), (0, .ref b), (1, .int (nI a))]) hx hb d_Desk_number_81 rfl hl (by decide) rfl (fun ls hl => ?_)
        refine lv_aload_n hx hb d_Desk_number_82 rfl (lv_at hl 1 rfl) ?_
        refine q_get (C := "KateDesk") (T := T_Desk) (N := 16) (ci := 5) E hd.x.ob in_Desk rfl 9 (by decide) w_348 rfl rfl d_Desk_number_83 ?_
        refine lv_iconst (v := nI 0) hx hb d_Desk_number_86 (by decide) ?_
        refine q_put (C := "KateDesk$Row") (T := T_Row) (N := 2) (ci := 3) (ty := .int) E hd.tp.1 in_Row ty_Row tyok_Row nm_Row rfl 1 (by decide) w_74 rfl rfl (by decide +kernel) rfl rfl (Nat.le_of_ble_eq_true rfl) (nd_148 (by decide)) hF d_Desk_number_87 (fun H2 locs hq ho2 hF => ?_)
        have hN9 := hN9.tr (hq.mono (fun q h => Or.inr h))
        have hd : DS g s.heap H2 b pn 0 wn mr mq := hd.tape hq ⟨ho2, hd.tp.2.imp (fun f hf => AB.off hq (show ¬ b + 149 = b + 148 from by omega) hf)⟩ (by decide)
        have hfh := AJ.off hq (show ¬ b + 160 = b + 148 by omega) hfh
        refine lv_iload_n hx hb d_Desk_number_90 rfl (lv_at hl 0 rfl) ?_
        refine lv_if_eq (tgt := 107) hx hb d_Desk_number_91 (by decide) (fun h9 => absurd h9 (by decide)) (fun _ => ?_)
        refine lv_aload_n hx hb d_Desk_number_94 rfl (lv_at hl 1 rfl) ?_
        refine q_get (C := "KateDesk") (T := T_Desk) (N := 16) (ci := 5) E hd.x.ob in_Desk rfl 5 (by decide) w_344 rfl rfl d_Desk_number_95 ?_
        refine lv_iload_n hx hb d_Desk_number_98 rfl (lv_at hl 2 rfl) ?_
        refine q_aald (t := 4) E rfl rfl hd.x.rs.nd.1 a rfl ha (by decide) d_Desk_number_99 ?_
        refine lv_aload_n hx hb d_Desk_number_100 rfl (lv_at hl 1 rfl) ?_
        refine q_get (C := "KateDesk") (T := T_Desk) (N := 16) (ci := 5) E hd.x.ob in_Desk rfl 14 (by decide) w_353 rfl rfl d_Desk_number_101 ?_
        refine q_cS (rest := []) E (c_Limbs_copy l g (nD b) (kSc b a) (b + 160) fh) w_146 w_5 w_338 w_145 hd_Limbs_copy rfl ⟨by decide, by decide⟩ (⟨hd.x.rs.nd.2 a ha, hfh⟩) hF hl.1 rfl (Nat.le_of_ble_eq_true rfl) d_Desk_number_104 ⟨by decide, by decide⟩ (qv (fun H3 locs hq hF => ?_))
        obtain ⟨hq, hN⟩ := hq
        have hq2 := hq.mono (sw_sc ha)
        have hds := DSS.of2 hd hN9 hK hq2
        have hcr2 := (hcr.eqE (kNB_E hN9)).kj hq2 kSW_C
        have hsa2 := (hsa.eqE (kNB_E hN9)).set hq hN ⟨hfd9, hfv9⟩ (by have h9 := hres.2; rw [kR_rv.2] at h9; exact h9)
        refine lv_iload_n hx hb d_Desk_number_107 rfl (lv_at hl 0 rfl) ?_
        exact q_zret E hr rfl hlk (⟨_, rfl, Or.inl ⟨rfl, hres.2, hsa2⟩, hds, hcr2⟩) hF d_Desk_number_108
    | succ k ih =>
      intro  i   H   locs   ls   fh hi hd hN9 hfh hfd9 hfv9 hF hl
      refine lv_iload_n hx hb d_Desk_number_14 rfl (lv_at hl 0 rfl) ?_
      refine lv_aload_n hx hb d_Desk_number_15 rfl (lv_at hl 1 rfl) ?_
      refine q_get (C := "KateDesk") (T := T_Desk) (N := 16) (ci := 5) E hd.x.ob in_Desk rfl 9 (by decide) w_348 rfl rfl d_Desk_number_16 ?_
      refine q_get (C := "KateDesk$Row") (T := T_Row) (N := 2) (ci := 3) E hd.tp.1 in_Row rfl 1 (by decide) w_74 rfl rfl d_Desk_number_19 ?_
      refine lv_icmp_ge (tgt := 47) hx hb d_Desk_number_22 (by decide) (fun h9 => absurd h9 (nI_ge (by omega) (by omega))) (fun _ => ?_)
      refine lv_aload_n hx hb d_Desk_number_25 rfl (lv_at hl 1 rfl) ?_
      refine q_get (C := "KateDesk") (T := T_Desk) (N := 16) (ci := 5) E hd.x.ob in_Desk rfl 14 (by decide) w_353 rfl rfl d_Desk_number_26 ?_
      refine lv_iload_n hx hb d_Desk_number_29 rfl (lv_at hl 0 rfl) ?_
      refine lv_aload_n hx hb d_Desk_number_30 rfl (lv_at hl 1 rfl) ?_
      refine q_get (C := "KateDesk") (T := T_Desk) (N := 16) (ci := 5) E hd.x.ob in_Desk rfl 9 (by decide) w_348 rfl rfl d_Desk_number_31 ?_
      refine lv_iload_n hx hb d_Desk_number_34 rfl (lv_at hl 0 rfl) ?_
      refine q_cV (rest := [.int (nI i), .ref (b + 160)]) E (X_Row_at l g (nD b) (b + 148) (b + 149) tn i c9 (by omega) (by omega)) w_505 w_3 w_502 w_503 w_504 hd_Row_at rfl ⟨by decide, by decide⟩ (OB.recv E.2.2.2.2.2 (by rfl) hd.tp.1) (⟨hd.tp.1, (AB.eq hc0 (hd.1.2 _ nf_149))⟩) hF hl.1 rfl (Nat.le_of_ble_eq_true rfl) d_Desk_number_35 ⟨by decide, by decide⟩ (qi (fun rt H1 locs hq hF => ?_))
      obtain ⟨hrt, hq⟩ := hq
      have hq := hq.symm
      subst hq
      obtain rfl : rt = nI (t i) := hrt.trans (hct i (by omega))
      refine q_cS (rest := []) E ((X_Limbs_orByte l g (nJ b) (b + 160) i (t i) fh (by omega) (ht i)).up nJ_D) w_508 w_5 w_506 w_507 hd_Limbs_orByte rfl ⟨by decide, by decide⟩ (⟨hd.x.hs.1, hfh⟩) hF hl.1 rfl (Nat.le_of_ble_eq_true rfl) d_Desk_number_38 ⟨by decide, by decide⟩ (qv (fun H2 locs hq hF => ?_))
      obtain ⟨hq, fh2, hfh2, hv2⟩ := hq
      have hN9 := hN9.tr (hq.frq (fun q h => Or.inl h))
      have hd := hd.kj hK hq (fun q h => h ▸ hd.x.hs.1)
      refine lv_iinc (k := 0) (v := nI (i + 1)) (lv' := [(2, .int (nI (i + 1))), (0, .ref b), (1, .int (nI a))]) hx hb d_Desk_number_41 hl rfl (i_inc i) (by decide) rfl (fun ls hl => ?_)
      refine lv_goto (tgt := 14) hx hb d_Desk_number_44 (by decide) ?_
      have hl : lv_has ls 3 [(2, .int (nI (i + 1))), (0, .ref b), (1, .int (nI a))] := lv_sub hl [0, 1, 2] rfl
      have hvn := hv2 hfd9 (by rw [hfv9]; exact Int.ofNat_lt.mpr (tvN_lt ht i))
      exact ih (i + 1) _ _ ls _ (by omega) hd hN9 hfh2 hvn.1 (by rw [hvn.2, hfv9]; rfl) hF hl
  refine lv_iload_n hx hb d_Desk_number_0 rfl (lv_at hl 1 rfl) ?_
  refine lv_iconst (v := nI 1) hx hb d_Desk_number_1 (by decide) ?_
  refine q_cS (rest := []) E (c_Desk_needScalars l g (nD b) (nI a) (nI 1) (okS_of (by decide) ha)) w_494 w_1 w_492 w_493 hd_Desk_needScalars rfl ⟨by decide, by decide⟩ trivial hF hl.1 rfl (Nat.le_of_ble_eq_true rfl) d_Desk_number_2 ⟨by decide, by decide⟩ (qv (fun H1 locs hq hF => ?_))
  have hq := hq.symm
  subst hq
  refine lv_aload_n hx hb d_Desk_number_5 rfl (lv_at hl 0 rfl) ?_
  refine q_get (C := "KateDesk") (T := T_Desk) (N := 16) (ci := 5) E hd.x.ob in_Desk rfl 14 (by decide) w_353 rfl rfl d_Desk_number_6 ?_
  refine q_cS (rest := []) E ((c_Limbs_clear l g (nJ b) (b + 160)).up nJ_D) w_498 w_5 w_496 w_497 hd_Limbs_clear rfl ⟨by decide, by decide⟩ hd.x.hs hF hl.1 rfl (Nat.le_of_ble_eq_true rfl) d_Desk_number_9 ⟨by decide, by decide⟩ (qv (fun H2 locs hq hF => ?_))
  have hfh := hq.2
  have hN9 := hN9.tr (hq.1.frq (fun q h => Or.inl h))
  have hd := hd.kj hK hq.1 (fun q h => h ▸ hd.x.hs.1)
  refine lv_iconst (v := nI 0) hx hb d_Desk_number_12 (by decide) ?_
  refine lv_istore_n (lv' := [(2, .int (nI 0)), (0, .ref b), (1, .int (nI a))]) hx hb d_Desk_number_13 rfl hl (by decide) rfl (fun ls hl => ?_)
  have hl : lv_has ls 3 [(2, .int (nI 0)), (0, .ref b), (1, .int (nI a))] := lv_sub hl [0, 1, 2] rfl
  exact lp tn 0 _ _ ls _ (by omega) hd hN9 hfh (fun _ _ => dg_0) VL_z14 hF hl
set_option maxHeartbeats 4000000 in
set_option maxRecDepth 100000 in
theorem YR_Desk_number (l : Launch) (g : WG) (b pn tn wn : Nat) (mr mq : Int64) (a : Nat) (ha : a < 32) (ht96 : tn ≤ 96) (ht33 : 32 < tn) : Ctr l y_Desk_number (.code y_Desk_number prog_1_method_3_code 3 (some FieldType.boolean)) 2 81 0 0 (nD b) g [.ref b, .int (nI a)] (fun H => DS g H H b pn tn wn mr mq) (QI (fun r H H' => r = 0 ∧ DSS g H H' b pn 0 wn mr mq ∧ FRM (kNB b) H H')) := by
  refine ctr_mk l (lv0 := [(0, .ref b), (1, .int (nI a))]) (by decide) (Nat.le_of_ble_eq_true rfl) rfl ?_
  intro p e s m below meth c ls E hr hlk hnm hl hP
  have hx := E.1
  have hb := E.2.1
  have hK := E.2.2.2.2.2
  have hF : ∀ q ∈ ([] : List Loc), nD b q.base := fun q hq => absurd hq List.not_mem_nil
  have hN9 : FRM (kNB b) s.heap s.heap := FRM.rf
  have hd := hP
  have lp : ∀ (k : Nat) (i : Nat) (H : Heap) (locs : List Loc) (ls : Array Slot), i + k = tn → DS g s.heap H b pn tn wn mr mq → FRM (kNB b) s.heap H → (∀ q ∈ locs, nD b q.base) → lv_has ls 3 [(2, .int (nI i)), (0, .ref b), (1, .int (nI a))] → W p l e { frames := 2, cells := 0, slots := 0, locals := 81 } s m [.ref b, .int (nI a)].toArray below meth c H locs 0 0 (MQ below (QcP (QI (fun r H H' => r = 0 ∧ DSS g H H' b pn 0 wn mr mq ∧ FRM (kNB b) H H'))) [.ref b, .int (nI a)].toArray s 0 0 (fun q => nD b q)) (F0 m 14 ls []) := by
    intro k
    induction k with
    | zero =>
      intro  i   H   locs   ls hi hd hN9 hF hl
      obtain rfl : i = tn := by omega
      refine lv_iload_n hx hb d_Desk_number_14 rfl (lv_at hl 0 rfl) ?_
      refine lv_aload_n hx hb d_Desk_number_15 rfl (lv_at hl 1 rfl) ?_
      refine q_get (C := "KateDesk") (T := T_Desk) (N := 16) (ci := 5) E hd.x.ob in_Desk rfl 9 (by decide) w_348 rfl rfl d_Desk_number_16 ?_
      refine q_get (C := "KateDesk$Row") (T := T_Row) (N := 2) (ci := 3) E hd.tp.1 in_Row rfl 1 (by decide) w_74 rfl rfl d_Desk_number_19 ?_
      refine lv_icmp_ge (tgt := 47) hx hb d_Desk_number_22 (by decide) (fun _ => ?_) (fun h9 => absurd (nI_le (Nat.le_refl _) (by omega)) h9)
      refine lv_aload_n hx hb d_Desk_number_47 rfl (lv_at hl 1 rfl) ?_
      refine q_get (C := "KateDesk") (T := T_Desk) (N := 16) (ci := 5) E hd.x.ob in_Desk rfl 9 (by decide) w_348 rfl rfl d_Desk_number_48 ?_
      refine q_get (C := "KateDesk$Row") (T := T_Row) (N := 2) (ci := 3) E hd.tp.1 in_Row rfl 1 (by decide) w_74 rfl rfl d_Desk_number_51 ?_
      refine lv_bipush (v := nI 32) hx hb d_Desk_number_54 (by decide) ?_
      refine lv_icmp_gt (tgt := 80) hx hb d_Desk_number_56 (by decide) (fun _ => ?_) (fun h9 => absurd (nI_gt ht33 (by omega)) h9)
      refine lv_iconst (v := nI 0) hx hb d_Desk_number_80 (by decide) ?_
      refine lv_istore_n (lv' := [(2, .int (nI 0)), (0, .ref b), (1, .int (nI a))]) hx hb d_Desk_number_81 rfl hl (by decide) rfl (fun ls hl => ?_)
      refine lv_aload_n hx hb d_Desk_number_82 rfl (lv_at hl 1 rfl) ?_
      refine q_get (C := "KateDesk") (T := T_Desk) (N := 16) (ci := 5) E hd.x.ob in_Desk rfl 9 (by decide) w_348 rfl rfl d_Desk_number_83 ?_
      refine lv_iconst (v := nI 0) hx hb d_Desk_number_86 (by decide) ?_
      refine q_put (C := "KateDesk$Row") (T := T_Row) (N := 2) (ci := 3) (ty := .int) E hd.tp.1 in_Row ty_Row tyok_Row nm_Row rfl 1 (by decide) w_74 rfl rfl (by decide +kernel) rfl rfl (Nat.le_of_ble_eq_true rfl) (nd_148 (by decide)) hF d_Desk_number_87 (fun H1 locs hq ho2 hF => ?_)
      have hN9 := hN9.tr (hq.mono (fun q h => Or.inr h))
      have hd : DS g s.heap H1 b pn 0 wn mr mq := hd.tape hq ⟨ho2, hd.tp.2.imp (fun f hf => AB.off hq (show ¬ b + 149 = b + 148 from by omega) hf)⟩ (by decide)
      refine lv_iload_n hx hb d_Desk_number_90 rfl (lv_at hl 0 rfl) ?_
      refine lv_if_eq (tgt := 107) hx hb d_Desk_number_91 (by decide) (fun _ => ?_) (fun h9 => absurd (by decide) h9)
      refine lv_iload_n hx hb d_Desk_number_107 rfl (lv_at hl 0 rfl) ?_
      exact q_zret E hr rfl hlk (⟨_, rfl, rfl, ⟨hN9.mono kNB_S, hd.2⟩, hN9⟩) hF d_Desk_number_108
    | succ k ih =>
      intro  i   H   locs   ls hi hd hN9 hF hl
      refine lv_iload_n hx hb d_Desk_number_14 rfl (lv_at hl 0 rfl) ?_
      refine lv_aload_n hx hb d_Desk_number_15 rfl (lv_at hl 1 rfl) ?_
      refine q_get (C := "KateDesk") (T := T_Desk) (N := 16) (ci := 5) E hd.x.ob in_Desk rfl 9 (by decide) w_348 rfl rfl d_Desk_number_16 ?_
      refine q_get (C := "KateDesk$Row") (T := T_Row) (N := 2) (ci := 3) E hd.tp.1 in_Row rfl 1 (by decide) w_74 rfl rfl d_Desk_number_19 ?_
      refine lv_icmp_ge (tgt := 47) hx hb d_Desk_number_22 (by decide) (fun h9 => absurd h9 (nI_ge (by omega) (by omega))) (fun _ => ?_)
      refine lv_aload_n hx hb d_Desk_number_25 rfl (lv_at hl 1 rfl) ?_
      refine q_get (C := "KateDesk") (T := T_Desk) (N := 16) (ci := 5) E hd.x.ob in_Desk rfl 14 (by decide) w_353 rfl rfl d_Desk_number_26 ?_
      refine lv_iload_n hx hb d_Desk_number_29 rfl (lv_at hl 0 rfl) ?_
      refine lv_aload_n hx hb d_Desk_number_30 rfl (lv_at hl 1 rfl) ?_
      refine q_get (C := "KateDesk") (T := T_Desk) (N := 16) (ci := 5) E hd.x.ob in_Desk rfl 9 (by decide) w_348 rfl rfl d_Desk_number_31 ?_
      refine lv_iload_n hx hb d_Desk_number_34 rfl (lv_at hl 0 rfl) ?_
      refine q_cV (rest := [.int (nI i), .ref (b + 160)]) E (v_Row_at l g (nD b) (b + 148) (b + 149) tn (nI i) ht96) w_505 w_3 w_502 w_503 w_504 hd_Row_at rfl ⟨by decide, by decide⟩ (OB.recv E.2.2.2.2.2 (by rfl) hd.tp.1) (⟨hd.tp.1, hd.tp.2⟩) hF hl.1 rfl (Nat.le_of_ble_eq_true rfl) d_Desk_number_35 ⟨by decide, by decide⟩ (qi (fun rz1 H1 locs hq hF => ?_))
      obtain ⟨-, hq⟩ := hq
      have hq := hq.symm
      subst hq
      refine q_cS (rest := []) E ((v_Limbs_orByte l g (nJ b) (b + 160) i rz1 (by omega)).up nJ_D) w_508 w_5 w_506 w_507 hd_Limbs_orByte rfl ⟨by decide, by decide⟩ hd.x.hs hF hl.1 rfl (Nat.le_of_ble_eq_true rfl) d_Desk_number_38 ⟨by decide, by decide⟩ (qv (fun H2 locs hq hF => ?_))
      have hN9 := hN9.tr (hq.frq (fun q h => Or.inl h))
      have hd := hd.kj hK hq (fun q h => h ▸ (hd.x.hs).1)
      refine lv_iinc (k := 0) (v := nI (i + 1)) (lv' := [(2, .int (nI (i + 1))), (0, .ref b), (1, .int (nI a))]) hx hb d_Desk_number_41 hl rfl (i_inc i) (by decide) rfl (fun ls hl => ?_)
      refine lv_goto (tgt := 14) hx hb d_Desk_number_44 (by decide) ?_
      have hl : lv_has ls 3 [(2, .int (nI (i + 1))), (0, .ref b), (1, .int (nI a))] := lv_sub hl [0, 1, 2] rfl
      exact ih (i + 1) _ _ ls (by omega) hd hN9 hF hl
  refine lv_iload_n hx hb d_Desk_number_0 rfl (lv_at hl 1 rfl) ?_
  refine lv_iconst (v := nI 1) hx hb d_Desk_number_1 (by decide) ?_
  refine q_cS (rest := []) E (c_Desk_needScalars l g (nD b) (nI a) (nI 1) (okS_of (by decide) ha)) w_494 w_1 w_492 w_493 hd_Desk_needScalars rfl ⟨by decide, by decide⟩ trivial hF hl.1 rfl (Nat.le_of_ble_eq_true rfl) d_Desk_number_2 ⟨by decide, by decide⟩ (qv (fun H1 locs hq hF => ?_))
  have hq := hq.symm
  subst hq
  refine lv_aload_n hx hb d_Desk_number_5 rfl (lv_at hl 0 rfl) ?_
  refine q_get (C := "KateDesk") (T := T_Desk) (N := 16) (ci := 5) E hd.x.ob in_Desk rfl 14 (by decide) w_353 rfl rfl d_Desk_number_6 ?_
  refine q_cS (rest := []) E ((c_Limbs_clear l g (nJ b) (b + 160)).up nJ_D) w_498 w_5 w_496 w_497 hd_Limbs_clear rfl ⟨by decide, by decide⟩ hd.x.hs hF hl.1 rfl (Nat.le_of_ble_eq_true rfl) d_Desk_number_9 ⟨by decide, by decide⟩ (qv (fun H2 locs hq hF => ?_))
  have hN9 := hN9.tr (hq.1.frq (fun q h => Or.inl h))
  have hd := hd.kj hK hq.1 (fun q h => h ▸ (hd.x.hs).1)
  refine lv_iconst (v := nI 0) hx hb d_Desk_number_12 (by decide) ?_
  refine lv_istore_n (lv' := [(2, .int (nI 0)), (0, .ref b), (1, .int (nI a))]) hx hb d_Desk_number_13 rfl hl (by decide) rfl (fun ls hl => ?_)
  have hl : lv_has ls 3 [(2, .int (nI 0)), (0, .ref b), (1, .int (nI a))] := lv_sub hl [0, 1, 2] rfl
  exact lp tn 0 _ _ ls (by omega) hd hN9 hF hl
