set_option maxHeartbeats 4000000 in
set_option maxRecDepth 100000 in
theorem L_Forms_read (l : Launch) (g : WG) (n0 : Nat → Prop) (o cu fi : Nat) (F : Nat → Nat) (mi : Int64) (X : Nat → Nat) (r1 r2 r3 r4 : Nat) (t t1 t2 t3 rw ce ts : Nat) (c9 : Nat → Int32) (tb : Nat → Nat) (f1 : Nat → Int64) (hts : ts ≤ 96) (hcb : ∀ j, j < ts → c9 j &&& 255 = nI (tb j)) (htb : ∀ j, tb j < 256) (hmi : mi = 268238845) (hf1 : RV f1 ((E9Q : Nat) : Int)) (hA9 : FAP F X r1 r2 r3 r4) (hB9 : PAP F X r1 r2 r3 r4 t1 t2 t3) (hce : ¬ (fun q => (∃ i, i < 9 ∧ q = X i) ∨ q = F 5 ∨ q = r2 ∨ q = r3 ∨ q = r4 ∨ q = t1 ∨ q = t2 ∨ q = t3) ce) : Ctr l y_Forms_read (.code y_Forms_read prog_4_method_2_code 5 (some FieldType.int)) 5 182 0 0 n0 g [.ref o, .ref t, .ref rw] (fun H => FMX g n0 H o cu fi F mi X r1 r2 r3 r4 ∧ PT g n0 H t t1 t2 t3 ∧ (OB g H rw 3 [.ref ce, .int (nI ts)] ∧ AB g H ce 96 c9) ∧ AJ g H (F 0) 14 kQ ∧ AJ g H r1 14 f1 ∧ (∃ f, AJ g H (F 1) 14 f ∧ RV f WQ) ∧ (∃ f, AJ g H (F 2) 14 f ∧ RV f 1) ∧ ∃ f, AJ g H (F 3) 14 f ∧ RV f W2Q) (QI (fun r H H' => ∃ n P, r = nI n ∧ RD9 tb ts n P ∧ (n = 0 → LPt g H' t1 t2 t3 P) ∧ KJ g (fun q => (∃ i, i < 9 ∧ q = X i) ∨ q = F 5 ∨ q = r2 ∨ q = r3 ∨ q = r4 ∨ q = t1 ∨ q = t2 ∨ q = t3) H H')) := by
  refine ctr_mk l (lv0 := [(0, .ref o), (1, .ref t), (2, .ref rw)]) (by decide) (Nat.le_of_ble_eq_true rfl) rfl ?_
  intro p e s m below meth c ls E hr hlk hnm hl hP
  have hx := E.1
  have hb := E.2.1
  have hK := E.2.2.2.2.2
  have hF : ∀ q ∈ ([] : List Loc), n0 q.base := fun q hq => absurd hq List.not_mem_nil
  obtain ⟨hfm, h_t, ⟨hro, hrc⟩, hM, hR1, h1, h2, h3⟩ := hP
  have hk : KJ g (fun q => (∃ i, i < 9 ∧ q = X i) ∨ q = F 5 ∨ q = r2 ∨ q = r3 ∨ q = r4 ∨ q = t1 ∨ q = t2 ∨ q = t3) s.heap s.heap := KJ.rf
  have nF : ∀ k, k < 5 → ¬ (fun q => (∃ i, i < 9 ∧ q = X i) ∨ q = F 5 ∨ q = r2 ∨ q = r3 ∨ q = r4 ∨ q = t1 ∨ q = t2 ∨ q = t3) (F k) := fun k hk5 h => h.elim (fun h => by obtain ⟨i, hi, e⟩ := h; exact (hB9.2.2.2.2.2.2.2 k hk5).2.2.2.2 i hi e) (fun h => h.elim (hB9.2.2.2.2.2.2.2 k hk5).2.2.2.1 (fun h => h.elim (hB9.2.2.2.2.2.2.2 k hk5).1 (fun h => h.elim (hB9.2.2.2.2.2.2.2 k hk5).2.1 (fun h => h.elim (hB9.2.2.2.2.2.2.2 k hk5).2.2.1 (fun h => h.elim (hB9.2.2.1 k (by omega)).1 (fun h => h.elim (hB9.2.2.1 k (by omega)).2.1 (hB9.2.2.1 k (by omega)).2.2))))))
  have n1 : ¬ (fun q => (∃ i, i < 9 ∧ q = X i) ∨ q = F 5 ∨ q = r2 ∨ q = r3 ∨ q = r4 ∨ q = t1 ∨ q = t2 ∨ q = t3) r1 := fun h => h.elim (fun h => by obtain ⟨i, hi, e⟩ := h; exact (hA9.2.2.2.2.1 i hi).1 e.symm) (fun h => h.elim hA9.2.2.1.1 (fun h => h.elim hA9.2.2.2.1.1 (fun h => h.elim hA9.2.2.2.1.2.1 (fun h => h.elim hA9.2.2.2.1.2.2.1 (fun h => h.elim hB9.2.2.2.1.1 (fun h => h.elim hB9.2.2.2.1.2.1 hB9.2.2.2.1.2.2))))))
  refine lv_aload_n hx hb d_Forms_read_0 rfl (lv_at hl 2 rfl) ?_
  refine q_get (C := "KateDesk$Row") (T := T_Row) (N := 2) (ci := 3) E (hk.ob hK hro) in_Row rfl 1 (by decide) w_73 rfl rfl d_Forms_read_1 ?_
  refine lv_bipush (v := nI 48) hx hb d_Forms_read_4 (by decide) ?_
  by_cases h48 : ts = 48
  · skip
    subst h48
    refine lv_icmp_eq (tgt := 20) hx hb d_Forms_read_6 (by decide) (fun _ => ?_) (fun h9 => absurd (rfl) h9)
    refine lv_aload_n hx hb d_Forms_read_20 rfl (lv_at hl 2 rfl) ?_
    refine q_get (C := "KateDesk$Row") (T := T_Row) (N := 2) (ci := 3) E (hk.ob hK hro) in_Row rfl 1 (by decide) w_73 rfl rfl d_Forms_read_21 ?_
    refine lv_bipush (v := nI 48) hx hb d_Forms_read_24 (by decide) ?_
    refine lv_icmp_ne (tgt := 33) hx hb d_Forms_read_26 (by decide) (fun h9 => absurd (by decide) h9) (fun _ => ?_)
    refine lv_iconst (v := nI 1) hx hb d_Forms_read_29 (by decide) ?_
    refine lv_goto (tgt := 34) hx hb d_Forms_read_30 (by decide) ?_
    refine lv_istore_n (lv' := [(3, .int (nI 1)), (0, .ref o), (1, .ref t), (2, .ref rw)]) hx hb d_Forms_read_34 rfl hl (by decide) rfl (fun ls hl => ?_)
    refine lv_aload_n hx hb d_Forms_read_35 rfl (lv_at hl 3 rfl) ?_
    refine lv_iconst (v := nI 0) hx hb d_Forms_read_36 (by decide) ?_
    refine q_cV (rest := []) E (X_Row_at l g n0 rw ce 48 0 c9 hts (by decide)) w_505 w_3 w_628 w_503 w_504 hd_Row_at rfl ⟨by decide, by decide⟩ (OB.recv E.2.2.2.2.2 (by rfl) (hk.ob hK hro)) (⟨hk.ob hK hro, hk.abo hce hrc⟩) hF hl.1 rfl (Nat.le_of_ble_eq_true rfl) d_Forms_read_37 ⟨by decide, by decide⟩ (qi (fun rb H1 locs hq hF => ?_))
    obtain ⟨hrb, hq⟩ := hq
    have hq := hq.symm
    subst hq
    rw [hcb 0 (by decide)] at hrb
    subst hrb
    refine lv_iconst (v := nI 5) hx hb d_Forms_read_40 (by decide) ?_
    refine lv_ishr hx hb d_Forms_read_41 ?_
    refine lv_topi (fun t9 e9 => ?_)
    obtain rfl : t9 = nI (tb 0 / 32) := e9.trans (sh_5 _ (htb 0))
    have hmk : tb 0 / 32 < 8 := by have := htb 0; omega
    obtain ⟨mk, emk⟩ : ∃ mk, mk = tb 0 / 32 := ⟨_, rfl⟩
    rw [← emk] at hmk ⊢
    refine lv_istore (lv' := [(4, .int (nI mk)), (3, .int (nI 1)), (0, .ref o), (1, .ref t), (2, .ref rw)]) hx hb d_Forms_read_42 hl (by decide) rfl (fun ls hl => ?_)
    refine lv_iload hx hb d_Forms_read_44 (lv_at hl 0 rfl) ?_
    refine lv_iload_n hx hb d_Forms_read_46 rfl (lv_at hl 1 rfl) ?_
    refine q_cS (rest := []) E (L_Forms_canBe l g n0 mk (nI 1) hmk (Or.inr rfl)) w_631 w_13 w_629 w_630 hd_Forms_canBe rfl ⟨by decide, by decide⟩ trivial hF hl.1 rfl (Nat.le_of_ble_eq_true rfl) d_Forms_read_47 ⟨by decide, by decide⟩ (qi (fun rc H2 locs hq hF => ?_))
    obtain ⟨hrc9, hq⟩ := hq
    have hq := hq.symm
    subst hq
    have hcan : (rc = 1 ∧ can9 mk 48) ∨ (rc = 0 ∧ ¬ can9 mk 48) := by
      refine hrc9.imp (fun h => ⟨h.1, ?_⟩) (fun h => ⟨h.1, fun q => h.2 ?_⟩)
      · rcases h.2 with q | q
        · first | exact Or.inl ⟨rfl, q.2⟩ | exact absurd q.1 (by decide)
        · first | exact Or.inr ⟨rfl, q.2⟩ | exact absurd q.1 (by decide)
      · rcases q with q | q
        · first | exact Or.inl ⟨rfl, q.2⟩ | exact absurd q.1 (by decide)
        · first | exact Or.inr ⟨rfl, q.2⟩ | exact absurd q.1 (by decide)
    refine lv_if_ne (tgt := 55) hx hb d_Forms_read_50 (by decide) (fun hc => ?_) (fun hc => ?_)
    rotate_left
    · skip
      refine lv_iconst (v := nI 2) hx hb d_Forms_read_53 (by decide) ?_
      exact q_iret E hr hlk (⟨_, rfl, 2, PZ0, rfl, Or.inr (Or.inl ⟨Or.inl rfl, by rw [← emk]; exact (hcan.resolve_left (fun h => by first | exact hc (by rw [h.1]; decide) | exact absurd (h.1.symm.trans hc) (by decide))).2, rfl⟩), fun h => absurd h (by decide), hk⟩) hF d_Forms_read_54
    have hcn : can9 mk 48 := (hcan.resolve_right (fun h => by first | exact hc h.1 | exact hc (h.1.trans rfl))).2
    refine lv_iload hx hb d_Forms_read_55 (lv_at hl 0 rfl) ?_
    refine lv_iconst (v := nI 2) hx hb d_Forms_read_57 (by decide) ?_
    refine lv_iand hx hb d_Forms_read_58 ?_
    refine lv_if_eq (tgt := 79) hx hb d_Forms_read_59 (by decide) (fun h2c => ?_) (fun h2c => ?_)
    rotate_left
    · skip
      have hmn : mk = 2 ∨ mk = 6 := by have h9 : ¬ ¬ (mk = 2 ∨ mk = 3 ∨ mk = 6 ∨ mk = 7) := fun h => h2c ((mk_2 mk hmk).mpr h); have h8 := Classical.not_not.mp h9; rcases hcn with ⟨_, h7⟩ | ⟨_, h7⟩ <;> omega
      refine lv_aload_n hx hb d_Forms_read_62 rfl (lv_at hl 3 rfl) ?_
      refine q_cV (rest := []) E (L_Point_becomeNothing l g n0 t t1 t2 t3 hB9.1) w_635 w_2 w_632 w_633 w_634 hd_Point_becomeNothing rfl ⟨by decide, by decide⟩ (OB.recv E.2.2.2.2.2 (by rfl) ((hk.pt hK h_t).1)) (hk.pt hK h_t) hF hl.1 rfl (Nat.le_of_ble_eq_true rfl) d_Forms_read_63 ⟨by decide, by decide⟩ (qv (fun H3 locs hq hF => ?_))
      obtain ⟨hq, hLP⟩ := hq
      have hk := hk.tr (hq.mono (fun q h => h.elim (fun h => Or.inr (Or.inr (Or.inr (Or.inr (Or.inr (Or.inl h)))))) (fun h => h.elim (fun h => Or.inr (Or.inr (Or.inr (Or.inr (Or.inr (Or.inr (Or.inl h))))))) (fun h => Or.inr (Or.inr (Or.inr (Or.inr (Or.inr (Or.inr (Or.inr h))))))))))
      refine lv_aload_n hx hb d_Forms_read_66 rfl (lv_at hl 4 rfl) ?_
      refine q_cS (rest := []) E (L_Forms_isBare l g n0 rw ce 48 c9 tb hts (by decide) hcb htb) w_639 w_13 w_637 w_638 hd_Forms_isBare rfl ⟨by decide, by decide⟩ (⟨hk.ob hK hro, hk.abo hce hrc⟩) hF hl.1 rfl (Nat.le_of_ble_eq_true rfl) d_Forms_read_67 ⟨by decide, by decide⟩ (qi (fun rz H4 locs hq hF => ?_))
      obtain ⟨hrz, hq⟩ := hq
      have hq := hq.symm
      subst hq
      refine lv_if_eq (tgt := 77) hx hb d_Forms_read_70 (by decide) (fun hd => ?_) (fun hd => ?_)
      rotate_left
      · skip
        refine lv_iconst (v := nI 0) hx hb d_Forms_read_73 (by decide) ?_
        refine lv_goto (tgt := 78) hx hb d_Forms_read_74 (by decide) ?_
        exact q_iret E hr hlk (⟨_, rfl, 0, PN, rfl, Or.inr (Or.inr (Or.inl ⟨Or.inl rfl, by rw [← emk]; exact hcn, by rw [← emk]; exact hmn, Or.inl ⟨(hrz.resolve_right (fun h => hd h.1)).2, rfl, PN_PE⟩⟩)), fun _ => hLP, hk⟩) hF d_Forms_read_78
      refine lv_iconst (v := nI 3) hx hb d_Forms_read_77 (by decide) ?_
      exact q_iret E hr hlk (⟨_, rfl, 3, PZ0, rfl, Or.inr (Or.inr (Or.inl ⟨Or.inl rfl, by rw [← emk]; exact hcn, by rw [← emk]; exact hmn, Or.inr ⟨(hrz.resolve_left (fun h => absurd (h.1.symm.trans hd) (by decide))).2, rfl⟩⟩)), fun h => absurd h (by decide), hk⟩) hF d_Forms_read_78
    have hmn : ¬ (mk = 2 ∨ mk = 6) := fun h => (mk_2 mk hmk).mp h2c (by omega)
    refine lv_aload_n hx hb d_Forms_read_79 rfl (lv_at hl 2 rfl) ?_
    refine lv_aload_n hx hb d_Forms_read_80 rfl (lv_at hl 3 rfl) ?_
    refine q_get (C := "KateDesk$Point") (T := T_Point) (N := 3) (ci := 2) E ((hk.pt hK h_t).1) in_Point rfl 0 (by decide) w_47 rfl rfl d_Forms_read_81 ?_
    refine lv_aload_n hx hb d_Forms_read_84 rfl (lv_at hl 4 rfl) ?_
    refine lv_iconst (v := nI 0) hx hb d_Forms_read_85 (by decide) ?_
    refine q_cV (rest := []) E (L_Forms_readCoordinate l g n0 o cu fi F mi X r1 r2 r3 r4 t1 rw ce 48 0 c9 tb hts (by decide) hcb htb hmi hA9 ⟨(hB9.2.2.1 0 (by decide)).1, hB9.2.2.2.2.2.2.1.1⟩ (hB9.2.2.2.2.2.2.2 3 (by decide)).2.2.1 ⟨fun h => hce (Or.inr (Or.inr (Or.inr (Or.inr (Or.inr (Or.inl h)))))), fun h => hce (Or.inr (Or.inr (Or.inr (Or.inr (Or.inl h)))))⟩) w_643 w_13 w_640 w_642 (bw_s 4 rfl) hd_Forms_readCoordinate rfl ⟨by decide, by decide⟩ (OB.recv E.2.2.2.2.2 (by rfl) ((hk.fmx hK hfm).1)) (⟨(hk.fmx hK hfm), (hk.pt hK h_t).2.1, ⟨hk.ob hK hro, hk.abo hce hrc⟩, (hk.ajo (nF 0 (by decide)) hM), (h3.imp (fun f hf => ⟨hk.ajo (nF 3 (by decide)) hf.1, hf.2⟩))⟩) hF hl.1 rfl (Nat.le_of_ble_eq_true rfl) d_Forms_read_86 ⟨by decide, by decide⟩ (qi (fun rx H3 locs hq hF => ?_))
    obtain ⟨hrx, hq⟩ := hq
    have hk := hk.tr (hq.mono (fun q h => h.elim (fun h => Or.inr (Or.inr (Or.inr (Or.inr (Or.inr (Or.inl h)))))) (fun h => Or.inr (Or.inr (Or.inr (Or.inr (Or.inl h)))))))
    refine lv_if_eq (tgt := 110) hx hb d_Forms_read_89 (by decide) (fun hx4 => ?_) (fun hx4 => ?_)
    rotate_left
    · skip
      obtain ⟨-, hxq, hLx⟩ := hrx.resolve_right (fun h => hx4 h.1)
      have hLx : LW g H3 t1 (x9 tb) := hLx
      refine lv_iload_n hx hb d_Forms_read_92 rfl (lv_at hl 1 rfl) ?_
      refine lv_if_ne (tgt := 112) hx hb d_Forms_read_93 (by decide) (fun _ => ?_) (fun h9 => absurd h9 (by decide))
      have hnq : ¬ (QJ ≤ x9 tb ∨ (48 = 96 ∧ QJ ≤ ((BE9 tb 48 48 : Nat) : Int))) := fun h => h.elim (fun h => absurd hxq (Int.not_lt.mpr h)) (fun h => absurd h.1 (by decide))
      refine lv_aload_n hx hb d_Forms_read_112 rfl (lv_at hl 2 rfl) ?_
      refine q_get (C := "KateDesk$Forms") (T := T_Forms) (N := 6) (ci := 6) E ((hk.fmx hK hfm).1) in_Forms rfl 1 (by decide) w_273 rfl rfl d_Forms_read_113 ?_
      refine lv_aload_n hx hb d_Forms_read_116 rfl (lv_at hl 2 rfl) ?_
      refine q_get (C := "KateDesk$Forms") (T := T_Forms) (N := 6) (ci := 6) E ((hk.fmx hK hfm).1) in_Forms rfl 3 (by decide) w_275 rfl rfl d_Forms_read_117 ?_
      refine lv_aload_n hx hb d_Forms_read_120 rfl (lv_at hl 3 rfl) ?_
      refine q_get (C := "KateDesk$Point") (T := T_Point) (N := 3) (ci := 2) E ((hk.pt hK h_t).1) in_Point rfl 0 (by decide) w_47 rfl rfl d_Forms_read_121 ?_
      refine q_cV (rest := []) E (L_Curve_squareOfY l g n0 cu fi F mi X r2 t1 (x9 tb) hA9.1 hmi hA9.2.1.2.1 ⟨(hA9.2.2.2.2.1 6 (by decide)).2.1, (hA9.2.2.2.2.1 7 (by decide)).2.1⟩ (hB9.2.1 6 (by decide)).1.symm ⟨(hB9.2.2.2.2.2.2.2 1 (by decide)).2.2.2.2 6 (by decide), (hB9.2.2.2.2.2.2.2 1 (by decide)).2.2.2.2 7 (by decide)⟩) w_651 w_11 w_648 w_649 w_650 hd_Curve_squareOfY rfl ⟨by decide, by decide⟩ (OB.recv E.2.2.2.2.2 (by rfl) ((hk.fmx hK hfm).2.1.1)) (⟨(hk.fmx hK hfm).2.1, (hk.fmx hK hfm).2.2.2.1, (hk.ajo (nF 0 (by decide)) hM), hLx, lw_one (h1.imp (fun f hf => ⟨hk.ajo (nF 1 (by decide)) hf.1, hf.2⟩))⟩) hF hl.1 rfl (Nat.le_of_ble_eq_true rfl) d_Forms_read_124 ⟨by decide, by decide⟩ (qv (fun H4 locs hq hF => ?_))
      obtain ⟨hq, hLs⟩ := hq
      have hLs : LW g H4 r2 (s9 tb) := hLs
      have hLx := hLx.off hq (fun h => h.elim (hB9.2.1 6 (by decide)).1.symm (fun h => h.elim (hB9.2.1 7 (by decide)).1.symm hB9.2.2.2.2.1.1.symm))
      have hk := hk.tr (hq.mono (fun q h => h.elim (fun h => Or.inl ⟨6, by decide, h⟩) (fun h => h.elim (fun h => Or.inl ⟨7, by decide, h⟩) (fun h => Or.inr (Or.inr (Or.inl h))))))
      refine lv_iload_n hx hb d_Forms_read_127 rfl (lv_at hl 1 rfl) ?_
      refine lv_if_eq (tgt := 151) hx hb d_Forms_read_128 (by decide) (fun h9 => absurd h9 (by decide)) (fun _ => ?_)
      refine lv_aload_n hx hb d_Forms_read_131 rfl (lv_at hl 2 rfl) ?_
      refine lv_aload_n hx hb d_Forms_read_132 rfl (lv_at hl 3 rfl) ?_
      refine q_get (C := "KateDesk$Point") (T := T_Point) (N := 3) (ci := 2) E ((hk.pt hK h_t).1) in_Point rfl 1 (by decide) w_51 rfl rfl d_Forms_read_133 ?_
      refine lv_iload hx hb d_Forms_read_136 (lv_at hl 0 rfl) ?_
      refine lv_iconst (v := nI 1) hx hb d_Forms_read_138 (by decide) ?_
      refine lv_iand hx hb d_Forms_read_139 ?_
      refine lv_if_eq (tgt := 147) hx hb d_Forms_read_140 (by decide) (fun h1c => ?_) (fun h1c => ?_)
      rotate_left
      · skip
        refine lv_iconst (v := nI 1) hx hb d_Forms_read_143 (by decide) ?_
        refine lv_goto (tgt := 148) hx hb d_Forms_read_144 (by decide) ?_
        refine q_cV (rest := []) E (L_Forms_findY l g n0 o cu fi F mi X r1 r2 r3 r4 t2 (nI 1) (s9 tb) E9Q f1 hf1 (Or.inr rfl) hmi hA9 ⟨(hB9.2.2.1 0 (by decide)).2.1, (hB9.2.2.1 5 (by decide)).2.1.symm, hB9.2.2.2.1.2.1, hB9.2.2.2.2.1.2.1, hB9.2.2.2.2.2.1.2.1, hB9.2.2.2.2.2.2.1.2.1⟩ ⟨(hB9.2.2.1 2 (by decide)).2.1, (hB9.2.2.2.2.2.2.2 2 (by decide)).2.2.2.1⟩) w_657 w_13 w_654 w_656 (bw_s 5 rfl) hd_Forms_findY rfl ⟨by decide, by decide⟩ (OB.recv E.2.2.2.2.2 (by rfl) ((hk.fmx hK hfm).1)) (⟨(hk.fmx hK hfm), (hk.pt hK h_t).2.2.1, (hk.ajo (nF 0 (by decide)) hM), hk.ajo n1 hR1, hLs, (h1.imp (fun f hf => ⟨hk.ajo (nF 1 (by decide)) hf.1, hf.2⟩)), (h2.imp (fun f hf => ⟨hk.ajo (nF 2 (by decide)) hf.1, hf.2⟩))⟩) hF hl.1 rfl (Nat.le_of_ble_eq_true rfl) d_Forms_read_148 ⟨by decide, by decide⟩ (qv (fun H5 locs hq hF => ?_))
        obtain ⟨hq, Y9, hLy, hY1, hY2⟩ := hq
        have hiff : (nI 1 = 1 ↔ tb 0 / 32 = 5) := by rw [← emk]; exact ⟨fun _ => by have h9 := Classical.not_not.mp (fun h => h1c ((mk_1 mk hmk).mpr h)); rcases hcn with ⟨_, h7⟩ | ⟨h6, _⟩; omega; exact absurd h6 (by decide), fun _ => rfl⟩
        rw [hiff] at hY1 hY2
        have hy9 : y9 tb 48 Y9 := Or.inr ⟨rfl, hY1, hY2⟩
        have hLx := hLx.off hq (fun h => h.elim hB9.1.1 (fun h => h.elim (hB9.2.2.1 5 (by decide)).1.symm (fun h => h.elim hB9.2.2.2.2.2.1.1.symm hB9.2.2.2.2.2.2.1.1.symm)))
        have hLs := hLs.off hq (fun h => h.elim hB9.2.2.2.2.1.2.1 (fun h => h.elim hA9.2.2.1.2.1 (fun h => h.elim hA9.2.2.2.1.2.2.2.1 hA9.2.2.2.1.2.2.2.2.1)))
        have hk := hk.tr (hq.mono (fun q h => h.elim (fun h => Or.inr (Or.inr (Or.inr (Or.inr (Or.inr (Or.inr (Or.inl h))))))) (fun h => h.elim (fun h => Or.inr (Or.inl h)) (fun h => h.elim (fun h => Or.inr (Or.inr (Or.inr (Or.inl h)))) (fun h => Or.inr (Or.inr (Or.inr (Or.inr (Or.inl h)))))))))
        refine lv_aload_n hx hb d_Forms_read_151 rfl (lv_at hl 3 rfl) ?_
        refine q_get (C := "KateDesk$Point") (T := T_Point) (N := 3) (ci := 2) E ((hk.pt hK h_t).1) in_Point rfl 2 (by decide) w_55 rfl rfl d_Forms_read_152 ?_
        refine lv_aload_n hx hb d_Forms_read_155 rfl (lv_at hl 2 rfl) ?_
        refine q_get (C := "KateDesk$Forms") (T := T_Forms) (N := 6) (ci := 6) E ((hk.fmx hK hfm).1) in_Forms rfl 0 (by decide) w_272 rfl rfl d_Forms_read_156 ?_
        refine q_get (C := "KateDesk$Field") (T := T_Field) (N := 7) (ci := 1) E ((hk.fmx hK hfm).2.1.2.1.1) in_Field rfl 1 (by decide) w_174 rfl rfl d_Forms_read_159 ?_
        obtain ⟨fo1, hfo1, hvo1⟩ : ∃ f, AJ g H5 (F 1) 14 f ∧ RV f WQ := (h1.imp (fun f hf => ⟨hk.ajo (nF 1 (by decide)) hf.1, hf.2⟩))
        refine q_cS (rest := []) E (c_Limbs_copy l g n0 t3 (F 1) fo1) w_146 w_5 w_665 w_145 hd_Limbs_copy rfl ⟨by decide, by decide⟩ (⟨(hk.pt hK h_t).2.2.2, hfo1⟩) hF hl.1 rfl (Nat.le_of_ble_eq_true rfl) d_Forms_read_162 ⟨by decide, by decide⟩ (qv (fun H6 locs hq hF => ?_))
        have hLz : LW g H6 t3 1 := lw_one ⟨_, hq.2, hvo1⟩
        have hLx := hLx.off hq.1 hB9.1.2.1
        have hLy := hLy.off hq.1 hB9.1.2.2
        have hLs := hLs.off hq.1 hB9.2.2.2.2.1.2.2
        have hk := hk.tr (hq.1.mono (fun q h => Or.inr (Or.inr (Or.inr (Or.inr (Or.inr (Or.inr (Or.inr h))))))))
        refine lv_aload_n hx hb d_Forms_read_165 rfl (lv_at hl 2 rfl) ?_
        refine q_get (C := "KateDesk$Forms") (T := T_Forms) (N := 6) (ci := 6) E ((hk.fmx hK hfm).1) in_Forms rfl 0 (by decide) w_272 rfl rfl d_Forms_read_166 ?_
        refine lv_aload_n hx hb d_Forms_read_169 rfl (lv_at hl 2 rfl) ?_
        refine q_get (C := "KateDesk$Forms") (T := T_Forms) (N := 6) (ci := 6) E ((hk.fmx hK hfm).1) in_Forms rfl 4 (by decide) w_276 rfl rfl d_Forms_read_170 ?_
        refine lv_aload_n hx hb d_Forms_read_173 rfl (lv_at hl 3 rfl) ?_
        refine q_get (C := "KateDesk$Point") (T := T_Point) (N := 3) (ci := 2) E ((hk.pt hK h_t).1) in_Point rfl 1 (by decide) w_51 rfl rfl d_Forms_read_174 ?_
        refine lv_aload_n hx hb d_Forms_read_177 rfl (lv_at hl 3 rfl) ?_
        refine q_get (C := "KateDesk$Point") (T := T_Point) (N := 3) (ci := 2) E ((hk.pt hK h_t).1) in_Point rfl 1 (by decide) w_51 rfl rfl d_Forms_read_178 ?_
        obtain ⟨fy9, hfy9, hvy9⟩ := id hLy
        refine q_cV (rest := []) E (Q_Field_multiply l g n0 fi r3 t2 t2 F mi fy9 fy9 ((Y9 * WQ) % QJ) ((Y9 * WQ) % QJ) hvy9 hvy9 (qm_r _).2 (qm_r _).2 hA9.2.1.2.2.1 hmi) w_165 w_4 w_666 w_163 w_164 hd_Field_multiply rfl ⟨by decide, by decide⟩ (OB.recv E.2.2.2.2.2 (by rfl) ((hk.fmx hK hfm).2.1.2.1.1)) (⟨(hk.fmx hK hfm).2.1.2.1, (hk.fmx hK hfm).2.2.2.2.1, hfy9, hfy9, (hk.ajo (nF 0 (by decide)) hM)⟩) hF hl.1 rfl (Nat.le_of_ble_eq_true rfl) d_Forms_read_181 ⟨by decide, by decide⟩ (qv (fun H7 locs hq hF => ?_))
        obtain ⟨hq, ff9, hff9, hvf9⟩ := hq
        rw [lw_mu] at hvf9
        have hLx := hLx.off hq (hB9.2.2.2.2.2.1.1.symm)
        have hLy := hLy.off hq (hB9.2.2.2.2.2.1.2.1.symm)
        have hLz := hLz.off hq (hB9.2.2.2.2.2.1.2.2.symm)
        have hLs := hLs.off hq (hA9.2.2.2.1.2.2.2.1)
        have hk := hk.tr (hq.mono (fun q h => Or.inr (Or.inr (Or.inr (Or.inl h)))))
        refine lv_aload_n hx hb d_Forms_read_184 rfl (lv_at hl 2 rfl) ?_
        refine q_get (C := "KateDesk$Forms") (T := T_Forms) (N := 6) (ci := 6) E ((hk.fmx hK hfm).1) in_Forms rfl 4 (by decide) w_276 rfl rfl d_Forms_read_185 ?_
        refine lv_aload_n hx hb d_Forms_read_188 rfl (lv_at hl 2 rfl) ?_
        refine q_get (C := "KateDesk$Forms") (T := T_Forms) (N := 6) (ci := 6) E ((hk.fmx hK hfm).1) in_Forms rfl 3 (by decide) w_275 rfl rfl d_Forms_read_189 ?_
        obtain ⟨fs9, hfs9, hvs9⟩ := id hLs
        refine q_cS (rest := []) E (L_Limbs_equal l g n0 r3 r2 ff9 fs9 _ _ hvf9 hvs9) w_669 w_5 w_667 w_668 hd_Limbs_equal rfl ⟨by decide, by decide⟩ (⟨hff9, hfs9⟩) hF hl.1 rfl (Nat.le_of_ble_eq_true rfl) d_Forms_read_192 ⟨by decide, by decide⟩ (qi (fun re H8 locs hq hF => ?_))
        obtain ⟨hre, hq⟩ := hq
        have hq := hq.symm
        subst hq
        refine lv_if_eq (tgt := 202) hx hb d_Forms_read_195 (by decide) (fun he => ?_) (fun he => ?_)
        rotate_left
        · skip
          refine lv_iconst (v := nI 0) hx hb d_Forms_read_198 (by decide) ?_
          refine lv_goto (tgt := 203) hx hb d_Forms_read_199 (by decide) ?_
          exact q_iret E hr hlk (⟨_, rfl, 0, (x9 tb, Y9, 1), rfl, Or.inr (Or.inr (Or.inr ⟨Or.inl rfl, by rw [← emk]; exact hcn, by rw [← emk]; exact hmn, Or.inr ⟨hnq, Y9, hy9, Or.inl ⟨lw_eq.mp (hre.resolve_right (fun h => he h.1)).2, rfl, PE.rf _⟩⟩⟩)), fun _ => ⟨hLx, hLy, hLz⟩, hk⟩) hF d_Forms_read_203
        refine lv_iconst (v := nI 5) hx hb d_Forms_read_202 (by decide) ?_
        exact q_iret E hr hlk (⟨_, rfl, 5, PZ0, rfl, Or.inr (Or.inr (Or.inr ⟨Or.inl rfl, by rw [← emk]; exact hcn, by rw [← emk]; exact hmn, Or.inr ⟨hnq, Y9, hy9, Or.inr ⟨fun h => (hre.resolve_left (fun h => absurd (h.1.symm.trans he) (by decide))).2 (lw_eq.mpr h), rfl⟩⟩⟩)), fun h => absurd h (by decide), hk⟩) hF d_Forms_read_203
      refine lv_iconst (v := nI 0) hx hb d_Forms_read_147 (by decide) ?_
      refine q_cV (rest := []) E (L_Forms_findY l g n0 o cu fi F mi X r1 r2 r3 r4 t2 (nI 0) (s9 tb) E9Q f1 hf1 (Or.inl rfl) hmi hA9 ⟨(hB9.2.2.1 0 (by decide)).2.1, (hB9.2.2.1 5 (by decide)).2.1.symm, hB9.2.2.2.1.2.1, hB9.2.2.2.2.1.2.1, hB9.2.2.2.2.2.1.2.1, hB9.2.2.2.2.2.2.1.2.1⟩ ⟨(hB9.2.2.1 2 (by decide)).2.1, (hB9.2.2.2.2.2.2.2 2 (by decide)).2.2.2.1⟩) w_657 w_13 w_654 w_656 (bw_s 5 rfl) hd_Forms_findY rfl ⟨by decide, by decide⟩ (OB.recv E.2.2.2.2.2 (by rfl) ((hk.fmx hK hfm).1)) (⟨(hk.fmx hK hfm), (hk.pt hK h_t).2.2.1, (hk.ajo (nF 0 (by decide)) hM), hk.ajo n1 hR1, hLs, (h1.imp (fun f hf => ⟨hk.ajo (nF 1 (by decide)) hf.1, hf.2⟩)), (h2.imp (fun f hf => ⟨hk.ajo (nF 2 (by decide)) hf.1, hf.2⟩))⟩) hF hl.1 rfl (Nat.le_of_ble_eq_true rfl) d_Forms_read_148 ⟨by decide, by decide⟩ (qv (fun H5 locs hq hF => ?_))
      obtain ⟨hq, Y9, hLy, hY1, hY2⟩ := hq
      have hiff : (nI 0 = 1 ↔ tb 0 / 32 = 5) := by rw [← emk]; exact ⟨fun h => absurd h (by decide), fun h => absurd (by omega : mk = 1 ∨ mk = 3 ∨ mk = 5 ∨ mk = 7) ((mk_1 mk hmk).mp h1c)⟩
      rw [hiff] at hY1 hY2
      have hy9 : y9 tb 48 Y9 := Or.inr ⟨rfl, hY1, hY2⟩
      have hLx := hLx.off hq (fun h => h.elim hB9.1.1 (fun h => h.elim (hB9.2.2.1 5 (by decide)).1.symm (fun h => h.elim hB9.2.2.2.2.2.1.1.symm hB9.2.2.2.2.2.2.1.1.symm)))
      have hLs := hLs.off hq (fun h => h.elim hB9.2.2.2.2.1.2.1 (fun h => h.elim hA9.2.2.1.2.1 (fun h => h.elim hA9.2.2.2.1.2.2.2.1 hA9.2.2.2.1.2.2.2.2.1)))
      have hk := hk.tr (hq.mono (fun q h => h.elim (fun h => Or.inr (Or.inr (Or.inr (Or.inr (Or.inr (Or.inr (Or.inl h))))))) (fun h => h.elim (fun h => Or.inr (Or.inl h)) (fun h => h.elim (fun h => Or.inr (Or.inr (Or.inr (Or.inl h)))) (fun h => Or.inr (Or.inr (Or.inr (Or.inr (Or.inl h)))))))))
      refine lv_aload_n hx hb d_Forms_read_151 rfl (lv_at hl 3 rfl) ?_
      refine q_get (C := "KateDesk$Point") (T := T_Point) (N := 3) (ci := 2) E ((hk.pt hK h_t).1) in_Point rfl 2 (by decide) w_55 rfl rfl d_Forms_read_152 ?_
      refine lv_aload_n hx hb d_Forms_read_155 rfl (lv_at hl 2 rfl) ?_
      refine q_get (C := "KateDesk$Forms") (T := T_Forms) (N := 6) (ci := 6) E ((hk.fmx hK hfm).1) in_Forms rfl 0 (by decide) w_272 rfl rfl d_Forms_read_156 ?_
      refine q_get (C := "KateDesk$Field") (T := T_Field) (N := 7) (ci := 1) E ((hk.fmx hK hfm).2.1.2.1.1) in_Field rfl 1 (by decide) w_174 rfl rfl d_Forms_read_159 ?_
      obtain ⟨fo1, hfo1, hvo1⟩ : ∃ f, AJ g H5 (F 1) 14 f ∧ RV f WQ := (h1.imp (fun f hf => ⟨hk.ajo (nF 1 (by decide)) hf.1, hf.2⟩))
      refine q_cS (rest := []) E (c_Limbs_copy l g n0 t3 (F 1) fo1) w_146 w_5 w_665 w_145 hd_Limbs_copy rfl ⟨by decide, by decide⟩ (⟨(hk.pt hK h_t).2.2.2, hfo1⟩) hF hl.1 rfl (Nat.le_of_ble_eq_true rfl) d_Forms_read_162 ⟨by decide, by decide⟩ (qv (fun H6 locs hq hF => ?_))
      have hLz : LW g H6 t3 1 := lw_one ⟨_, hq.2, hvo1⟩
      have hLx := hLx.off hq.1 hB9.1.2.1
      have hLy := hLy.off hq.1 hB9.1.2.2
      have hLs := hLs.off hq.1 hB9.2.2.2.2.1.2.2
      have hk := hk.tr (hq.1.mono (fun q h => Or.inr (Or.inr (Or.inr (Or.inr (Or.inr (Or.inr (Or.inr h))))))))
      refine lv_aload_n hx hb d_Forms_read_165 rfl (lv_at hl 2 rfl) ?_
      refine q_get (C := "KateDesk$Forms") (T := T_Forms) (N := 6) (ci := 6) E ((hk.fmx hK hfm).1) in_Forms rfl 0 (by decide) w_272 rfl rfl d_Forms_read_166 ?_
      refine lv_aload_n hx hb d_Forms_read_169 rfl (lv_at hl 2 rfl) ?_
      refine q_get (C := "KateDesk$Forms") (T := T_Forms) (N := 6) (ci := 6) E ((hk.fmx hK hfm).1) in_Forms rfl 4 (by decide) w_276 rfl rfl d_Forms_read_170 ?_
      refine lv_aload_n hx hb d_Forms_read_173 rfl (lv_at hl 3 rfl) ?_
      refine q_get (C := "KateDesk$Point") (T := T_Point) (N := 3) (ci := 2) E ((hk.pt hK h_t).1) in_Point rfl 1 (by decide) w_51 rfl rfl d_Forms_read_174 ?_
      refine lv_aload_n hx hb d_Forms_read_177 rfl (lv_at hl 3 rfl) ?_
      refine q_get (C := "KateDesk$Point") (T := T_Point) (N := 3) (ci := 2) E ((hk.pt hK h_t).1) in_Point rfl 1 (by decide) w_51 rfl rfl d_Forms_read_178 ?_
      obtain ⟨fy9, hfy9, hvy9⟩ := id hLy
      refine q_cV (rest := []) E (Q_Field_multiply l g n0 fi r3 t2 t2 F mi fy9 fy9 ((Y9 * WQ) % QJ) ((Y9 * WQ) % QJ) hvy9 hvy9 (qm_r _).2 (qm_r _).2 hA9.2.1.2.2.1 hmi) w_165 w_4 w_666 w_163 w_164 hd_Field_multiply rfl ⟨by decide, by decide⟩ (OB.recv E.2.2.2.2.2 (by rfl) ((hk.fmx hK hfm).2.1.2.1.1)) (⟨(hk.fmx hK hfm).2.1.2.1, (hk.fmx hK hfm).2.2.2.2.1, hfy9, hfy9, (hk.ajo (nF 0 (by decide)) hM)⟩) hF hl.1 rfl (Nat.le_of_ble_eq_true rfl) d_Forms_read_181 ⟨by decide, by decide⟩ (qv (fun H7 locs hq hF => ?_))
      obtain ⟨hq, ff9, hff9, hvf9⟩ := hq
      rw [lw_mu] at hvf9
      have hLx := hLx.off hq (hB9.2.2.2.2.2.1.1.symm)
      have hLy := hLy.off hq (hB9.2.2.2.2.2.1.2.1.symm)
      have hLz := hLz.off hq (hB9.2.2.2.2.2.1.2.2.symm)
      have hLs := hLs.off hq (hA9.2.2.2.1.2.2.2.1)
      have hk := hk.tr (hq.mono (fun q h => Or.inr (Or.inr (Or.inr (Or.inl h)))))
      refine lv_aload_n hx hb d_Forms_read_184 rfl (lv_at hl 2 rfl) ?_
      refine q_get (C := "KateDesk$Forms") (T := T_Forms) (N := 6) (ci := 6) E ((hk.fmx hK hfm).1) in_Forms rfl 4 (by decide) w_276 rfl rfl d_Forms_read_185 ?_
      refine lv_aload_n hx hb d_Forms_read_188 rfl (lv_at hl 2 rfl) ?_
      refine q_get (C := "KateDesk$Forms") (T := T_Forms) (N := 6) (ci := 6) E ((hk.fmx hK hfm).1) in_Forms rfl 3 (by decide) w_275 rfl rfl d_Forms_read_189 ?_
      obtain ⟨fs9, hfs9, hvs9⟩ := id hLs
      refine q_cS (rest := []) E (L_Limbs_equal l g n0 r3 r2 ff9 fs9 _ _ hvf9 hvs9) w_669 w_5 w_667 w_668 hd_Limbs_equal rfl ⟨by decide, by decide⟩ (⟨hff9, hfs9⟩) hF hl.1 rfl (Nat.le_of_ble_eq_true rfl) d_Forms_read_192 ⟨by decide, by decide⟩ (qi (fun re H8 locs hq hF => ?_))
      obtain ⟨hre, hq⟩ := hq
      have hq := hq.symm
      subst hq
      refine lv_if_eq (tgt := 202) hx hb d_Forms_read_195 (by decide) (fun he => ?_) (fun he => ?_)
      rotate_left
      · skip
        refine lv_iconst (v := nI 0) hx hb d_Forms_read_198 (by decide) ?_
        refine lv_goto (tgt := 203) hx hb d_Forms_read_199 (by decide) ?_
        exact q_iret E hr hlk (⟨_, rfl, 0, (x9 tb, Y9, 1), rfl, Or.inr (Or.inr (Or.inr ⟨Or.inl rfl, by rw [← emk]; exact hcn, by rw [← emk]; exact hmn, Or.inr ⟨hnq, Y9, hy9, Or.inl ⟨lw_eq.mp (hre.resolve_right (fun h => he h.1)).2, rfl, PE.rf _⟩⟩⟩)), fun _ => ⟨hLx, hLy, hLz⟩, hk⟩) hF d_Forms_read_203
      refine lv_iconst (v := nI 5) hx hb d_Forms_read_202 (by decide) ?_
      exact q_iret E hr hlk (⟨_, rfl, 5, PZ0, rfl, Or.inr (Or.inr (Or.inr ⟨Or.inl rfl, by rw [← emk]; exact hcn, by rw [← emk]; exact hmn, Or.inr ⟨hnq, Y9, hy9, Or.inr ⟨fun h => (hre.resolve_left (fun h => absurd (h.1.symm.trans he) (by decide))).2 (lw_eq.mpr h), rfl⟩⟩⟩)), fun h => absurd h (by decide), hk⟩) hF d_Forms_read_203
    refine lv_iconst (v := nI 4) hx hb d_Forms_read_110 (by decide) ?_
    exact q_iret E hr hlk (⟨_, rfl, 4, PZ0, rfl, Or.inr (Or.inr (Or.inr ⟨Or.inl rfl, by rw [← emk]; exact hcn, by rw [← emk]; exact hmn, Or.inl ⟨Or.inl (hrx.resolve_left (fun h => absurd (h.1.symm.trans hx4) (by decide))).2, rfl⟩⟩)), fun h => absurd h (by decide), hk⟩) hF d_Forms_read_111
  · skip
    refine lv_icmp_eq (tgt := 20) hx hb d_Forms_read_6 (by decide) (fun h9 => absurd h9 (fun h => h48 ((nI_eq (by omega) (by decide)).mp h))) (fun _ => ?_)
    refine lv_aload_n hx hb d_Forms_read_9 rfl (lv_at hl 2 rfl) ?_
    refine q_get (C := "KateDesk$Row") (T := T_Row) (N := 2) (ci := 3) E (hk.ob hK hro) in_Row rfl 1 (by decide) w_73 rfl rfl d_Forms_read_10 ?_
    refine lv_bipush (v := nI 96) hx hb d_Forms_read_13 (by decide) ?_
    by_cases h96 : ts = 96
    · skip
      subst h96
      refine lv_icmp_eq (tgt := 20) hx hb d_Forms_read_15 (by decide) (fun _ => ?_) (fun h9 => absurd (rfl) h9)
      refine lv_aload_n hx hb d_Forms_read_20 rfl (lv_at hl 2 rfl) ?_
      refine q_get (C := "KateDesk$Row") (T := T_Row) (N := 2) (ci := 3) E (hk.ob hK hro) in_Row rfl 1 (by decide) w_73 rfl rfl d_Forms_read_21 ?_
      refine lv_bipush (v := nI 48) hx hb d_Forms_read_24 (by decide) ?_
      refine lv_icmp_ne (tgt := 33) hx hb d_Forms_read_26 (by decide) (fun _ => ?_) (fun h9 => absurd h9 (by decide))
      refine lv_iconst (v := nI 0) hx hb d_Forms_read_33 (by decide) ?_
      refine lv_istore_n (lv' := [(3, .int (nI 0)), (0, .ref o), (1, .ref t), (2, .ref rw)]) hx hb d_Forms_read_34 rfl hl (by decide) rfl (fun ls hl => ?_)
      refine lv_aload_n hx hb d_Forms_read_35 rfl (lv_at hl 3 rfl) ?_
      refine lv_iconst (v := nI 0) hx hb d_Forms_read_36 (by decide) ?_
      refine q_cV (rest := []) E (X_Row_at l g n0 rw ce 96 0 c9 hts (by decide)) w_505 w_3 w_628 w_503 w_504 hd_Row_at rfl ⟨by decide, by decide⟩ (OB.recv E.2.2.2.2.2 (by rfl) (hk.ob hK hro)) (⟨hk.ob hK hro, hk.abo hce hrc⟩) hF hl.1 rfl (Nat.le_of_ble_eq_true rfl) d_Forms_read_37 ⟨by decide, by decide⟩ (qi (fun rb H1 locs hq hF => ?_))
      obtain ⟨hrb, hq⟩ := hq
      have hq := hq.symm
      subst hq
      rw [hcb 0 (by decide)] at hrb
      subst hrb
      refine lv_iconst (v := nI 5) hx hb d_Forms_read_40 (by decide) ?_
      refine lv_ishr hx hb d_Forms_read_41 ?_
      refine lv_topi (fun t9 e9 => ?_)
      obtain rfl : t9 = nI (tb 0 / 32) := e9.trans (sh_5 _ (htb 0))
      have hmk : tb 0 / 32 < 8 := by have := htb 0; omega
      obtain ⟨mk, emk⟩ : ∃ mk, mk = tb 0 / 32 := ⟨_, rfl⟩
      rw [← emk] at hmk ⊢
      refine lv_istore (lv' := [(4, .int (nI mk)), (3, .int (nI 0)), (0, .ref o), (1, .ref t), (2, .ref rw)]) hx hb d_Forms_read_42 hl (by decide) rfl (fun ls hl => ?_)
      refine lv_iload hx hb d_Forms_read_44 (lv_at hl 0 rfl) ?_
      refine lv_iload_n hx hb d_Forms_read_46 rfl (lv_at hl 1 rfl) ?_
      refine q_cS (rest := []) E (L_Forms_canBe l g n0 mk (nI 0) hmk (Or.inl rfl)) w_631 w_13 w_629 w_630 hd_Forms_canBe rfl ⟨by decide, by decide⟩ trivial hF hl.1 rfl (Nat.le_of_ble_eq_true rfl) d_Forms_read_47 ⟨by decide, by decide⟩ (qi (fun rc H2 locs hq hF => ?_))
      obtain ⟨hrc9, hq⟩ := hq
      have hq := hq.symm
      subst hq
      have hcan : (rc = 1 ∧ can9 mk 96) ∨ (rc = 0 ∧ ¬ can9 mk 96) := by
        refine hrc9.imp (fun h => ⟨h.1, ?_⟩) (fun h => ⟨h.1, fun q => h.2 ?_⟩)
        · rcases h.2 with q | q
          · first | exact Or.inl ⟨rfl, q.2⟩ | exact absurd q.1 (by decide)
          · first | exact Or.inr ⟨rfl, q.2⟩ | exact absurd q.1 (by decide)
        · rcases q with q | q
          · first | exact Or.inl ⟨rfl, q.2⟩ | exact absurd q.1 (by decide)
          · first | exact Or.inr ⟨rfl, q.2⟩ | exact absurd q.1 (by decide)
      refine lv_if_ne (tgt := 55) hx hb d_Forms_read_50 (by decide) (fun hc => ?_) (fun hc => ?_)
      rotate_left
      · skip
        refine lv_iconst (v := nI 2) hx hb d_Forms_read_53 (by decide) ?_
        exact q_iret E hr hlk (⟨_, rfl, 2, PZ0, rfl, Or.inr (Or.inl ⟨Or.inr rfl, by rw [← emk]; exact (hcan.resolve_left (fun h => by first | exact hc (by rw [h.1]; decide) | exact absurd (h.1.symm.trans hc) (by decide))).2, rfl⟩), fun h => absurd h (by decide), hk⟩) hF d_Forms_read_54
      have hcn : can9 mk 96 := (hcan.resolve_right (fun h => by first | exact hc h.1 | exact hc (h.1.trans rfl))).2
      refine lv_iload hx hb d_Forms_read_55 (lv_at hl 0 rfl) ?_
      refine lv_iconst (v := nI 2) hx hb d_Forms_read_57 (by decide) ?_
      refine lv_iand hx hb d_Forms_read_58 ?_
      refine lv_if_eq (tgt := 79) hx hb d_Forms_read_59 (by decide) (fun h2c => ?_) (fun h2c => ?_)
      rotate_left
      · skip
        have hmn : mk = 2 ∨ mk = 6 := by have h9 : ¬ ¬ (mk = 2 ∨ mk = 3 ∨ mk = 6 ∨ mk = 7) := fun h => h2c ((mk_2 mk hmk).mpr h); have h8 := Classical.not_not.mp h9; rcases hcn with ⟨_, h7⟩ | ⟨_, h7⟩ <;> omega
        refine lv_aload_n hx hb d_Forms_read_62 rfl (lv_at hl 3 rfl) ?_
        refine q_cV (rest := []) E (L_Point_becomeNothing l g n0 t t1 t2 t3 hB9.1) w_635 w_2 w_632 w_633 w_634 hd_Point_becomeNothing rfl ⟨by decide, by decide⟩ (OB.recv E.2.2.2.2.2 (by rfl) ((hk.pt hK h_t).1)) (hk.pt hK h_t) hF hl.1 rfl (Nat.le_of_ble_eq_true rfl) d_Forms_read_63 ⟨by decide, by decide⟩ (qv (fun H3 locs hq hF => ?_))
        obtain ⟨hq, hLP⟩ := hq
        have hk := hk.tr (hq.mono (fun q h => h.elim (fun h => Or.inr (Or.inr (Or.inr (Or.inr (Or.inr (Or.inl h)))))) (fun h => h.elim (fun h => Or.inr (Or.inr (Or.inr (Or.inr (Or.inr (Or.inr (Or.inl h))))))) (fun h => Or.inr (Or.inr (Or.inr (Or.inr (Or.inr (Or.inr (Or.inr h))))))))))
        refine lv_aload_n hx hb d_Forms_read_66 rfl (lv_at hl 4 rfl) ?_
        refine q_cS (rest := []) E (L_Forms_isBare l g n0 rw ce 96 c9 tb hts (by decide) hcb htb) w_639 w_13 w_637 w_638 hd_Forms_isBare rfl ⟨by decide, by decide⟩ (⟨hk.ob hK hro, hk.abo hce hrc⟩) hF hl.1 rfl (Nat.le_of_ble_eq_true rfl) d_Forms_read_67 ⟨by decide, by decide⟩ (qi (fun rz H4 locs hq hF => ?_))
        obtain ⟨hrz, hq⟩ := hq
        have hq := hq.symm
        subst hq
        refine lv_if_eq (tgt := 77) hx hb d_Forms_read_70 (by decide) (fun hd => ?_) (fun hd => ?_)
        rotate_left
        · skip
          refine lv_iconst (v := nI 0) hx hb d_Forms_read_73 (by decide) ?_
          refine lv_goto (tgt := 78) hx hb d_Forms_read_74 (by decide) ?_
          exact q_iret E hr hlk (⟨_, rfl, 0, PN, rfl, Or.inr (Or.inr (Or.inl ⟨Or.inr rfl, by rw [← emk]; exact hcn, by rw [← emk]; exact hmn, Or.inl ⟨(hrz.resolve_right (fun h => hd h.1)).2, rfl, PN_PE⟩⟩)), fun _ => hLP, hk⟩) hF d_Forms_read_78
        refine lv_iconst (v := nI 3) hx hb d_Forms_read_77 (by decide) ?_
        exact q_iret E hr hlk (⟨_, rfl, 3, PZ0, rfl, Or.inr (Or.inr (Or.inl ⟨Or.inr rfl, by rw [← emk]; exact hcn, by rw [← emk]; exact hmn, Or.inr ⟨(hrz.resolve_left (fun h => absurd (h.1.symm.trans hd) (by decide))).2, rfl⟩⟩)), fun h => absurd h (by decide), hk⟩) hF d_Forms_read_78
      have hmn : ¬ (mk = 2 ∨ mk = 6) := fun h => (mk_2 mk hmk).mp h2c (by omega)
      refine lv_aload_n hx hb d_Forms_read_79 rfl (lv_at hl 2 rfl) ?_
      refine lv_aload_n hx hb d_Forms_read_80 rfl (lv_at hl 3 rfl) ?_
      refine q_get (C := "KateDesk$Point") (T := T_Point) (N := 3) (ci := 2) E ((hk.pt hK h_t).1) in_Point rfl 0 (by decide) w_47 rfl rfl d_Forms_read_81 ?_
      refine lv_aload_n hx hb d_Forms_read_84 rfl (lv_at hl 4 rfl) ?_
      refine lv_iconst (v := nI 0) hx hb d_Forms_read_85 (by decide) ?_
      refine q_cV (rest := []) E (L_Forms_readCoordinate l g n0 o cu fi F mi X r1 r2 r3 r4 t1 rw ce 96 0 c9 tb hts (by decide) hcb htb hmi hA9 ⟨(hB9.2.2.1 0 (by decide)).1, hB9.2.2.2.2.2.2.1.1⟩ (hB9.2.2.2.2.2.2.2 3 (by decide)).2.2.1 ⟨fun h => hce (Or.inr (Or.inr (Or.inr (Or.inr (Or.inr (Or.inl h)))))), fun h => hce (Or.inr (Or.inr (Or.inr (Or.inr (Or.inl h)))))⟩) w_643 w_13 w_640 w_642 (bw_s 4 rfl) hd_Forms_readCoordinate rfl ⟨by decide, by decide⟩ (OB.recv E.2.2.2.2.2 (by rfl) ((hk.fmx hK hfm).1)) (⟨(hk.fmx hK hfm), (hk.pt hK h_t).2.1, ⟨hk.ob hK hro, hk.abo hce hrc⟩, (hk.ajo (nF 0 (by decide)) hM), (h3.imp (fun f hf => ⟨hk.ajo (nF 3 (by decide)) hf.1, hf.2⟩))⟩) hF hl.1 rfl (Nat.le_of_ble_eq_true rfl) d_Forms_read_86 ⟨by decide, by decide⟩ (qi (fun rx H3 locs hq hF => ?_))
      obtain ⟨hrx, hq⟩ := hq
      have hk := hk.tr (hq.mono (fun q h => h.elim (fun h => Or.inr (Or.inr (Or.inr (Or.inr (Or.inr (Or.inl h)))))) (fun h => Or.inr (Or.inr (Or.inr (Or.inr (Or.inl h)))))))
      refine lv_if_eq (tgt := 110) hx hb d_Forms_read_89 (by decide) (fun hx4 => ?_) (fun hx4 => ?_)
      rotate_left
      · skip
        obtain ⟨-, hxq, hLx⟩ := hrx.resolve_right (fun h => hx4 h.1)
        have hLx : LW g H3 t1 (x9 tb) := hLx
        refine lv_iload_n hx hb d_Forms_read_92 rfl (lv_at hl 1 rfl) ?_
        refine lv_if_ne (tgt := 112) hx hb d_Forms_read_93 (by decide) (fun h9 => absurd (by decide) h9) (fun _ => ?_)
        refine lv_aload_n hx hb d_Forms_read_96 rfl (lv_at hl 2 rfl) ?_
        refine lv_aload_n hx hb d_Forms_read_97 rfl (lv_at hl 3 rfl) ?_
        refine q_get (C := "KateDesk$Point") (T := T_Point) (N := 3) (ci := 2) E ((hk.pt hK h_t).1) in_Point rfl 1 (by decide) w_51 rfl rfl d_Forms_read_98 ?_
        refine lv_aload_n hx hb d_Forms_read_101 rfl (lv_at hl 4 rfl) ?_
        refine lv_bipush (v := nI 48) hx hb d_Forms_read_102 (by decide) ?_
        refine q_cV (rest := []) E (L_Forms_readCoordinate l g n0 o cu fi F mi X r1 r2 r3 r4 t2 rw ce 96 48 c9 tb hts (by decide) hcb htb hmi hA9 ⟨(hB9.2.2.1 0 (by decide)).2.1, hB9.2.2.2.2.2.2.1.2.1⟩ (hB9.2.2.2.2.2.2.2 3 (by decide)).2.2.1 ⟨fun h => hce (Or.inr (Or.inr (Or.inr (Or.inr (Or.inr (Or.inr (Or.inl h))))))), fun h => hce (Or.inr (Or.inr (Or.inr (Or.inr (Or.inl h)))))⟩) w_643 w_13 w_640 w_642 (bw_s 4 rfl) hd_Forms_readCoordinate rfl ⟨by decide, by decide⟩ (OB.recv E.2.2.2.2.2 (by rfl) ((hk.fmx hK hfm).1)) (⟨(hk.fmx hK hfm), (hk.pt hK h_t).2.2.1, ⟨hk.ob hK hro, hk.abo hce hrc⟩, (hk.ajo (nF 0 (by decide)) hM), (h3.imp (fun f hf => ⟨hk.ajo (nF 3 (by decide)) hf.1, hf.2⟩))⟩) hF hl.1 rfl (Nat.le_of_ble_eq_true rfl) d_Forms_read_104 ⟨by decide, by decide⟩ (qi (fun ry H4 locs hq hF => ?_))
        obtain ⟨hry, hq⟩ := hq
        have hLx := hLx.off hq (fun h => h.elim hB9.1.1 hB9.2.2.2.2.2.2.1.1.symm)
        have hk := hk.tr (hq.mono (fun q h => h.elim (fun h => Or.inr (Or.inr (Or.inr (Or.inr (Or.inr (Or.inr (Or.inl h))))))) (fun h => Or.inr (Or.inr (Or.inr (Or.inr (Or.inl h)))))))
        refine lv_if_ne (tgt := 112) hx hb d_Forms_read_107 (by decide) (fun hy4 => ?_) (fun hy4 => ?_)
        rotate_left
        · skip
          refine lv_iconst (v := nI 4) hx hb d_Forms_read_110 (by decide) ?_
          exact q_iret E hr hlk (⟨_, rfl, 4, PZ0, rfl, Or.inr (Or.inr (Or.inr ⟨Or.inr rfl, by rw [← emk]; exact hcn, by rw [← emk]; exact hmn, Or.inl ⟨Or.inr ⟨rfl, (hry.resolve_left (fun h => by first | exact hy4 (by rw [h.1]; decide) | exact absurd (h.1.symm.trans hy4) (by decide))).2⟩, rfl⟩⟩)), fun h => absurd h (by decide), hk⟩) hF d_Forms_read_111
        obtain ⟨-, hyq, hLy⟩ := hry.resolve_right (fun h => by first | exact hy4 h.1 | exact hy4 (h.1.trans rfl))
        have hnq : ¬ (QJ ≤ x9 tb ∨ (96 = 96 ∧ QJ ≤ ((BE9 tb 48 48 : Nat) : Int))) := fun h => h.elim (fun h => absurd hxq (Int.not_lt.mpr h)) (fun h => absurd hyq (Int.not_lt.mpr h.2))
        refine lv_aload_n hx hb d_Forms_read_112 rfl (lv_at hl 2 rfl) ?_
        refine q_get (C := "KateDesk$Forms") (T := T_Forms) (N := 6) (ci := 6) E ((hk.fmx hK hfm).1) in_Forms rfl 1 (by decide) w_273 rfl rfl d_Forms_read_113 ?_
        refine lv_aload_n hx hb d_Forms_read_116 rfl (lv_at hl 2 rfl) ?_
        refine q_get (C := "KateDesk$Forms") (T := T_Forms) (N := 6) (ci := 6) E ((hk.fmx hK hfm).1) in_Forms rfl 3 (by decide) w_275 rfl rfl d_Forms_read_117 ?_
        refine lv_aload_n hx hb d_Forms_read_120 rfl (lv_at hl 3 rfl) ?_
        refine q_get (C := "KateDesk$Point") (T := T_Point) (N := 3) (ci := 2) E ((hk.pt hK h_t).1) in_Point rfl 0 (by decide) w_47 rfl rfl d_Forms_read_121 ?_
        refine q_cV (rest := []) E (L_Curve_squareOfY l g n0 cu fi F mi X r2 t1 (x9 tb) hA9.1 hmi hA9.2.1.2.1 ⟨(hA9.2.2.2.2.1 6 (by decide)).2.1, (hA9.2.2.2.2.1 7 (by decide)).2.1⟩ (hB9.2.1 6 (by decide)).1.symm ⟨(hB9.2.2.2.2.2.2.2 1 (by decide)).2.2.2.2 6 (by decide), (hB9.2.2.2.2.2.2.2 1 (by decide)).2.2.2.2 7 (by decide)⟩) w_651 w_11 w_648 w_649 w_650 hd_Curve_squareOfY rfl ⟨by decide, by decide⟩ (OB.recv E.2.2.2.2.2 (by rfl) ((hk.fmx hK hfm).2.1.1)) (⟨(hk.fmx hK hfm).2.1, (hk.fmx hK hfm).2.2.2.1, (hk.ajo (nF 0 (by decide)) hM), hLx, lw_one (h1.imp (fun f hf => ⟨hk.ajo (nF 1 (by decide)) hf.1, hf.2⟩))⟩) hF hl.1 rfl (Nat.le_of_ble_eq_true rfl) d_Forms_read_124 ⟨by decide, by decide⟩ (qv (fun H5 locs hq hF => ?_))
        obtain ⟨hq, hLs⟩ := hq
        have hLs : LW g H5 r2 (s9 tb) := hLs
        have hLx := hLx.off hq (fun h => h.elim (hB9.2.1 6 (by decide)).1.symm (fun h => h.elim (hB9.2.1 7 (by decide)).1.symm hB9.2.2.2.2.1.1.symm))
        have hLy := hLy.off hq (fun h => h.elim (hB9.2.1 6 (by decide)).2.1.symm (fun h => h.elim (hB9.2.1 7 (by decide)).2.1.symm hB9.2.2.2.2.1.2.1.symm))
        have hk := hk.tr (hq.mono (fun q h => h.elim (fun h => Or.inl ⟨6, by decide, h⟩) (fun h => h.elim (fun h => Or.inl ⟨7, by decide, h⟩) (fun h => Or.inr (Or.inr (Or.inl h))))))
        refine lv_iload_n hx hb d_Forms_read_127 rfl (lv_at hl 1 rfl) ?_
        refine lv_if_eq (tgt := 151) hx hb d_Forms_read_128 (by decide) (fun _ => ?_) (fun h9 => absurd (by decide) h9)
        have hy9 : y9 tb 96 ((BE9 tb 48 48 : Nat) : Int) := Or.inl ⟨rfl, rfl⟩
        obtain ⟨Y9, eY9⟩ : ∃ Y9, Y9 = ((BE9 tb 48 48 : Nat) : Int) := ⟨_, rfl⟩
        rw [← eY9] at hy9 hLy
        refine lv_aload_n hx hb d_Forms_read_151 rfl (lv_at hl 3 rfl) ?_
        refine q_get (C := "KateDesk$Point") (T := T_Point) (N := 3) (ci := 2) E ((hk.pt hK h_t).1) in_Point rfl 2 (by decide) w_55 rfl rfl d_Forms_read_152 ?_
        refine lv_aload_n hx hb d_Forms_read_155 rfl (lv_at hl 2 rfl) ?_
        refine q_get (C := "KateDesk$Forms") (T := T_Forms) (N := 6) (ci := 6) E ((hk.fmx hK hfm).1) in_Forms rfl 0 (by decide) w_272 rfl rfl d_Forms_read_156 ?_
        refine q_get (C := "KateDesk$Field") (T := T_Field) (N := 7) (ci := 1) E ((hk.fmx hK hfm).2.1.2.1.1) in_Field rfl 1 (by decide) w_174 rfl rfl d_Forms_read_159 ?_
        obtain ⟨fo1, hfo1, hvo1⟩ : ∃ f, AJ g H5 (F 1) 14 f ∧ RV f WQ := (h1.imp (fun f hf => ⟨hk.ajo (nF 1 (by decide)) hf.1, hf.2⟩))
        refine q_cS (rest := []) E (c_Limbs_copy l g n0 t3 (F 1) fo1) w_146 w_5 w_665 w_145 hd_Limbs_copy rfl ⟨by decide, by decide⟩ (⟨(hk.pt hK h_t).2.2.2, hfo1⟩) hF hl.1 rfl (Nat.le_of_ble_eq_true rfl) d_Forms_read_162 ⟨by decide, by decide⟩ (qv (fun H6 locs hq hF => ?_))
        have hLz : LW g H6 t3 1 := lw_one ⟨_, hq.2, hvo1⟩
        have hLx := hLx.off hq.1 hB9.1.2.1
        have hLy := hLy.off hq.1 hB9.1.2.2
        have hLs := hLs.off hq.1 hB9.2.2.2.2.1.2.2
        have hk := hk.tr (hq.1.mono (fun q h => Or.inr (Or.inr (Or.inr (Or.inr (Or.inr (Or.inr (Or.inr h))))))))
        refine lv_aload_n hx hb d_Forms_read_165 rfl (lv_at hl 2 rfl) ?_
        refine q_get (C := "KateDesk$Forms") (T := T_Forms) (N := 6) (ci := 6) E ((hk.fmx hK hfm).1) in_Forms rfl 0 (by decide) w_272 rfl rfl d_Forms_read_166 ?_
        refine lv_aload_n hx hb d_Forms_read_169 rfl (lv_at hl 2 rfl) ?_
        refine q_get (C := "KateDesk$Forms") (T := T_Forms) (N := 6) (ci := 6) E ((hk.fmx hK hfm).1) in_Forms rfl 4 (by decide) w_276 rfl rfl d_Forms_read_170 ?_
        refine lv_aload_n hx hb d_Forms_read_173 rfl (lv_at hl 3 rfl) ?_
        refine q_get (C := "KateDesk$Point") (T := T_Point) (N := 3) (ci := 2) E ((hk.pt hK h_t).1) in_Point rfl 1 (by decide) w_51 rfl rfl d_Forms_read_174 ?_
        refine lv_aload_n hx hb d_Forms_read_177 rfl (lv_at hl 3 rfl) ?_
        refine q_get (C := "KateDesk$Point") (T := T_Point) (N := 3) (ci := 2) E ((hk.pt hK h_t).1) in_Point rfl 1 (by decide) w_51 rfl rfl d_Forms_read_178 ?_
        obtain ⟨fy9, hfy9, hvy9⟩ := id hLy
        refine q_cV (rest := []) E (Q_Field_multiply l g n0 fi r3 t2 t2 F mi fy9 fy9 ((Y9 * WQ) % QJ) ((Y9 * WQ) % QJ) hvy9 hvy9 (qm_r _).2 (qm_r _).2 hA9.2.1.2.2.1 hmi) w_165 w_4 w_666 w_163 w_164 hd_Field_multiply rfl ⟨by decide, by decide⟩ (OB.recv E.2.2.2.2.2 (by rfl) ((hk.fmx hK hfm).2.1.2.1.1)) (⟨(hk.fmx hK hfm).2.1.2.1, (hk.fmx hK hfm).2.2.2.2.1, hfy9, hfy9, (hk.ajo (nF 0 (by decide)) hM)⟩) hF hl.1 rfl (Nat.le_of_ble_eq_true rfl) d_Forms_read_181 ⟨by decide, by decide⟩ (qv (fun H7 locs hq hF => ?_))
        obtain ⟨hq, ff9, hff9, hvf9⟩ := hq
        rw [lw_mu] at hvf9
        have hLx := hLx.off hq (hB9.2.2.2.2.2.1.1.symm)
        have hLy := hLy.off hq (hB9.2.2.2.2.2.1.2.1.symm)
        have hLz := hLz.off hq (hB9.2.2.2.2.2.1.2.2.symm)
        have hLs := hLs.off hq (hA9.2.2.2.1.2.2.2.1)
        have hk := hk.tr (hq.mono (fun q h => Or.inr (Or.inr (Or.inr (Or.inl h)))))
        refine lv_aload_n hx hb d_Forms_read_184 rfl (lv_at hl 2 rfl) ?_
        refine q_get (C := "KateDesk$Forms") (T := T_Forms) (N := 6) (ci := 6) E ((hk.fmx hK hfm).1) in_Forms rfl 4 (by decide) w_276 rfl rfl d_Forms_read_185 ?_
        refine lv_aload_n hx hb d_Forms_read_188 rfl (lv_at hl 2 rfl) ?_
        refine q_get (C := "KateDesk$Forms") (T := T_Forms) (N := 6) (ci := 6) E ((hk.fmx hK hfm).1) in_Forms rfl 3 (by decide) w_275 rfl rfl d_Forms_read_189 ?_
        obtain ⟨fs9, hfs9, hvs9⟩ := id hLs
        refine q_cS (rest := []) E (L_Limbs_equal l g n0 r3 r2 ff9 fs9 _ _ hvf9 hvs9) w_669 w_5 w_667 w_668 hd_Limbs_equal rfl ⟨by decide, by decide⟩ (⟨hff9, hfs9⟩) hF hl.1 rfl (Nat.le_of_ble_eq_true rfl) d_Forms_read_192 ⟨by decide, by decide⟩ (qi (fun re H8 locs hq hF => ?_))
        obtain ⟨hre, hq⟩ := hq
        have hq := hq.symm
        subst hq
        refine lv_if_eq (tgt := 202) hx hb d_Forms_read_195 (by decide) (fun he => ?_) (fun he => ?_)
        rotate_left
        · skip
          refine lv_iconst (v := nI 0) hx hb d_Forms_read_198 (by decide) ?_
          refine lv_goto (tgt := 203) hx hb d_Forms_read_199 (by decide) ?_
          exact q_iret E hr hlk (⟨_, rfl, 0, (x9 tb, Y9, 1), rfl, Or.inr (Or.inr (Or.inr ⟨Or.inr rfl, by rw [← emk]; exact hcn, by rw [← emk]; exact hmn, Or.inr ⟨hnq, Y9, hy9, Or.inl ⟨lw_eq.mp (hre.resolve_right (fun h => he h.1)).2, rfl, PE.rf _⟩⟩⟩)), fun _ => ⟨hLx, hLy, hLz⟩, hk⟩) hF d_Forms_read_203
        refine lv_iconst (v := nI 5) hx hb d_Forms_read_202 (by decide) ?_
        exact q_iret E hr hlk (⟨_, rfl, 5, PZ0, rfl, Or.inr (Or.inr (Or.inr ⟨Or.inr rfl, by rw [← emk]; exact hcn, by rw [← emk]; exact hmn, Or.inr ⟨hnq, Y9, hy9, Or.inr ⟨fun h => (hre.resolve_left (fun h => absurd (h.1.symm.trans he) (by decide))).2 (lw_eq.mpr h), rfl⟩⟩⟩)), fun h => absurd h (by decide), hk⟩) hF d_Forms_read_203
      refine lv_iconst (v := nI 4) hx hb d_Forms_read_110 (by decide) ?_
      exact q_iret E hr hlk (⟨_, rfl, 4, PZ0, rfl, Or.inr (Or.inr (Or.inr ⟨Or.inr rfl, by rw [← emk]; exact hcn, by rw [← emk]; exact hmn, Or.inl ⟨Or.inl (hrx.resolve_left (fun h => absurd (h.1.symm.trans hx4) (by decide))).2, rfl⟩⟩)), fun h => absurd h (by decide), hk⟩) hF d_Forms_read_111
    · skip
      refine lv_icmp_eq (tgt := 20) hx hb d_Forms_read_15 (by decide) (fun h9 => absurd h9 (fun h => h96 ((nI_eq (by omega) (by decide)).mp h))) (fun _ => ?_)
      refine lv_iconst (v := nI 1) hx hb d_Forms_read_18 (by decide) ?_
      exact q_iret E hr hlk (⟨_, rfl, 1, PZ0, rfl, Or.inl ⟨fun h => h.elim h48 h96, rfl⟩, fun h => absurd h (by decide), hk⟩) hF d_Forms_read_19
