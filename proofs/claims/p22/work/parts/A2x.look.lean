/-- what look answers -/
def lookV (x : Int32) (pn tn wn : Nat) : Int32 := if x = 0 then nI pn else if x = nI 1 then nI tn else nI wn
def wbN (sh : Int32) : Nat := if sh = 0 then 96 else 48
theorem wb_0 {sh : Int32} (h : sh = 0) : 96 = wbN sh := by unfold wbN; rw [if_pos h]
theorem wb_1 {sh : Int32} (h : ¬ sh = 0) : 48 = wbN sh := by unfold wbN; rw [if_neg h]
theorem wb_le (sh : Int32) : wbN sh ≤ 96 := by unfold wbN; split <;> decide
theorem look_v {k pn tn wn : Nat} {r : Int32} (hk : k ≤ 2) (h0 : k = 0 → r = nI pn) (h1 : k = 1 → r = nI tn) (h2 : k = 2 → r = nI wn) : r = lookV (nI k) pn tn wn := by
  match k, hk with
  | 0, _ => exact h0 rfl
  | 1, _ => exact h1 rfl
  | 2, _ => exact h2 rfl
set_option maxHeartbeats 4000000 in
set_option maxRecDepth 100000 in
theorem x_Forms_write (l : Launch) (g : WG) (n0 : Nat → Prop) (o cu fi : Nat) (F : Nat → Nat) (mi : Int64) (X : Nat → Nat) (r1 r2 r3 r4 : Nat) (n1 : Nat → Prop) (t t1 t2 t3 rw ce ts : Nat) (sh : Int32) (hnr : n0 rw) (hnc : n0 ce) (hn1 : ∀ q, n1 q → n0 q ∧ q ≠ rw ∧ q ≠ ce) (ho : o ≠ rw ∧ o ≠ ce) (hcu : cu ≠ rw ∧ cu ≠ ce) (hfi : fi ≠ rw ∧ fi ≠ ce) (htn : t ≠ rw ∧ t ≠ ce) (hcr : ¬ ce = rw) : Ctr l y_Forms_write (.code y_Forms_write prog_4_method_8_code 6 none) 4 182 0 0 n0 g [.ref o, .ref rw, .ref t, .int sh] (fun H => FMX g n1 H o cu fi F mi X r1 r2 r3 r4 ∧ PT g n1 H t t1 t2 t3 ∧ RW9 g H rw ce ts) (QV (fun H H' => ∃ H1 H2 w9, FRM (fun q => q = rw ∨ q = ce) H H1 ∧ KJ g (fun q => n1 q) H1 H2 ∧ FRM (fun q => q = rw ∨ q = ce) H2 H' ∧ w9 = wbN sh ∧ RW9 g H' rw ce w9)) := by
  refine ctr_mk l (lv0 := [(0, .ref o), (1, .ref rw), (2, .ref t), (3, .int sh)]) (by decide) (Nat.le_of_ble_eq_true rfl) rfl ?_
  intro p e s m below meth c ls E hr hlk hnm hl hP
  have hx := E.1
  have hb := E.2.1
  have hK := E.2.2.2.2.2
  have hF : ∀ q ∈ ([] : List Loc), n0 q.base := fun q hq => absurd hq List.not_mem_nil
  obtain ⟨hfm, h_t, hrw⟩ := hP
  have hdis : ∀ q, n1 q → ¬ q = rw := fun q h => (hn1 q h).2.1
  have sA : ∀ (mk : Int32) (ls : Array Slot), lv_has ls 6 [(4, .int mk), (0, .ref o), (1, .ref rw), (2, .ref t), (3, .int sh)] → W p l e { frames := 4, cells := 0, slots := 0, locals := 182 } s m [.ref o, .ref rw, .ref t, .int sh].toArray below meth c s.heap [] 0 0 (MQ below (QcP (QV (fun H H' => ∃ H1 H2 w9, FRM (fun q => q = rw ∨ q = ce) H H1 ∧ KJ g (fun q => n1 q) H1 H2 ∧ FRM (fun q => q = rw ∨ q = ce) H2 H' ∧ w9 = wbN sh ∧ RW9 g H' rw ce w9))) [.ref o, .ref rw, .ref t, .int sh].toArray s 0 0 (fun q => n0 q)) (F0 m 11 ls []) := by
    intro  mk   ls  hl
    refine lv_aload_n hx hb d_Forms_write_11 rfl (lv_at hl 2 rfl) ?_
    refine lv_iconst (v := nI 0) hx hb d_Forms_write_12 (by decide) ?_
    refine q_put (C := "KateDesk$Row") (T := T_Row) (N := 2) (ci := 3) (ty := .int) E hrw.1 in_Row ty_Row tyok_Row nm_Row rfl 1 (by decide) w_73 rfl rfl (by decide +kernel) rfl rfl (Nat.le_of_ble_eq_true rfl) hnr hF d_Forms_write_13 (fun H1 locs hq ho2 hF => ?_)
    have hf1 : FRM (fun q => q = rw ∨ q = ce) s.heap H1 := hq.mono (fun q h => Or.inl h)
    have hfm := hfm.frm hq (fun q h => (hn1 q h).2.1) ho.1 hcu.1 hfi.1
    have h_t := h_t.frm hq htn.1 (hdis _ h_t.2.1.1) (hdis _ h_t.2.2.1.1) (hdis _ h_t.2.2.2.1)
    have hrw : RW9 g H1 rw ce 0 := ⟨ho2, hrw.2.imp (fun f hf => AB.off hq hcr hf)⟩
    clear hq ho2
    have hk : KJ g (fun q => n1 q) H1 H1 := KJ.rf
    have sB : ∀ (mk2 : Int32) (H : Heap) (locs : List Loc) (ls : Array Slot), KJ g (fun q => n1 q) H1 H → (∀ q ∈ locs, n0 q.base) → lv_has ls 6 [(4, .int mk2), (0, .ref o), (1, .ref rw), (2, .ref t), (3, .int sh)] → W p l e { frames := 4, cells := 0, slots := 0, locals := 182 } s m [.ref o, .ref rw, .ref t, .int sh].toArray below meth c H locs 0 0 (MQ below (QcP (QV (fun H H' => ∃ H1 H2 w9, FRM (fun q => q = rw ∨ q = ce) H H1 ∧ KJ g (fun q => n1 q) H1 H2 ∧ FRM (fun q => q = rw ∨ q = ce) H2 H' ∧ w9 = wbN sh ∧ RW9 g H' rw ce w9))) [.ref o, .ref rw, .ref t, .int sh].toArray s 0 0 (fun q => n0 q)) (F0 m 131 ls []) := by
      intro  mk2   H   locs   ls hk hF hl
      refine lv_aload_n hx hb d_Forms_write_131 rfl (lv_at hl 1 rfl) ?_
      refine q_get (C := "KateDesk$Forms") (T := T_Forms) (N := 6) (ci := 6) E ((hk.fmx hK hfm).1) in_Forms rfl 0 (by decide) w_272 rfl rfl d_Forms_write_132 ?_
      refine lv_aload_n hx hb d_Forms_write_135 rfl (lv_at hl 1 rfl) ?_
      refine q_get (C := "KateDesk$Forms") (T := T_Forms) (N := 6) (ci := 6) E ((hk.fmx hK hfm).1) in_Forms rfl 4 (by decide) w_276 rfl rfl d_Forms_write_136 ?_
      refine lv_aload_n hx hb d_Forms_write_139 rfl (lv_at hl 3 rfl) ?_
      refine q_get (C := "KateDesk$Point") (T := T_Point) (N := 3) (ci := 2) E ((hk.pt hK h_t).1) in_Point rfl 0 (by decide) w_47 rfl rfl d_Forms_write_140 ?_
      refine lv_aload_n hx hb d_Forms_write_143 rfl (lv_at hl 1 rfl) ?_
      refine q_get (C := "KateDesk$Forms") (T := T_Forms) (N := 6) (ci := 6) E ((hk.fmx hK hfm).1) in_Forms rfl 3 (by decide) w_275 rfl rfl d_Forms_write_144 ?_
      refine q_cV (rest := []) E ((c_Field_multiply l g n1 fi r3 t1 r2 F mi).up (fun q h => (hn1 q h).1)) w_165 w_4 w_666 w_163 w_164 hd_Field_multiply rfl ⟨by decide, by decide⟩ (OB.recv E.2.2.2.2.2 (by rfl) (((hk.fmx hK hfm).2.1.2.1).1)) (⟨(hk.fmx hK hfm).2.1.2.1, ((hk.fmx hK hfm).2.2.2.2.1), ((hk.pt hK h_t).2.1), ((hk.fmx hK hfm).2.2.2.1)⟩) hF hl.1 rfl (Nat.le_of_ble_eq_true rfl) d_Forms_write_147 ⟨by decide, by decide⟩ (qv (fun H1 locs hq hF => ?_))
      have hk := hk.tr (hq.w1 (((hk.fmx hK hfm).2.2.2.2.1)).1)
      refine lv_aload_n hx hb d_Forms_write_150 rfl (lv_at hl 1 rfl) ?_
      refine q_get (C := "KateDesk$Forms") (T := T_Forms) (N := 6) (ci := 6) E ((hk.fmx hK hfm).1) in_Forms rfl 0 (by decide) w_272 rfl rfl d_Forms_write_151 ?_
      refine lv_aload_n hx hb d_Forms_write_154 rfl (lv_at hl 1 rfl) ?_
      refine q_get (C := "KateDesk$Forms") (T := T_Forms) (N := 6) (ci := 6) E ((hk.fmx hK hfm).1) in_Forms rfl 4 (by decide) w_276 rfl rfl d_Forms_write_155 ?_
      refine lv_aload_n hx hb d_Forms_write_158 rfl (lv_at hl 1 rfl) ?_
      refine q_get (C := "KateDesk$Forms") (T := T_Forms) (N := 6) (ci := 6) E ((hk.fmx hK hfm).1) in_Forms rfl 4 (by decide) w_276 rfl rfl d_Forms_write_159 ?_
      refine q_cV (rest := []) E ((c_Field_lower l g n1 fi r3 r3 F mi).up (fun q h => (hn1 q h).1)) w_589 w_4 w_659 w_587 w_588 hd_Field_lower rfl ⟨by decide, by decide⟩ (OB.recv E.2.2.2.2.2 (by rfl) (((hk.fmx hK hfm).2.1.2.1).1)) (⟨(hk.fmx hK hfm).2.1.2.1, ((hk.fmx hK hfm).2.2.2.2.1), ((hk.fmx hK hfm).2.2.2.2.1)⟩) hF hl.1 rfl (Nat.le_of_ble_eq_true rfl) d_Forms_write_162 ⟨by decide, by decide⟩ (qv (fun H2 locs hq hF => ?_))
      have hk := hk.tr (hq.w1 (((hk.fmx hK hfm).2.2.2.2.1)).1)
      refine lv_aload_n hx hb d_Forms_write_165 rfl (lv_at hl 2 rfl) ?_
      refine lv_aload_n hx hb d_Forms_write_166 rfl (lv_at hl 1 rfl) ?_
      refine q_get (C := "KateDesk$Forms") (T := T_Forms) (N := 6) (ci := 6) E ((hk.fmx hK hfm).1) in_Forms rfl 4 (by decide) w_276 rfl rfl d_Forms_write_167 ?_
      refine lv_iload hx hb d_Forms_write_170 (lv_at hl 0 rfl) ?_
      have hrw := hk.rw9 hK hrw
      have hfm := hk.fmx hK hfm
      refine q_cS (rest := []) E (v_Forms_writeCoordinate l g n0 rw ce 0 r3 mk2 (by decide) hnr hnc (hn1 _ (hfm.2.2.2.2.1).1).2.1 (hn1 _ (hfm.2.2.2.2.1).1).2.2) w_747 w_13 w_745 w_746 hd_Forms_writeCoordinate rfl ⟨by decide, by decide⟩ (⟨hrw, ⟨(hn1 _ (hfm.2.2.2.2.1).1).1, (hfm.2.2.2.2.1).2⟩⟩) hF hl.1 rfl (Nat.le_of_ble_eq_true rfl) d_Forms_write_172 ⟨by decide, by decide⟩ (qv (fun H3 locs hq hF => ?_))
      obtain ⟨hf3, hrw⟩ := hq
      refine lv_iload_n hx hb d_Forms_write_175 rfl (lv_at hl 4 rfl) ?_
      refine lv_if_ne (tgt := 188) hx hb d_Forms_write_176 (by decide) (fun h5 => ?_) (fun h5 => ?_)
      · skip
        exact q_vret E hr hlk (⟨rfl, _, _, 48, hf1, hk, hf3, wb_1 h5, hrw⟩) hF d_Forms_write_188
      · skip
        have hfm3 := hfm.frm hf3 (fun q h h9 => h9.elim (hn1 q h).2.1 (hn1 q h).2.2) (fun h => h.elim ho.1 ho.2) (fun h => h.elim hcu.1 hcu.2) (fun h => h.elim hfi.1 hfi.2)
        refine lv_aload_n hx hb d_Forms_write_179 rfl (lv_at hl 2 rfl) ?_
        refine lv_aload_n hx hb d_Forms_write_180 rfl (lv_at hl 1 rfl) ?_
        refine q_get (C := "KateDesk$Forms") (T := T_Forms) (N := 6) (ci := 6) E hfm3.1 in_Forms rfl 5 (by decide) w_277 rfl rfl d_Forms_write_181 ?_
        refine lv_iconst (v := nI 0) hx hb d_Forms_write_184 (by decide) ?_
        refine q_cS (rest := []) E (v_Forms_writeCoordinate l g n0 rw ce 48 r4 (nI 0) (by decide) hnr hnc (hn1 _ (hfm3.2.2.2.2.2).1).2.1 (hn1 _ (hfm3.2.2.2.2.2).1).2.2) w_747 w_13 w_745 w_746 hd_Forms_writeCoordinate rfl ⟨by decide, by decide⟩ (⟨hrw, ⟨(hn1 _ (hfm3.2.2.2.2.2).1).1, (hfm3.2.2.2.2.2).2⟩⟩) hF hl.1 rfl (Nat.le_of_ble_eq_true rfl) d_Forms_write_185 ⟨by decide, by decide⟩ (qv (fun H4 locs hq hF => ?_))
        obtain ⟨hf4, hrw⟩ := hq
        exact q_vret E hr hlk (⟨rfl, _, _, 96, hf1, hk, hf3.tr hf4, wb_0 h5, hrw⟩) hF d_Forms_write_188
    refine lv_aload_n hx hb d_Forms_write_16 rfl (lv_at hl 3 rfl) ?_
    refine q_cV (rest := []) E ((v_Point_isNothing l g n1 t t1 t2 t3).up (fun q h => (hn1 q h).1)) w_728 w_2 w_742 w_726 w_727 hd_Point_isNothing rfl ⟨by decide, by decide⟩ (OB.recv E.2.2.2.2.2 (by rfl) ((hk.pt hK h_t).1)) (hk.pt hK h_t) hF hl.1 rfl (Nat.le_of_ble_eq_true rfl) d_Forms_write_17 ⟨by decide, by decide⟩ (qi (fun rz1 H2 locs hq hF => ?_))
    obtain ⟨hbrz1, hq⟩ := hq
    have hq := hq.symm
    subst hq
    refine lv_if_eq (tgt := 64) hx hb d_Forms_write_20 (by decide) (fun h3 => ?_) (fun h3 => ?_)
    · skip
      refine lv_aload_n hx hb d_Forms_write_64 rfl (lv_at hl 1 rfl) ?_
      refine q_get (C := "KateDesk$Forms") (T := T_Forms) (N := 6) (ci := 6) E ((hk.fmx hK hfm).1) in_Forms rfl 0 (by decide) w_272 rfl rfl d_Forms_write_65 ?_
      refine lv_aload_n hx hb d_Forms_write_68 rfl (lv_at hl 1 rfl) ?_
      refine q_get (C := "KateDesk$Forms") (T := T_Forms) (N := 6) (ci := 6) E ((hk.fmx hK hfm).1) in_Forms rfl 3 (by decide) w_275 rfl rfl d_Forms_write_69 ?_
      refine lv_aload_n hx hb d_Forms_write_72 rfl (lv_at hl 3 rfl) ?_
      refine q_get (C := "KateDesk$Point") (T := T_Point) (N := 3) (ci := 2) E ((hk.pt hK h_t).1) in_Point rfl 2 (by decide) w_55 rfl rfl d_Forms_write_73 ?_
      refine q_cV (rest := []) E ((v_Field_invert l g n1 fi r2 t3 F mi).up (fun q h => (hn1 q h).1)) w_570 w_4 w_744 w_568 w_569 hd_Field_invert rfl ⟨by decide, by decide⟩ (OB.recv E.2.2.2.2.2 (by rfl) (((hk.fmx hK hfm).2.1.2.1).1)) (⟨(hk.fmx hK hfm).2.1.2.1, ((hk.fmx hK hfm).2.2.2.1), ((hk.pt hK h_t).2.2.2)⟩) hF hl.1 rfl (Nat.le_of_ble_eq_true rfl) d_Forms_write_76 ⟨by decide, by decide⟩ (qv (fun H3 locs hq hF => ?_))
      have hk := hk.tr (hq.w2 (((hk.fmx hK hfm).2.2.2.1)).1 ((hk.fmx hK hfm).2.1.2.1.2 5 (by decide)).1)
      refine lv_aload_n hx hb d_Forms_write_79 rfl (lv_at hl 1 rfl) ?_
      refine q_get (C := "KateDesk$Forms") (T := T_Forms) (N := 6) (ci := 6) E ((hk.fmx hK hfm).1) in_Forms rfl 0 (by decide) w_272 rfl rfl d_Forms_write_80 ?_
      refine lv_aload_n hx hb d_Forms_write_83 rfl (lv_at hl 1 rfl) ?_
      refine q_get (C := "KateDesk$Forms") (T := T_Forms) (N := 6) (ci := 6) E ((hk.fmx hK hfm).1) in_Forms rfl 5 (by decide) w_277 rfl rfl d_Forms_write_84 ?_
      refine lv_aload_n hx hb d_Forms_write_87 rfl (lv_at hl 3 rfl) ?_
      refine q_get (C := "KateDesk$Point") (T := T_Point) (N := 3) (ci := 2) E ((hk.pt hK h_t).1) in_Point rfl 1 (by decide) w_51 rfl rfl d_Forms_write_88 ?_
      refine lv_aload_n hx hb d_Forms_write_91 rfl (lv_at hl 1 rfl) ?_
      refine q_get (C := "KateDesk$Forms") (T := T_Forms) (N := 6) (ci := 6) E ((hk.fmx hK hfm).1) in_Forms rfl 3 (by decide) w_275 rfl rfl d_Forms_write_92 ?_
      refine q_cV (rest := []) E ((c_Field_multiply l g n1 fi r4 t2 r2 F mi).up (fun q h => (hn1 q h).1)) w_165 w_4 w_666 w_163 w_164 hd_Field_multiply rfl ⟨by decide, by decide⟩ (OB.recv E.2.2.2.2.2 (by rfl) (((hk.fmx hK hfm).2.1.2.1).1)) (⟨(hk.fmx hK hfm).2.1.2.1, ((hk.fmx hK hfm).2.2.2.2.2), ((hk.pt hK h_t).2.2.1), ((hk.fmx hK hfm).2.2.2.1)⟩) hF hl.1 rfl (Nat.le_of_ble_eq_true rfl) d_Forms_write_95 ⟨by decide, by decide⟩ (qv (fun H4 locs hq hF => ?_))
      have hk := hk.tr (hq.w1 (((hk.fmx hK hfm).2.2.2.2.2)).1)
      refine lv_aload_n hx hb d_Forms_write_98 rfl (lv_at hl 1 rfl) ?_
      refine q_get (C := "KateDesk$Forms") (T := T_Forms) (N := 6) (ci := 6) E ((hk.fmx hK hfm).1) in_Forms rfl 0 (by decide) w_272 rfl rfl d_Forms_write_99 ?_
      refine lv_aload_n hx hb d_Forms_write_102 rfl (lv_at hl 1 rfl) ?_
      refine q_get (C := "KateDesk$Forms") (T := T_Forms) (N := 6) (ci := 6) E ((hk.fmx hK hfm).1) in_Forms rfl 5 (by decide) w_277 rfl rfl d_Forms_write_103 ?_
      refine lv_aload_n hx hb d_Forms_write_106 rfl (lv_at hl 1 rfl) ?_
      refine q_get (C := "KateDesk$Forms") (T := T_Forms) (N := 6) (ci := 6) E ((hk.fmx hK hfm).1) in_Forms rfl 5 (by decide) w_277 rfl rfl d_Forms_write_107 ?_
      refine q_cV (rest := []) E ((c_Field_lower l g n1 fi r4 r4 F mi).up (fun q h => (hn1 q h).1)) w_589 w_4 w_659 w_587 w_588 hd_Field_lower rfl ⟨by decide, by decide⟩ (OB.recv E.2.2.2.2.2 (by rfl) (((hk.fmx hK hfm).2.1.2.1).1)) (⟨(hk.fmx hK hfm).2.1.2.1, ((hk.fmx hK hfm).2.2.2.2.2), ((hk.fmx hK hfm).2.2.2.2.2)⟩) hF hl.1 rfl (Nat.le_of_ble_eq_true rfl) d_Forms_write_110 ⟨by decide, by decide⟩ (qv (fun H5 locs hq hF => ?_))
      have hk := hk.tr (hq.w1 (((hk.fmx hK hfm).2.2.2.2.2)).1)
      refine lv_iload_n hx hb d_Forms_write_113 rfl (lv_at hl 4 rfl) ?_
      refine lv_if_eq (tgt := 131) hx hb d_Forms_write_114 (by decide) (fun _ => ?_) (fun _ => ?_)
      · skip
        have hl : lv_has ls 6 [(4, .int mk), (0, .ref o), (1, .ref rw), (2, .ref t), (3, .int sh)] := lv_sub hl [0, 1, 2, 3, 4] rfl
        exact sB _ _ _ ls hk hF hl
      · skip
        refine lv_aload_n hx hb d_Forms_write_117 rfl (lv_at hl 1 rfl) ?_
        refine lv_aload_n hx hb d_Forms_write_118 rfl (lv_at hl 1 rfl) ?_
        refine q_get (C := "KateDesk$Forms") (T := T_Forms) (N := 6) (ci := 6) E ((hk.fmx hK hfm).1) in_Forms rfl 5 (by decide) w_277 rfl rfl d_Forms_write_119 ?_
        refine q_cV (rest := []) E ((v_Forms_isGreater l g n1 o cu fi F mi X r1 r2 r3 r4 r4).up (fun q h => (hn1 q h).1)) w_663 w_13 w_660 w_662 (bw_s 6 rfl) hd_Forms_isGreater rfl ⟨by decide, by decide⟩ (OB.recv E.2.2.2.2.2 (by rfl) ((hk.fmx hK hfm).1)) (⟨(hk.fmx hK hfm), ((hk.fmx hK hfm).2.2.2.2.2)⟩) hF hl.1 rfl (Nat.le_of_ble_eq_true rfl) d_Forms_write_122 ⟨by decide, by decide⟩ (qi (fun rz2 H6 locs hq hF => ?_))
        obtain ⟨hbrz2, hq⟩ := hq
        have hk := hk.tr hq
        refine lv_if_eq (tgt := 131) hx hb d_Forms_write_125 (by decide) (fun _ => ?_) (fun _ => ?_)
        · skip
          have hl : lv_has ls 6 [(4, .int mk), (0, .ref o), (1, .ref rw), (2, .ref t), (3, .int sh)] := lv_sub hl [0, 1, 2, 3, 4] rfl
          exact sB _ _ _ ls hk hF hl
        · skip
          refine lv_iinc (k := 0) (v := mk + Int32.ofInt 1) (lv' := [(4, .int (mk + Int32.ofInt 1)), (0, .ref o), (1, .ref rw), (2, .ref t), (3, .int sh)]) hx hb d_Forms_write_128 hl rfl (rfl) (by decide) rfl (fun ls hl => ?_)
          have hl : lv_has ls 6 [(4, .int (mk + Int32.ofInt 1)), (0, .ref o), (1, .ref rw), (2, .ref t), (3, .int sh)] := lv_sub hl [0, 1, 2, 3, 4] rfl
          exact sB _ _ _ ls hk hF hl
    · skip
      have hf3 : FRM (fun q => q = rw ∨ q = ce) H1 H1 := FRM.rf
      refine lv_aload_n hx hb d_Forms_write_23 rfl (lv_at hl 2 rfl) ?_
      refine lv_iload hx hb d_Forms_write_24 (lv_at hl 0 rfl) ?_
      refine lv_iconst (v := nI 2) hx hb d_Forms_write_26 (by decide) ?_
      refine lv_iadd hx hb d_Forms_write_27 ?_
      refine lv_iconst (v := nI 5) hx hb d_Forms_write_28 (by decide) ?_
      refine lv_ishl hx hb d_Forms_write_29 ?_
      refine lv_topi (fun v2 _ => ?_)
      refine q_cV (rest := []) E (c_Row_append l g n0 rw ce 0 v2 (by decide)) w_484 w_3 w_743 w_482 w_483 hd_Row_append rfl ⟨by decide, by decide⟩ (OB.recv E.2.2.2.2.2 (by rfl) hrw.1) (⟨hrw.1, hrw.2, hnr, hnc⟩) hF hl.1 rfl (Nat.le_of_ble_eq_true rfl) d_Forms_write_30 ⟨by decide, by decide⟩ (qv (fun H3 locs hq hF => ?_))
      obtain ⟨hf9, ho9, hb9⟩ := hq
      have hf3 := hf3.tr hf9
      have hrw : RW9 g H3 rw ce (0 + 1) := ⟨ho9, hb9⟩
      clear hf9 ho9 hb9
      refine lv_iconst (v := nI 1) hx hb d_Forms_write_33 (by decide) ?_
      refine lv_istore (lv' := [(5, .int (nI 1)), (4, .int mk), (0, .ref o), (1, .ref rw), (2, .ref t), (3, .int sh)]) hx hb d_Forms_write_34 hl (by decide) rfl (fun ls hl => ?_)
      have hl : lv_has ls 6 [(5, .int (nI 1)), (0, .ref o), (1, .ref rw), (2, .ref t), (3, .int sh)] := lv_sub hl [0, 2, 3, 4, 5] rfl
      by_cases hs0 : sh = 0
      · skip
        have lp : ∀ (k : Nat) (i : Nat) (H : Heap) (locs : List Loc) (ls : Array Slot), i + k = 96 → FRM (fun q => q = rw ∨ q = ce) H1 H → RW9 g H rw ce i → (∀ q ∈ locs, n0 q.base) → lv_has ls 6 [(5, .int (nI i)), (0, .ref o), (1, .ref rw), (2, .ref t), (3, .int sh)] → W p l e { frames := 4, cells := 0, slots := 0, locals := 182 } s m [.ref o, .ref rw, .ref t, .int sh].toArray below meth c H locs 0 0 (MQ below (QcP (QV (fun H H' => ∃ H1 H2 w9, FRM (fun q => q = rw ∨ q = ce) H H1 ∧ KJ g (fun q => n1 q) H1 H2 ∧ FRM (fun q => q = rw ∨ q = ce) H2 H' ∧ w9 = wbN sh ∧ RW9 g H' rw ce w9))) [.ref o, .ref rw, .ref t, .int sh].toArray s 0 0 (fun q => n0 q)) (F0 m 36 ls []) := by
          intro k
          induction k with
          | zero =>
            intro  i   H   locs   ls hi hf3 hrw hF hl
            obtain rfl : i = 96 := by omega
            refine lv_iload hx hb d_Forms_write_36 (lv_at hl 0 rfl) ?_
            refine lv_iload_n hx hb d_Forms_write_38 rfl (lv_at hl 4 rfl) ?_
            refine lv_if_eq (tgt := 47) hx hb d_Forms_write_39 (by decide) (fun _ => ?_) (fun h9 => absurd (hs0) h9)
            refine lv_bipush (v := nI 96) hx hb d_Forms_write_47 (by decide) ?_
            refine lv_icmp_ge (tgt := 63) hx hb d_Forms_write_49 (by decide) (fun _ => ?_) (fun h9 => absurd (by decide) h9)
            exact q_vret E hr hlk (⟨rfl, _, _, 96, hf1, KJ.rf, hf3, wb_0 hs0, hrw⟩) hF d_Forms_write_63
          | succ k ih =>
            intro  i   H   locs   ls hi hf3 hrw hF hl
            refine lv_iload hx hb d_Forms_write_36 (lv_at hl 0 rfl) ?_
            refine lv_iload_n hx hb d_Forms_write_38 rfl (lv_at hl 4 rfl) ?_
            refine lv_if_eq (tgt := 47) hx hb d_Forms_write_39 (by decide) (fun _ => ?_) (fun h9 => absurd (hs0) h9)
            refine lv_bipush (v := nI 96) hx hb d_Forms_write_47 (by decide) ?_
            refine lv_icmp_ge (tgt := 63) hx hb d_Forms_write_49 (by decide) (fun h9 => absurd h9 (nI_ge (by omega) (by decide))) (fun _ => ?_)
            refine lv_aload_n hx hb d_Forms_write_52 rfl (lv_at hl 2 rfl) ?_
            refine lv_iconst (v := nI 0) hx hb d_Forms_write_53 (by decide) ?_
            refine q_cV (rest := []) E (c_Row_append l g n0 rw ce i (nI 0) (by omega)) w_484 w_3 w_743 w_482 w_483 hd_Row_append rfl ⟨by decide, by decide⟩ (OB.recv E.2.2.2.2.2 (by rfl) hrw.1) (⟨hrw.1, hrw.2, hnr, hnc⟩) hF hl.1 rfl (Nat.le_of_ble_eq_true rfl) d_Forms_write_54 ⟨by decide, by decide⟩ (qv (fun H1 locs hq hF => ?_))
            obtain ⟨hf9, ho9, hb9⟩ := hq
            have hf3 := hf3.tr hf9
            have hrw : RW9 g H1 rw ce (i + 1) := ⟨ho9, hb9⟩
            clear hf9 ho9 hb9
            refine lv_iinc (k := 0) (v := nI (i + 1)) (lv' := [(5, .int (nI (i + 1))), (0, .ref o), (1, .ref rw), (2, .ref t), (3, .int sh)]) hx hb d_Forms_write_57 hl rfl (i_inc i) (by decide) rfl (fun ls hl => ?_)
            refine lv_goto (tgt := 36) hx hb d_Forms_write_60 (by decide) ?_
            have hl : lv_has ls 6 [(5, .int (nI (i + 1))), (0, .ref o), (1, .ref rw), (2, .ref t), (3, .int sh)] := lv_sub hl [0, 1, 2, 3, 4] rfl
            exact ih (i + 1) _ _ ls (by omega) hf3 hrw hF hl
        exact lp 95 1 _ _ ls (by omega) hf3 hrw hF hl
      · skip
        have lp : ∀ (k : Nat) (i : Nat) (H : Heap) (locs : List Loc) (ls : Array Slot), i + k = 48 → FRM (fun q => q = rw ∨ q = ce) H1 H → RW9 g H rw ce i → (∀ q ∈ locs, n0 q.base) → lv_has ls 6 [(5, .int (nI i)), (0, .ref o), (1, .ref rw), (2, .ref t), (3, .int sh)] → W p l e { frames := 4, cells := 0, slots := 0, locals := 182 } s m [.ref o, .ref rw, .ref t, .int sh].toArray below meth c H locs 0 0 (MQ below (QcP (QV (fun H H' => ∃ H1 H2 w9, FRM (fun q => q = rw ∨ q = ce) H H1 ∧ KJ g (fun q => n1 q) H1 H2 ∧ FRM (fun q => q = rw ∨ q = ce) H2 H' ∧ w9 = wbN sh ∧ RW9 g H' rw ce w9))) [.ref o, .ref rw, .ref t, .int sh].toArray s 0 0 (fun q => n0 q)) (F0 m 36 ls []) := by
          intro k
          induction k with
          | zero =>
            intro  i   H   locs   ls hi hf3 hrw hF hl
            obtain rfl : i = 48 := by omega
            refine lv_iload hx hb d_Forms_write_36 (lv_at hl 0 rfl) ?_
            refine lv_iload_n hx hb d_Forms_write_38 rfl (lv_at hl 4 rfl) ?_
            refine lv_if_eq (tgt := 47) hx hb d_Forms_write_39 (by decide) (fun h9 => absurd h9 (hs0)) (fun _ => ?_)
            refine lv_bipush (v := nI 48) hx hb d_Forms_write_42 (by decide) ?_
            refine lv_goto (tgt := 49) hx hb d_Forms_write_44 (by decide) ?_
            refine lv_icmp_ge (tgt := 63) hx hb d_Forms_write_49 (by decide) (fun _ => ?_) (fun h9 => absurd (by decide) h9)
            exact q_vret E hr hlk (⟨rfl, _, _, 48, hf1, KJ.rf, hf3, wb_1 hs0, hrw⟩) hF d_Forms_write_63
          | succ k ih =>
            intro  i   H   locs   ls hi hf3 hrw hF hl
            refine lv_iload hx hb d_Forms_write_36 (lv_at hl 0 rfl) ?_
            refine lv_iload_n hx hb d_Forms_write_38 rfl (lv_at hl 4 rfl) ?_
            refine lv_if_eq (tgt := 47) hx hb d_Forms_write_39 (by decide) (fun h9 => absurd h9 (hs0)) (fun _ => ?_)
            refine lv_bipush (v := nI 48) hx hb d_Forms_write_42 (by decide) ?_
            refine lv_goto (tgt := 49) hx hb d_Forms_write_44 (by decide) ?_
            refine lv_icmp_ge (tgt := 63) hx hb d_Forms_write_49 (by decide) (fun h9 => absurd h9 (nI_ge (by omega) (by decide))) (fun _ => ?_)
            refine lv_aload_n hx hb d_Forms_write_52 rfl (lv_at hl 2 rfl) ?_
            refine lv_iconst (v := nI 0) hx hb d_Forms_write_53 (by decide) ?_
            refine q_cV (rest := []) E (c_Row_append l g n0 rw ce i (nI 0) (by omega)) w_484 w_3 w_743 w_482 w_483 hd_Row_append rfl ⟨by decide, by decide⟩ (OB.recv E.2.2.2.2.2 (by rfl) hrw.1) (⟨hrw.1, hrw.2, hnr, hnc⟩) hF hl.1 rfl (Nat.le_of_ble_eq_true rfl) d_Forms_write_54 ⟨by decide, by decide⟩ (qv (fun H1 locs hq hF => ?_))
            obtain ⟨hf9, ho9, hb9⟩ := hq
            have hf3 := hf3.tr hf9
            have hrw : RW9 g H1 rw ce (i + 1) := ⟨ho9, hb9⟩
            clear hf9 ho9 hb9
            refine lv_iinc (k := 0) (v := nI (i + 1)) (lv' := [(5, .int (nI (i + 1))), (0, .ref o), (1, .ref rw), (2, .ref t), (3, .int sh)]) hx hb d_Forms_write_57 hl rfl (i_inc i) (by decide) rfl (fun ls hl => ?_)
            refine lv_goto (tgt := 36) hx hb d_Forms_write_60 (by decide) ?_
            have hl : lv_has ls 6 [(5, .int (nI (i + 1))), (0, .ref o), (1, .ref rw), (2, .ref t), (3, .int sh)] := lv_sub hl [0, 1, 2, 3, 4] rfl
            exact ih (i + 1) _ _ ls (by omega) hf3 hrw hF hl
        exact lp 47 1 _ _ ls (by omega) hf3 hrw hF hl
  refine lv_iload_n hx hb d_Forms_write_0 rfl (lv_at hl 3 rfl) ?_
  refine lv_if_eq (tgt := 8) hx hb d_Forms_write_1 (by decide) (fun _ => ?_) (fun _ => ?_)
  · skip
    refine lv_iconst (v := nI 0) hx hb d_Forms_write_8 (by decide) ?_
    refine lv_istore (lv' := [(4, .int (nI 0)), (0, .ref o), (1, .ref rw), (2, .ref t), (3, .int sh)]) hx hb d_Forms_write_9 hl (by decide) rfl (fun ls hl => ?_)
    have hl : lv_has ls 6 [(4, .int (nI 0)), (0, .ref o), (1, .ref rw), (2, .ref t), (3, .int sh)] := lv_sub hl [0, 1, 2, 3, 4] rfl
    exact sA _ ls hl
  · skip
    refine lv_iconst (v := nI 4) hx hb d_Forms_write_4 (by decide) ?_
    refine lv_goto (tgt := 9) hx hb d_Forms_write_5 (by decide) ?_
    refine lv_istore (lv' := [(4, .int (nI 4)), (0, .ref o), (1, .ref rw), (2, .ref t), (3, .int sh)]) hx hb d_Forms_write_9 hl (by decide) rfl (fun ls hl => ?_)
    have hl : lv_has ls 6 [(4, .int (nI 4)), (0, .ref o), (1, .ref rw), (2, .ref t), (3, .int sh)] := lv_sub hl [0, 1, 2, 3, 4] rfl
    exact sA _ ls hl
set_option maxHeartbeats 4000000 in
set_option maxRecDepth 100000 in
theorem X_Desk_bytes (l : Launch) (g : WG) (b pn tn wn : Nat) (mr mq : Int64) (a : Nat) (sh : Int32) (ha : a < 12) : Ctr l y_Desk_bytes (.code y_Desk_bytes prog_1_method_10_code 3 none) 5 207 0 0 (nD b) g [.ref b, .int (nI a), .int sh] (fun H => DS g H H b pn tn wn mr mq) (QV (fun H H' => DS g H H' b pn tn (wbN sh) mr mq)) := by
  refine ctr_mk l (lv0 := [(0, .ref b), (1, .int (nI a)), (2, .int sh)]) (by decide) (Nat.le_of_ble_eq_true rfl) rfl ?_
  intro p e s m below meth c ls E hr hlk hnm hl hP
  have hx := E.1
  have hb := E.2.1
  have hK := E.2.2.2.2.2
  have hF : ∀ q ∈ ([] : List Loc), nD b q.base := fun q hq => absurd hq List.not_mem_nil
  have hd := hP
  refine lv_iload_n hx hb d_Desk_bytes_0 rfl (lv_at hl 1 rfl) ?_
  refine lv_iconst (v := nI 1) hx hb d_Desk_bytes_1 (by decide) ?_
  refine q_cS (rest := []) E (c_Desk_needPoints l g (nD b) (nI a) (nI 1) (okP_of (by decide) ha)) w_622 w_1 w_620 w_621 hd_Desk_needPoints rfl ⟨by decide, by decide⟩ trivial hF hl.1 rfl (Nat.le_of_ble_eq_true rfl) d_Desk_bytes_2 ⟨by decide, by decide⟩ (qv (fun H1 locs hq hF => ?_))
  have hq := hq.symm
  subst hq
  refine lv_aload_n hx hb d_Desk_bytes_5 rfl (lv_at hl 0 rfl) ?_
  refine q_get (C := "KateDesk") (T := T_Desk) (N := 16) (ci := 5) E hd.x.ob in_Desk rfl 3 (by decide) w_342 rfl rfl d_Desk_bytes_6 ?_
  refine lv_aload_n hx hb d_Desk_bytes_9 rfl (lv_at hl 0 rfl) ?_
  refine q_get (C := "KateDesk") (T := T_Desk) (N := 16) (ci := 5) E hd.x.ob in_Desk rfl 10 (by decide) w_349 rfl rfl d_Desk_bytes_10 ?_
  refine lv_aload_n hx hb d_Desk_bytes_13 rfl (lv_at hl 0 rfl) ?_
  refine q_get (C := "KateDesk") (T := T_Desk) (N := 16) (ci := 5) E hd.x.ob in_Desk rfl 6 (by decide) w_345 rfl rfl d_Desk_bytes_14 ?_
  refine lv_iload_n hx hb d_Desk_bytes_17 rfl (lv_at hl 1 rfl) ?_
  refine q_aald (t := 3) E rfl rfl hd.x.pa a rfl ha (by decide) d_Desk_bytes_18 ?_
  refine lv_iload_n hx hb d_Desk_bytes_19 rfl (lv_at hl 2 rfl) ?_
  refine q_cV (rest := []) E (x_Forms_write l g (nD b) (b + 465) (b + 176) (b + 169) (kFq b) mq (kX b) (b + 466) (b + 467) (b + 468) (b + 469) (nJ b) (kPA b a) (kPA1 b a) (kPA2 b a) (kPA3 b a) (b + 150) (b + 151) wn sh (nd_148 (by decide)) (nd_148 (by decide)) ds_w1 ⟨by omega, by omega⟩ ⟨by omega, by omega⟩ ⟨by omega, by omega⟩ (pa_150 ha) (by omega)) w_741 w_13 w_738 w_739 w_740 hd_Forms_write rfl ⟨by decide, by decide⟩ (OB.recv E.2.2.2.2.2 (by rfl) hd.x.fm.1) (⟨hd.x.fm, (hd.x.pt a ha), hd.wr⟩) hF hl.1 rfl (Nat.le_of_ble_eq_true rfl) d_Desk_bytes_20 ⟨by decide, by decide⟩ (qv (fun H2 locs hq hF => ?_))
  obtain ⟨_, _, w9, f1, k2, f3, rfl, hrw⟩ := hq
  have hd := hd.wchain hK f1 k2 f3 hrw (wb_le _)
  exact q_vret E hr hlk (⟨rfl, hd⟩) hF d_Desk_bytes_23
set_option maxHeartbeats 4000000 in
set_option maxRecDepth 100000 in
theorem X_Model_bytes (l : Launch) (g : WG) (n0 : Nat → Prop) (mo : Nat) (th : Int32) (pn tn wn : Nat) (a : Int32) (sh : Int32) : Ctr l y_Model_bytes (.code y_Model_bytes prog_11_method_47_code 6 none) 5 125 0 0 n0 g [.ref mo, .int a, .int sh] (fun H => MP g n0 H mo th pn tn wn) (QV (fun H H' => ((okP a (nI 1)) ∧ MP g n0 H' mo 0 pn tn (wbN sh)) ∨ (¬ (okP a (nI 1)) ∧ MP g n0 H' mo 1 pn tn wn))) := by
  refine ctr_mk l (lv0 := [(0, .ref mo), (1, .int a), (2, .int sh)]) (by decide) (Nat.le_of_ble_eq_true rfl) rfl ?_
  intro p e s m below meth c ls E hr hlk hnm hl hP
  have hx := E.1
  have hb := E.2.1
  have hK := E.2.2.2.2.2
  have hF : ∀ q ∈ ([] : List Loc), n0 q.base := fun q hq => absurd hq List.not_mem_nil
  obtain ⟨⟨w9, n9, fd, hw9, hm⟩, -⟩ := id hP
  have hmn := hP.mn
  have hbd := hP.2.2.2.2.1
  have hfr : FRM (MR mo) s.heap s.heap := FRM.rf
  have bad : ∀ (locs : List Loc) (ls : Array Slot), ¬ (okP a (nI 1)) → (∀ q ∈ locs, n0 q.base) → lv_has ls 6 [(0, .ref mo), (1, .int a), (2, .int sh)] → W p l e { frames := 5, cells := 0, slots := 0, locals := 125 } s m [.ref mo, .int a, .int sh].toArray below meth c s.heap locs 0 0 (MQ below (QcP (QV (fun H H' => ((okP a (nI 1)) ∧ MP g n0 H' mo 0 pn tn (wbN sh)) ∨ (¬ (okP a (nI 1)) ∧ MP g n0 H' mo 1 pn tn wn)))) [.ref mo, .int a, .int sh].toArray s 0 0 (fun q => n0 q)) (F0 m 5 ls [.int (nI 1), .ref mo]) := by
    intro  locs   ls hno hF hl
    refine lv_iconst (v := nI 1) hx hb d_Model_bytes_5 (by decide) ?_
    refine q_cV (rest := []) E (c_Model_fails l g n0 mo th (nI pn) (nI tn) (nI wn) w9 n9 hw9 (nI 1) (nI 1) fd hmn (Or.inl rfl)) w_1056 w_15 w_1053 w_1055 (bw_s 24 rfl) hd_Model_fails rfl ⟨by decide, by decide⟩ (OB.recv E.2.2.2.2.2 (by rfl) hm.1) hm hF hl.1 rfl (Nat.le_of_ble_eq_true rfl) d_Model_bytes_6 ⟨by decide, by decide⟩ (qi (fun rf H1 locs hq hF => ?_))
    obtain ⟨hrf, hq, hm⟩ := hq
    subst hrf
    have hfr := hfr.tr hq
    rw [if_neg (by decide)] at hm
    refine lv_if_eq (tgt := 13) hx hb d_Model_bytes_9 (by decide) (fun h9 => absurd h9 (by decide)) (fun _ => ?_)
    exact q_vret E hr hlk (⟨rfl, Or.inr ⟨hno, hP.keep hfr hw9 hm⟩⟩) hF d_Model_bytes_12
  have good : ∀ (locs : List Loc) (ls : Array Slot), okP a (nI 1) → (∀ q ∈ locs, n0 q.base) → lv_has ls 6 [(0, .ref mo), (1, .int a), (2, .int sh)] → W p l e { frames := 5, cells := 0, slots := 0, locals := 125 } s m [.ref mo, .int a, .int sh].toArray below meth c s.heap locs 0 0 (MQ below (QcP (QV (fun H H' => ((okP a (nI 1)) ∧ MP g n0 H' mo 0 pn tn (wbN sh)) ∨ (¬ (okP a (nI 1)) ∧ MP g n0 H' mo 1 pn tn wn)))) [.ref mo, .int a, .int sh].toArray s 0 0 (fun q => n0 q)) (F0 m 5 ls [.int (nI 0), .ref mo]) := by
    intro  locs   ls hok hF hl
    refine lv_iconst (v := nI 1) hx hb d_Model_bytes_5 (by decide) ?_
    refine q_cV (rest := []) E (c_Model_fails l g n0 mo th (nI pn) (nI tn) (nI wn) w9 n9 hw9 (nI 0) (nI 1) fd hmn (Or.inr rfl)) w_1056 w_15 w_1053 w_1055 (bw_s 24 rfl) hd_Model_fails rfl ⟨by decide, by decide⟩ (OB.recv E.2.2.2.2.2 (by rfl) hm.1) hm hF hl.1 rfl (Nat.le_of_ble_eq_true rfl) d_Model_bytes_6 ⟨by decide, by decide⟩ (qi (fun rf H1 locs hq hF => ?_))
    obtain ⟨hrf, hq, hm⟩ := hq
    subst hrf
    have hfr := hfr.tr hq
    rw [if_pos nI_0] at hm
    refine lv_if_eq (tgt := 13) hx hb d_Model_bytes_9 (by decide) (fun _ => ?_) (fun h9 => absurd (by decide) h9)
    obtain ⟨k1, e_k1, h_k1⟩ := okP_nat (by decide) (by decide) hok
    rw [e_k1] at hl
    refine lv_aload_n hx hb d_Model_bytes_13 rfl (lv_at hl 0 rfl) ?_
    refine lv_iconst (v := nI 0) hx hb d_Model_bytes_14 (by decide) ?_
    refine q_cV (rest := []) E (c_Model_use l g n0 mo 0 (nI pn) (nI tn) (nI wn) w9 n9 hw9 0 14 hw0 fd hmn) w_967 w_15 w_964 w_966 (bw_s 15 rfl) hd_Model_use rfl ⟨by decide, by decide⟩ (OB.recv E.2.2.2.2.2 (by rfl) hm.1) hm hF hl.1 rfl (Nat.le_of_ble_eq_true rfl) d_Model_bytes_15 ⟨by decide, by decide⟩ (qv (fun H2 locs hq hF => ?_))
    obtain ⟨hq, hm⟩ := hq
    have hfr := hfr.tr hq
    refine lv_iload_n hx hb d_Model_bytes_18 rfl (lv_at hl 1 rfl) ?_
    refine q_cS (rest := []) E (c_Model_slot l g n0 (nI k1)) w_1154 w_15 w_1152 w_1153 hd_Model_slot rfl ⟨by decide, by decide⟩ trivial hF hl.1 rfl (Nat.le_of_ble_eq_true rfl) d_Model_bytes_19 ⟨by decide, by decide⟩ (qi (fun rs H3 locs hq hF => ?_))
    obtain ⟨hrs, hq9⟩ := hq
    subst hrs
    subst hq9
    refine lv_topi (fun t9 e9 => ?_)
    obtain rfl : t9 = nI (32 + 3 * k1) := e9.trans (by rw [pk_mul, nI_add])
    refine lv_istore_n (lv' := [(3, .int (nI (32 + 3 * k1))), (0, .ref mo), (1, .int (nI k1)), (2, .int sh)]) hx hb d_Model_bytes_22 rfl hl (by decide) rfl (fun ls hl => ?_)
    refine lv_aload_n hx hb d_Model_bytes_23 rfl (lv_at hl 1 rfl) ?_
    refine lv_iload_n hx hb d_Model_bytes_24 rfl (lv_at hl 0 rfl) ?_
    refine lv_iconst (v := nI 2) hx hb d_Model_bytes_25 (by decide) ?_
    refine lv_iadd hx hb d_Model_bytes_26 ?_
    refine lv_topi (fun t9 e9 => ?_)
    obtain rfl : t9 = nI ((32 + 3 * k1) + 2) := e9.trans (nI_add _ _)
    refine q_cV (rest := []) E (c_Model_isZero l g n0 mo ((32 + 3 * k1) + 2) 0 (nI pn) (nI tn) (nI wn) 0 14 hw0 fd (by omega)) w_1105 w_15 w_1102 w_1104 (bw_s 30 rfl) hd_Model_isZero rfl ⟨by decide, by decide⟩ (OB.recv E.2.2.2.2.2 (by rfl) hm.1) hm hF hl.1 rfl (Nat.le_of_ble_eq_true rfl) d_Model_bytes_27 ⟨by decide, by decide⟩ (qi (fun rz1 H4 locs hq hF => ?_))
    obtain ⟨hbrz1, hq⟩ := hq
    subst hq
    have hn7 := hP.2.2.2.2.2.2.2.1
    have tail : ∀ (NN : Nat) (H : Heap) (locs : List Loc) (ls : Array Slot) (fd1 : Nat → Int64) (x5 : Int32), MS g n0 H mo 0 (nI pn) (nI tn) (nI NN) 0 14 fd1 → (∃ f, AI g H (mo + 7) 96 f) → (NN ≤ 96 ∧ NN = wbN sh) → FRM (fun q => MR mo q ∨ q = mo + 7) s.heap H → (∀ q ∈ locs, n0 q.base) → lv_has ls 6 [(5, .int x5), (0, .ref mo)] → W p l e { frames := 5, cells := 0, slots := 0, locals := 125 } s m [.ref mo, .int a, .int sh].toArray below meth c H locs 0 0 (MQ below (QcP (QV (fun H H' => ((okP a (nI 1)) ∧ MP g n0 H' mo 0 pn tn (wbN sh)) ∨ (¬ (okP a (nI 1)) ∧ MP g n0 H' mo 1 pn tn wn)))) [.ref mo, .int a, .int sh].toArray s 0 0 (fun q => n0 q)) (F0 m 188 ls []) := by
      intro  NN   H   locs   ls   fd1   x5 hm hh hN hfx hF hl
      obtain ⟨hN, hNe⟩ := hN
      have hfr : FRM (MR mo) H H := FRM.rf
      refine lv_aload_n hx hb d_Model_bytes_188 rfl (lv_at hl 1 rfl) ?_
      refine q_get (C := "KateDeskModel") (T := T_Model) (N := 14) (ci := 8) E hm.1 in_Model rfl 11 (by decide) w_1012 rfl rfl d_Model_bytes_189 ?_
      refine lv_iconst (v := nI 0) hx hb d_Model_bytes_192 (by decide) ?_
      refine lv_dup2_11 hx hb d_Model_bytes_193 rfl rfl ?_
      obtain ⟨fq, hfq⟩ := id (hh)
      refine q_iald E hfq 0 rfl (by decide) (by decide) d_Model_bytes_194 ?_
      refine lv_bipush (v := nI 32) hx hb d_Model_bytes_195 (by decide) ?_
      refine lv_iload hx hb d_Model_bytes_197 (lv_at hl 0 rfl) ?_
      refine lv_imul hx hb d_Model_bytes_199 ?_
      refine lv_iadd hx hb d_Model_bytes_200 ?_
      obtain ⟨ft, hft⟩ := hh
      refine q_iast E hft hn7 hF 0 rfl (by omega) (by decide) d_Model_bytes_201 (fun H1 locs hq hft2 hF => ?_)
      have hm := hm.frm hq (by omega) (by omega) (by omega) (by omega) (OB.off hq (by omega) hm.1)
      have hfx := (hfx.tr (hfr.mono (fun q h => (Or.inl h : MR mo q ∨ q = mo + 7)))).tr (hq.mono (fun q h => Or.inr h))
      exact q_vret E hr hlk (⟨rfl, Or.inl ⟨hok, (show MP g n0 _ mo 0 pn tn (wbN sh) from hNe ▸ hP.fin7 hfx ⟨_, hft2⟩ hw0 hm ⟨hbd.1, hbd.2.1, hN⟩)⟩⟩) hF d_Model_bytes_202
    have loop : ∀ (k : Nat) (i NN : Nat) (H : Heap) (locs : List Loc) (ls : Array Slot) (fd1 : Nat → Int64) (x4 : Int32), i + k = NN → MS g n0 H mo 0 (nI pn) (nI tn) (nI NN) 0 14 fd1 → (∃ f, AI g H (mo + 7) 96 f) → (NN ≤ 96 ∧ NN = wbN sh) → FRM (fun q => MR mo q ∨ q = mo + 7) s.heap H → (∀ q ∈ locs, n0 q.base) → lv_has ls 6 [(5, .int (nI i)), (4, .int x4), (0, .ref mo), (2, .int sh)] → W p l e { frames := 5, cells := 0, slots := 0, locals := 125 } s m [.ref mo, .int a, .int sh].toArray below meth c H locs 0 0 (MQ below (QcP (QV (fun H H' => ((okP a (nI 1)) ∧ MP g n0 H' mo 0 pn tn (wbN sh)) ∨ (¬ (okP a (nI 1)) ∧ MP g n0 H' mo 1 pn tn wn)))) [.ref mo, .int a, .int sh].toArray s 0 0 (fun q => n0 q)) (F0 m 84 ls []) := by
      intro k
      induction k with
      | zero =>
        intro  i NN   H   locs   ls   fd1   x4 hi hm hh hN hfx hF hl
        obtain ⟨hN, hNe⟩ := hN
        have hfr : FRM (MR mo) H H := FRM.rf
        obtain rfl : NN = i := by omega
        refine lv_iload hx hb d_Model_bytes_84 (lv_at hl 0 rfl) ?_
        refine lv_aload_n hx hb d_Model_bytes_86 rfl (lv_at hl 2 rfl) ?_
        refine q_get (C := "KateDeskModel") (T := T_Model) (N := 14) (ci := 8) E hm.1 in_Model rfl 12 (by decide) w_1013 rfl rfl d_Model_bytes_87 ?_
        refine lv_icmp_ge (tgt := 143) hx hb d_Model_bytes_90 (by decide) (fun _ => ?_) (fun h9 => absurd (nI_le (Nat.le_refl _) (by omega)) h9)
        refine lv_iload hx hb d_Model_bytes_143 (lv_at hl 1 rfl) ?_
        refine lv_if_eq (tgt := 152) hx hb d_Model_bytes_145 (by decide) (fun _ => ?_) (fun _ => ?_)
        · skip
          refine lv_iconst (v := nI 0) hx hb d_Model_bytes_152 (by decide) ?_
          refine lv_istore (lv' := [(5, .int (nI 0)), (4, .int x4), (0, .ref mo), (2, .int sh)]) hx hb d_Model_bytes_153 hl (by decide) rfl (fun ls hl => ?_)
          refine lv_iload_n hx hb d_Model_bytes_155 rfl (lv_at hl 3 rfl) ?_
          refine lv_if_eq (tgt := 188) hx hb d_Model_bytes_156 (by decide) (fun _ => ?_) (fun _ => ?_)
          · skip
            have hl : lv_has ls 6 [(5, .int (nI 0)), (0, .ref mo)] := lv_sub hl [0, 2] rfl
            exact tail NN _ _ ls _ _ hm (hh.imp (fun f h => AI.off hfr (show ¬ MR mo (mo + 7) by unfold MR; omega) h)) ⟨hN, hNe⟩ (hfx.tr (hfr.mono (fun q h => Or.inl h))) hF hl
          · skip
            refine lv_iload hx hb d_Model_bytes_159 (lv_at hl 0 rfl) ?_
            refine lv_iload hx hb d_Model_bytes_161 (lv_at hl 1 rfl) ?_
            refine lv_if_eq (tgt := 170) hx hb d_Model_bytes_163 (by decide) (fun _ => ?_) (fun _ => ?_)
            · skip
              refine lv_aload_n hx hb d_Model_bytes_170 rfl (lv_at hl 2 rfl) ?_
              refine lv_sipush (v := nI 149) hx hb d_Model_bytes_171 (by decide) ?_
              refine q_cV (rest := [.int (nI 0)]) E (c_Model_isGreat l g n0 mo 149 0 (nI pn) (nI tn) (nI NN) 0 14 hw0 fd1 (by omega)) w_1159 w_15 w_1156 w_1158 (bw_s 38 rfl) hd_Model_isGreat rfl ⟨by decide, by decide⟩ (OB.recv E.2.2.2.2.2 (by rfl) hm.1) hm hF hl.1 rfl (Nat.le_of_ble_eq_true rfl) d_Model_bytes_174 ⟨by decide, by decide⟩ (qi (fun rz1 H1 locs hq hF => ?_))
              obtain ⟨hbrz1, hq, fd_1, hm⟩ := hq
              have hfr := hfr.tr hq
              refine lv_if_eq (tgt := 184) hx hb d_Model_bytes_177 (by decide) (fun _ => ?_) (fun _ => ?_)
              · skip
                refine lv_iconst (v := nI 4) hx hb d_Model_bytes_184 (by decide) ?_
                refine lv_iadd hx hb d_Model_bytes_185 ?_
                refine lv_topi (fun t9 e9 => ?_)
                obtain rfl : t9 = nI (0 + 4) := e9.trans (nI_add _ _)
                refine lv_istore (lv' := [(5, .int (nI (0 + 4))), (4, .int x4), (0, .ref mo), (2, .int sh)]) hx hb d_Model_bytes_186 hl (by decide) rfl (fun ls hl => ?_)
                have hl : lv_has ls 6 [(5, .int (nI (0 + 4))), (0, .ref mo)] := lv_sub hl [0, 2] rfl
                exact tail NN _ _ ls _ _ hm (hh.imp (fun f h => AI.off hfr (show ¬ MR mo (mo + 7) by unfold MR; omega) h)) ⟨hN, hNe⟩ (hfx.tr (hfr.mono (fun q h => Or.inl h))) hF hl
              · skip
                refine lv_iconst (v := nI 5) hx hb d_Model_bytes_180 (by decide) ?_
                refine lv_goto (tgt := 185) hx hb d_Model_bytes_181 (by decide) ?_
                refine lv_iadd hx hb d_Model_bytes_185 ?_
                refine lv_topi (fun t9 e9 => ?_)
                obtain rfl : t9 = nI (0 + 5) := e9.trans (nI_add _ _)
                refine lv_istore (lv' := [(5, .int (nI (0 + 5))), (4, .int x4), (0, .ref mo), (2, .int sh)]) hx hb d_Model_bytes_186 hl (by decide) rfl (fun ls hl => ?_)
                have hl : lv_has ls 6 [(5, .int (nI (0 + 5))), (0, .ref mo)] := lv_sub hl [0, 2] rfl
                exact tail NN _ _ ls _ _ hm (hh.imp (fun f h => AI.off hfr (show ¬ MR mo (mo + 7) by unfold MR; omega) h)) ⟨hN, hNe⟩ (hfx.tr (hfr.mono (fun q h => Or.inl h))) hF hl
            · skip
              refine lv_iconst (v := nI 4) hx hb d_Model_bytes_166 (by decide) ?_
              refine lv_goto (tgt := 185) hx hb d_Model_bytes_167 (by decide) ?_
              refine lv_iadd hx hb d_Model_bytes_185 ?_
              refine lv_topi (fun t9 e9 => ?_)
              obtain rfl : t9 = nI (0 + 4) := e9.trans (nI_add _ _)
              refine lv_istore (lv' := [(5, .int (nI (0 + 4))), (4, .int x4), (0, .ref mo), (2, .int sh)]) hx hb d_Model_bytes_186 hl (by decide) rfl (fun ls hl => ?_)
              have hl : lv_has ls 6 [(5, .int (nI (0 + 4))), (0, .ref mo)] := lv_sub hl [0, 2] rfl
              exact tail NN _ _ ls _ _ hm (hh.imp (fun f h => AI.off hfr (show ¬ MR mo (mo + 7) by unfold MR; omega) h)) ⟨hN, hNe⟩ (hfx.tr (hfr.mono (fun q h => Or.inl h))) hF hl
        · skip
          refine lv_iconst (v := nI 2) hx hb d_Model_bytes_148 (by decide) ?_
          refine lv_goto (tgt := 153) hx hb d_Model_bytes_149 (by decide) ?_
          refine lv_istore (lv' := [(5, .int (nI 2)), (4, .int x4), (0, .ref mo), (2, .int sh)]) hx hb d_Model_bytes_153 hl (by decide) rfl (fun ls hl => ?_)
          refine lv_iload_n hx hb d_Model_bytes_155 rfl (lv_at hl 3 rfl) ?_
          refine lv_if_eq (tgt := 188) hx hb d_Model_bytes_156 (by decide) (fun _ => ?_) (fun _ => ?_)
          · skip
            have hl : lv_has ls 6 [(5, .int (nI 2)), (0, .ref mo)] := lv_sub hl [0, 2] rfl
            exact tail NN _ _ ls _ _ hm (hh.imp (fun f h => AI.off hfr (show ¬ MR mo (mo + 7) by unfold MR; omega) h)) ⟨hN, hNe⟩ (hfx.tr (hfr.mono (fun q h => Or.inl h))) hF hl
          · skip
            refine lv_iload hx hb d_Model_bytes_159 (lv_at hl 0 rfl) ?_
            refine lv_iload hx hb d_Model_bytes_161 (lv_at hl 1 rfl) ?_
            refine lv_if_eq (tgt := 170) hx hb d_Model_bytes_163 (by decide) (fun _ => ?_) (fun _ => ?_)
            · skip
              refine lv_aload_n hx hb d_Model_bytes_170 rfl (lv_at hl 2 rfl) ?_
              refine lv_sipush (v := nI 149) hx hb d_Model_bytes_171 (by decide) ?_
              refine q_cV (rest := [.int (nI 2)]) E (c_Model_isGreat l g n0 mo 149 0 (nI pn) (nI tn) (nI NN) 0 14 hw0 fd1 (by omega)) w_1159 w_15 w_1156 w_1158 (bw_s 38 rfl) hd_Model_isGreat rfl ⟨by decide, by decide⟩ (OB.recv E.2.2.2.2.2 (by rfl) hm.1) hm hF hl.1 rfl (Nat.le_of_ble_eq_true rfl) d_Model_bytes_174 ⟨by decide, by decide⟩ (qi (fun rz1 H1 locs hq hF => ?_))
              obtain ⟨hbrz1, hq, fd_2, hm⟩ := hq
              have hfr := hfr.tr hq
              refine lv_if_eq (tgt := 184) hx hb d_Model_bytes_177 (by decide) (fun _ => ?_) (fun _ => ?_)
              · skip
                refine lv_iconst (v := nI 4) hx hb d_Model_bytes_184 (by decide) ?_
                refine lv_iadd hx hb d_Model_bytes_185 ?_
                refine lv_topi (fun t9 e9 => ?_)
                obtain rfl : t9 = nI (2 + 4) := e9.trans (nI_add _ _)
                refine lv_istore (lv' := [(5, .int (nI (2 + 4))), (4, .int x4), (0, .ref mo), (2, .int sh)]) hx hb d_Model_bytes_186 hl (by decide) rfl (fun ls hl => ?_)
                have hl : lv_has ls 6 [(5, .int (nI (2 + 4))), (0, .ref mo)] := lv_sub hl [0, 2] rfl
                exact tail NN _ _ ls _ _ hm (hh.imp (fun f h => AI.off hfr (show ¬ MR mo (mo + 7) by unfold MR; omega) h)) ⟨hN, hNe⟩ (hfx.tr (hfr.mono (fun q h => Or.inl h))) hF hl
              · skip
                refine lv_iconst (v := nI 5) hx hb d_Model_bytes_180 (by decide) ?_
                refine lv_goto (tgt := 185) hx hb d_Model_bytes_181 (by decide) ?_
                refine lv_iadd hx hb d_Model_bytes_185 ?_
                refine lv_topi (fun t9 e9 => ?_)
                obtain rfl : t9 = nI (2 + 5) := e9.trans (nI_add _ _)
                refine lv_istore (lv' := [(5, .int (nI (2 + 5))), (4, .int x4), (0, .ref mo), (2, .int sh)]) hx hb d_Model_bytes_186 hl (by decide) rfl (fun ls hl => ?_)
                have hl : lv_has ls 6 [(5, .int (nI (2 + 5))), (0, .ref mo)] := lv_sub hl [0, 2] rfl
                exact tail NN _ _ ls _ _ hm (hh.imp (fun f h => AI.off hfr (show ¬ MR mo (mo + 7) by unfold MR; omega) h)) ⟨hN, hNe⟩ (hfx.tr (hfr.mono (fun q h => Or.inl h))) hF hl
            · skip
              refine lv_iconst (v := nI 4) hx hb d_Model_bytes_166 (by decide) ?_
              refine lv_goto (tgt := 185) hx hb d_Model_bytes_167 (by decide) ?_
              refine lv_iadd hx hb d_Model_bytes_185 ?_
              refine lv_topi (fun t9 e9 => ?_)
              obtain rfl : t9 = nI (2 + 4) := e9.trans (nI_add _ _)
              refine lv_istore (lv' := [(5, .int (nI (2 + 4))), (4, .int x4), (0, .ref mo), (2, .int sh)]) hx hb d_Model_bytes_186 hl (by decide) rfl (fun ls hl => ?_)
              have hl : lv_has ls 6 [(5, .int (nI (2 + 4))), (0, .ref mo)] := lv_sub hl [0, 2] rfl
              exact tail NN _ _ ls _ _ hm (hh.imp (fun f h => AI.off hfr (show ¬ MR mo (mo + 7) by unfold MR; omega) h)) ⟨hN, hNe⟩ (hfx.tr (hfr.mono (fun q h => Or.inl h))) hF hl
      | succ k ih =>
        intro  i NN   H   locs   ls   fd1   x4 hi hm hh hN hfx hF hl
        obtain ⟨hN, hNe⟩ := hN
        have hfr : FRM (MR mo) H H := FRM.rf
        refine lv_iload hx hb d_Model_bytes_84 (lv_at hl 0 rfl) ?_
        refine lv_aload_n hx hb d_Model_bytes_86 rfl (lv_at hl 2 rfl) ?_
        refine q_get (C := "KateDeskModel") (T := T_Model) (N := 14) (ci := 8) E hm.1 in_Model rfl 12 (by decide) w_1013 rfl rfl d_Model_bytes_87 ?_
        refine lv_icmp_ge (tgt := 143) hx hb d_Model_bytes_90 (by decide) (fun h9 => absurd h9 (nI_ge (by omega) (by omega))) (fun _ => ?_)
        refine lv_aload_n hx hb d_Model_bytes_93 rfl (lv_at hl 2 rfl) ?_
        refine q_get (C := "KateDeskModel") (T := T_Model) (N := 14) (ci := 8) E hm.1 in_Model rfl 11 (by decide) w_1012 rfl rfl d_Model_bytes_94 ?_
        refine lv_iload hx hb d_Model_bytes_97 (lv_at hl 0 rfl) ?_
        refine lv_iload hx hb d_Model_bytes_99 (lv_at hl 1 rfl) ?_
        refine lv_if_eq (tgt := 108) hx hb d_Model_bytes_101 (by decide) (fun _ => ?_) (fun _ => ?_)
        · skip
          refine lv_aload_n hx hb d_Model_bytes_108 rfl (lv_at hl 2 rfl) ?_
          refine lv_iload hx hb d_Model_bytes_109 (lv_at hl 0 rfl) ?_
          refine lv_bipush (v := nI 48) hx hb d_Model_bytes_111 (by decide) ?_
          refine lv_icmp_ge (tgt := 122) hx hb d_Model_bytes_113 (by decide) (fun _ => ?_) (fun _ => ?_)
          · skip
            refine lv_sipush (v := nI 149) hx hb d_Model_bytes_122 (by decide) ?_
            refine lv_bipush (v := nI 47) hx hb d_Model_bytes_125 (by decide) ?_
            refine lv_iload hx hb d_Model_bytes_127 (lv_at hl 0 rfl) ?_
            refine lv_bipush (v := nI 48) hx hb d_Model_bytes_129 (by decide) ?_
            refine lv_irem hx hb d_Model_bytes_131 (by decide) ?_
            refine lv_topi (fun t9 e9 => ?_)
            obtain rfl : t9 = nI (i - i / 48 * 48) := e9.trans (rem48 (by omega))
            refine lv_isub hx hb d_Model_bytes_132 ?_
            refine lv_topi (fun t9 e9 => ?_)
            obtain rfl : t9 = nI (47 - (i - i / 48 * 48)) := e9.trans (pk_sub (by omega))
            refine q_cV (rest := [.int (nI i), .ref (mo + 7)]) E (c_Model_byteOf l g n0 mo 149 (47 - (i - i / 48 * 48)) 0 (nI pn) (nI tn) (nI NN) 0 14 hw0 fd1 (by omega) (by omega)) w_1187 w_15 w_1184 w_1186 (bw_s 44 rfl) hd_Model_byteOf rfl ⟨by decide, by decide⟩ (OB.recv E.2.2.2.2.2 (by rfl) hm.1) hm hF hl.1 rfl (Nat.le_of_ble_eq_true rfl) d_Model_bytes_133 ⟨by decide, by decide⟩ (qi (fun rz1 H1 locs hq hF => ?_))
            subst hq
            obtain ⟨ft, hft⟩ := hh
            refine q_iast E hft hn7 hF i rfl (by omega) (by decide) d_Model_bytes_136 (fun H2 locs hq hft2 hF => ?_)
            have hm := hm.frm hq (by omega) (by omega) (by omega) (by omega) (OB.off hq (by omega) hm.1)
            have hfx := (hfx.tr (hfr.mono (fun q h => (Or.inl h : MR mo q ∨ q = mo + 7)))).tr (hq.mono (fun q h => Or.inr h))
            refine lv_iinc (k := 0) (v := nI (i + 1)) (lv' := [(5, .int (nI (i + 1))), (4, .int x4), (0, .ref mo), (2, .int sh)]) hx hb d_Model_bytes_137 hl rfl (i_inc i) (by decide) rfl (fun ls hl => ?_)
            refine lv_goto (tgt := 84) hx hb d_Model_bytes_140 (by decide) ?_
            have hl : lv_has ls 6 [(5, .int (nI (i + 1))), (4, .int x4), (0, .ref mo), (2, .int sh)] := lv_sub hl [0, 1, 2, 3] rfl
            exact ih (i + 1) NN _ _ ls _ _ (by omega) hm ⟨_, hft2⟩ ⟨hN, hNe⟩ hfx hF hl
          · skip
            refine lv_sipush (v := nI 148) hx hb d_Model_bytes_116 (by decide) ?_
            refine lv_goto (tgt := 125) hx hb d_Model_bytes_119 (by decide) ?_
            refine lv_bipush (v := nI 47) hx hb d_Model_bytes_125 (by decide) ?_
            refine lv_iload hx hb d_Model_bytes_127 (lv_at hl 0 rfl) ?_
            refine lv_bipush (v := nI 48) hx hb d_Model_bytes_129 (by decide) ?_
            refine lv_irem hx hb d_Model_bytes_131 (by decide) ?_
            refine lv_topi (fun t9 e9 => ?_)
            obtain rfl : t9 = nI (i - i / 48 * 48) := e9.trans (rem48 (by omega))
            refine lv_isub hx hb d_Model_bytes_132 ?_
            refine lv_topi (fun t9 e9 => ?_)
            obtain rfl : t9 = nI (47 - (i - i / 48 * 48)) := e9.trans (pk_sub (by omega))
            refine q_cV (rest := [.int (nI i), .ref (mo + 7)]) E (c_Model_byteOf l g n0 mo 148 (47 - (i - i / 48 * 48)) 0 (nI pn) (nI tn) (nI NN) 0 14 hw0 fd1 (by omega) (by omega)) w_1187 w_15 w_1184 w_1186 (bw_s 44 rfl) hd_Model_byteOf rfl ⟨by decide, by decide⟩ (OB.recv E.2.2.2.2.2 (by rfl) hm.1) hm hF hl.1 rfl (Nat.le_of_ble_eq_true rfl) d_Model_bytes_133 ⟨by decide, by decide⟩ (qi (fun rz1 H1 locs hq hF => ?_))
            subst hq
            obtain ⟨ft, hft⟩ := hh
            refine q_iast E hft hn7 hF i rfl (by omega) (by decide) d_Model_bytes_136 (fun H2 locs hq hft2 hF => ?_)
            have hm := hm.frm hq (by omega) (by omega) (by omega) (by omega) (OB.off hq (by omega) hm.1)
            have hfx := (hfx.tr (hfr.mono (fun q h => (Or.inl h : MR mo q ∨ q = mo + 7)))).tr (hq.mono (fun q h => Or.inr h))
            refine lv_iinc (k := 0) (v := nI (i + 1)) (lv' := [(5, .int (nI (i + 1))), (4, .int x4), (0, .ref mo), (2, .int sh)]) hx hb d_Model_bytes_137 hl rfl (i_inc i) (by decide) rfl (fun ls hl => ?_)
            refine lv_goto (tgt := 84) hx hb d_Model_bytes_140 (by decide) ?_
            have hl : lv_has ls 6 [(5, .int (nI (i + 1))), (4, .int x4), (0, .ref mo), (2, .int sh)] := lv_sub hl [0, 1, 2, 3] rfl
            exact ih (i + 1) NN _ _ ls _ _ (by omega) hm ⟨_, hft2⟩ ⟨hN, hNe⟩ hfx hF hl
        · skip
          refine lv_iconst (v := nI 0) hx hb d_Model_bytes_104 (by decide) ?_
          refine lv_goto (tgt := 136) hx hb d_Model_bytes_105 (by decide) ?_
          obtain ⟨ft, hft⟩ := hh
          refine q_iast E hft hn7 hF i rfl (by omega) (by decide) d_Model_bytes_136 (fun H1 locs hq hft2 hF => ?_)
          have hm := hm.frm hq (by omega) (by omega) (by omega) (by omega) (OB.off hq (by omega) hm.1)
          have hfx := (hfx.tr (hfr.mono (fun q h => (Or.inl h : MR mo q ∨ q = mo + 7)))).tr (hq.mono (fun q h => Or.inr h))
          refine lv_iinc (k := 0) (v := nI (i + 1)) (lv' := [(5, .int (nI (i + 1))), (4, .int x4), (0, .ref mo), (2, .int sh)]) hx hb d_Model_bytes_137 hl rfl (i_inc i) (by decide) rfl (fun ls hl => ?_)
          refine lv_goto (tgt := 84) hx hb d_Model_bytes_140 (by decide) ?_
          have hl : lv_has ls 6 [(5, .int (nI (i + 1))), (4, .int x4), (0, .ref mo), (2, .int sh)] := lv_sub hl [0, 1, 2, 3] rfl
          exact ih (i + 1) NN _ _ ls _ _ (by omega) hm ⟨_, hft2⟩ ⟨hN, hNe⟩ hfx hF hl
    refine lv_istore (lv' := [(4, .int rz1), (3, .int (nI (32 + 3 * k1))), (0, .ref mo), (1, .int (nI k1)), (2, .int sh)]) hx hb d_Model_bytes_30 hl (by decide) rfl (fun ls hl => ?_)
    refine lv_aload_n hx hb d_Model_bytes_32 rfl (lv_at hl 2 rfl) ?_
    refine lv_sipush (v := nI 148) hx hb d_Model_bytes_33 (by decide) ?_
    refine lv_iload_n hx hb d_Model_bytes_36 rfl (lv_at hl 1 rfl) ?_
    refine lv_iconst (v := nI 2) hx hb d_Model_bytes_37 (by decide) ?_
    refine lv_iadd hx hb d_Model_bytes_38 ?_
    refine lv_topi (fun t9 e9 => ?_)
    obtain rfl : t9 = nI ((32 + 3 * k1) + 2) := e9.trans (nI_add _ _)
    refine q_cV (rest := []) E (c_Model_inverse l g n0 mo 148 ((32 + 3 * k1) + 2) 0 (nI pn) (nI tn) (nI wn) 0 14 hw0  fd (by omega) (by omega) ) w_1117 w_15 w_1114 w_1116 (bw_s 33 rfl) hd_Model_inverse rfl ⟨by decide, by decide⟩ (OB.recv E.2.2.2.2.2 (by rfl) hm.1) hm hF hl.1 rfl (Nat.le_of_ble_eq_true rfl) d_Model_bytes_39 ⟨by decide, by decide⟩ (qv (fun H5 locs hq hF => ?_))
    obtain ⟨hq, fd_3, hm, -⟩ := hq
    have hfr := hfr.tr hq
    refine lv_aload_n hx hb d_Model_bytes_42 rfl (lv_at hl 2 rfl) ?_
    refine lv_sipush (v := nI 149) hx hb d_Model_bytes_43 (by decide) ?_
    refine lv_iload_n hx hb d_Model_bytes_46 rfl (lv_at hl 1 rfl) ?_
    refine lv_iconst (v := nI 1) hx hb d_Model_bytes_47 (by decide) ?_
    refine lv_iadd hx hb d_Model_bytes_48 ?_
    refine lv_topi (fun t9 e9 => ?_)
    obtain rfl : t9 = nI ((32 + 3 * k1) + 1) := e9.trans (nI_add _ _)
    refine lv_sipush (v := nI 148) hx hb d_Model_bytes_49 (by decide) ?_
    refine q_cV (rest := []) E (c_Model_product l g n0 mo 149 ((32 + 3 * k1) + 1) 148 0 (nI pn) (nI tn) (nI wn) 0 14 hw0  fd_3 (by omega) (by omega) (by omega) ) w_1113 w_15 w_1110 w_1112 (bw_s 32 rfl) hd_Model_product rfl ⟨by decide, by decide⟩ (OB.recv E.2.2.2.2.2 (by rfl) hm.1) hm hF hl.1 rfl (Nat.le_of_ble_eq_true rfl) d_Model_bytes_52 ⟨by decide, by decide⟩ (qv (fun H6 locs hq hF => ?_))
    obtain ⟨hq, fd_4, hm, hpv, hv⟩ := hq
    have hfr := hfr.tr (kjR hq)
    refine lv_aload_n hx hb d_Model_bytes_55 rfl (lv_at hl 2 rfl) ?_
    refine lv_sipush (v := nI 148) hx hb d_Model_bytes_56 (by decide) ?_
    refine lv_iload_n hx hb d_Model_bytes_59 rfl (lv_at hl 1 rfl) ?_
    refine lv_sipush (v := nI 148) hx hb d_Model_bytes_60 (by decide) ?_
    refine q_cV (rest := []) E (c_Model_product l g n0 mo 148 (32 + 3 * k1) 148 0 (nI pn) (nI tn) (nI wn) 0 14 hw0  fd_4 (by omega) (by omega) (by omega) ) w_1113 w_15 w_1110 w_1112 (bw_s 32 rfl) hd_Model_product rfl ⟨by decide, by decide⟩ (OB.recv E.2.2.2.2.2 (by rfl) hm.1) hm hF hl.1 rfl (Nat.le_of_ble_eq_true rfl) d_Model_bytes_63 ⟨by decide, by decide⟩ (qv (fun H7 locs hq hF => ?_))
    obtain ⟨hq, fd_5, hm, hpv, hv⟩ := hq
    have hfr := hfr.tr (kjR hq)
    refine lv_aload_n hx hb d_Model_bytes_66 rfl (lv_at hl 2 rfl) ?_
    refine lv_iload_n hx hb d_Model_bytes_67 rfl (lv_at hl 4 rfl) ?_
    refine lv_if_eq (tgt := 76) hx hb d_Model_bytes_68 (by decide) (fun hs => ?_) (fun hs => ?_)
    rotate_left
    · skip
      refine lv_bipush (v := nI 48) hx hb d_Model_bytes_71 (by decide) ?_
      refine lv_goto (tgt := 78) hx hb d_Model_bytes_73 (by decide) ?_
      refine q_put (C := "KateDeskModel") (T := T_Model) (N := 14) (ci := 8) (ty := .int) E hm.1 in_Model ty_Model tyok_Model nm_Model rfl 12 (by decide) w_1013 rfl rfl (by decide +kernel) rfl rfl (Nat.le_of_ble_eq_true rfl) hmn hF d_Model_bytes_78 (fun H8 locs hq ho2 hF => ?_)
      have hfr := hfr.tr (hq.mono (fun q h => Or.inl h))
      have hm : MS g n0 H8 mo 0 (nI pn) (nI tn) (nI 48) 0 14 fd_5 := hm.frm hq (by omega) (by omega) (by omega) (by omega) ho2
      refine lv_iconst (v := nI 0) hx hb d_Model_bytes_81 (by decide) ?_
      refine lv_istore (lv' := [(5, .int (nI 0)), (4, .int rz1), (3, .int (nI (32 + 3 * k1))), (0, .ref mo), (1, .int (nI k1)), (2, .int sh)]) hx hb d_Model_bytes_82 hl (by decide) rfl (fun ls hl => ?_)
      have hl : lv_has ls 6 [(5, .int (nI 0)), (4, .int rz1), (0, .ref mo), (2, .int sh)] := lv_sub hl [0, 1, 3, 5] rfl
      exact loop 48 0 48 _ _ ls _ _ (by omega) hm (hP.2.2.2.1.imp (fun f hf => AI.off hfr (show ¬ MR mo (mo + 7) by unfold MR; omega) hf)) ⟨by decide, wb_1 hs⟩ (hfr.mono (fun q h => Or.inl h)) hF hl
    refine lv_bipush (v := nI 96) hx hb d_Model_bytes_76 (by decide) ?_
    refine q_put (C := "KateDeskModel") (T := T_Model) (N := 14) (ci := 8) (ty := .int) E hm.1 in_Model ty_Model tyok_Model nm_Model rfl 12 (by decide) w_1013 rfl rfl (by decide +kernel) rfl rfl (Nat.le_of_ble_eq_true rfl) hmn hF d_Model_bytes_78 (fun H8 locs hq ho2 hF => ?_)
    have hfr := hfr.tr (hq.mono (fun q h => Or.inl h))
    have hm : MS g n0 H8 mo 0 (nI pn) (nI tn) (nI 96) 0 14 fd_5 := hm.frm hq (by omega) (by omega) (by omega) (by omega) ho2
    refine lv_iconst (v := nI 0) hx hb d_Model_bytes_81 (by decide) ?_
    refine lv_istore (lv' := [(5, .int (nI 0)), (4, .int rz1), (3, .int (nI (32 + 3 * k1))), (0, .ref mo), (1, .int (nI k1)), (2, .int sh)]) hx hb d_Model_bytes_82 hl (by decide) rfl (fun ls hl => ?_)
    have hl : lv_has ls 6 [(5, .int (nI 0)), (4, .int rz1), (0, .ref mo), (2, .int sh)] := lv_sub hl [0, 1, 3, 5] rfl
    exact loop 96 0 96 _ _ ls _ _ (by omega) hm (hP.2.2.2.1.imp (fun f hf => AI.off hfr (show ¬ MR mo (mo + 7) by unfold MR; omega) hf)) ⟨by decide, wb_0 hs⟩ (hfr.mono (fun q h => Or.inl h)) hF hl
  refine lv_aload_n hx hb d_Model_bytes_0 rfl (lv_at hl 0 rfl) ?_
  refine lv_iload_n hx hb d_Model_bytes_1 rfl (lv_at hl 1 rfl) ?_
  refine q_cS (rest := [.ref mo]) E (c_Model_noPoint l g n0 a ) w_1151 w_15 w_1149 w_1150 hd_Model_noPoint rfl ⟨by decide, by decide⟩ trivial hF hl.1 rfl (Nat.le_of_ble_eq_true rfl) d_Model_bytes_2 ⟨by decide, by decide⟩ (qi (fun r_0 H1 locs hq hF => ?_))
  obtain ⟨h_0, hq⟩ := hq
  subst hq
  rcases h_0 with ⟨rfl, f_0⟩ | ⟨rfl, f_0⟩
  · skip
    have hl : lv_has ls 6 [(0, .ref mo), (1, .int a), (2, .int sh)] := lv_sub hl [0, 1, 2] rfl
    exact bad _ ls (fun h => (f_0) h) hF hl
  · skip
    have hl : lv_has ls 6 [(0, .ref mo), (1, .int a), (2, .int sh)] := lv_sub hl [0, 1, 2] rfl
    exact good _ ls f_0 hF hl
set_option maxHeartbeats 4000000 in
set_option maxRecDepth 100000 in
theorem X_Model_look (l : Launch) (g : WG) (n0 : Nat → Prop) (mo : Nat) (th : Int32) (pn tn wn : Nat) (w0 : Int32) : Ctr l y_Model_look (.code y_Model_look prog_11_method_61_code 2 (some FieldType.int)) 1 25 0 0 n0 g [.ref mo, .int w0] (fun H => MP g n0 H mo th pn tn wn) (QI (fun r H H' => ((okC w0 (nI 0) (nI 2)) ∧ (MP g n0 H' mo 0 pn tn wn ∧ r = lookV w0 pn tn wn)) ∨ (¬ (okC w0 (nI 0) (nI 2)) ∧ MP g n0 H' mo 1 pn tn wn))) := by
  refine ctr_mk l (lv0 := [(0, .ref mo), (1, .int w0)]) (by decide) (Nat.le_of_ble_eq_true rfl) rfl ?_
  intro p e s m below meth c ls E hr hlk hnm hl hP
  have hx := E.1
  have hb := E.2.1
  have hK := E.2.2.2.2.2
  have hF : ∀ q ∈ ([] : List Loc), n0 q.base := fun q hq => absurd hq List.not_mem_nil
  obtain ⟨⟨w9, n9, fd, hw9, hm⟩, -⟩ := id hP
  have hmn := hP.mn
  have hbd := hP.2.2.2.2.1
  have hfr : FRM (MR mo) s.heap s.heap := FRM.rf
  have bad : ∀ (locs : List Loc) (ls : Array Slot), ¬ (okC w0 (nI 0) (nI 2)) → (∀ q ∈ locs, n0 q.base) → lv_has ls 2 [(0, .ref mo), (1, .int w0)] → W p l e { frames := 1, cells := 0, slots := 0, locals := 25 } s m [.ref mo, .int w0].toArray below meth c s.heap locs 0 0 (MQ below (QcP (QI (fun r H H' => ((okC w0 (nI 0) (nI 2)) ∧ (MP g n0 H' mo 0 pn tn wn ∧ r = lookV w0 pn tn wn)) ∨ (¬ (okC w0 (nI 0) (nI 2)) ∧ MP g n0 H' mo 1 pn tn wn)))) [.ref mo, .int w0].toArray s 0 0 (fun q => n0 q)) (F0 m 18 ls [.int (nI 1), .ref mo]) := by
    intro  locs   ls hno hF hl
    refine lv_iconst (v := nI 1) hx hb d_Model_look_18 (by decide) ?_
    refine q_cV (rest := []) E (c_Model_fails l g n0 mo th (nI pn) (nI tn) (nI wn) w9 n9 hw9 (nI 1) (nI 1) fd hmn (Or.inl rfl)) w_1056 w_15 w_1053 w_1055 (bw_s 24 rfl) hd_Model_fails rfl ⟨by decide, by decide⟩ (OB.recv E.2.2.2.2.2 (by rfl) hm.1) hm hF hl.1 rfl (Nat.le_of_ble_eq_true rfl) d_Model_look_19 ⟨by decide, by decide⟩ (qi (fun rf H1 locs hq hF => ?_))
    obtain ⟨hrf, hq, hm⟩ := hq
    subst hrf
    have hfr := hfr.tr hq
    rw [if_neg (by decide)] at hm
    refine lv_if_eq (tgt := 27) hx hb d_Model_look_22 (by decide) (fun h9 => absurd h9 (by decide)) (fun _ => ?_)
    refine lv_iconst (v := nI 0) hx hb d_Model_look_25 (by decide) ?_
    exact q_iret E hr hlk (⟨_, rfl, Or.inr ⟨hno, hP.keep hfr hw9 hm⟩⟩) hF d_Model_look_26
  have good : ∀ (locs : List Loc) (ls : Array Slot), okC w0 (nI 0) (nI 2) → (∀ q ∈ locs, n0 q.base) → lv_has ls 2 [(0, .ref mo), (1, .int w0)] → W p l e { frames := 1, cells := 0, slots := 0, locals := 25 } s m [.ref mo, .int w0].toArray below meth c s.heap locs 0 0 (MQ below (QcP (QI (fun r H H' => ((okC w0 (nI 0) (nI 2)) ∧ (MP g n0 H' mo 0 pn tn wn ∧ r = lookV w0 pn tn wn)) ∨ (¬ (okC w0 (nI 0) (nI 2)) ∧ MP g n0 H' mo 1 pn tn wn)))) [.ref mo, .int w0].toArray s 0 0 (fun q => n0 q)) (F0 m 18 ls [.int (nI 0), .ref mo]) := by
    intro  locs   ls hok hF hl
    refine lv_iconst (v := nI 1) hx hb d_Model_look_18 (by decide) ?_
    refine q_cV (rest := []) E (c_Model_fails l g n0 mo th (nI pn) (nI tn) (nI wn) w9 n9 hw9 (nI 0) (nI 1) fd hmn (Or.inr rfl)) w_1056 w_15 w_1053 w_1055 (bw_s 24 rfl) hd_Model_fails rfl ⟨by decide, by decide⟩ (OB.recv E.2.2.2.2.2 (by rfl) hm.1) hm hF hl.1 rfl (Nat.le_of_ble_eq_true rfl) d_Model_look_19 ⟨by decide, by decide⟩ (qi (fun rf H1 locs hq hF => ?_))
    obtain ⟨hrf, hq, hm⟩ := hq
    subst hrf
    have hfr := hfr.tr hq
    rw [if_pos nI_0] at hm
    refine lv_if_eq (tgt := 27) hx hb d_Model_look_22 (by decide) (fun _ => ?_) (fun h9 => absurd (by decide) h9)
    obtain ⟨k0, e_k0, h_k0, h2_k0⟩ := okC_nat (by decide) (by decide) hok
    rw [e_k0] at hl
    obtain ⟨hq9, -⟩ : k0 ≤ 2 ∧ True := ⟨h2_k0, trivial⟩
    match k0, hq9, e_k0 with
    | 0, _, e_k0 =>
      refine lv_iload_n hx hb d_Model_look_27 rfl (lv_at hl 1 rfl) ?_
      refine lv_if_ne (tgt := 38) hx hb d_Model_look_28 (by decide) (fun h9 => absurd (by decide) h9) (fun _ => ?_)
      refine lv_aload_n hx hb d_Model_look_31 rfl (lv_at hl 0 rfl) ?_
      refine q_get (C := "KateDeskModel") (T := T_Model) (N := 14) (ci := 8) E hm.1 in_Model rfl 8 (by decide) w_1009 rfl rfl d_Model_look_32 ?_
      refine lv_goto (tgt := 54) hx hb d_Model_look_35 (by decide) ?_
      exact q_iret E hr hlk (⟨_, rfl, Or.inl ⟨hok, hP.keep hfr hw9 hm, by rw [e_k0]; rfl⟩⟩) hF d_Model_look_54
    | 1, _, e_k0 =>
      refine lv_iload_n hx hb d_Model_look_27 rfl (lv_at hl 1 rfl) ?_
      refine lv_if_ne (tgt := 38) hx hb d_Model_look_28 (by decide) (fun _ => ?_) (fun h9 => absurd h9 (by decide))
      refine lv_iload_n hx hb d_Model_look_38 rfl (lv_at hl 1 rfl) ?_
      refine lv_iconst (v := nI 1) hx hb d_Model_look_39 (by decide) ?_
      refine lv_icmp_ne (tgt := 50) hx hb d_Model_look_40 (by decide) (fun h9 => absurd (by decide) h9) (fun _ => ?_)
      refine lv_aload_n hx hb d_Model_look_43 rfl (lv_at hl 0 rfl) ?_
      refine q_get (C := "KateDeskModel") (T := T_Model) (N := 14) (ci := 8) E hm.1 in_Model rfl 10 (by decide) w_1011 rfl rfl d_Model_look_44 ?_
      refine lv_goto (tgt := 54) hx hb d_Model_look_47 (by decide) ?_
      exact q_iret E hr hlk (⟨_, rfl, Or.inl ⟨hok, hP.keep hfr hw9 hm, by rw [e_k0]; rfl⟩⟩) hF d_Model_look_54
    | 2, _, e_k0 =>
      refine lv_iload_n hx hb d_Model_look_27 rfl (lv_at hl 1 rfl) ?_
      refine lv_if_ne (tgt := 38) hx hb d_Model_look_28 (by decide) (fun _ => ?_) (fun h9 => absurd h9 (by decide))
      refine lv_iload_n hx hb d_Model_look_38 rfl (lv_at hl 1 rfl) ?_
      refine lv_iconst (v := nI 1) hx hb d_Model_look_39 (by decide) ?_
      refine lv_icmp_ne (tgt := 50) hx hb d_Model_look_40 (by decide) (fun _ => ?_) (fun h9 => absurd h9 (by decide))
      refine lv_aload_n hx hb d_Model_look_50 rfl (lv_at hl 0 rfl) ?_
      refine q_get (C := "KateDeskModel") (T := T_Model) (N := 14) (ci := 8) E hm.1 in_Model rfl 12 (by decide) w_1013 rfl rfl d_Model_look_51 ?_
      exact q_iret E hr hlk (⟨_, rfl, Or.inl ⟨hok, hP.keep hfr hw9 hm, by rw [e_k0]; rfl⟩⟩) hF d_Model_look_54
  refine lv_aload_n hx hb d_Model_look_0 rfl (lv_at hl 0 rfl) ?_
  refine lv_iload_n hx hb d_Model_look_1 rfl (lv_at hl 1 rfl) ?_
  refine lv_i2l (v := w0.toInt64) hx hb d_Model_look_2 rfl ?_
  refine lv_lconst (v := 0) hx hb d_Model_look_3 (by decide) ?_
  refine lv_ldc2 (v := 2) hx hb E.2.2.2.1 (E.2.2.2.2.1 _ w_1089) d_Model_look_4 ?_
  refine q_cS (rest := [.ref mo]) E (c_Model_in l g n0 w0.toInt64 0 2 ) w_1101 w_15 w_1099 w_1100 hd_Model_in rfl ⟨by decide, by decide⟩ trivial hF hl.1 rfl (Nat.le_of_ble_eq_true rfl) d_Model_look_7 ⟨by decide, by decide⟩ (qi (fun r_0 H1 locs hq hF => ?_))
  obtain ⟨h_0, hq⟩ := hq
  subst hq
  rcases h_0 with ⟨rfl, f_0⟩ | ⟨rfl, f_0⟩
  · skip
    refine lv_if_ne (tgt := 17) hx hb d_Model_look_10 (by decide) (fun h9 => absurd (by decide) h9) (fun _ => ?_)
    refine lv_iconst (v := nI 1) hx hb d_Model_look_13 (by decide) ?_
    refine lv_goto (tgt := 18) hx hb d_Model_look_14 (by decide) ?_
    have hl : lv_has ls 2 [(0, .ref mo), (1, .int w0)] := lv_sub hl [0, 1] rfl
    exact bad _ ls (fun h => (fun q => f_0 ((in_okC (a := 0) (b := 2) (by decide) (by decide) (by decide) (by decide)).mpr q)) h) hF hl
  · skip
    refine lv_if_ne (tgt := 17) hx hb d_Model_look_10 (by decide) (fun _ => ?_) (fun h9 => absurd h9 (by decide))
    refine lv_iconst (v := nI 0) hx hb d_Model_look_17 (by decide) ?_
    have hl : lv_has ls 2 [(0, .ref mo), (1, .int w0)] := lv_sub hl [0, 1] rfl
    exact good _ ls ((in_okC (a := 0) (b := 2) (by decide) (by decide) (by decide) (by decide)).mp f_0) hF hl
set_option maxHeartbeats 4000000 in
set_option maxRecDepth 100000 in
theorem HX_bytes (l : Launch) (g : WG) (s0 : State) (hxs : XS l s0) (b pn tn wn : Nat) (mr mq : Int64) (hb0 : s0.heap.size ≤ b) (x1 : Int32) (x2 : Int32) : CtrH l y_Law_bytes (.codeWith y_Law_bytes method_11_code 4 (some FieldType.int) [(0, 6, 9, 13)]) 8 229 1 6 (HXA s0) g s0 [.ref b, .int x1, .int x2] (fun H => LG g s0 H b pn tn wn mr mq) (QI (fun r H H' => (((okP x1 (nI 1)) ∧ r = nI 0 ∧ LG g s0 H' b pn tn (wbN x2) mr mq) ∨ (¬ (okP x1 (nI 1)) ∧ r = nI 1 ∧ LG g s0 H' b pn tn wn mr mq)) ∧ ∀ q, kM b q → H'[q]? = H[q]?)) := by
  refine ctrH_mk l (lv0 := [(0, .ref b), (1, .int x1), (2, .int x2)]) (by decide) (Nat.le_of_ble_eq_true rfl) rfl ?_
  intro p e s m below meth c ls E hw0 hr hlk hex hl hP
  have hx := E.1
  have hb := E.2.1
  have hK := E.2.2.2.2.2
  have hF : ∀ q ∈ ([] : List Loc), HXA s0 q.base := fun q hq => absurd hq List.not_mem_nil
  have hold := hP.1
  have hd := hP.d
  have hbd := hd.2.2.2.2
  obtain ⟨f0, hA⟩ := hP.2.2.2
  by_cases hok : okP x1 (nI 1)
  · skip
    obtain ⟨k1, rfl, q1⟩ := okP_nat (by decide) (by decide) hok
    refine lv_aload_n hx hb d_Law_bytes_0 rfl (lv_at hl 0 rfl) ?_
    refine lv_iload_n hx hb d_Law_bytes_1 rfl (lv_at hl 1 rfl) ?_
    refine lv_iload_n hx hb d_Law_bytes_2 rfl (lv_at hl 2 rfl) ?_
    refine q_cV (rest := []) E ((X_Desk_bytes l g b pn tn wn mr mq k1 x2 q1).up (nD_up hb0)) w_737 w_1 w_734 w_735 w_736 hd_Desk_bytes rfl ⟨by decide, by decide⟩ (OB.recv E.2.2.2.2.2 (by rfl) hd.x.ob) hd hF hl.1 rfl (Nat.le_of_ble_eq_true rfl) d_Law_bytes_3 ⟨by decide, by decide⟩ (qv (fun H1 locs hq hF => ?_))
    have hg := hP.call hb0 hq
    refine lv_goto (tgt := 12) hx hb d_Law_bytes_6 (by decide) ?_
    refine lv_iconst (v := nI 0) hx hb d_Law_bytes_12 (by decide) ?_
    refine W.widen (k := 1) (n := 6) (by decide) (by decide) ?_
    exact q_iret E hr hlk (⟨_, rfl, Or.inl ⟨hok, rfl, hg.1⟩, hg.2⟩) hF d_Law_bytes_13
  · skip
    refine lv_aload_n hx hb d_Law_bytes_0 rfl (lv_at hl 0 rfl) ?_
    refine lv_iload_n hx hb d_Law_bytes_1 rfl (lv_at hl 1 rfl) ?_
    refine lv_iload_n hx hb d_Law_bytes_2 rfl (lv_at hl 2 rfl) ?_
    refine q_catch E hw0 (q_runVT (rest := []) E hw0 (t_Desk_bytes l g (HXA s0) s0 hxs b x1 x2 (hok)) w_737 w_1 w_734 w_735 w_736 hd_Desk_bytes rfl ⟨by decide, by decide⟩ (OB.recv E.2.2.2.2.2 (by rfl) hd.x.ob) (⟨hold, hP.hx hb0⟩) hl.1 rfl (Nat.le_of_ble_eq_true rfl) d_Law_bytes_3 ⟨by decide, by decide⟩) hF hex ⟨by decide, by decide⟩ (by decide) w_391 (fun xx H1 locs htq hF => ?_)
    have hg := hP.grow hb0 htq.1 htq.2.1
    refine lv_astore_n (lv' := [(3, .ref xx), (0, .ref b), (1, .int x1), (2, .int x2)]) hx hb d_Law_bytes_9 rfl hl (by decide) rfl (fun ls hl => ?_)
    refine lv_iconst (v := nI 1) hx hb d_Law_bytes_10 (by decide) ?_
    exact q_iret E hr hlk (⟨_, rfl, Or.inr ⟨hok, rfl, hg.1⟩, hg.2⟩) hF d_Law_bytes_11
set_option maxHeartbeats 4000000 in
set_option maxRecDepth 100000 in
theorem HX_look (l : Launch) (g : WG) (s0 : State) (hxs : XS l s0) (b pn tn wn : Nat) (mr mq : Int64) (hb0 : s0.heap.size ≤ b) (x1 : Int32) : CtrH l y_Law_look (.codeWith y_Law_look method_23_code 4 (some FieldType.int) [(0, 9, 12, 13)]) 8 125 1 6 (HXA s0) g s0 [.ref b, .int x1, .ref (b + 510)] (fun H => LG g s0 H b pn tn wn mr mq) (QI (fun r H H' => (((okC x1 (nI 0) (nI 2)) ∧ r = nI 0 ∧ AJ g H' (b + 510) 1 (fun _ => (lookV x1 pn tn wn).toInt64) ∧ LG g s0 H' b pn tn wn mr mq) ∨ (¬ (okC x1 (nI 0) (nI 2)) ∧ r = nI 1 ∧ LG g s0 H' b pn tn wn mr mq)) ∧ ∀ q, kM b q → H'[q]? = H[q]?)) := by
  refine ctrH_mk l (lv0 := [(0, .ref b), (1, .int x1), (2, .ref (b + 510))]) (by decide) (Nat.le_of_ble_eq_true rfl) rfl ?_
  intro p e s m below meth c ls E hw0 hr hlk hex hl hP
  have hx := E.1
  have hb := E.2.1
  have hK := E.2.2.2.2.2
  have hF : ∀ q ∈ ([] : List Loc), HXA s0 q.base := fun q hq => absurd hq List.not_mem_nil
  have hold := hP.1
  have hd := hP.d
  have hbd := hd.2.2.2.2
  obtain ⟨f0, hA⟩ := hP.2.2.2
  by_cases hok : okC x1 (nI 0) (nI 2)
  · skip
    obtain ⟨k1, rfl, l1, q1⟩ := okC_nat (by decide) (by decide) hok
    refine lv_aload_n hx hb d_Law_look_0 rfl (lv_at hl 2 rfl) ?_
    refine lv_iconst (v := nI 0) hx hb d_Law_look_1 (by decide) ?_
    refine lv_aload_n hx hb d_Law_look_2 rfl (lv_at hl 0 rfl) ?_
    refine lv_iload_n hx hb d_Law_look_3 rfl (lv_at hl 1 rfl) ?_
    refine q_cV (rest := [.int (nI 0), .ref (b + 510)]) E ((G_Desk_look l g b pn tn wn mr mq k1 (by omega)).up (nD_up hb0)) w_905 w_1 w_902 w_903 w_904 hd_Desk_look rfl ⟨by decide, by decide⟩ (OB.recv E.2.2.2.2.2 (by rfl) hd.x.ob) hd hF hl.1 rfl (Nat.le_of_ble_eq_true rfl) d_Law_look_4 ⟨by decide, by decide⟩ (qi (fun r0 H1 locs hq hF => ?_))
    obtain ⟨l_0, l_1, l_2, hq⟩ := hq
    have hv9 := look_v q1 l_0 l_1 l_2
    have hg := hP.call hb0 hq
    refine lv_i2l (v := r0.toInt64) hx hb d_Law_look_7 rfl ?_
    refine q_last (N := 1) E (AJ.off hq.1 nD_510 hA) (Nat.le_trans hb0 (Nat.le_add_right _ _)) hF 0 rfl (by decide) (by decide) d_Law_look_8 (fun H2 locs hq2 hA2 hF => ?_)
    have hg2 := hg.1.store hb0 hq2 hA2
    refine lv_goto (tgt := 15) hx hb d_Law_look_9 (by decide) ?_
    refine lv_iconst (v := nI 0) hx hb d_Law_look_15 (by decide) ?_
    refine W.widen (k := 1) (n := 6) (by decide) (by decide) ?_
    exact q_iret E hr hlk (⟨_, rfl, Or.inl ⟨hok, rfl, hv9 ▸ hA2.one, hg2.1⟩, fun q h9 => (hg2.2 q h9).trans (hg.2 q h9)⟩) hF d_Law_look_16
  · skip
    refine lv_aload_n hx hb d_Law_look_0 rfl (lv_at hl 2 rfl) ?_
    refine lv_iconst (v := nI 0) hx hb d_Law_look_1 (by decide) ?_
    refine lv_aload_n hx hb d_Law_look_2 rfl (lv_at hl 0 rfl) ?_
    refine lv_iload_n hx hb d_Law_look_3 rfl (lv_at hl 1 rfl) ?_
    refine q_catch E hw0 (q_runVT (rest := [.int (nI 0), .ref (b + 510)]) E hw0 (t_Desk_look l g (HXA s0) s0 hxs b x1 (⟨fun e9 => hok (by rw [e9]; exact okC_of (k := 0) (by decide) (by decide) (by decide)), fun e9 => hok (by rw [e9]; exact okC_of (k := 1) (by decide) (by decide) (by decide)), fun e9 => hok (by rw [e9]; exact okC_of (k := 2) (by decide) (by decide) (by decide))⟩)) w_905 w_1 w_902 w_903 w_904 hd_Desk_look rfl ⟨by decide, by decide⟩ (OB.recv E.2.2.2.2.2 (by rfl) hd.x.ob) (⟨hold, hP.hx hb0⟩) hl.1 rfl (Nat.le_of_ble_eq_true rfl) d_Law_look_4 ⟨by decide, by decide⟩) hF hex ⟨by decide, by decide⟩ (by decide) w_391 (fun xx H1 locs htq hF => ?_)
    have hg := hP.grow hb0 htq.1 htq.2.1
    refine lv_astore_n (lv' := [(3, .ref xx), (0, .ref b), (1, .int x1), (2, .ref (b + 510))]) hx hb d_Law_look_12 rfl hl (by decide) rfl (fun ls hl => ?_)
    refine lv_iconst (v := nI 1) hx hb d_Law_look_13 (by decide) ?_
    exact q_iret E hr hlk (⟨_, rfl, Or.inr ⟨hok, rfl, hg.1⟩, hg.2⟩) hF d_Law_look_14
