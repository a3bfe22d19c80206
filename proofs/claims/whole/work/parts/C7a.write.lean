/-! what a point's bytes are -/
def xA9 (P : P3) : Nat := ((P.1 * P.2.2 ^ (QN - 2)) % QJ).toNat
def yA9 (P : P3) : Nat := ((P.2.1 * P.2.2 ^ (QN - 2)) % QJ).toNat
theorem xA_v (P : P3) : ((xA9 P : Nat) : Int) = (P.1 * P.2.2 ^ (QN - 2)) % QJ := Int.toNat_of_nonneg (qm_r _).1
theorem yA_v (P : P3) : ((yA9 P : Nat) : Int) = (P.2.1 * P.2.2 ^ (QN - 2)) % QJ := Int.toNat_of_nonneg (qm_r _).1
theorem xA_q (P : P3) : ((xA9 P : Nat) : Int) < QJ := by
  rw [xA_v]
  exact (qm_r _).2
theorem yA_q (P : P3) : ((yA9 P : Nat) : Int) < QJ := by
  rw [yA_v]
  exact (qm_r _).2
theorem QJ_381 : QJ < ((2 ^ 381 : Nat) : Int) := by decide +kernel
theorem q_381 {n : Nat} (h : (n : Int) < QJ) : n < 2 ^ 381 := Int.ofNat_lt.mp (Int.lt_trans h QJ_381)
def mK9 (P : P3) : Nat := if ngQ ((yA9 P : Nat) : Int) < ((yA9 P : Nat) : Int) then 5 else 4
def TX9 (P : P3) (sh : Int32) (n : Nat) (tb : Nat → Nat) : Prop := (cq P.2.2 0 ∧ ((sh = 0 ∧ n = 96 ∧ tb 0 = 64) ∨ (¬ sh = 0 ∧ n = 48 ∧ tb 0 = 192)) ∧ ∀ j, 1 ≤ j → j < n → tb j = 0) ∨ (¬ cq P.2.2 0 ∧ ((sh = 0 ∧ n = 96 ∧ (∀ j, j < 48 → tb j = wby (xA9 P) 0 j) ∧ ∀ j, j < 48 → tb (48 + j) = wby (yA9 P) 0 j) ∨ (¬ sh = 0 ∧ n = 48 ∧ ∀ j, j < 48 → tb j = wby (xA9 P) (mK9 P) j)))
theorem xA_cg {P R : P3} (h : PE P R) (hz : ¬ cq R.2.2 0) : xA9 P = xA9 R ∧ yA9 P = yA9 R := by
  have a := h.af (nq_of.mpr hz)
  unfold xA9 yA9
  exact ⟨congrArg Int.toNat a.1, congrArg Int.toNat a.2⟩
theorem tx_0 {n : Nat} {tb tb' : Nat → Nat} (c0 : tb 0 = tb' 0) (k : ∀ j, 1 ≤ j → j < n → tb j = 0) (k' : ∀ j, 1 ≤ j → j < n → tb' j = 0) : ∀ j, j < n → tb j = tb' j := by
  intro j hj
  by_cases e0 : j = 0
  · rw [e0, c0]
  · rw [k j (by omega) hj, k' j (by omega) hj]
theorem TX9.un {P R : P3} {sh : Int32} {n n' : Nat} {tb tb' : Nat → Nat} (e : PE P R) (h : TX9 P sh n tb) (h' : TX9 R sh n' tb') : n = n' ∧ ∀ j, j < n → tb j = tb' j := by
  have ez := e.z
  rcases h with ⟨z, h, k⟩ | ⟨z, h⟩
  · rcases h' with ⟨z', h', k'⟩ | ⟨z', h'⟩
    · rcases h with ⟨a, b, d⟩ | ⟨a, b, d⟩
      · rcases h' with ⟨a', b', d'⟩ | ⟨a', b', d'⟩
        · subst b b'
          exact ⟨rfl, tx_0 (d.trans d'.symm) k k'⟩
        · exact absurd a a'
      · rcases h' with ⟨a', b', d'⟩ | ⟨a', b', d'⟩
        · exact absurd a' a
        · subst b b'
          exact ⟨rfl, tx_0 (d.trans d'.symm) k k'⟩
    · exact absurd (ez.mp z) z'
  · rcases h' with ⟨z', h', k'⟩ | ⟨z', h'⟩
    · exact absurd (ez.mpr z') z
    · have ea := xA_cg e z'
      have em : mK9 P = mK9 R := by
        unfold mK9
        rw [ea.2]
      rw [ea.1, ea.2, em] at h
      rcases h with ⟨a, b, d, f⟩ | ⟨a, b, d⟩
      · rcases h' with ⟨a', b', d', f'⟩ | ⟨a', b', d'⟩
        · subst b b'
          refine ⟨rfl, fun j hj => ?_⟩
          by_cases c : j < 48
          · rw [d j c, d' j c]
          · obtain ⟨i, rfl⟩ : ∃ i, j = 48 + i := ⟨j - 48, by omega⟩
            rw [f i (by omega), f' i (by omega)]
        · exact absurd a a'
      · rcases h' with ⟨a', b', d', f'⟩ | ⟨a', b', d'⟩
        · exact absurd a' a
        · subst b b'
          exact ⟨rfl, fun j hj => by rw [d j hj, d' j hj]⟩
theorem TX9.le {P : P3} {sh : Int32} {n : Nat} {tb : Nat → Nat} (h : TX9 P sh n tb) : n ≤ 96 := by
  rcases h with ⟨z, ⟨a, b, d⟩ | ⟨a, b, d⟩, k⟩ | ⟨z, ⟨a, b, d⟩ | ⟨a, b, d⟩⟩ <;> omega
theorem LW.frm {g : WG} {S : Nat → Prop} {H H' : Heap} {r : Nat} {X : Int} (h : LW g H r X) (hf : FRM S H H') (hn : ¬ S r) : LW g H' r X := h.imp (fun _ q => ⟨AJ.off hf hn q.1, q.2⟩)
theorem LPt.frm {g : WG} {S : Nat → Prop} {H H' : Heap} {x y z : Nat} {P : P3} (h : LPt g H x y z P) (hf : FRM S H H') (h1 : ¬ S x) (h2 : ¬ S y) (h3 : ¬ S z) : LPt g H' x y z P := ⟨h.1.frm hf h1, h.2.1.frm hf h2, h.2.2.frm hf h3⟩
theorem mK_8 (P : P3) : mK9 P < 8 := by
  unfold mK9
  split <;> decide
theorem lw_lo (X : Int) : ((X * WQ) % QJ * WIQ) % QJ = X % QJ := by rw [Int.mul_emod, Int.emod_emod_of_dvd _ (Int.dvd_refl _), ← Int.mul_emod, Int.mul_assoc, qww_r]
theorem q2_e : ((QN - 2 : Nat) : Int) = QJ - 2 := by decide +kernel
set_option maxHeartbeats 4000000 in
set_option maxRecDepth 100000 in
theorem Q_Field_invert (l : Launch) (g : WG) (n0 : Nat → Prop) (o t a : Nat) (F : Nat → Nat) (mi : Int64) (fa f4 : Nat → Int64) (X : Int) (hfa : RV fa ((X * WQ) % QJ)) (v4 : RV f4 (QJ - 2)) (htm : F 0 ≠ t) (h05 : F 0 ≠ F 5) (ht5 : t ≠ F 5) (h4t : F 4 ≠ t) (h45 : F 4 ≠ F 5) (h15 : F 1 ≠ F 5) (hmi : mi = 268238845) : Ctr l y_Field_invert (.code y_Field_invert prog_3_method_12_code 3 none) 3 160 0 0 n0 g [.ref o, .ref t, .ref a] (fun H => FD g n0 H o F mi ∧ (n0 t ∧ ∃ ft, AJ g H t 14 ft) ∧ AJ g H a 14 fa ∧ AJ g H (F 4) 14 f4 ∧ AJ g H (F 0) 14 kQ ∧ ∃ f1, AJ g H (F 1) 14 f1 ∧ RV f1 WQ) (QV (fun H H' => KJ g (fun q => q = t ∨ q = F 5) H H' ∧ ∃ f', AJ g H' t 14 f' ∧ RV f' ((X ^ (QN - 2) * WQ) % QJ))) := by
  refine ctr_mk l (lv0 := [(0, .ref o), (1, .ref t), (2, .ref a)]) (by decide) (Nat.le_of_ble_eq_true rfl) rfl ?_
  intro p e s m below meth c ls E hr hlk hnm hl hP
  have hx := E.1
  have hb := E.2.1
  have hK := E.2.2.2.2.2
  have hF : ∀ q ∈ ([] : List Loc), n0 q.base := fun q hq => absurd hq List.not_mem_nil
  have v4 : RV f4 ((QN - 2 : Nat) : Int) := by rw [q2_e]; exact v4
  refine lv_aload_n hx hb d_Field_invert_0 rfl (lv_at hl 0 rfl) ?_
  refine lv_aload_n hx hb d_Field_invert_1 rfl (lv_at hl 1 rfl) ?_
  refine lv_aload_n hx hb d_Field_invert_2 rfl (lv_at hl 2 rfl) ?_
  refine lv_aload_n hx hb d_Field_invert_3 rfl (lv_at hl 0 rfl) ?_
  refine q_get (C := "KateDesk$Field") (T := T_Field) (N := 7) (ci := 1) E hP.1.1 in_Field rfl 4 (by decide) w_180 rfl rfl d_Field_invert_4 ?_
  refine q_cV (rest := []) E (Q_Field_raise l g n0 o t a (F 4) F mi fa f4 X (QN - 2) hfa v4 htm h05 ht5 h4t h45 h15 hmi) w_574 w_4 w_571 w_572 w_573 hd_Field_raise rfl ⟨by decide, by decide⟩ (OB.recv E.2.2.2.2.2 (by rfl) hP.1.1) hP hF hl.1 rfl (Nat.le_of_ble_eq_true rfl) d_Field_invert_7 ⟨by decide, by decide⟩ (qv (fun H1 locs hq hF => ?_))
  exact q_vret E hr hlk (⟨rfl, hq⟩) hF d_Field_invert_10
set_option maxHeartbeats 4000000 in
set_option maxRecDepth 100000 in
theorem L_Forms_write (l : Launch) (g : WG) (n0 : Nat → Prop) (o cu fi : Nat) (F : Nat → Nat) (mi : Int64) (X : Nat → Nat) (r1 r2 r3 r4 : Nat) (n1 : Nat → Prop) (t t1 t2 t3 rw ce ts : Nat) (sh : Int32) (P : P3) (hmi : mi = 268238845) (hA9 : FAP F X r1 r2 r3 r4) (hB : ∀ k, k < 5 → F k ≠ r2 ∧ F k ≠ r3 ∧ F k ≠ r4 ∧ F k ≠ F 5) (hT : (t1 ≠ r2 ∧ t1 ≠ r3 ∧ t1 ≠ r4 ∧ t1 ≠ F 5) ∧ (t2 ≠ r2 ∧ t2 ≠ r3 ∧ t2 ≠ r4 ∧ t2 ≠ F 5) ∧ t3 ≠ r2 ∧ t3 ≠ r3 ∧ t3 ≠ r4 ∧ t3 ≠ F 5) (hnr : n0 rw) (hnc : n0 ce) (hn1 : ∀ q, n1 q → n0 q ∧ q ≠ rw ∧ q ≠ ce) (ho : o ≠ rw ∧ o ≠ ce) (hcu : cu ≠ rw ∧ cu ≠ ce) (hfi : fi ≠ rw ∧ fi ≠ ce) (hf0 : (∀ k, k < 6 → F k ≠ rw ∧ F k ≠ ce) ∧ r1 ≠ rw ∧ r1 ≠ ce) (htn : t ≠ rw ∧ t ≠ ce) (hcr : ¬ ce = rw) : Ctr l y_Forms_write (.code y_Forms_write prog_4_method_8_code 6 none) 4 182 0 0 n0 g [.ref o, .ref rw, .ref t, .int sh] (fun H => FMX g n1 H o cu fi F mi X r1 r2 r3 r4 ∧ PT g n1 H t t1 t2 t3 ∧ RW9 g H rw ce ts ∧ LPt g H t1 t2 t3 P ∧ AJ g H (F 0) 14 kQ ∧ (∃ f, AJ g H (F 1) 14 f ∧ RV f WQ) ∧ (∃ f, AJ g H (F 2) 14 f ∧ RV f 1) ∧ ∃ f, AJ g H (F 4) 14 f ∧ RV f (QJ - 2)) (QV (fun H H' => ∃ H1 H2, FRM (fun q => q = rw ∨ q = ce) H H1 ∧ KJ g (fun q => q = r2 ∨ q = r3 ∨ q = r4 ∨ q = F 5) H1 H2 ∧ FRM (fun q => q = rw ∨ q = ce) H2 H' ∧ ∃ n tb c9, OB g H' rw 3 [.ref ce, .int (nI n)] ∧ AB g H' ce 96 c9 ∧ TX9 P sh n tb ∧ ∀ j, j < n → c9 j &&& 255 = nI (tb j))) := by
  refine ctr_mk l (lv0 := [(0, .ref o), (1, .ref rw), (2, .ref t), (3, .int sh)]) (by decide) (Nat.le_of_ble_eq_true rfl) rfl ?_
  intro p e s m below meth c ls E hr hlk hnm hl hP
  have hx := E.1
  have hb := E.2.1
  have hK := E.2.2.2.2.2
  have hF : ∀ q ∈ ([] : List Loc), n0 q.base := fun q hq => absurd hq List.not_mem_nil
  obtain ⟨hfm, h_t, hrw, hLP, hM, ⟨fo1, h1, v1⟩, ⟨fo2, h2, v2⟩, fo4, h4, v4⟩ := hP
  have nF : ∀ k, k < 5 → ¬ (fun q => q = r2 ∨ q = r3 ∨ q = r4 ∨ q = F 5) (F k) := fun k hk5 h => h.elim (hB k hk5).1 (fun h => h.elim (hB k hk5).2.1 (fun h => h.elim (hB k hk5).2.2.1 (hB k hk5).2.2.2))
  have nT1 : ¬ (fun q => q = r2 ∨ q = r3 ∨ q = r4 ∨ q = F 5) t1 := fun h => h.elim hT.1.1 (fun h => h.elim hT.1.2.1 (fun h => h.elim hT.1.2.2.1 hT.1.2.2.2))
  have nT2 : ¬ (fun q => q = r2 ∨ q = r3 ∨ q = r4 ∨ q = F 5) t2 := fun h => h.elim hT.2.1.1 (fun h => h.elim hT.2.1.2.1 (fun h => h.elim hT.2.1.2.2.1 hT.2.1.2.2.2))
  have nT3 : ¬ (fun q => q = r2 ∨ q = r3 ∨ q = r4 ∨ q = F 5) t3 := fun h => h.elim hT.2.2.1 (fun h => h.elim hT.2.2.2.1 (fun h => h.elim hT.2.2.2.2.1 hT.2.2.2.2.2))
  have hr2 := hn1 r2 hfm.2.2.2.1.1
  have hr3 := hn1 r3 hfm.2.2.2.2.1.1
  have hr4 := hn1 r4 hfm.2.2.2.2.2.1
  have nce : ¬ (fun q => q = r2 ∨ q = r3 ∨ q = r4 ∨ q = F 5) ce := fun h => h.elim (fun h => hr2.2.2 h.symm) (fun h => h.elim (fun h => hr3.2.2 h.symm) (fun h => h.elim (fun h => hr4.2.2 h.symm) (fun h => (hf0.1 5 (by decide)).2 h.symm)))
  have hdis : ∀ q, n1 q → ¬ q = rw := fun q h => (hn1 q h).2.1
  have sA : ∀ (mk : Nat) (ls : Array Slot), ((sh = 0 ∧ mk = 0) ∨ (¬ sh = 0 ∧ mk = 4)) → lv_has ls 6 [(4, .int (nI mk)), (0, .ref o), (1, .ref rw), (2, .ref t), (3, .int sh)] → W p l e { frames := 4, cells := 0, slots := 0, locals := 182 } s m [.ref o, .ref rw, .ref t, .int sh].toArray below meth c s.heap [] 0 0 (MQ below (QcP (QV (fun H H' => ∃ H1 H2, FRM (fun q => q = rw ∨ q = ce) H H1 ∧ KJ g (fun q => q = r2 ∨ q = r3 ∨ q = r4 ∨ q = F 5) H1 H2 ∧ FRM (fun q => q = rw ∨ q = ce) H2 H' ∧ ∃ n tb c9, OB g H' rw 3 [.ref ce, .int (nI n)] ∧ AB g H' ce 96 c9 ∧ TX9 P sh n tb ∧ ∀ j, j < n → c9 j &&& 255 = nI (tb j)))) [.ref o, .ref rw, .ref t, .int sh].toArray s 0 0 (fun q => n0 q)) (F0 m 11 ls []) := by
    intro  mk   ls hmk0 hl
    refine lv_aload_n hx hb d_Forms_write_11 rfl (lv_at hl 2 rfl) ?_
    refine lv_iconst (v := nI 0) hx hb d_Forms_write_12 (by decide) ?_
    refine q_put (C := "KateDesk$Row") (T := T_Row) (N := 2) (ci := 3) (ty := .int) E hrw.1 in_Row ty_Row tyok_Row nm_Row rfl 1 (by decide) w_73 rfl rfl (by decide +kernel) rfl rfl (Nat.le_of_ble_eq_true rfl) hnr hF d_Forms_write_13 (fun H1 locs hq ho2 hF => ?_)
    have hf1 : FRM (fun q => q = rw ∨ q = ce) s.heap H1 := hq.mono (fun q h => Or.inl h)
    have hfm := hfm.frm hq (fun q h => (hn1 q h).2.1) ho.1 hcu.1 hfi.1 ⟨fun k hk => (hf0.1 k hk).1, hf0.2.1⟩
    have hLP := hLP.frm hq (hdis _ h_t.2.1.1) (hdis _ h_t.2.2.1.1) (hdis _ h_t.2.2.2.1)
    have h_t := h_t.frm hq htn.1 (hdis _ h_t.2.1.1) (hdis _ h_t.2.2.1.1) (hdis _ h_t.2.2.2.1)
    obtain ⟨c0, hc0⟩ := hrw.2
    have hob : OB g H1 rw 3 [.ref ce, .int (nI 0)] := ho2
    have hc : AB g H1 ce 96 c0 := AB.off hq hcr hc0
    have hM := AJ.off hq (hf0.1 0 (by decide)).1 hM
    have h1 := AJ.off hq (hf0.1 1 (by decide)).1 h1
    have h2 := AJ.off hq (hf0.1 2 (by decide)).1 h2
    have h4 := AJ.off hq (hf0.1 4 (by decide)).1 h4
    clear hq ho2
    have hk : KJ g (fun q => q = r2 ∨ q = r3 ∨ q = r4 ∨ q = F 5) H1 H1 := KJ.rf
    have sB : ∀ (mk2 : Nat) (H : Heap) (locs : List Loc) (ls : Array Slot) (fp : Nat → Int64), ¬ cq P.2.2 0 → ((sh = 0 ∧ mk2 = 0) ∨ (¬ sh = 0 ∧ mk2 = mK9 P)) → KJ g (fun q => q = r2 ∨ q = r3 ∨ q = r4 ∨ q = F 5) H1 H → LW g H r2 (P.2.2 ^ (QN - 2)) → AJ g H r4 14 fp → RV fp ((yA9 P : Nat) : Int) → (∀ q ∈ locs, n0 q.base) → lv_has ls 6 [(4, .int (nI mk2)), (0, .ref o), (1, .ref rw), (2, .ref t), (3, .int sh)] → W p l e { frames := 4, cells := 0, slots := 0, locals := 182 } s m [.ref o, .ref rw, .ref t, .int sh].toArray below meth c H locs 0 0 (MQ below (QcP (QV (fun H H' => ∃ H1 H2, FRM (fun q => q = rw ∨ q = ce) H H1 ∧ KJ g (fun q => q = r2 ∨ q = r3 ∨ q = r4 ∨ q = F 5) H1 H2 ∧ FRM (fun q => q = rw ∨ q = ce) H2 H' ∧ ∃ n tb c9, OB g H' rw 3 [.ref ce, .int (nI n)] ∧ AB g H' ce 96 c9 ∧ TX9 P sh n tb ∧ ∀ j, j < n → c9 j &&& 255 = nI (tb j)))) [.ref o, .ref rw, .ref t, .int sh].toArray s 0 0 (fun q => n0 q)) (F0 m 131 ls []) := by
      intro  mk2   H   locs   ls   fp hz hmk hk hLI hfp hvfp hF hl
      refine lv_aload_n hx hb d_Forms_write_131 rfl (lv_at hl 1 rfl) ?_
      refine q_get (C := "KateDesk$Forms") (T := T_Forms) (N := 6) (ci := 6) E ((hk.fmx hK hfm).1) in_Forms rfl 0 (by decide) w_272 rfl rfl d_Forms_write_132 ?_
      refine lv_aload_n hx hb d_Forms_write_135 rfl (lv_at hl 1 rfl) ?_
      refine q_get (C := "KateDesk$Forms") (T := T_Forms) (N := 6) (ci := 6) E ((hk.fmx hK hfm).1) in_Forms rfl 4 (by decide) w_276 rfl rfl d_Forms_write_136 ?_
      refine lv_aload_n hx hb d_Forms_write_139 rfl (lv_at hl 3 rfl) ?_
      refine q_get (C := "KateDesk$Point") (T := T_Point) (N := 3) (ci := 2) E ((hk.pt hK h_t).1) in_Point rfl 0 (by decide) w_47 rfl rfl d_Forms_write_140 ?_
      refine lv_aload_n hx hb d_Forms_write_143 rfl (lv_at hl 1 rfl) ?_
      refine q_get (C := "KateDesk$Forms") (T := T_Forms) (N := 6) (ci := 6) E ((hk.fmx hK hfm).1) in_Forms rfl 3 (by decide) w_275 rfl rfl d_Forms_write_144 ?_
      obtain ⟨fc9, hfc9, hvc9⟩ := hLP.1.off hk nT1
      obtain ⟨fi9, hfi9, hvi9⟩ := id hLI
      refine q_cV (rest := []) E ((Q_Field_multiply l g n1 fi r3 t1 r2 F mi fc9 fi9 _ _ hvc9 hvi9 (qm_r _).2 (qm_r _).2 (hB 0 (by decide)).2.1 hmi).up (fun q h => (hn1 q h).1)) w_165 w_4 w_666 w_163 w_164 hd_Field_multiply rfl ⟨by decide, by decide⟩ (OB.recv E.2.2.2.2.2 (by rfl) ((hk.fmx hK hfm).2.1.2.1.1)) (⟨(hk.fmx hK hfm).2.1.2.1, (hk.fmx hK hfm).2.2.2.2.1, hfc9, hfi9, (hk.ajo (nF 0 (by decide)) hM)⟩) hF hl.1 rfl (Nat.le_of_ble_eq_true rfl) d_Forms_write_147 ⟨by decide, by decide⟩ (qv (fun H1 locs hq hF => ?_))
      obtain ⟨hq, fm9, hfm9, hvm9⟩ := hq
      rw [lw_mu] at hvm9
      have hLI := hLI.off hq hA9.2.2.2.1.2.2.2.1
      have hfp := hq.ajo hA9.2.2.2.1.2.2.2.2.2.symm hfp
      have hk := hk.tr (hq.mono (fun q h => Or.inr (Or.inl h)))
      refine lv_aload_n hx hb d_Forms_write_150 rfl (lv_at hl 1 rfl) ?_
      refine q_get (C := "KateDesk$Forms") (T := T_Forms) (N := 6) (ci := 6) E ((hk.fmx hK hfm).1) in_Forms rfl 0 (by decide) w_272 rfl rfl d_Forms_write_151 ?_
      refine lv_aload_n hx hb d_Forms_write_154 rfl (lv_at hl 1 rfl) ?_
      refine q_get (C := "KateDesk$Forms") (T := T_Forms) (N := 6) (ci := 6) E ((hk.fmx hK hfm).1) in_Forms rfl 4 (by decide) w_276 rfl rfl d_Forms_write_155 ?_
      refine lv_aload_n hx hb d_Forms_write_158 rfl (lv_at hl 1 rfl) ?_
      refine q_get (C := "KateDesk$Forms") (T := T_Forms) (N := 6) (ci := 6) E ((hk.fmx hK hfm).1) in_Forms rfl 4 (by decide) w_276 rfl rfl d_Forms_write_159 ?_
      refine q_cV (rest := []) E ((Q_Field_lower l g n1 fi r3 r3 F mi fm9 _ hvm9 (qm_r _).2 (hB 0 (by decide)).2.1 hmi).up (fun q h => (hn1 q h).1)) w_589 w_4 w_659 w_587 w_588 hd_Field_lower rfl ⟨by decide, by decide⟩ (OB.recv E.2.2.2.2.2 (by rfl) ((hk.fmx hK hfm).2.1.2.1.1)) (⟨(hk.fmx hK hfm).2.1.2.1, (hk.fmx hK hfm).2.2.2.2.1, hfm9, (hk.ajo (nF 0 (by decide)) hM), fo2, hk.ajo (nF 2 (by decide)) h2, v2⟩) hF hl.1 rfl (Nat.le_of_ble_eq_true rfl) d_Forms_write_162 ⟨by decide, by decide⟩ (qv (fun H2 locs hq hF => ?_))
      obtain ⟨hq, fx, hfx, hvfx⟩ := hq
      rw [lw_lo, ← xA_v P] at hvfx
      have hLI := hLI.off hq hA9.2.2.2.1.2.2.2.1
      have hfp := hq.ajo hA9.2.2.2.1.2.2.2.2.2.symm hfp
      have hk := hk.tr (hq.mono (fun q h => Or.inr (Or.inl h)))
      refine lv_aload_n hx hb d_Forms_write_165 rfl (lv_at hl 2 rfl) ?_
      refine lv_aload_n hx hb d_Forms_write_166 rfl (lv_at hl 1 rfl) ?_
      refine q_get (C := "KateDesk$Forms") (T := T_Forms) (N := 6) (ci := 6) E ((hk.fmx hK hfm).1) in_Forms rfl 4 (by decide) w_276 rfl rfl d_Forms_write_167 ?_
      refine lv_iload hx hb d_Forms_write_170 (lv_at hl 0 rfl) ?_
      have hob := hk.ob hK hob
      have hc := hk.abo nce hc
      have hmk8 : mk2 < 8 := by rcases hmk with ⟨-, h⟩ | ⟨-, h⟩; (rw [h]; decide); (rw [h]; exact mK_8 P)
      refine q_cS (rest := []) E (L_Forms_writeCoordinate l g n0 rw ce 0 r3 mk2 (xA9 P) fx hvfx (q_381 (xA_q P)) hmk8 (by decide) c0 hnr hnc hr3.2.1 hr3.2.2) w_747 w_13 w_745 w_746 hd_Forms_writeCoordinate rfl ⟨by decide, by decide⟩ (⟨hob, hc, hfx⟩) hF hl.1 rfl (Nat.le_of_ble_eq_true rfl) d_Forms_write_172 ⟨by decide, by decide⟩ (qv (fun H3 locs hq hF => ?_))
      obtain ⟨hf3, hob, c1, hc, -, hn9⟩ := hq
      have hob : OB g H3 rw 3 [.ref ce, .int (nI 48)] := hob
      have hn9 : ∀ j, j < 48 → c1 j &&& 255 = nI (wby (xA9 P) mk2 j) := fun j hj => by have h9 := hn9 j hj; rw [Nat.zero_add] at h9; exact h9
      refine lv_iload_n hx hb d_Forms_write_175 rfl (lv_at hl 4 rfl) ?_
      refine lv_if_ne (tgt := 188) hx hb d_Forms_write_176 (by decide) (fun h5 => ?_) (fun h5 => ?_)
      · skip
        have em : mk2 = mK9 P := by rcases hmk with ⟨h, -⟩ | ⟨-, h⟩; exact absurd h h5; exact h
        rw [em] at hn9
        exact q_vret E hr hlk (⟨rfl, _, _, hf1, hk, hf3, 48, fun j => wby (xA9 P) (mK9 P) j, c1, hob, hc, Or.inr ⟨hz, Or.inr ⟨h5, rfl, fun j _ => rfl⟩⟩, hn9⟩) hF d_Forms_write_188
      · skip
        have h5 : sh = 0 := by first | exact h5 | exact Classical.not_not.mp h5
        have em : mk2 = 0 := by rcases hmk with ⟨-, h⟩ | ⟨h, -⟩; exact h; exact absurd h5 h
        rw [em] at hn9
        have hfm3 := (hk.fmx hK hfm).frm hf3 (fun q h h9 => h9.elim (hn1 q h).2.1 (hn1 q h).2.2) (fun h => h.elim ho.1 ho.2) (fun h => h.elim hcu.1 hcu.2) (fun h => h.elim hfi.1 hfi.2) ⟨fun k hk h => h.elim (hf0.1 k hk).1 (hf0.1 k hk).2, fun h => h.elim hf0.2.1 hf0.2.2⟩
        have hfp := AJ.off hf3 (fun h => h.elim hr4.2.1 hr4.2.2) hfp
        refine lv_aload_n hx hb d_Forms_write_179 rfl (lv_at hl 2 rfl) ?_
        refine lv_aload_n hx hb d_Forms_write_180 rfl (lv_at hl 1 rfl) ?_
        refine q_get (C := "KateDesk$Forms") (T := T_Forms) (N := 6) (ci := 6) E hfm3.1 in_Forms rfl 5 (by decide) w_277 rfl rfl d_Forms_write_181 ?_
        refine lv_iconst (v := nI 0) hx hb d_Forms_write_184 (by decide) ?_
        refine q_cS (rest := []) E (L_Forms_writeCoordinate l g n0 rw ce 48 r4 0 (yA9 P) fp hvfp (q_381 (yA_q P)) (by decide) (by decide) c1 hnr hnc hr4.2.1 hr4.2.2) w_747 w_13 w_745 w_746 hd_Forms_writeCoordinate rfl ⟨by decide, by decide⟩ (⟨hob, hc, hfp⟩) hF hl.1 rfl (Nat.le_of_ble_eq_true rfl) d_Forms_write_185 ⟨by decide, by decide⟩ (qv (fun H4 locs hq hF => ?_))
        obtain ⟨hf4, hob, c2, hc, ho9, hm9⟩ := hq
        have hob : OB g H4 rw 3 [.ref ce, .int (nI 96)] := hob
        have hall : ∀ j, j < 96 → c2 j &&& 255 = nI (if j < 48 then wby (xA9 P) 0 j else wby (yA9 P) 0 (j - 48)) := fun j hj => by
          by_cases c9 : j < 48
          · rw [if_pos c9, ho9 j c9, hn9 j c9]
          · rw [if_neg c9]
            have h9 := hm9 (j - 48) (by omega)
            rw [show 48 + (j - 48) = j by omega] at h9
            exact h9
        exact q_vret E hr hlk (⟨rfl, _, _, hf1, hk, hf3.tr hf4, 96, fun j => if j < 48 then wby (xA9 P) 0 j else wby (yA9 P) 0 (j - 48), c2, hob, hc, Or.inr ⟨hz, Or.inl ⟨h5, rfl, fun j hj => if_pos hj, fun j hj => by show (if 48 + j < 48 then _ else _) = _; rw [if_neg (by omega), Nat.add_sub_cancel_left]⟩⟩, hall⟩) hF d_Forms_write_188
    refine lv_aload_n hx hb d_Forms_write_16 rfl (lv_at hl 3 rfl) ?_
    refine q_cV (rest := []) E ((L_Point_isNothing l g n1 t t1 t2 t3 P.2.2).up (fun q h => (hn1 q h).1)) w_728 w_2 w_742 w_726 w_727 hd_Point_isNothing rfl ⟨by decide, by decide⟩ (OB.recv E.2.2.2.2.2 (by rfl) h_t.1) (⟨h_t, hLP.2.2⟩) hF hl.1 rfl (Nat.le_of_ble_eq_true rfl) d_Forms_write_17 ⟨by decide, by decide⟩ (qi (fun rz H2 locs hq hF => ?_))
    obtain ⟨hrz, hq⟩ := hq
    have hq := hq.symm
    subst hq
    refine lv_if_eq (tgt := 64) hx hb d_Forms_write_20 (by decide) (fun h3 => ?_) (fun h3 => ?_)
    · skip
      have hz : ¬ cq P.2.2 0 := (hrz.resolve_left (fun h => absurd (h.1.symm.trans h3) (by decide))).2
      refine lv_aload_n hx hb d_Forms_write_64 rfl (lv_at hl 1 rfl) ?_
      refine q_get (C := "KateDesk$Forms") (T := T_Forms) (N := 6) (ci := 6) E ((hk.fmx hK hfm).1) in_Forms rfl 0 (by decide) w_272 rfl rfl d_Forms_write_65 ?_
      refine lv_aload_n hx hb d_Forms_write_68 rfl (lv_at hl 1 rfl) ?_
      refine q_get (C := "KateDesk$Forms") (T := T_Forms) (N := 6) (ci := 6) E ((hk.fmx hK hfm).1) in_Forms rfl 3 (by decide) w_275 rfl rfl d_Forms_write_69 ?_
      refine lv_aload_n hx hb d_Forms_write_72 rfl (lv_at hl 3 rfl) ?_
      refine q_get (C := "KateDesk$Point") (T := T_Point) (N := 3) (ci := 2) E ((hk.pt hK h_t).1) in_Point rfl 2 (by decide) w_55 rfl rfl d_Forms_write_73 ?_
      obtain ⟨fz9, hfz9, hvz9⟩ := id hLP.2.2
      refine q_cV (rest := []) E ((Q_Field_invert l g n1 fi r2 t3 F mi fz9 fo4 P.2.2 hvz9 v4 (hB 0 (by decide)).1 (hB 0 (by decide)).2.2.2 hA9.2.2.1.2.1 (hB 4 (by decide)).1 (hB 4 (by decide)).2.2.2 (hB 1 (by decide)).2.2.2 hmi).up (fun q h => (hn1 q h).1)) w_570 w_4 w_744 w_568 w_569 hd_Field_invert rfl ⟨by decide, by decide⟩ (OB.recv E.2.2.2.2.2 (by rfl) ((hk.fmx hK hfm).2.1.2.1.1)) (⟨(hk.fmx hK hfm).2.1.2.1, (hk.fmx hK hfm).2.2.2.1, hfz9, hk.ajo (nF 4 (by decide)) h4, (hk.ajo (nF 0 (by decide)) hM), fo1, hk.ajo (nF 1 (by decide)) h1, v1⟩) hF hl.1 rfl (Nat.le_of_ble_eq_true rfl) d_Forms_write_76 ⟨by decide, by decide⟩ (qv (fun H3 locs hq hF => ?_))
      obtain ⟨hq, hLI⟩ := hq
      have hLI : LW g H3 r2 (P.2.2 ^ (QN - 2)) := hLI
      have hk := hk.tr (hq.mono (fun q h => h.elim (fun h => Or.inl h) (fun h => Or.inr (Or.inr (Or.inr h)))))
      refine lv_aload_n hx hb d_Forms_write_79 rfl (lv_at hl 1 rfl) ?_
      refine q_get (C := "KateDesk$Forms") (T := T_Forms) (N := 6) (ci := 6) E ((hk.fmx hK hfm).1) in_Forms rfl 0 (by decide) w_272 rfl rfl d_Forms_write_80 ?_
      refine lv_aload_n hx hb d_Forms_write_83 rfl (lv_at hl 1 rfl) ?_
      refine q_get (C := "KateDesk$Forms") (T := T_Forms) (N := 6) (ci := 6) E ((hk.fmx hK hfm).1) in_Forms rfl 5 (by decide) w_277 rfl rfl d_Forms_write_84 ?_
      refine lv_aload_n hx hb d_Forms_write_87 rfl (lv_at hl 3 rfl) ?_
      refine q_get (C := "KateDesk$Point") (T := T_Point) (N := 3) (ci := 2) E ((hk.pt hK h_t).1) in_Point rfl 1 (by decide) w_51 rfl rfl d_Forms_write_88 ?_
      refine lv_aload_n hx hb d_Forms_write_91 rfl (lv_at hl 1 rfl) ?_
      refine q_get (C := "KateDesk$Forms") (T := T_Forms) (N := 6) (ci := 6) E ((hk.fmx hK hfm).1) in_Forms rfl 3 (by decide) w_275 rfl rfl d_Forms_write_92 ?_
      obtain ⟨fc9, hfc9, hvc9⟩ := hLP.2.1.off hk nT2
      obtain ⟨fi9, hfi9, hvi9⟩ := id hLI
      refine q_cV (rest := []) E ((Q_Field_multiply l g n1 fi r4 t2 r2 F mi fc9 fi9 _ _ hvc9 hvi9 (qm_r _).2 (qm_r _).2 (hB 0 (by decide)).2.2.1 hmi).up (fun q h => (hn1 q h).1)) w_165 w_4 w_666 w_163 w_164 hd_Field_multiply rfl ⟨by decide, by decide⟩ (OB.recv E.2.2.2.2.2 (by rfl) ((hk.fmx hK hfm).2.1.2.1.1)) (⟨(hk.fmx hK hfm).2.1.2.1, (hk.fmx hK hfm).2.2.2.2.2, hfc9, hfi9, (hk.ajo (nF 0 (by decide)) hM)⟩) hF hl.1 rfl (Nat.le_of_ble_eq_true rfl) d_Forms_write_95 ⟨by decide, by decide⟩ (qv (fun H4 locs hq hF => ?_))
      obtain ⟨hq, fm9, hfm9, hvm9⟩ := hq
      rw [lw_mu] at hvm9
      have hLI := hLI.off hq hA9.2.2.2.1.2.2.2.2.1
      have hk := hk.tr (hq.mono (fun q h => Or.inr (Or.inr (Or.inl h))))
      refine lv_aload_n hx hb d_Forms_write_98 rfl (lv_at hl 1 rfl) ?_
      refine q_get (C := "KateDesk$Forms") (T := T_Forms) (N := 6) (ci := 6) E ((hk.fmx hK hfm).1) in_Forms rfl 0 (by decide) w_272 rfl rfl d_Forms_write_99 ?_
      refine lv_aload_n hx hb d_Forms_write_102 rfl (lv_at hl 1 rfl) ?_
      refine q_get (C := "KateDesk$Forms") (T := T_Forms) (N := 6) (ci := 6) E ((hk.fmx hK hfm).1) in_Forms rfl 5 (by decide) w_277 rfl rfl d_Forms_write_103 ?_
      refine lv_aload_n hx hb d_Forms_write_106 rfl (lv_at hl 1 rfl) ?_
      refine q_get (C := "KateDesk$Forms") (T := T_Forms) (N := 6) (ci := 6) E ((hk.fmx hK hfm).1) in_Forms rfl 5 (by decide) w_277 rfl rfl d_Forms_write_107 ?_
      refine q_cV (rest := []) E ((Q_Field_lower l g n1 fi r4 r4 F mi fm9 _ hvm9 (qm_r _).2 (hB 0 (by decide)).2.2.1 hmi).up (fun q h => (hn1 q h).1)) w_589 w_4 w_659 w_587 w_588 hd_Field_lower rfl ⟨by decide, by decide⟩ (OB.recv E.2.2.2.2.2 (by rfl) ((hk.fmx hK hfm).2.1.2.1.1)) (⟨(hk.fmx hK hfm).2.1.2.1, (hk.fmx hK hfm).2.2.2.2.2, hfm9, (hk.ajo (nF 0 (by decide)) hM), fo2, hk.ajo (nF 2 (by decide)) h2, v2⟩) hF hl.1 rfl (Nat.le_of_ble_eq_true rfl) d_Forms_write_110 ⟨by decide, by decide⟩ (qv (fun H5 locs hq hF => ?_))
      obtain ⟨hq, fp, hfp, hvfp⟩ := hq
      rw [lw_lo, ← yA_v P] at hvfp
      have hLI := hLI.off hq hA9.2.2.2.1.2.2.2.2.1
      have hk := hk.tr (hq.mono (fun q h => Or.inr (Or.inr (Or.inl h))))
      refine lv_iload_n hx hb d_Forms_write_113 rfl (lv_at hl 4 rfl) ?_
      refine lv_if_eq (tgt := 131) hx hb d_Forms_write_114 (by decide) (fun hs => ?_) (fun hs => ?_)
      · skip
        have e0 : mk = 0 := by rcases hmk0 with ⟨-, h⟩ | ⟨h, -⟩; exact h; exact absurd hs h
        subst e0
        have hl : lv_has ls 6 [(4, .int (nI 0)), (0, .ref o), (1, .ref rw), (2, .ref t), (3, .int sh)] := lv_sub hl [0, 1, 2, 3, 4] rfl
        exact sB 0 _ _ ls fp hz (Or.inl ⟨hs, rfl⟩) hk hLI hfp hvfp hF hl
      · skip
        have e0 : mk = 4 := by rcases hmk0 with ⟨h, -⟩ | ⟨-, h⟩; exact absurd h hs; exact h
        subst e0
        refine lv_aload_n hx hb d_Forms_write_117 rfl (lv_at hl 1 rfl) ?_
        refine lv_aload_n hx hb d_Forms_write_118 rfl (lv_at hl 1 rfl) ?_
        refine q_get (C := "KateDesk$Forms") (T := T_Forms) (N := 6) (ci := 6) E ((hk.fmx hK hfm).1) in_Forms rfl 5 (by decide) w_277 rfl rfl d_Forms_write_119 ?_
        refine q_cV (rest := []) E ((L_Forms_isGreater l g n1 o cu fi F mi X r1 r2 r3 r4 r4 fp ((yA9 P : Nat) : Int) hvfp (yA_q P) hA9 hA9.2.2.1.2.2.2 hA9.2.2.2.1.2.2.2.2.2.symm).up (fun q h => (hn1 q h).1)) w_663 w_13 w_660 w_662 (bw_s 6 rfl) hd_Forms_isGreater rfl ⟨by decide, by decide⟩ (OB.recv E.2.2.2.2.2 (by rfl) ((hk.fmx hK hfm).1)) (⟨(hk.fmx hK hfm), (hk.ajo (nF 0 (by decide)) hM), hfp⟩) hF hl.1 rfl (Nat.le_of_ble_eq_true rfl) d_Forms_write_122 ⟨by decide, by decide⟩ (qi (fun rg H6 locs hq hF => ?_))
        obtain ⟨hrg, hq⟩ := hq
        have hfp := hq.ajo (fun h => h.elim hA9.2.2.2.1.2.2.2.2.2.symm hA9.2.2.1.2.2.2) hfp
        have hLI := hLI.off hq (fun h => h.elim hA9.2.2.2.1.2.2.2.1 hA9.2.2.1.2.1)
        have hk := hk.tr (hq.mono (fun q h => h.elim (fun h => Or.inr (Or.inl h)) (fun h => Or.inr (Or.inr (Or.inr h)))))
        refine lv_if_eq (tgt := 131) hx hb d_Forms_write_125 (by decide) (fun hg => ?_) (fun hg => ?_)
        · skip
          have hl : lv_has ls 6 [(4, .int (nI 4)), (0, .ref o), (1, .ref rw), (2, .ref t), (3, .int sh)] := lv_sub hl [0, 1, 2, 3, 4] rfl
          exact sB 4 _ _ ls fp hz (Or.inr ⟨hs, by unfold mK9; rw [if_neg (Int.not_lt.mpr (hrg.resolve_left (fun h => absurd (h.1.symm.trans hg) (by decide))).2)]⟩) hk hLI hfp hvfp hF hl
        · skip
          refine lv_iinc (k := 0) (v := nI 5) (lv' := [(4, .int (nI 5)), (0, .ref o), (1, .ref rw), (2, .ref t), (3, .int sh)]) hx hb d_Forms_write_128 hl rfl (i_inc 4) (by decide) rfl (fun ls hl => ?_)
          have hl : lv_has ls 6 [(4, .int (nI 5)), (0, .ref o), (1, .ref rw), (2, .ref t), (3, .int sh)] := lv_sub hl [0, 1, 2, 3, 4] rfl
          exact sB 5 _ _ ls fp hz (Or.inr ⟨hs, by unfold mK9; rw [if_pos (hrg.resolve_right (fun h => hg h.1)).2]⟩) hk hLI hfp hvfp hF hl
    · skip
      have hz : cq P.2.2 0 := (hrz.resolve_right (fun h => h3 h.1)).2
      have hf3 : FRM (fun q => q = rw ∨ q = ce) H1 H1 := FRM.rf
      rcases hmk0 with ⟨hs0, e0⟩ | ⟨hs0, e0⟩
      · skip
        subst e0
        refine lv_aload_n hx hb d_Forms_write_23 rfl (lv_at hl 2 rfl) ?_
        refine lv_iload hx hb d_Forms_write_24 (lv_at hl 0 rfl) ?_
        refine lv_iconst (v := nI 2) hx hb d_Forms_write_26 (by decide) ?_
        refine lv_iadd hx hb d_Forms_write_27 ?_
        refine lv_iconst (v := nI 5) hx hb d_Forms_write_28 (by decide) ?_
        refine lv_ishl hx hb d_Forms_write_29 ?_
        refine lv_topi (fun t9 e9 => ?_)
        obtain rfl : t9 = nI 64 := e9.trans (by decide)
        refine q_cV (rest := []) E (X_Row_append l g n0 rw ce 0 (nI 64) c0 (by decide)) w_484 w_3 w_743 w_482 w_483 hd_Row_append rfl ⟨by decide, by decide⟩ (OB.recv E.2.2.2.2.2 (by rfl) hob) (⟨hob, hc, hnr, hnc⟩) hF hl.1 rfl (Nat.le_of_ble_eq_true rfl) d_Forms_write_30 ⟨by decide, by decide⟩ (qv (fun H3 locs hq hF => ?_))
        obtain ⟨hq, hob, hc⟩ := hq
        have hf3 := hf3.tr hq
        have hob : OB g H3 rw 3 [.ref ce, .int (nI 1)] := hob
        have hv0 : upd c0 0 (vp_nar .byte (nI 64).toInt8.toInt32) 0 &&& 255 = nI 64 := by rw [up_s]; exact by_9 (by decide)
        refine lv_iconst (v := nI 1) hx hb d_Forms_write_33 (by decide) ?_
        refine lv_istore (lv' := [(5, .int (nI 1)), (4, .int (nI 0)), (0, .ref o), (1, .ref rw), (2, .ref t), (3, .int sh)]) hx hb d_Forms_write_34 hl (by decide) rfl (fun ls hl => ?_)
        have hl : lv_has ls 6 [(5, .int (nI 1)), (0, .ref o), (1, .ref rw), (2, .ref t), (3, .int sh)] := lv_sub hl [0, 2, 3, 4, 5] rfl
        have lp : ∀ (k : Nat) (i : Nat) (H : Heap) (locs : List Loc) (ls : Array Slot) (c1 : Nat → Int32), i + k = 96 → 1 ≤ i → FRM (fun q => q = rw ∨ q = ce) H1 H → OB g H rw 3 [.ref ce, .int (nI i)] → AB g H ce 96 c1 → c1 0 &&& 255 = nI 64 → (∀ j, 1 ≤ j → j < i → c1 j &&& 255 = nI 0) → (∀ q ∈ locs, n0 q.base) → lv_has ls 6 [(5, .int (nI i)), (0, .ref o), (1, .ref rw), (2, .ref t), (3, .int sh)] → W p l e { frames := 4, cells := 0, slots := 0, locals := 182 } s m [.ref o, .ref rw, .ref t, .int sh].toArray below meth c H locs 0 0 (MQ below (QcP (QV (fun H H' => ∃ H1 H2, FRM (fun q => q = rw ∨ q = ce) H H1 ∧ KJ g (fun q => q = r2 ∨ q = r3 ∨ q = r4 ∨ q = F 5) H1 H2 ∧ FRM (fun q => q = rw ∨ q = ce) H2 H' ∧ ∃ n tb c9, OB g H' rw 3 [.ref ce, .int (nI n)] ∧ AB g H' ce 96 c9 ∧ TX9 P sh n tb ∧ ∀ j, j < n → c9 j &&& 255 = nI (tb j)))) [.ref o, .ref rw, .ref t, .int sh].toArray s 0 0 (fun q => n0 q)) (F0 m 36 ls []) := by
          intro k
          induction k with
          | zero =>
            intro  i   H   locs   ls   c1 hi hi1 hf3 hob hc hv0 hcz hF hl
            obtain rfl : i = 96 := by omega
            refine lv_iload hx hb d_Forms_write_36 (lv_at hl 0 rfl) ?_
            refine lv_iload_n hx hb d_Forms_write_38 rfl (lv_at hl 4 rfl) ?_
            refine lv_if_eq (tgt := 47) hx hb d_Forms_write_39 (by decide) (fun _ => ?_) (fun h9 => absurd (hs0) h9)
            refine lv_bipush (v := nI 96) hx hb d_Forms_write_47 (by decide) ?_
            refine lv_icmp_ge (tgt := 63) hx hb d_Forms_write_49 (by decide) (fun _ => ?_) (fun h9 => absurd (by decide) h9)
            have hall : ∀ j, j < 96 → c1 j &&& 255 = nI (if j = 0 then 64 else 0) := fun j hj => by
              by_cases e9 : j = 0
              · rw [if_pos e9, e9]; exact hv0
              · rw [if_neg e9]; exact hcz j (by omega) hj
            exact q_vret E hr hlk (⟨rfl, _, _, hf1, KJ.rf, hf3, 96, fun j => if j = 0 then 64 else 0, c1, hob, hc, Or.inl ⟨hz, Or.inl ⟨hs0, rfl, rfl⟩, fun j h1 _ => if_neg (by omega)⟩, hall⟩) hF d_Forms_write_63
          | succ k ih =>
            intro  i   H   locs   ls   c1 hi hi1 hf3 hob hc hv0 hcz hF hl
            refine lv_iload hx hb d_Forms_write_36 (lv_at hl 0 rfl) ?_
            refine lv_iload_n hx hb d_Forms_write_38 rfl (lv_at hl 4 rfl) ?_
            refine lv_if_eq (tgt := 47) hx hb d_Forms_write_39 (by decide) (fun _ => ?_) (fun h9 => absurd (hs0) h9)
            refine lv_bipush (v := nI 96) hx hb d_Forms_write_47 (by decide) ?_
            refine lv_icmp_ge (tgt := 63) hx hb d_Forms_write_49 (by decide) (fun h9 => absurd h9 (nI_ge (by omega) (by decide))) (fun _ => ?_)
            refine lv_aload_n hx hb d_Forms_write_52 rfl (lv_at hl 2 rfl) ?_
            refine lv_iconst (v := nI 0) hx hb d_Forms_write_53 (by decide) ?_
            refine q_cV (rest := []) E (X_Row_append l g n0 rw ce i (nI 0) c1 (by omega)) w_484 w_3 w_743 w_482 w_483 hd_Row_append rfl ⟨by decide, by decide⟩ (OB.recv E.2.2.2.2.2 (by rfl) hob) (⟨hob, hc, hnr, hnc⟩) hF hl.1 rfl (Nat.le_of_ble_eq_true rfl) d_Forms_write_54 ⟨by decide, by decide⟩ (qv (fun H1 locs hq hF => ?_))
            obtain ⟨hq, hob, hc⟩ := hq
            have hf3 := hf3.tr hq
            have hv1 : upd c1 i (vp_nar .byte (nI 0).toInt8.toInt32) 0 &&& 255 = nI 64 := by rw [up_n (by omega)]; exact hv0
            have hcz2 : ∀ j, 1 ≤ j → j < i + 1 → upd c1 i (vp_nar .byte (nI 0).toInt8.toInt32) j &&& 255 = nI 0 := fun j h1 h2 => by
              by_cases e9 : j = i
              · rw [e9, up_s]; exact by_9 (by decide)
              · rw [up_n e9]; exact hcz j h1 (by omega)
            refine lv_iinc (k := 0) (v := nI (i + 1)) (lv' := [(5, .int (nI (i + 1))), (0, .ref o), (1, .ref rw), (2, .ref t), (3, .int sh)]) hx hb d_Forms_write_57 hl rfl (i_inc i) (by decide) rfl (fun ls hl => ?_)
            refine lv_goto (tgt := 36) hx hb d_Forms_write_60 (by decide) ?_
            have hl : lv_has ls 6 [(5, .int (nI (i + 1))), (0, .ref o), (1, .ref rw), (2, .ref t), (3, .int sh)] := lv_sub hl [0, 1, 2, 3, 4] rfl
            exact ih (i + 1) _ _ ls _ (by omega) (by omega) hf3 hob hc hv1 hcz2 hF hl
        exact lp 95 1 _ _ ls _ (by omega) (by decide) hf3 hob hc hv0 (fun j h1 h2 => absurd h2 (by omega)) hF hl
      · skip
        subst e0
        refine lv_aload_n hx hb d_Forms_write_23 rfl (lv_at hl 2 rfl) ?_
        refine lv_iload hx hb d_Forms_write_24 (lv_at hl 0 rfl) ?_
        refine lv_iconst (v := nI 2) hx hb d_Forms_write_26 (by decide) ?_
        refine lv_iadd hx hb d_Forms_write_27 ?_
        refine lv_iconst (v := nI 5) hx hb d_Forms_write_28 (by decide) ?_
        refine lv_ishl hx hb d_Forms_write_29 ?_
        refine lv_topi (fun t9 e9 => ?_)
        obtain rfl : t9 = nI 192 := e9.trans (by decide)
        refine q_cV (rest := []) E (X_Row_append l g n0 rw ce 0 (nI 192) c0 (by decide)) w_484 w_3 w_743 w_482 w_483 hd_Row_append rfl ⟨by decide, by decide⟩ (OB.recv E.2.2.2.2.2 (by rfl) hob) (⟨hob, hc, hnr, hnc⟩) hF hl.1 rfl (Nat.le_of_ble_eq_true rfl) d_Forms_write_30 ⟨by decide, by decide⟩ (qv (fun H3 locs hq hF => ?_))
        obtain ⟨hq, hob, hc⟩ := hq
        have hf3 := hf3.tr hq
        have hob : OB g H3 rw 3 [.ref ce, .int (nI 1)] := hob
        have hv0 : upd c0 0 (vp_nar .byte (nI 192).toInt8.toInt32) 0 &&& 255 = nI 192 := by rw [up_s]; exact by_9 (by decide)
        refine lv_iconst (v := nI 1) hx hb d_Forms_write_33 (by decide) ?_
        refine lv_istore (lv' := [(5, .int (nI 1)), (4, .int (nI 4)), (0, .ref o), (1, .ref rw), (2, .ref t), (3, .int sh)]) hx hb d_Forms_write_34 hl (by decide) rfl (fun ls hl => ?_)
        have hl : lv_has ls 6 [(5, .int (nI 1)), (0, .ref o), (1, .ref rw), (2, .ref t), (3, .int sh)] := lv_sub hl [0, 2, 3, 4, 5] rfl
        have lp : ∀ (k : Nat) (i : Nat) (H : Heap) (locs : List Loc) (ls : Array Slot) (c1 : Nat → Int32), i + k = 48 → 1 ≤ i → FRM (fun q => q = rw ∨ q = ce) H1 H → OB g H rw 3 [.ref ce, .int (nI i)] → AB g H ce 96 c1 → c1 0 &&& 255 = nI 192 → (∀ j, 1 ≤ j → j < i → c1 j &&& 255 = nI 0) → (∀ q ∈ locs, n0 q.base) → lv_has ls 6 [(5, .int (nI i)), (0, .ref o), (1, .ref rw), (2, .ref t), (3, .int sh)] → W p l e { frames := 4, cells := 0, slots := 0, locals := 182 } s m [.ref o, .ref rw, .ref t, .int sh].toArray below meth c H locs 0 0 (MQ below (QcP (QV (fun H H' => ∃ H1 H2, FRM (fun q => q = rw ∨ q = ce) H H1 ∧ KJ g (fun q => q = r2 ∨ q = r3 ∨ q = r4 ∨ q = F 5) H1 H2 ∧ FRM (fun q => q = rw ∨ q = ce) H2 H' ∧ ∃ n tb c9, OB g H' rw 3 [.ref ce, .int (nI n)] ∧ AB g H' ce 96 c9 ∧ TX9 P sh n tb ∧ ∀ j, j < n → c9 j &&& 255 = nI (tb j)))) [.ref o, .ref rw, .ref t, .int sh].toArray s 0 0 (fun q => n0 q)) (F0 m 36 ls []) := by
          intro k
          induction k with
          | zero =>
            intro  i   H   locs   ls   c1 hi hi1 hf3 hob hc hv0 hcz hF hl
            obtain rfl : i = 48 := by omega
            refine lv_iload hx hb d_Forms_write_36 (lv_at hl 0 rfl) ?_
            refine lv_iload_n hx hb d_Forms_write_38 rfl (lv_at hl 4 rfl) ?_
            refine lv_if_eq (tgt := 47) hx hb d_Forms_write_39 (by decide) (fun h9 => absurd h9 (hs0)) (fun _ => ?_)
            refine lv_bipush (v := nI 48) hx hb d_Forms_write_42 (by decide) ?_
            refine lv_goto (tgt := 49) hx hb d_Forms_write_44 (by decide) ?_
            refine lv_icmp_ge (tgt := 63) hx hb d_Forms_write_49 (by decide) (fun _ => ?_) (fun h9 => absurd (by decide) h9)
            have hall : ∀ j, j < 48 → c1 j &&& 255 = nI (if j = 0 then 192 else 0) := fun j hj => by
              by_cases e9 : j = 0
              · rw [if_pos e9, e9]; exact hv0
              · rw [if_neg e9]; exact hcz j (by omega) hj
            exact q_vret E hr hlk (⟨rfl, _, _, hf1, KJ.rf, hf3, 48, fun j => if j = 0 then 192 else 0, c1, hob, hc, Or.inl ⟨hz, Or.inr ⟨hs0, rfl, rfl⟩, fun j h1 _ => if_neg (by omega)⟩, hall⟩) hF d_Forms_write_63
          | succ k ih =>
            intro  i   H   locs   ls   c1 hi hi1 hf3 hob hc hv0 hcz hF hl
            refine lv_iload hx hb d_Forms_write_36 (lv_at hl 0 rfl) ?_
            refine lv_iload_n hx hb d_Forms_write_38 rfl (lv_at hl 4 rfl) ?_
            refine lv_if_eq (tgt := 47) hx hb d_Forms_write_39 (by decide) (fun h9 => absurd h9 (hs0)) (fun _ => ?_)
            refine lv_bipush (v := nI 48) hx hb d_Forms_write_42 (by decide) ?_
            refine lv_goto (tgt := 49) hx hb d_Forms_write_44 (by decide) ?_
            refine lv_icmp_ge (tgt := 63) hx hb d_Forms_write_49 (by decide) (fun h9 => absurd h9 (nI_ge (by omega) (by decide))) (fun _ => ?_)
            refine lv_aload_n hx hb d_Forms_write_52 rfl (lv_at hl 2 rfl) ?_
            refine lv_iconst (v := nI 0) hx hb d_Forms_write_53 (by decide) ?_
            refine q_cV (rest := []) E (X_Row_append l g n0 rw ce i (nI 0) c1 (by omega)) w_484 w_3 w_743 w_482 w_483 hd_Row_append rfl ⟨by decide, by decide⟩ (OB.recv E.2.2.2.2.2 (by rfl) hob) (⟨hob, hc, hnr, hnc⟩) hF hl.1 rfl (Nat.le_of_ble_eq_true rfl) d_Forms_write_54 ⟨by decide, by decide⟩ (qv (fun H1 locs hq hF => ?_))
            obtain ⟨hq, hob, hc⟩ := hq
            have hf3 := hf3.tr hq
            have hv1 : upd c1 i (vp_nar .byte (nI 0).toInt8.toInt32) 0 &&& 255 = nI 192 := by rw [up_n (by omega)]; exact hv0
            have hcz2 : ∀ j, 1 ≤ j → j < i + 1 → upd c1 i (vp_nar .byte (nI 0).toInt8.toInt32) j &&& 255 = nI 0 := fun j h1 h2 => by
              by_cases e9 : j = i
              · rw [e9, up_s]; exact by_9 (by decide)
              · rw [up_n e9]; exact hcz j h1 (by omega)
            refine lv_iinc (k := 0) (v := nI (i + 1)) (lv' := [(5, .int (nI (i + 1))), (0, .ref o), (1, .ref rw), (2, .ref t), (3, .int sh)]) hx hb d_Forms_write_57 hl rfl (i_inc i) (by decide) rfl (fun ls hl => ?_)
            refine lv_goto (tgt := 36) hx hb d_Forms_write_60 (by decide) ?_
            have hl : lv_has ls 6 [(5, .int (nI (i + 1))), (0, .ref o), (1, .ref rw), (2, .ref t), (3, .int sh)] := lv_sub hl [0, 1, 2, 3, 4] rfl
            exact ih (i + 1) _ _ ls _ (by omega) (by omega) hf3 hob hc hv1 hcz2 hF hl
        exact lp 47 1 _ _ ls _ (by omega) (by decide) hf3 hob hc hv0 (fun j h1 h2 => absurd h2 (by omega)) hF hl
  refine lv_iload_n hx hb d_Forms_write_0 rfl (lv_at hl 3 rfl) ?_
  refine lv_if_eq (tgt := 8) hx hb d_Forms_write_1 (by decide) (fun hs => ?_) (fun hs => ?_)
  · skip
    refine lv_iconst (v := nI 0) hx hb d_Forms_write_8 (by decide) ?_
    refine lv_istore (lv' := [(4, .int (nI 0)), (0, .ref o), (1, .ref rw), (2, .ref t), (3, .int sh)]) hx hb d_Forms_write_9 hl (by decide) rfl (fun ls hl => ?_)
    have hl : lv_has ls 6 [(4, .int (nI 0)), (0, .ref o), (1, .ref rw), (2, .ref t), (3, .int sh)] := lv_sub hl [0, 1, 2, 3, 4] rfl
    exact sA 0 ls (Or.inl ⟨hs, rfl⟩) hl
  · skip
    refine lv_iconst (v := nI 4) hx hb d_Forms_write_4 (by decide) ?_
    refine lv_goto (tgt := 9) hx hb d_Forms_write_5 (by decide) ?_
    refine lv_istore (lv' := [(4, .int (nI 4)), (0, .ref o), (1, .ref rw), (2, .ref t), (3, .int sh)]) hx hb d_Forms_write_9 hl (by decide) rfl (fun ls hl => ?_)
    have hl : lv_has ls 6 [(4, .int (nI 4)), (0, .ref o), (1, .ref rw), (2, .ref t), (3, .int sh)] := lv_sub hl [0, 1, 2, 3, 4] rfl
    exact sA 4 ls (Or.inr ⟨hs, rfl⟩) hl
