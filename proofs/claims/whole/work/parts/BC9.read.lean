/-! a point's bytes -/
def cb9 (t : Nat → Nat) (fr i : Nat) : Nat := if fr + i = 0 then t 0 % 32 else t (fr + i)
/-- the highest byte first -/
def BE9 (t : Nat → Nat) (fr : Nat) : Nat → Nat
  | 0 => 0
  | i + 1 => BE9 t fr i * 256 + cb9 t fr i
theorem cb_lt {t : Nat → Nat} (h : ∀ j, t j < 256) (fr i : Nat) : cb9 t fr i < 256 := by
  unfold cb9
  split
  · have := Nat.mod_lt (t 0) (show 0 < 32 by decide)
    omega
  · exact h _
theorem an_31 : ∀ v, v < 256 → nI v &&& nI 31 = nI (v % 32) := by decide +kernel
theorem an_255 : ∀ v, v < 256 → nI v &&& nI 255 = nI v := by decide +kernel
theorem sh_5 : ∀ v, v < 256 → nI v >>> (nI 5 &&& 31) = nI (v / 32) := by decide +kernel
theorem or_z32 {a b : Int32} : a ||| b = 0 ↔ a = 0 ∧ b = 0 := by
  rw [← Int32.toBitVec_inj, ← Int32.toBitVec_inj, ← Int32.toBitVec_inj, Int32.toBitVec_or]
  exact BitVec.or_eq_zero_iff
theorem nI_z : ∀ v, v < 256 → (nI v = 0 ↔ v = 0) := by decide +kernel
/-- all bits but the three are 0 -/
def bare9 (t : Nat → Nat) (n : Nat) : Prop := t 0 % 32 = 0 ∧ ∀ j, 1 ≤ j → j < n → t j = 0
set_option maxHeartbeats 4000000 in
set_option maxRecDepth 100000 in
theorem L_Forms_readCoordinate (l : Launch) (g : WG) (n0 : Nat → Prop) (o cu fi : Nat) (F : Nat → Nat) (mi : Int64) (X : Nat → Nat) (r1 r2 r3 r4 : Nat) (t rw ce ts f9 : Nat) (c9 : Nat → Int32) (tb : Nat → Nat) (hts : ts ≤ 96) (hf9 : f9 + 48 ≤ ts) (hcb : ∀ j, j < ts → c9 j &&& 255 = nI (tb j)) (htb : ∀ j, tb j < 256) (hmi : mi = 268238845) (hA9 : FAP F X r1 r2 r3 r4) (hT : F 0 ≠ t ∧ r4 ≠ t) (h34 : F 3 ≠ r4) (hce : ce ≠ t ∧ ce ≠ r4) : Ctr l y_Forms_readCoordinate (.code y_Forms_readCoordinate prog_4_method_5_code 6 (some FieldType.boolean)) 3 157 0 0 n0 g [.ref o, .ref t, .ref rw, .int (nI f9)] (fun H => FMX g n0 H o cu fi F mi X r1 r2 r3 r4 ∧ J14 g n0 H t ∧ (OB g H rw 3 [.ref ce, .int (nI ts)] ∧ AB g H ce 96 c9) ∧ AJ g H (F 0) 14 kQ ∧ ∃ f, AJ g H (F 3) 14 f ∧ RV f W2Q) (QI (fun r H H' => ((r = 1 ∧ ((BE9 tb f9 48 : Nat) : Int) < QJ ∧ LW g H' t ((BE9 tb f9 48 : Nat) : Int)) ∨ (r = 0 ∧ QJ ≤ ((BE9 tb f9 48 : Nat) : Int))) ∧ KJ g (fun q => q = t ∨ q = r4) H H')) := by
  refine ctr_mk l (lv0 := [(0, .ref o), (1, .ref t), (2, .ref rw), (3, .int (nI f9))]) (by decide) (Nat.le_of_ble_eq_true rfl) rfl ?_
  intro p e s m below meth c ls E hr hlk hnm hl hP
  have hx := E.1
  have hb := E.2.1
  have hK := E.2.2.2.2.2
  have hF : ∀ q ∈ ([] : List Loc), n0 q.base := fun q hq => absurd hq List.not_mem_nil
  obtain ⟨hfm, h_t, ⟨hro, hrc⟩, hM, f3, hf3, hv3⟩ := hP
  have hk : KJ g (fun q => q = r4) s.heap s.heap := KJ.rf
  have lp : ∀ (k : Nat) (i : Nat) (H : Heap) (locs : List Loc) (ls : Array Slot) (f : Nat → Int64), i + k = 48 → KJ g (fun q => q = r4) s.heap H → AJ g H r4 14 f → (∀ k, k < 14 → dg (f k)) → VL f 14 = ((BE9 tb f9 i : Nat) : Int) * 256 ^ (48 - i) → (∀ q ∈ locs, n0 q.base) → lv_has ls 6 [(4, .int (nI i)), (0, .ref o), (1, .ref t), (2, .ref rw), (3, .int (nI f9))] → W p l e { frames := 3, cells := 0, slots := 0, locals := 157 } s m [.ref o, .ref t, .ref rw, .int (nI f9)].toArray below meth c H locs 0 0 (MQ below (QcP (QI (fun r H H' => ((r = 1 ∧ ((BE9 tb f9 48 : Nat) : Int) < QJ ∧ LW g H' t ((BE9 tb f9 48 : Nat) : Int)) ∨ (r = 0 ∧ QJ ≤ ((BE9 tb f9 48 : Nat) : Int))) ∧ KJ g (fun q => q = t ∨ q = r4) H H'))) [.ref o, .ref t, .ref rw, .int (nI f9)].toArray s 0 0 (fun q => n0 q)) (F0 m 10 ls []) := by
    intro k
    induction k with
    | zero =>
      intro  i   H   locs   ls   f hi hk hf hd hV hF hl
      obtain rfl : i = 48 := by omega
      refine lv_iload hx hb d_Forms_readCoordinate_10 (lv_at hl 0 rfl) ?_
      refine lv_bipush (v := nI 48) hx hb d_Forms_readCoordinate_12 (by decide) ?_
      refine lv_icmp_ge (tgt := 63) hx hb d_Forms_readCoordinate_14 (by decide) (fun _ => ?_) (fun h9 => absurd (by decide) h9)
      rw [Nat.sub_self, Int.pow_zero, Int.mul_one] at hV
      have hRV : RV f ((BE9 tb f9 48 : Nat) : Int) := ⟨hd, hV⟩
      have hM4 := hk.ajo hA9.2.1.2.2.2 hM
      have hf34 := hk.ajo h34 hf3
      refine lv_aload_n hx hb d_Forms_readCoordinate_63 rfl (lv_at hl 1 rfl) ?_
      refine q_get (C := "KateDesk$Forms") (T := T_Forms) (N := 6) (ci := 6) E ((hk.fmx hK hfm).1) in_Forms rfl 0 (by decide) w_272 rfl rfl d_Forms_readCoordinate_64 ?_
      refine lv_aload_n hx hb d_Forms_readCoordinate_67 rfl (lv_at hl 2 rfl) ?_
      refine lv_aload_n hx hb d_Forms_readCoordinate_68 rfl (lv_at hl 1 rfl) ?_
      refine q_get (C := "KateDesk$Forms") (T := T_Forms) (N := 6) (ci := 6) E ((hk.fmx hK hfm).1) in_Forms rfl 5 (by decide) w_277 rfl rfl d_Forms_readCoordinate_69 ?_
      by_cases hNQ : ((BE9 tb f9 48 : Nat) : Int) < QJ
      · skip
        refine q_cV (rest := []) E (Q_Field_lift l g n0 fi t r4 F mi f ((BE9 tb f9 48 : Nat) : Int) hRV hNQ hT.1 hmi) w_302 w_4 w_646 w_300 w_301 hd_Field_lift rfl ⟨by decide, by decide⟩ (OB.recv E.2.2.2.2.2 (by rfl) ((hk.fmx hK hfm).2.1.2.1.1)) (⟨(hk.fmx hK hfm).2.1.2.1, hk.j h_t, hf, hM4, f3, hf34, hv3⟩) hF hl.1 rfl (Nat.le_of_ble_eq_true rfl) d_Forms_readCoordinate_72 ⟨by decide, by decide⟩ (qv (fun H1 locs hq hF => ?_))
        obtain ⟨hq, f9x, hf9x, hv9x⟩ := hq
        have hLT : LW g H1 t ((BE9 tb f9 48 : Nat) : Int) := ⟨f9x, hf9x, hv9x⟩
        have hf := hq.ajo hT.2 hf
        have hM4 := hq.ajo hT.1 hM4
        have hk9 : KJ g (fun q => q = t ∨ q = r4) s.heap _ := (hk.mono (fun q h => Or.inr h)).tr (hq.mono (fun q h => Or.inl h))
        have hfmk := hk9.fmx hK hfm
        refine lv_aload_n hx hb d_Forms_readCoordinate_75 rfl (lv_at hl 1 rfl) ?_
        refine q_get (C := "KateDesk$Forms") (T := T_Forms) (N := 6) (ci := 6) E hfmk.1 in_Forms rfl 5 (by decide) w_277 rfl rfl d_Forms_readCoordinate_76 ?_
        refine lv_aload_n hx hb d_Forms_readCoordinate_79 rfl (lv_at hl 1 rfl) ?_
        refine q_get (C := "KateDesk$Forms") (T := T_Forms) (N := 6) (ci := 6) E hfmk.1 in_Forms rfl 0 (by decide) w_272 rfl rfl d_Forms_readCoordinate_80 ?_
        refine q_get (C := "KateDesk$Field") (T := T_Field) (N := 7) (ci := 1) E hfmk.2.1.2.1.1 in_Field rfl 0 (by decide) w_171 rfl rfl d_Forms_readCoordinate_83 ?_
        refine q_cS (rest := []) E (X_Limbs_less l g n0 r4 (F 0) f kQ hd kQ_dg) w_512 w_5 w_647 w_511 hd_Limbs_less rfl ⟨by decide, by decide⟩ (⟨hf, hM4⟩) hF hl.1 rfl (Nat.le_of_ble_eq_true rfl) d_Forms_readCoordinate_86 ⟨by decide, by decide⟩ (qi (fun rl H2 locs hq hF => ?_))
        obtain ⟨hrl, hq⟩ := hq
        have hq := hq.symm
        subst hq
        rw [hV, kQ_rv.2] at hrl
        exact q_zret E hr (by rcases hrl with h | h <;> rw [h.1] <;> rfl) hlk (⟨rl, rfl, hrl.imp (fun h => ⟨h.1, h.2, hLT⟩) id, hk9⟩) hF d_Forms_readCoordinate_89
      · skip
        refine q_cV (rest := []) E (c_Field_lift l g n0 fi t r4 F mi) w_302 w_4 w_646 w_300 w_301 hd_Field_lift rfl ⟨by decide, by decide⟩ (OB.recv E.2.2.2.2.2 (by rfl) ((hk.fmx hK hfm).2.1.2.1.1)) (⟨(hk.fmx hK hfm).2.1.2.1, hk.j h_t, hk.j hfm.2.2.2.2.2⟩) hF hl.1 rfl (Nat.le_of_ble_eq_true rfl) d_Forms_readCoordinate_72 ⟨by decide, by decide⟩ (qv (fun H1 locs hq hF => ?_))
        have hf := hq.ajo hT.2 hf
        have hM4 := hq.ajo hT.1 hM4
        have hk9 : KJ g (fun q => q = t ∨ q = r4) s.heap _ := (hk.mono (fun q h => Or.inr h)).tr (hq.mono (fun q h => Or.inl h))
        have hfmk := hk9.fmx hK hfm
        refine lv_aload_n hx hb d_Forms_readCoordinate_75 rfl (lv_at hl 1 rfl) ?_
        refine q_get (C := "KateDesk$Forms") (T := T_Forms) (N := 6) (ci := 6) E hfmk.1 in_Forms rfl 5 (by decide) w_277 rfl rfl d_Forms_readCoordinate_76 ?_
        refine lv_aload_n hx hb d_Forms_readCoordinate_79 rfl (lv_at hl 1 rfl) ?_
        refine q_get (C := "KateDesk$Forms") (T := T_Forms) (N := 6) (ci := 6) E hfmk.1 in_Forms rfl 0 (by decide) w_272 rfl rfl d_Forms_readCoordinate_80 ?_
        refine q_get (C := "KateDesk$Field") (T := T_Field) (N := 7) (ci := 1) E hfmk.2.1.2.1.1 in_Field rfl 0 (by decide) w_171 rfl rfl d_Forms_readCoordinate_83 ?_
        refine q_cS (rest := []) E (X_Limbs_less l g n0 r4 (F 0) f kQ hd kQ_dg) w_512 w_5 w_647 w_511 hd_Limbs_less rfl ⟨by decide, by decide⟩ (⟨hf, hM4⟩) hF hl.1 rfl (Nat.le_of_ble_eq_true rfl) d_Forms_readCoordinate_86 ⟨by decide, by decide⟩ (qi (fun rl H2 locs hq hF => ?_))
        obtain ⟨hrl, hq⟩ := hq
        have hq := hq.symm
        subst hq
        rw [hV, kQ_rv.2] at hrl
        exact q_zret E hr (by rcases hrl with h | h <;> rw [h.1] <;> rfl) hlk (⟨rl, rfl, Or.inr (hrl.resolve_left (fun h => hNQ h.2)), hk9⟩) hF d_Forms_readCoordinate_89
    | succ k ih =>
      intro  i   H   locs   ls   f hi hk hf hd hV hF hl
      have hi48 : i < 48 := by omega
      refine lv_iload hx hb d_Forms_readCoordinate_10 (lv_at hl 0 rfl) ?_
      refine lv_bipush (v := nI 48) hx hb d_Forms_readCoordinate_12 (by decide) ?_
      refine lv_icmp_ge (tgt := 63) hx hb d_Forms_readCoordinate_14 (by decide) (fun h9 => absurd h9 (nI_ge hi48 (by decide))) (fun _ => ?_)
      refine lv_iload_n hx hb d_Forms_readCoordinate_17 rfl (lv_at hl 4 rfl) ?_
      refine lv_iload hx hb d_Forms_readCoordinate_18 (lv_at hl 0 rfl) ?_
      refine lv_iadd hx hb d_Forms_readCoordinate_20 ?_
      refine lv_topi (fun t9 e9 => ?_)
      obtain rfl : t9 = nI (f9 + i) := e9.trans (nI_add _ _)
      refine lv_if_ne (tgt := 29) hx hb d_Forms_readCoordinate_21 (by decide) (fun h0 => ?_) (fun h0 => ?_)
      rotate_left
      · skip
        have hz : f9 + i = 0 := by first | exact (nI_eq (by omega) (by decide)).mp h0 | exact (nI_eq (by omega) (by decide)).mp (Classical.not_not.mp h0)
        refine lv_bipush (v := nI 31) hx hb d_Forms_readCoordinate_24 (by decide) ?_
        refine lv_goto (tgt := 32) hx hb d_Forms_readCoordinate_26 (by decide) ?_
        refine lv_istore (lv' := [(5, .int (nI 31)), (4, .int (nI i)), (0, .ref o), (1, .ref t), (2, .ref rw), (3, .int (nI f9))]) hx hb d_Forms_readCoordinate_32 hl (by decide) rfl (fun ls hl => ?_)
        refine lv_aload_n hx hb d_Forms_readCoordinate_34 rfl (lv_at hl 2 rfl) ?_
        refine q_get (C := "KateDesk$Forms") (T := T_Forms) (N := 6) (ci := 6) E ((hk.fmx hK hfm).1) in_Forms rfl 5 (by decide) w_277 rfl rfl d_Forms_readCoordinate_35 ?_
        refine lv_bipush (v := nI 47) hx hb d_Forms_readCoordinate_38 (by decide) ?_
        refine lv_iload hx hb d_Forms_readCoordinate_40 (lv_at hl 1 rfl) ?_
        refine lv_isub hx hb d_Forms_readCoordinate_42 ?_
        refine lv_topi (fun t9 e9 => ?_)
        obtain rfl : t9 = nI (47 - i) := e9.trans (pk_sub (by omega))
        refine lv_aload_n hx hb d_Forms_readCoordinate_43 rfl (lv_at hl 4 rfl) ?_
        refine lv_iload_n hx hb d_Forms_readCoordinate_44 rfl (lv_at hl 5 rfl) ?_
        refine lv_iload hx hb d_Forms_readCoordinate_45 (lv_at hl 1 rfl) ?_
        refine lv_iadd hx hb d_Forms_readCoordinate_47 ?_
        refine lv_topi (fun t9 e9 => ?_)
        obtain rfl : t9 = nI (f9 + i) := e9.trans (nI_add _ _)
        refine q_cV (rest := [.int (nI (47 - i)), .ref r4]) E (X_Row_at l g n0 rw ce ts (f9 + i) c9 hts (by omega)) w_505 w_3 w_628 w_503 w_504 hd_Row_at rfl ⟨by decide, by decide⟩ (OB.recv E.2.2.2.2.2 (by rfl) (hk.ob hK hro)) (⟨hk.ob hK hro, hk.abo hce.2 hrc⟩) hF hl.1 rfl (Nat.le_of_ble_eq_true rfl) d_Forms_readCoordinate_48 ⟨by decide, by decide⟩ (qi (fun rb H1 locs hq hF => ?_))
        obtain ⟨hrb, hq⟩ := hq
        have hq := hq.symm
        subst hq
        rw [hcb (f9 + i) (by omega)] at hrb
        subst hrb
        refine lv_iload hx hb d_Forms_readCoordinate_51 (lv_at hl 0 rfl) ?_
        refine lv_iand hx hb d_Forms_readCoordinate_53 ?_
        refine lv_topi (fun t9 e9 => ?_)
        obtain rfl : t9 = nI (cb9 tb f9 i) := e9.trans (by rw [an_31 _ (htb _)]; unfold cb9; rw [if_pos hz, hz])
        refine q_cS (rest := []) E (L_Limbs_orByte l g n0 r4 (47 - i) (cb9 tb f9 i) f ((BE9 tb f9 i : Nat) : Int) (by omega) (cb_lt htb f9 i) hd (by rw [hV, show 48 - i = 47 - i + 1 by omega])) w_508 w_5 w_645 w_507 hd_Limbs_orByte rfl ⟨by decide, by decide⟩ (⟨hfm.2.2.2.2.2.1, hf⟩) hF hl.1 rfl (Nat.le_of_ble_eq_true rfl) d_Forms_readCoordinate_54 ⟨by decide, by decide⟩ (qv (fun H2 locs hq hF => ?_))
        obtain ⟨hq, f2, hf2, hd2, hV2⟩ := hq
        have hk := hk.tr hq
        refine lv_iinc (k := 1) (v := nI (i + 1)) (lv' := [(4, .int (nI (i + 1))), (5, .int (nI 31)), (0, .ref o), (1, .ref t), (2, .ref rw), (3, .int (nI f9))]) hx hb d_Forms_readCoordinate_57 hl rfl (i_inc i) (by decide) rfl (fun ls hl => ?_)
        refine lv_goto (tgt := 10) hx hb d_Forms_readCoordinate_60 (by decide) ?_
        have hl : lv_has ls 6 [(4, .int (nI (i + 1))), (0, .ref o), (1, .ref t), (2, .ref rw), (3, .int (nI f9))] := lv_sub hl [0, 2, 3, 4, 5] rfl
        exact ih (i + 1) _ _ ls f2 (by omega) hk hf2 hd2 (by rw [hV2, show 48 - (i + 1) = 47 - i by omega]; show _ = ((BE9 tb f9 i * 256 + cb9 tb f9 i : Nat) : Int) * _; rw [Int.natCast_add, Int.natCast_mul]; rfl) hF hl
      have hz : f9 + i ≠ 0 := fun e => h0 (by rw [e]; rfl)
      refine lv_sipush (v := nI 255) hx hb d_Forms_readCoordinate_29 (by decide) ?_
      refine lv_istore (lv' := [(5, .int (nI 255)), (4, .int (nI i)), (0, .ref o), (1, .ref t), (2, .ref rw), (3, .int (nI f9))]) hx hb d_Forms_readCoordinate_32 hl (by decide) rfl (fun ls hl => ?_)
      refine lv_aload_n hx hb d_Forms_readCoordinate_34 rfl (lv_at hl 2 rfl) ?_
      refine q_get (C := "KateDesk$Forms") (T := T_Forms) (N := 6) (ci := 6) E ((hk.fmx hK hfm).1) in_Forms rfl 5 (by decide) w_277 rfl rfl d_Forms_readCoordinate_35 ?_
      refine lv_bipush (v := nI 47) hx hb d_Forms_readCoordinate_38 (by decide) ?_
      refine lv_iload hx hb d_Forms_readCoordinate_40 (lv_at hl 1 rfl) ?_
      refine lv_isub hx hb d_Forms_readCoordinate_42 ?_
      refine lv_topi (fun t9 e9 => ?_)
      obtain rfl : t9 = nI (47 - i) := e9.trans (pk_sub (by omega))
      refine lv_aload_n hx hb d_Forms_readCoordinate_43 rfl (lv_at hl 4 rfl) ?_
      refine lv_iload_n hx hb d_Forms_readCoordinate_44 rfl (lv_at hl 5 rfl) ?_
      refine lv_iload hx hb d_Forms_readCoordinate_45 (lv_at hl 1 rfl) ?_
      refine lv_iadd hx hb d_Forms_readCoordinate_47 ?_
      refine lv_topi (fun t9 e9 => ?_)
      obtain rfl : t9 = nI (f9 + i) := e9.trans (nI_add _ _)
      refine q_cV (rest := [.int (nI (47 - i)), .ref r4]) E (X_Row_at l g n0 rw ce ts (f9 + i) c9 hts (by omega)) w_505 w_3 w_628 w_503 w_504 hd_Row_at rfl ⟨by decide, by decide⟩ (OB.recv E.2.2.2.2.2 (by rfl) (hk.ob hK hro)) (⟨hk.ob hK hro, hk.abo hce.2 hrc⟩) hF hl.1 rfl (Nat.le_of_ble_eq_true rfl) d_Forms_readCoordinate_48 ⟨by decide, by decide⟩ (qi (fun rb H1 locs hq hF => ?_))
      obtain ⟨hrb, hq⟩ := hq
      have hq := hq.symm
      subst hq
      rw [hcb (f9 + i) (by omega)] at hrb
      subst hrb
      refine lv_iload hx hb d_Forms_readCoordinate_51 (lv_at hl 0 rfl) ?_
      refine lv_iand hx hb d_Forms_readCoordinate_53 ?_
      refine lv_topi (fun t9 e9 => ?_)
      obtain rfl : t9 = nI (cb9 tb f9 i) := e9.trans (by rw [an_255 _ (htb _)]; unfold cb9; rw [if_neg hz])
      refine q_cS (rest := []) E (L_Limbs_orByte l g n0 r4 (47 - i) (cb9 tb f9 i) f ((BE9 tb f9 i : Nat) : Int) (by omega) (cb_lt htb f9 i) hd (by rw [hV, show 48 - i = 47 - i + 1 by omega])) w_508 w_5 w_645 w_507 hd_Limbs_orByte rfl ⟨by decide, by decide⟩ (⟨hfm.2.2.2.2.2.1, hf⟩) hF hl.1 rfl (Nat.le_of_ble_eq_true rfl) d_Forms_readCoordinate_54 ⟨by decide, by decide⟩ (qv (fun H2 locs hq hF => ?_))
      obtain ⟨hq, f2, hf2, hd2, hV2⟩ := hq
      have hk := hk.tr hq
      refine lv_iinc (k := 1) (v := nI (i + 1)) (lv' := [(4, .int (nI (i + 1))), (5, .int (nI 255)), (0, .ref o), (1, .ref t), (2, .ref rw), (3, .int (nI f9))]) hx hb d_Forms_readCoordinate_57 hl rfl (i_inc i) (by decide) rfl (fun ls hl => ?_)
      refine lv_goto (tgt := 10) hx hb d_Forms_readCoordinate_60 (by decide) ?_
      have hl : lv_has ls 6 [(4, .int (nI (i + 1))), (0, .ref o), (1, .ref t), (2, .ref rw), (3, .int (nI f9))] := lv_sub hl [0, 2, 3, 4, 5] rfl
      exact ih (i + 1) _ _ ls f2 (by omega) hk hf2 hd2 (by rw [hV2, show 48 - (i + 1) = 47 - i by omega]; show _ = ((BE9 tb f9 i * 256 + cb9 tb f9 i : Nat) : Int) * _; rw [Int.natCast_add, Int.natCast_mul]; rfl) hF hl
  refine lv_aload_n hx hb d_Forms_readCoordinate_0 rfl (lv_at hl 0 rfl) ?_
  refine q_get (C := "KateDesk$Forms") (T := T_Forms) (N := 6) (ci := 6) E ((hk.fmx hK hfm).1) in_Forms rfl 5 (by decide) w_277 rfl rfl d_Forms_readCoordinate_1 ?_
  refine q_cS (rest := []) E (c_Limbs_clear l g n0 r4) w_498 w_5 w_644 w_497 hd_Limbs_clear rfl ⟨by decide, by decide⟩ ((hk.fmx hK hfm).2.2.2.2.2) hF hl.1 rfl (Nat.le_of_ble_eq_true rfl) d_Forms_readCoordinate_4 ⟨by decide, by decide⟩ (qv (fun H1 locs hq hF => ?_))
  have hf : AJ g H1 r4 14 (fun _ => 0) := hq.2
  have hk := hk.tr hq.1
  refine lv_iconst (v := nI 0) hx hb d_Forms_readCoordinate_7 (by decide) ?_
  refine lv_istore (lv' := [(4, .int (nI 0)), (0, .ref o), (1, .ref t), (2, .ref rw), (3, .int (nI f9))]) hx hb d_Forms_readCoordinate_8 hl (by decide) rfl (fun ls hl => ?_)
  have hl : lv_has ls 6 [(4, .int (nI 0)), (0, .ref o), (1, .ref t), (2, .ref rw), (3, .int (nI f9))] := lv_sub hl [0, 1, 2, 3, 4] rfl
  exact lp 48 0 _ _ ls (fun _ => 0) (by omega) hk hf (fun _ _ => dg_0) (by rw [VL_z14]; show (0 : Int) = ((0 : Nat) : Int) * _; rw [Int.natCast_zero, Int.zero_mul]) hF hl
set_option maxHeartbeats 4000000 in
set_option maxRecDepth 100000 in
theorem L_Forms_canBe (l : Launch) (g : WG) (n0 : Nat → Prop) (mk : Nat) (sh : Int32) (hmk : mk < 8) (hsh : sh = 0 ∨ sh = 1) : Ctr l y_Forms_canBe (.code y_Forms_canBe prog_4_method_3_code 2 (some FieldType.boolean)) 0 0 0 0 n0 g [.int (nI mk), .int sh] (fun H => True) (QI (fun r H H' => ((r = 1 ∧ ((sh = 1 ∧ (mk = 4 ∨ mk = 5 ∨ mk = 6)) ∨ (sh = 0 ∧ (mk = 0 ∨ mk = 2)))) ∨ (r = 0 ∧ ¬ ((sh = 1 ∧ (mk = 4 ∨ mk = 5 ∨ mk = 6)) ∨ (sh = 0 ∧ (mk = 0 ∨ mk = 2))))) ∧ H' = H)) := by
  refine ctr_mk l (lv0 := [(0, .int (nI mk)), (1, .int sh)]) (by decide) (Nat.le_of_ble_eq_true rfl) rfl ?_
  intro p e s m below meth c ls E hr hlk hnm hl hP
  have hx := E.1
  have hb := E.2.1
  have hK := E.2.2.2.2.2
  have hF : ∀ q ∈ ([] : List Loc), n0 q.base := fun q hq => absurd hq List.not_mem_nil
  have e4 := nI_eq (a := mk) (b := 4) (by omega) (by decide)
  have e5 := nI_eq (a := mk) (b := 5) (by omega) (by decide)
  have e6 := nI_eq (a := mk) (b := 6) (by omega) (by decide)
  have e0 : nI mk = 0 ↔ mk = 0 := nI_eq (a := mk) (b := 0) (by omega) (by decide)
  have e2 := nI_eq (a := mk) (b := 2) (by omega) (by decide)
  refine lv_iload_n hx hb d_Forms_canBe_0 rfl (lv_at hl 1 rfl) ?_
  refine lv_if_eq (tgt := 26) hx hb d_Forms_canBe_1 (by decide) (fun h1 => ?_) (fun h1 => ?_)
  · skip
    refine lv_iload_n hx hb d_Forms_canBe_26 rfl (lv_at hl 0 rfl) ?_
    refine lv_if_eq (tgt := 35) hx hb d_Forms_canBe_27 (by decide) (fun h2 => ?_) (fun h2 => ?_)
    · skip
      refine lv_iconst (v := nI 1) hx hb d_Forms_canBe_35 (by decide) ?_
      refine lv_goto (tgt := 40) hx hb d_Forms_canBe_36 (by decide) ?_
      exact q_zret E hr rfl hlk (⟨_, rfl, Or.inl ⟨rfl, by simp_all⟩, rfl⟩) hF d_Forms_canBe_40
    · skip
      refine lv_iload_n hx hb d_Forms_canBe_30 rfl (lv_at hl 0 rfl) ?_
      refine lv_iconst (v := nI 2) hx hb d_Forms_canBe_31 (by decide) ?_
      refine lv_icmp_ne (tgt := 39) hx hb d_Forms_canBe_32 (by decide) (fun h3 => ?_) (fun h3 => ?_)
      · skip
        refine lv_iconst (v := nI 0) hx hb d_Forms_canBe_39 (by decide) ?_
        exact q_zret E hr rfl hlk (⟨_, rfl, Or.inr ⟨rfl, by rcases hsh with h | h <;> simp_all⟩, rfl⟩) hF d_Forms_canBe_40
      · skip
        refine lv_iconst (v := nI 1) hx hb d_Forms_canBe_35 (by decide) ?_
        refine lv_goto (tgt := 40) hx hb d_Forms_canBe_36 (by decide) ?_
        exact q_zret E hr rfl hlk (⟨_, rfl, Or.inl ⟨rfl, by simp_all⟩, rfl⟩) hF d_Forms_canBe_40
  · skip
    refine lv_iload_n hx hb d_Forms_canBe_4 rfl (lv_at hl 0 rfl) ?_
    refine lv_iconst (v := nI 4) hx hb d_Forms_canBe_5 (by decide) ?_
    refine lv_icmp_eq (tgt := 20) hx hb d_Forms_canBe_6 (by decide) (fun h4 => ?_) (fun h4 => ?_)
    · skip
      refine lv_iconst (v := nI 1) hx hb d_Forms_canBe_20 (by decide) ?_
      refine lv_goto (tgt := 25) hx hb d_Forms_canBe_21 (by decide) ?_
      exact q_zret E hr rfl hlk (⟨_, rfl, Or.inl ⟨rfl, by simp_all⟩, rfl⟩) hF d_Forms_canBe_25
    · skip
      refine lv_iload_n hx hb d_Forms_canBe_9 rfl (lv_at hl 0 rfl) ?_
      refine lv_iconst (v := nI 5) hx hb d_Forms_canBe_10 (by decide) ?_
      refine lv_icmp_eq (tgt := 20) hx hb d_Forms_canBe_11 (by decide) (fun h5 => ?_) (fun h5 => ?_)
      · skip
        refine lv_iconst (v := nI 1) hx hb d_Forms_canBe_20 (by decide) ?_
        refine lv_goto (tgt := 25) hx hb d_Forms_canBe_21 (by decide) ?_
        exact q_zret E hr rfl hlk (⟨_, rfl, Or.inl ⟨rfl, by simp_all⟩, rfl⟩) hF d_Forms_canBe_25
      · skip
        refine lv_iload_n hx hb d_Forms_canBe_14 rfl (lv_at hl 0 rfl) ?_
        refine lv_bipush (v := nI 6) hx hb d_Forms_canBe_15 (by decide) ?_
        refine lv_icmp_ne (tgt := 24) hx hb d_Forms_canBe_17 (by decide) (fun h6 => ?_) (fun h6 => ?_)
        · skip
          refine lv_iconst (v := nI 0) hx hb d_Forms_canBe_24 (by decide) ?_
          exact q_zret E hr rfl hlk (⟨_, rfl, Or.inr ⟨rfl, by rcases hsh with h | h <;> simp_all⟩, rfl⟩) hF d_Forms_canBe_25
        · skip
          refine lv_iconst (v := nI 1) hx hb d_Forms_canBe_20 (by decide) ?_
          refine lv_goto (tgt := 25) hx hb d_Forms_canBe_21 (by decide) ?_
          exact q_zret E hr rfl hlk (⟨_, rfl, Or.inl ⟨rfl, by simp_all⟩, rfl⟩) hF d_Forms_canBe_25
set_option maxHeartbeats 4000000 in
set_option maxRecDepth 100000 in
theorem L_Forms_isBare (l : Launch) (g : WG) (n0 : Nat → Prop) (rw ce t : Nat) (c9 : Nat → Int32) (tb : Nat → Nat) (ht : t ≤ 96) (ht0 : 0 < t) (hcb : ∀ j, j < t → c9 j &&& 255 = nI (tb j)) (htb : ∀ j, tb j < 256) : Ctr l y_Forms_isBare (.code y_Forms_isBare prog_4_method_4_code 3 (some FieldType.boolean)) 1 21 0 0 n0 g [.ref rw] (fun H => OB g H rw 3 [.ref ce, .int (nI t)] ∧ AB g H ce 96 c9) (QI (fun r H H' => ((r = 1 ∧ bare9 tb t) ∨ (r = 0 ∧ ¬ bare9 tb t)) ∧ H' = H)) := by
  refine ctr_mk l (lv0 := [(0, .ref rw)]) (by decide) (Nat.le_of_ble_eq_true rfl) rfl ?_
  intro p e s m below meth c ls E hr hlk hnm hl hP
  have hx := E.1
  have hb := E.2.1
  have hK := E.2.2.2.2.2
  have hF : ∀ q ∈ ([] : List Loc), n0 q.base := fun q hq => absurd hq List.not_mem_nil
  have lp : ∀ (k : Nat) (i : Nat) (ot : Int32) (locs : List Loc) (ls : Array Slot), i + k = t → 1 ≤ i → (ot = 0 ↔ bare9 tb i) → (∀ q ∈ locs, n0 q.base) → lv_has ls 3 [(2, .int (nI i)), (1, .int ot), (0, .ref rw)] → W p l e { frames := 1, cells := 0, slots := 0, locals := 21 } s m [.ref rw].toArray below meth c s.heap locs 0 0 (MQ below (QcP (QI (fun r H H' => ((r = 1 ∧ bare9 tb t) ∨ (r = 0 ∧ ¬ bare9 tb t)) ∧ H' = H))) [.ref rw].toArray s 0 0 (fun q => n0 q)) (F0 m 11 ls []) := by
    intro k
    induction k with
    | zero =>
      intro  i   ot   locs   ls hi hi1 hot hF hl
      obtain rfl : i = t := by omega
      refine lv_iload_n hx hb d_Forms_isBare_11 rfl (lv_at hl 0 rfl) ?_
      refine lv_aload_n hx hb d_Forms_isBare_12 rfl (lv_at hl 2 rfl) ?_
      refine q_get (C := "KateDesk$Row") (T := T_Row) (N := 2) (ci := 3) E hP.1 in_Row rfl 1 (by decide) w_73 rfl rfl d_Forms_isBare_13 ?_
      refine lv_icmp_ge (tgt := 33) hx hb d_Forms_isBare_16 (by decide) (fun _ => ?_) (fun h9 => absurd (nI_le (Nat.le_refl _) (by omega)) h9)
      refine lv_iload_n hx hb d_Forms_isBare_33 rfl (lv_at hl 1 rfl) ?_
      refine lv_if_ne (tgt := 41) hx hb d_Forms_isBare_34 (by decide) (fun hc => ?_) (fun hc => ?_)
      rotate_left
      · skip
        refine lv_iconst (v := nI 1) hx hb d_Forms_isBare_37 (by decide) ?_
        refine lv_goto (tgt := 42) hx hb d_Forms_isBare_38 (by decide) ?_
        exact q_zret E hr rfl hlk (⟨_, rfl, Or.inl ⟨rfl, hot.mp (by first | exact hc | exact Classical.not_not.mp hc)⟩, rfl⟩) hF d_Forms_isBare_42
      refine lv_iconst (v := nI 0) hx hb d_Forms_isBare_41 (by decide) ?_
      exact q_zret E hr rfl hlk (⟨_, rfl, Or.inr ⟨rfl, fun h => hc (hot.mpr h)⟩, rfl⟩) hF d_Forms_isBare_42
    | succ k ih =>
      intro  i   ot   locs   ls hi hi1 hot hF hl
      refine lv_iload_n hx hb d_Forms_isBare_11 rfl (lv_at hl 0 rfl) ?_
      refine lv_aload_n hx hb d_Forms_isBare_12 rfl (lv_at hl 2 rfl) ?_
      refine q_get (C := "KateDesk$Row") (T := T_Row) (N := 2) (ci := 3) E hP.1 in_Row rfl 1 (by decide) w_73 rfl rfl d_Forms_isBare_13 ?_
      refine lv_icmp_ge (tgt := 33) hx hb d_Forms_isBare_16 (by decide) (fun h9 => absurd h9 (nI_ge (show i < t by omega) (by omega))) (fun _ => ?_)
      refine lv_iload_n hx hb d_Forms_isBare_19 rfl (lv_at hl 1 rfl) ?_
      refine lv_aload_n hx hb d_Forms_isBare_20 rfl (lv_at hl 2 rfl) ?_
      refine lv_iload_n hx hb d_Forms_isBare_21 rfl (lv_at hl 0 rfl) ?_
      refine q_cV (rest := [.int ot]) E (X_Row_at l g n0 rw ce t i c9 ht (by omega)) w_505 w_3 w_628 w_503 w_504 hd_Row_at rfl ⟨by decide, by decide⟩ (OB.recv E.2.2.2.2.2 (by rfl) hP.1) hP hF hl.1 rfl (Nat.le_of_ble_eq_true rfl) d_Forms_isBare_22 ⟨by decide, by decide⟩ (qi (fun rb H1 locs hq hF => ?_))
      obtain ⟨hrb, hq⟩ := hq
      have hq := hq.symm
      subst hq
      rw [hcb i (by omega)] at hrb
      subst hrb
      refine lv_ior hx hb d_Forms_isBare_25 ?_
      refine lv_istore_n (lv' := [(1, .int (ot ||| (nI (tb i)))), (2, .int (nI i)), (0, .ref rw)]) hx hb d_Forms_isBare_26 rfl hl (by decide) rfl (fun ls hl => ?_)
      refine lv_iinc (k := 1) (v := nI (i + 1)) (lv' := [(2, .int (nI (i + 1))), (1, .int (ot ||| (nI (tb i)))), (0, .ref rw)]) hx hb d_Forms_isBare_27 hl rfl (i_inc i) (by decide) rfl (fun ls hl => ?_)
      refine lv_goto (tgt := 11) hx hb d_Forms_isBare_30 (by decide) ?_
      have hl : lv_has ls 3 [(2, .int (nI (i + 1))), (1, .int (ot ||| (nI (tb i)))), (0, .ref rw)] := lv_sub hl [0, 1, 2] rfl
      exact ih (i + 1) _ _ ls (by omega) (by omega) ⟨fun h => ⟨(hot.mp (or_z32.mp h).1).1, fun j h1 h2 => by by_cases e : j = i; (subst e; exact (nI_z _ (htb _)).mp (or_z32.mp h).2); (exact (hot.mp (or_z32.mp h).1).2 j h1 (by omega))⟩, fun h => or_z32.mpr ⟨hot.mpr ⟨h.1, fun j h1 h2 => h.2 j h1 (by omega)⟩, (nI_z _ (htb _)).mpr (h.2 i (by omega) (by omega))⟩⟩ hF hl
  refine lv_aload_n hx hb d_Forms_isBare_0 rfl (lv_at hl 0 rfl) ?_
  refine lv_iconst (v := nI 0) hx hb d_Forms_isBare_1 (by decide) ?_
  refine q_cV (rest := []) E (X_Row_at l g n0 rw ce t 0 c9 ht ht0) w_505 w_3 w_628 w_503 w_504 hd_Row_at rfl ⟨by decide, by decide⟩ (OB.recv E.2.2.2.2.2 (by rfl) hP.1) hP hF hl.1 rfl (Nat.le_of_ble_eq_true rfl) d_Forms_isBare_2 ⟨by decide, by decide⟩ (qi (fun rb H1 locs hq hF => ?_))
  obtain ⟨hrb, hq⟩ := hq
  have hq := hq.symm
  subst hq
  rw [hcb 0 ht0] at hrb
  subst hrb
  refine lv_bipush (v := nI 31) hx hb d_Forms_isBare_5 (by decide) ?_
  refine lv_iand hx hb d_Forms_isBare_7 ?_
  refine lv_topi (fun t9 e9 => ?_)
  obtain rfl : t9 = nI (tb 0 % 32) := e9.trans (an_31 _ (htb _))
  refine lv_istore_n (lv' := [(1, .int (nI (tb 0 % 32))), (0, .ref rw)]) hx hb d_Forms_isBare_8 rfl hl (by decide) rfl (fun ls hl => ?_)
  refine lv_iconst (v := nI 1) hx hb d_Forms_isBare_9 (by decide) ?_
  refine lv_istore_n (lv' := [(2, .int (nI 1)), (1, .int (nI (tb 0 % 32))), (0, .ref rw)]) hx hb d_Forms_isBare_10 rfl hl (by decide) rfl (fun ls hl => ?_)
  have hl : lv_has ls 3 [(2, .int (nI 1)), (1, .int (nI (tb 0 % 32))), (0, .ref rw)] := lv_sub hl [0, 1, 2] rfl
  exact lp (t - 1) 1 _ _ ls (by omega) (by decide) ⟨fun h => ⟨(nI_z _ (by have := Nat.mod_lt (tb 0) (show 0 < 32 by decide); omega)).mp h, fun j h1 h2 => absurd h2 (by omega)⟩, fun h => by rw [h.1]; rfl⟩ hF hl
theorem VLeq {f h : Nat → Int64} {x y : Int} (hf : RV f x) (hh : RV h y) (e : x = y) (i : Nat) (hi : i < 14) : f i = h i := by
  have h1 := VL_lim hi hf.1
  have h2 := VL_lim hi hh.1
  rw [hf.2] at h1
  rw [hh.2, ← e] at h2
  exact i64_eq_of (h1.trans h2.symm)
set_option maxHeartbeats 4000000 in
set_option maxRecDepth 100000 in
theorem L_Limbs_equal (l : Launch) (g : WG) (n0 : Nat → Prop) (a b : Nat) (f h : Nat → Int64) (x y : Int) (hf : RV f x) (hh : RV h y) : Ctr l y_Limbs_equal (.code y_Limbs_equal prog_5_method_7_code 3 (some FieldType.boolean)) 0 0 0 0 n0 g [.ref a, .ref b] (fun H => AJ g H a 14 f ∧ AJ g H b 14 h) (QI (fun r H H' => ((r = 1 ∧ x = y) ∨ (r = 0 ∧ x ≠ y)) ∧ H' = H)) := by
  refine ctr_mk l (lv0 := [(0, .ref a), (1, .ref b)]) (by decide) (Nat.le_of_ble_eq_true rfl) rfl ?_
  intro p e s m below meth c ls E hr hlk hnm hl hP
  have hx := E.1
  have hb := E.2.1
  have hK := E.2.2.2.2.2
  have hF : ∀ q ∈ ([] : List Loc), n0 q.base := fun q hq => absurd hq List.not_mem_nil
  have lp : ∀ (k : Nat) (i : Nat) (ls : Array Slot), i + k = 14 → (∀ k, k < i → f k = h k) → lv_has ls 3 [(2, .int (nI i)), (0, .ref a), (1, .ref b)] → W p l e { frames := 0, cells := 0, slots := 0, locals := 0 } s m [.ref a, .ref b].toArray below meth c s.heap [] 0 0 (MQ below (QcP (QI (fun r H H' => ((r = 1 ∧ x = y) ∨ (r = 0 ∧ x ≠ y)) ∧ H' = H))) [.ref a, .ref b].toArray s 0 0 (fun q => n0 q)) (F0 m 2 ls []) := by
    intro k
    induction k with
    | zero =>
      intro  i   ls hi hz hl
      obtain rfl : i = 14 := by omega
      refine lv_iload_n hx hb d_Limbs_equal_2 rfl (lv_at hl 0 rfl) ?_
      refine lv_bipush (v := nI 14) hx hb d_Limbs_equal_3 (by decide) ?_
      refine lv_icmp_ge (tgt := 26) hx hb d_Limbs_equal_5 (by decide) (fun _ => ?_) (fun h9 => absurd (by decide) h9)
      refine lv_iconst (v := nI 1) hx hb d_Limbs_equal_26 (by decide) ?_
      exact q_zret E hr rfl hlk (⟨_, rfl, Or.inl ⟨rfl, by rw [← hf.2, ← hh.2]; exact VL_ext hz⟩, rfl⟩) hF d_Limbs_equal_27
    | succ k ih =>
      intro  i   ls hi hz hl
      refine lv_iload_n hx hb d_Limbs_equal_2 rfl (lv_at hl 0 rfl) ?_
      refine lv_bipush (v := nI 14) hx hb d_Limbs_equal_3 (by decide) ?_
      refine lv_icmp_ge (tgt := 26) hx hb d_Limbs_equal_5 (by decide) (fun h9 => absurd h9 (nI_ge (by omega) (by decide))) (fun _ => ?_)
      refine lv_aload_n hx hb d_Limbs_equal_8 rfl (lv_at hl 1 rfl) ?_
      refine lv_iload_n hx hb d_Limbs_equal_9 rfl (lv_at hl 0 rfl) ?_
      refine q_lald (N := 14) (f := f) E hP.1 i rfl (by omega) (by decide) d_Limbs_equal_10 ?_
      refine lv_aload_n hx hb d_Limbs_equal_11 rfl (lv_at hl 2 rfl) ?_
      refine lv_iload_n hx hb d_Limbs_equal_12 rfl (lv_at hl 0 rfl) ?_
      refine q_lald (N := 14) (f := h) E hP.2 i rfl (by omega) (by decide) d_Limbs_equal_13 ?_
      refine W.lcmp hx hb d_Limbs_equal_14 ?_
      refine lv_if_eq (tgt := 20) hx hb d_Limbs_equal_15 (by decide) (fun hc => ?_) (fun hc => ?_)
      rotate_left
      · skip
        refine lv_iconst (v := nI 0) hx hb d_Limbs_equal_18 (by decide) ?_
        exact q_zret E hr rfl hlk (⟨_, rfl, Or.inr ⟨rfl, fun e => hc ((lg_cmp_eq _ _).mpr (VLeq hf hh e i (by omega)))⟩, rfl⟩) hF d_Limbs_equal_19
      refine lv_iinc (k := 0) (v := nI (i + 1)) (lv' := [(2, .int (nI (i + 1))), (0, .ref a), (1, .ref b)]) hx hb d_Limbs_equal_20 hl rfl (i_inc i) (by decide) rfl (fun ls hl => ?_)
      refine lv_goto (tgt := 2) hx hb d_Limbs_equal_23 (by decide) ?_
      have hl : lv_has ls 3 [(2, .int (nI (i + 1))), (0, .ref a), (1, .ref b)] := lv_sub hl [0, 1, 2] rfl
      exact ih (i + 1) ls (by omega) (fun k hk => if e : k = i then by subst e; exact cmp_eq hc else hz k (by omega)) hl
  refine lv_iconst (v := nI 0) hx hb d_Limbs_equal_0 (by decide) ?_
  refine lv_istore_n (lv' := [(2, .int (nI 0)), (0, .ref a), (1, .ref b)]) hx hb d_Limbs_equal_1 rfl hl (by decide) rfl (fun ls hl => ?_)
  have hl : lv_has ls 3 [(2, .int (nI 0)), (0, .ref a), (1, .ref b)] := lv_sub hl [0, 1, 2] rfl
  exact lp 14 0 ls (by omega) (fun k hk => absurd hk (Nat.not_lt_zero _)) hl
