/-- the byte that feed puts behind the tape at its turn i -/
def fbC (v : Int64) (i : Nat) : Int32 := vp_nar .byte ((v >>> (((nI 8) * (nI i)).toInt64 &&& 63)).toInt32.toInt8.toInt32)
/-- the tape c with i bytes of v behind its first t -/
def fdC (c : Nat → Int32) (v : Int64) (t i : Nat) (c' : Nat → Int32) : Prop := (∀ j, j < t → c' j = c j) ∧ ∀ j, j < i → c' (t + j) = fbC v j
theorem fdC.nx {c c' : Nat → Int32} {v : Int64} {t i : Nat} (h : fdC c v t i c') : fdC c v t (i + 1) (upd c' (t + i) (fbC v i)) := by
  refine ⟨fun j hj => ?_, fun j hj => ?_⟩
  · rw [show upd c' (t + i) (fbC v i) j = c' j from if_neg (by omega)]
    exact h.1 j hj
  · by_cases e : j = i
    · subst e
      simp [upd]
    · rw [show upd c' (t + i) (fbC v i) (t + j) = c' (t + j) from if_neg (by omega)]
      exact h.2 j (by omega)
/-- the row of R, as the class holds it -/
abbrev kR : Nat → Int64 := kP 1
theorem kR_dg : ∀ k, k < 14 → dg (kR k) := fun k hk => kPr_dg _ (by omega)
theorem kR_hx : ∀ k, k < 14 → hxF hb60 64 64 k = kR k := by
  have h : ∀ k : Fin 14, hxF hb60 64 64 k.val = kR k.val := by decide +kernel
  exact fun k hk => h ⟨k, hk⟩
theorem nf_149 {b : Nat} : ¬ nF b (b + 149) := fun h => h.2.1 rfl
theorem nf_168 {b : Nat} : ¬ nF b (b + 168) := fun h => h.2.2 (Or.inl rfl)
theorem dg_0 : dg 0 := by unfold dg; decide
theorem VL_z14 : VL (fun _ => (0 : Int64)) 14 = ((0 : Nat) : Int) := by decide
theorem nI_ngt {a b : Nat} (h : a ≤ b) (hb : b < 2 ^ 31) : ¬ nI b < nI a := by
  rw [Int32.lt_iff_toInt_lt, nI_toInt hb, nI_toInt (Nat.lt_of_le_of_lt h hb)]
  omega
theorem nI_gt {a b : Nat} (h : a < b) (hb : b < 2 ^ 31) : nI a < nI b := by
  rw [Int32.lt_iff_toInt_lt, nI_toInt hb, nI_toInt (Nat.lt_trans h hb)]
  omega
theorem or_r : ∀ p, p < 32 → nI 8 * nI p - nI 8 * nI p / nI 28 * nI 28 = nI (8 * p % 28) := by decide +kernel
set_option maxHeartbeats 4000000 in
set_option maxRecDepth 100000 in
theorem X_Limbs_orByte (l : Launch) (g : WG) (n0 : Nat → Prop) (a p9 v : Nat) (f : Nat → Int64) (hp9 : p9 < 32) (hv : v < 256) : Ctr l y_Limbs_orByte (.code y_Limbs_orByte prog_5_method_10_code 6 none) 0 0 0 0 n0 g [.ref a, .int (nI p9), .int (nI v)] (fun H => n0 a ∧ AJ g H a 14 f) (QV (fun H H' => KJ g (fun q => q = a) H H' ∧ ∃ f', AJ g H' a 14 f' ∧ ((∀ k, k < 14 → dg (f k)) → VL f 14 < ((256 ^ p9 : Nat) : Int) → (∀ k, k < 14 → dg (f' k)) ∧ VL f' 14 = VL f 14 + ((v * 256 ^ p9 : Nat) : Int)))) := by
  refine ctr_mk l (lv0 := [(0, .ref a), (1, .int (nI p9)), (2, .int (nI v))]) (by decide) (Nat.le_of_ble_eq_true rfl) rfl ?_
  intro p e s m below meth c ls E hr hlk hnm hl hP
  have hx := E.1
  have hb := E.2.1
  have hK := E.2.2.2.2.2
  have hF : ∀ q ∈ ([] : List Loc), n0 q.base := fun q hq => absurd hq List.not_mem_nil
  obtain ⟨hna, hA⟩ := hP
  refine lv_bipush (v := nI 8) hx hb d_Limbs_orByte_0 (by decide) ?_
  refine lv_iload_n hx hb d_Limbs_orByte_2 rfl (lv_at hl 1 rfl) ?_
  refine lv_imul hx hb d_Limbs_orByte_3 ?_
  refine lv_topi (fun t9 e9 => ?_)
  obtain rfl : t9 = nI (8 * p9) := e9.trans (ob_m p9 (by omega))
  refine lv_bipush (v := nI 28) hx hb d_Limbs_orByte_4 (by decide) ?_
  refine lv_idiv hx hb d_Limbs_orByte_6 (by decide) ?_
  refine lv_topi (fun t9 e9 => ?_)
  obtain rfl : t9 = nI (8 * p9 / 28) := e9.trans (ob_d p9 (by omega))
  refine lv_istore_n (lv' := [(3, .int (nI (8 * p9 / 28))), (0, .ref a), (1, .int (nI p9)), (2, .int (nI v))]) hx hb d_Limbs_orByte_7 rfl hl (by decide) rfl (fun ls hl => ?_)
  refine lv_iload_n hx hb d_Limbs_orByte_8 rfl (lv_at hl 2 rfl) ?_
  refine lv_if_lt (tgt := 18) hx hb d_Limbs_orByte_9 (by decide) (fun h9 => absurd h9 (nI_pos (by omega))) (fun _ => ?_)
  refine lv_iload_n hx hb d_Limbs_orByte_12 rfl (lv_at hl 0 rfl) ?_
  refine lv_bipush (v := nI 14) hx hb d_Limbs_orByte_13 (by decide) ?_
  refine lv_icmp_lt (tgt := 19) hx hb d_Limbs_orByte_15 (by decide) (fun _ => ?_) (fun h9 => absurd (nI_lt (show 8 * p9 / 28 < 14 by omega) (by decide)) h9)
  refine lv_iload_n hx hb d_Limbs_orByte_19 rfl (lv_at hl 3 rfl) ?_
  refine lv_i2l (v := (nI v).toInt64) hx hb d_Limbs_orByte_20 rfl ?_
  refine lv_bipush (v := nI 8) hx hb d_Limbs_orByte_21 (by decide) ?_
  refine lv_iload_n hx hb d_Limbs_orByte_23 rfl (lv_at hl 2 rfl) ?_
  refine lv_imul hx hb d_Limbs_orByte_24 ?_
  refine lv_bipush (v := nI 28) hx hb d_Limbs_orByte_25 (by decide) ?_
  refine lv_irem hx hb d_Limbs_orByte_27 (by decide) ?_
  refine lv_topi (fun t9 e9 => ?_)
  obtain rfl : t9 = nI (8 * p9 % 28) := e9.trans (or_r p9 hp9)
  refine lv_lshl (v := ((nI v).toInt64) <<< ((nI (8 * p9 % 28)).toInt64 &&& 63)) hx hb d_Limbs_orByte_28 rfl ?_
  refine lv_topl (fun sv es => ?_)
  refine lv_lstore (lv' := [(4, .long sv), (3, .int (nI (8 * p9 / 28))), (0, .ref a), (1, .int (nI p9)), (2, .int (nI v))]) hx hb d_Limbs_orByte_29 hl (by decide) rfl (fun ls hl => ?_)
  refine lv_aload_n hx hb d_Limbs_orByte_31 rfl (lv_at hl 2 rfl) ?_
  refine lv_iload_n hx hb d_Limbs_orByte_32 rfl (lv_at hl 1 rfl) ?_
  refine lv_dup2_11 hx hb d_Limbs_orByte_33 rfl rfl ?_
  refine q_lald (N := 14) (f := f) E hA (8 * p9 / 28) rfl (by omega) (by decide) d_Limbs_orByte_34 ?_
  refine lv_lload hx hb d_Limbs_orByte_35 (lv_at hl 0 rfl) ?_
  refine lv_ldc2 (v := 268435455) hx hb E.2.2.2.1 (E.2.2.2.2.1 _ w_509) d_Limbs_orByte_37 ?_
  refine lv_land hx hb d_Limbs_orByte_40 ?_
  refine lv_lor hx hb d_Limbs_orByte_41 ?_
  refine q_last E hA hna hF (8 * p9 / 28) rfl (by omega) (by decide) d_Limbs_orByte_42 (fun H1 locs hq hA1 hF => ?_)
  have hk := hq
  refine lv_iload_n hx hb d_Limbs_orByte_43 rfl (lv_at hl 1 rfl) ?_
  refine lv_iconst (v := nI 1) hx hb d_Limbs_orByte_44 (by decide) ?_
  refine lv_iadd hx hb d_Limbs_orByte_45 ?_
  refine lv_topi (fun t9 e9 => ?_)
  obtain rfl : t9 = nI (8 * p9 / 28 + 1) := e9.trans (nI_add _ _)
  refine lv_bipush (v := nI 14) hx hb d_Limbs_orByte_46 (by decide) ?_
  refine lv_icmp_ge (tgt := 64) hx hb d_Limbs_orByte_48 (by decide) (fun h9 => absurd h9 (nI_ge (show 8 * p9 / 28 + 1 < 14 by omega) (by decide))) (fun _ => ?_)
  refine lv_aload_n hx hb d_Limbs_orByte_51 rfl (lv_at hl 2 rfl) ?_
  refine lv_iload_n hx hb d_Limbs_orByte_52 rfl (lv_at hl 1 rfl) ?_
  refine lv_iconst (v := nI 1) hx hb d_Limbs_orByte_53 (by decide) ?_
  refine lv_iadd hx hb d_Limbs_orByte_54 ?_
  refine lv_dup2_11 hx hb d_Limbs_orByte_55 rfl rfl ?_
  refine q_lald (N := 14) (f := (vp_updL f (8 * p9 / 28) ((f (8 * p9 / 28)) ||| (sv &&& 268435455)))) E hA1 (8 * p9 / 28 + 1) (nI_add _ _) (by omega) (by decide) d_Limbs_orByte_56 ?_
  refine lv_lload hx hb d_Limbs_orByte_57 (lv_at hl 0 rfl) ?_
  refine lv_bipush (v := nI 28) hx hb d_Limbs_orByte_59 (by decide) ?_
  refine lv_lshr (v := sv >>> ((nI 28).toInt64 &&& 63)) hx hb d_Limbs_orByte_61 rfl ?_
  refine lv_lor hx hb d_Limbs_orByte_62 ?_
  refine q_last E hA1 hna hF (8 * p9 / 28 + 1) (nI_add _ _) (by omega) (by decide) d_Limbs_orByte_63 (fun H2 locs hq hA2 hF => ?_)
  exact q_vret E hr hlk (⟨rfl, hk.tr hq, _, hA2, fun hd hV => orB_val hp9 hv hd hV sv es _ rfl⟩) hF d_Limbs_orByte_64
set_option maxHeartbeats 4000000 in
set_option maxRecDepth 100000 in
theorem X_Limbs_less (l : Launch) (g : WG) (n0 : Nat → Prop) (a b : Nat) (f h : Nat → Int64) (hf : ∀ k, k < 14 → dg (f k)) (hh : ∀ k, k < 14 → dg (h k)) : Ctr l y_Limbs_less (.code y_Limbs_less prog_5_method_8_code 3 (some FieldType.boolean)) 0 0 0 0 n0 g [.ref a, .ref b] (fun H => AJ g H a 14 f ∧ AJ g H b 14 h) (QI (fun r H H' => ((r = 1 ∧ VL f 14 < VL h 14) ∨ (r = 0 ∧ VL h 14 ≤ VL f 14)) ∧ H' = H)) := by
  refine ctr_mk l (lv0 := [(0, .ref a), (1, .ref b)]) (by decide) (Nat.le_of_ble_eq_true rfl) rfl ?_
  intro p e s m below meth c ls E hr hlk hnm hl hP
  have hx := E.1
  have hb := E.2.1
  have hK := E.2.2.2.2.2
  have hF : ∀ q ∈ ([] : List Loc), n0 q.base := fun q hq => absurd hq List.not_mem_nil
  have lp : ∀ (k : Nat) (ls : Array Slot) (x : Int32), k ≤ 14 → x = nI k - 1 → (∀ j, k ≤ j → j < 14 → f j = h j) → lv_has ls 3 [(2, .int x), (0, .ref a), (1, .ref b)] → W p l e { frames := 0, cells := 0, slots := 0, locals := 0 } s m [.ref a, .ref b].toArray below meth c s.heap [] 0 0 (MQ below (QcP (QI (fun r H H' => ((r = 1 ∧ VL f 14 < VL h 14) ∨ (r = 0 ∧ VL h 14 ≤ VL f 14)) ∧ H' = H))) [.ref a, .ref b].toArray s 0 0 (fun q => n0 q)) (F0 m 3 ls []) := by
    intro k
    induction k with
    | zero =>
      intro  ls   x hk14 hxx heq hl
      subst hxx
      refine lv_iload_n hx hb d_Limbs_less_3 rfl (lv_at hl 0 rfl) ?_
      refine lv_if_lt (tgt := 39) hx hb d_Limbs_less_4 (by decide) (fun _ => ?_) (fun h9 => absurd (by decide) h9)
      refine lv_iconst (v := nI 0) hx hb d_Limbs_less_39 (by decide) ?_
      exact q_zret E hr rfl hlk (⟨_, rfl, Or.inr ⟨rfl, Int.le_of_eq (VL_ext (fun j hj => (heq j (Nat.zero_le _) hj).symm))⟩, rfl⟩) hF d_Limbs_less_40
    | succ k ih =>
      intro  ls   x hk14 hxx heq hl
      rw [nI_pred] at hxx
      subst hxx
      refine lv_iload_n hx hb d_Limbs_less_3 rfl (lv_at hl 0 rfl) ?_
      refine lv_if_lt (tgt := 39) hx hb d_Limbs_less_4 (by decide) (fun h9 => absurd h9 (nI_pos (by omega))) (fun _ => ?_)
      refine lv_aload_n hx hb d_Limbs_less_7 rfl (lv_at hl 1 rfl) ?_
      refine lv_iload_n hx hb d_Limbs_less_8 rfl (lv_at hl 0 rfl) ?_
      refine q_lald (N := 14) (f := f) E hP.1 k rfl (by omega) (by decide) d_Limbs_less_9 ?_
      refine lv_aload_n hx hb d_Limbs_less_10 rfl (lv_at hl 2 rfl) ?_
      refine lv_iload_n hx hb d_Limbs_less_11 rfl (lv_at hl 0 rfl) ?_
      refine q_lald (N := 14) (f := h) E hP.2 k rfl (by omega) (by decide) d_Limbs_less_12 ?_
      refine W.lcmp hx hb d_Limbs_less_13 ?_
      refine lv_if_eq (tgt := 33) hx hb d_Limbs_less_14 (by decide) (fun h1 => ?_) (fun h1 => ?_)
      rotate_left
      · skip
        refine lv_aload_n hx hb d_Limbs_less_17 rfl (lv_at hl 1 rfl) ?_
        refine lv_iload_n hx hb d_Limbs_less_18 rfl (lv_at hl 0 rfl) ?_
        refine q_lald (N := 14) (f := f) E hP.1 k rfl (by omega) (by decide) d_Limbs_less_19 ?_
        refine lv_aload_n hx hb d_Limbs_less_20 rfl (lv_at hl 2 rfl) ?_
        refine lv_iload_n hx hb d_Limbs_less_21 rfl (lv_at hl 0 rfl) ?_
        refine q_lald (N := 14) (f := h) E hP.2 k rfl (by omega) (by decide) d_Limbs_less_22 ?_
        refine W.lcmp hx hb d_Limbs_less_23 ?_
        refine lv_if_ge (tgt := 31) hx hb d_Limbs_less_24 (by decide) (fun h2 => ?_) (fun h2 => ?_)
        rotate_left
        · skip
          refine lv_iconst (v := nI 1) hx hb d_Limbs_less_27 (by decide) ?_
          refine lv_goto (tgt := 32) hx hb d_Limbs_less_28 (by decide) ?_
          exact q_zret E hr rfl hlk (⟨_, rfl, Or.inl ⟨rfl, VL_lex (k := k) (by omega) hf hh (fun j a c => heq j (by omega) c) (cmp_lt h2)⟩, rfl⟩) hF d_Limbs_less_32
        refine lv_iconst (v := nI 0) hx hb d_Limbs_less_31 (by decide) ?_
        exact q_zret E hr rfl hlk (⟨_, rfl, Or.inr ⟨rfl, Int.le_of_lt (VL_lex (k := k) (by omega) hh hf (fun j a c => (heq j (by omega) c).symm) (cmp_gt h1 h2))⟩, rfl⟩) hF d_Limbs_less_32
      refine lv_iinc (k := 0) (v := nI k - 1) (lv' := [(2, .int (nI k - 1)), (0, .ref a), (1, .ref b)]) hx hb d_Limbs_less_33 hl rfl (i_dec (nI k)) (by decide) rfl (fun ls hl => ?_)
      refine lv_goto (tgt := 3) hx hb d_Limbs_less_36 (by decide) ?_
      exact ih ls _ (by omega) rfl (fun j h3 h4 => if e : j = k then by subst e; exact cmp_eq h1 else heq j (by omega) h4) hl
  refine lv_bipush (v := nI 13) hx hb d_Limbs_less_0 (by decide) ?_
  refine lv_istore_n (lv' := [(2, .int (nI 13)), (0, .ref a), (1, .ref b)]) hx hb d_Limbs_less_2 rfl hl (by decide) rfl (fun ls hl => ?_)
  have hl : lv_has ls 3 [(2, .int (nI 13)), (0, .ref a), (1, .ref b)] := lv_sub hl [0, 1, 2] rfl
  exact lp 14 ls _ (by decide) (by decide) (fun j h3 h4 => absurd h4 (by omega)) hl
set_option maxHeartbeats 4000000 in
set_option maxRecDepth 100000 in
theorem X_Row_at (l : Launch) (g : WG) (n0 : Nat → Prop) (o ce t j : Nat) (f : Nat → Int32) (ht : t ≤ 96) (hj : j < t) : Ctr l y_Row_at (.code y_Row_at prog_8_method_3_code 2 (some FieldType.int)) 0 0 0 0 n0 g [.ref o, .int (nI j)] (fun H => OB g H o 3 [.ref ce, .int (nI t)] ∧ AB g H ce 96 f) (QI (fun r H H' => r = f j &&& 255 ∧ H' = H)) := by
  refine ctr_mk l (lv0 := [(0, .ref o), (1, .int (nI j))]) (by decide) (Nat.le_of_ble_eq_true rfl) rfl ?_
  intro p e s m below meth c ls E hr hlk hnm hl hP
  have hx := E.1
  have hb := E.2.1
  have hK := E.2.2.2.2.2
  have hF : ∀ q ∈ ([] : List Loc), n0 q.base := fun q hq => absurd hq List.not_mem_nil
  obtain ⟨ho, hf⟩ := hP
  refine lv_iload_n hx hb d_Row_at_0 rfl (lv_at hl 1 rfl) ?_
  refine lv_if_lt (tgt := 25) hx hb d_Row_at_1 (by decide) (fun h9 => absurd h9 (nI_pos (by omega))) (fun _ => ?_)
  refine lv_iload_n hx hb d_Row_at_4 rfl (lv_at hl 1 rfl) ?_
  refine lv_aload_n hx hb d_Row_at_5 rfl (lv_at hl 0 rfl) ?_
  refine q_get (C := "KateDesk$Row") (T := T_Row) (N := 2) (ci := 3) E ho in_Row rfl 1 (by decide) w_72 rfl rfl d_Row_at_6 ?_
  refine lv_icmp_ge (tgt := 25) hx hb d_Row_at_9 (by decide) (fun h9 => absurd h9 (nI_ge hj (by omega))) (fun _ => ?_)
  refine lv_aload_n hx hb d_Row_at_12 rfl (lv_at hl 0 rfl) ?_
  refine q_get (C := "KateDesk$Row") (T := T_Row) (N := 2) (ci := 3) E ho in_Row rfl 0 (by decide) w_71 rfl rfl d_Row_at_13 ?_
  refine lv_iload_n hx hb d_Row_at_16 rfl (lv_at hl 1 rfl) ?_
  refine q_bald E hf j rfl (by omega) (by decide) d_Row_at_17 ?_
  refine lv_sipush (v := nI 255) hx hb d_Row_at_18 (by decide) ?_
  refine lv_iand hx hb d_Row_at_21 ?_
  refine lv_goto (tgt := 26) hx hb d_Row_at_22 (by decide) ?_
  exact q_iret E hr hlk (⟨_, rfl, rfl, rfl⟩) hF d_Row_at_26
set_option maxHeartbeats 4000000 in
set_option maxRecDepth 100000 in
theorem X_Row_append (l : Launch) (g : WG) (n0 : Nat → Prop) (o ce k : Nat) (v : Int32) (f : Nat → Int32) (hk : k < 96) : Ctr l y_Row_append (.code y_Row_append prog_8_method_2_code 2 none) 0 0 0 0 n0 g [.ref o, .int v] (fun H => OB g H o 3 [.ref ce, .int (nI k)] ∧ AB g H ce 96 f ∧ n0 o ∧ n0 ce) (QV (fun H H' => FRM (fun q => q = o ∨ q = ce) H H' ∧ OB g H' o 3 [.ref ce, .int (nI (k + 1))] ∧ AB g H' ce 96 (upd f k (vp_nar .byte v.toInt8.toInt32)))) := by
  refine ctr_mk l (lv0 := [(0, .ref o), (1, .int v)]) (by decide) (Nat.le_of_ble_eq_true rfl) rfl ?_
  intro p e s m below meth c ls E hr hlk hnm hl hP
  have hx := E.1
  have hb := E.2.1
  have hK := E.2.2.2.2.2
  have hF : ∀ q ∈ ([] : List Loc), n0 q.base := fun q hq => absurd hq List.not_mem_nil
  obtain ⟨hob, hf, ho0, hc0⟩ := hP
  refine lv_aload_n hx hb d_Row_append_0 rfl (lv_at hl 0 rfl) ?_
  refine q_get (C := "KateDesk$Row") (T := T_Row) (N := 2) (ci := 3) E hob in_Row rfl 1 (by decide) w_72 rfl rfl d_Row_append_1 ?_
  refine lv_bipush (v := nI 96) hx hb d_Row_append_4 (by decide) ?_
  refine lv_icmp_ge (tgt := 30) hx hb d_Row_append_6 (by decide) (fun h9 => absurd h9 (nI_ge hk (by decide))) (fun _ => ?_)
  refine lv_aload_n hx hb d_Row_append_9 rfl (lv_at hl 0 rfl) ?_
  refine q_get (C := "KateDesk$Row") (T := T_Row) (N := 2) (ci := 3) E hob in_Row rfl 0 (by decide) w_71 rfl rfl d_Row_append_10 ?_
  refine lv_aload_n hx hb d_Row_append_13 rfl (lv_at hl 0 rfl) ?_
  refine q_get (C := "KateDesk$Row") (T := T_Row) (N := 2) (ci := 3) E hob in_Row rfl 1 (by decide) w_72 rfl rfl d_Row_append_14 ?_
  refine lv_iload_n hx hb d_Row_append_17 rfl (lv_at hl 1 rfl) ?_
  refine lv_i2b (v := v.toInt8.toInt32) hx hb d_Row_append_18 rfl ?_
  refine q_bast E hf hc0 hF k rfl hk (by decide) d_Row_append_19 (fun H1 locs hq hf1 hF => ?_)
  have hfr := hq.frm.mono (S' := fun q => q = o ∨ q = ce) (fun q h => Or.inr h)
  have hne : o ≠ ce := ob_neB hK hob hf
  have hob := OB.off hq.frm hne hob
  refine lv_aload_n hx hb d_Row_append_20 rfl (lv_at hl 0 rfl) ?_
  refine lv_dup hx hb d_Row_append_21 rfl ?_
  refine q_get (C := "KateDesk$Row") (T := T_Row) (N := 2) (ci := 3) E hob in_Row rfl 1 (by decide) w_72 rfl rfl d_Row_append_22 ?_
  refine lv_iconst (v := nI 1) hx hb d_Row_append_25 (by decide) ?_
  refine lv_iadd hx hb d_Row_append_26 ?_
  refine lv_topi (fun t9 e9 => ?_)
  obtain rfl : t9 = nI (k + 1) := e9.trans (nI_add _ _)
  refine q_put (C := "KateDesk$Row") (T := T_Row) (N := 2) (ci := 3) (ty := .int) E hob in_Row ty_Row tyok_Row nm_Row rfl 1 (by decide) w_72 rfl rfl (by decide +kernel) rfl rfl (Nat.le_of_ble_eq_true rfl) ho0 hF d_Row_append_27 (fun H1 locs hq ho2 hF => ?_)
  have hfr := hfr.tr (hq.mono (fun q h => Or.inl h))
  exact q_vret E hr hlk (⟨rfl, hfr, ho2, AB.off hq hne.symm hf1⟩) hF d_Row_append_30
set_option maxHeartbeats 4000000 in
set_option maxRecDepth 100000 in
theorem X_Desk_feed (l : Launch) (g : WG) (b pn tn wn : Nat) (mr mq : Int64) (n : Nat) (v : Int64) (c9 : Nat → Int32) (h1 : 1 ≤ n) (h8 : n ≤ 8) (hfit : tn + n ≤ 96) : Ctr l y_Desk_feed (.code y_Desk_feed prog_1_method_2_code 5 (some FieldType.int)) 1 21 0 0 (nD b) g [.ref b, .int (nI n), .long v] (fun H => DSF g H H b pn tn wn mr mq ∧ AB g H (b + 149) 96 c9) (QI (fun r H H' => r = nI (tn + n) ∧ DSF g H H' b pn (tn + n) wn mr mq ∧ ∃ c', AB g H' (b + 149) 96 c' ∧ fdC c9 v tn n c')) := by
  refine ctr_mk l (lv0 := [(0, .ref b), (1, .int (nI n)), (2, .long v)]) (by decide) (Nat.le_of_ble_eq_true rfl) rfl ?_
  intro p e s m below meth c ls E hr hlk hnm hl hP
  obtain ⟨hP, hc0⟩ := hP
  have hx := E.1
  have hb := E.2.1
  have hK := E.2.2.2.2.2
  have hF : ∀ q ∈ ([] : List Loc), nD b q.base := fun q hq => absurd hq List.not_mem_nil
  have hd := hP
  have lp : ∀ (k : Nat) (i : Nat) (H : Heap) (locs : List Loc) (ls : Array Slot) (c1 : Nat → Int32), i + k = n → DSF g s.heap H b pn (tn + i) wn mr mq → AB g H (b + 149) 96 c1 → fdC c9 v tn i c1 → (∀ q ∈ locs, nD b q.base) → lv_has ls 5 [(4, .int (nI i)), (0, .ref b), (1, .int (nI n)), (2, .long v)] → W p l e { frames := 1, cells := 0, slots := 0, locals := 21 } s m [.ref b, .int (nI n), .long v].toArray below meth c H locs 0 0 (MQ below (QcP (QI (fun r H H' => r = nI (tn + n) ∧ DSF g H H' b pn (tn + n) wn mr mq ∧ ∃ c', AB g H' (b + 149) 96 c' ∧ fdC c9 v tn n c'))) [.ref b, .int (nI n), .long v].toArray s 0 0 (fun q => nD b q)) (F0 m 48 ls []) := by
    intro k
    induction k with
    | zero =>
      intro  i   H   locs   ls   c1 hi hd hc1 hcv hF hl
      obtain rfl : i = n := by omega
      refine lv_iload hx hb d_Desk_feed_48 (lv_at hl 0 rfl) ?_
      refine lv_iload_n hx hb d_Desk_feed_50 rfl (lv_at hl 2 rfl) ?_
      refine lv_icmp_ge (tgt := 75) hx hb d_Desk_feed_51 (by decide) (fun _ => ?_) (fun h9 => absurd (nI_le (Nat.le_refl _) (by omega)) h9)
      refine lv_aload_n hx hb d_Desk_feed_75 rfl (lv_at hl 1 rfl) ?_
      refine q_get (C := "KateDesk") (T := T_Desk) (N := 16) (ci := 5) E hd.x.ob in_Desk rfl 9 (by decide) w_348 rfl rfl d_Desk_feed_76 ?_
      refine q_get (C := "KateDesk$Row") (T := T_Row) (N := 2) (ci := 3) E hd.tp.1 in_Row rfl 1 (by decide) w_74 rfl rfl d_Desk_feed_79 ?_
      exact q_iret E hr hlk (⟨_, rfl, rfl, hd, _, hc1, hcv⟩) hF d_Desk_feed_82
    | succ k ih =>
      intro  i   H   locs   ls   c1 hi hd hc1 hcv hF hl
      refine lv_iload hx hb d_Desk_feed_48 (lv_at hl 0 rfl) ?_
      refine lv_iload_n hx hb d_Desk_feed_50 rfl (lv_at hl 2 rfl) ?_
      refine lv_icmp_ge (tgt := 75) hx hb d_Desk_feed_51 (by decide) (fun h9 => absurd h9 (nI_ge (by omega) (by omega))) (fun _ => ?_)
      refine lv_aload_n hx hb d_Desk_feed_54 rfl (lv_at hl 1 rfl) ?_
      refine q_get (C := "KateDesk") (T := T_Desk) (N := 16) (ci := 5) E hd.x.ob in_Desk rfl 9 (by decide) w_348 rfl rfl d_Desk_feed_55 ?_
      refine lv_lload_n hx hb d_Desk_feed_58 rfl (lv_at hl 3 rfl) ?_
      refine lv_bipush (v := nI 8) hx hb d_Desk_feed_59 (by decide) ?_
      refine lv_iload hx hb d_Desk_feed_61 (lv_at hl 0 rfl) ?_
      refine lv_imul hx hb d_Desk_feed_63 ?_
      refine lv_lshr (v := v >>> (((nI 8) * (nI i)).toInt64 &&& 63)) hx hb d_Desk_feed_64 rfl ?_
      refine lv_l2i (v := (v >>> (((nI 8) * (nI i)).toInt64 &&& 63)).toInt32) hx hb d_Desk_feed_65 rfl ?_
      refine q_cV (rest := []) E (X_Row_append l g (nD b) (b + 148) (b + 149) (tn + i) ((v >>> (((nI 8) * (nI i)).toInt64 &&& 63)).toInt32) c1 (by omega)) w_484 w_3 w_481 w_482 w_483 hd_Row_append rfl ⟨by decide, by decide⟩ (OB.recv E.2.2.2.2.2 (by rfl) hd.tp.1) (⟨hd.tp.1, hc1, nd_148 (by decide), nd_148 (by decide)⟩) hF hl.1 rfl (Nat.le_of_ble_eq_true rfl) d_Desk_feed_66 ⟨by decide, by decide⟩ (qv (fun H1 locs hq hF => ?_))
      have hd := hd.tape hq.1 ⟨hq.2.1, _, hq.2.2⟩ (by omega)
      refine lv_iinc (k := 0) (v := nI (i + 1)) (lv' := [(4, .int (nI (i + 1))), (0, .ref b), (1, .int (nI n)), (2, .long v)]) hx hb d_Desk_feed_69 hl rfl (i_inc i) (by decide) rfl (fun ls hl => ?_)
      refine lv_goto (tgt := 48) hx hb d_Desk_feed_72 (by decide) ?_
      have hl : lv_has ls 5 [(4, .int (nI (i + 1))), (0, .ref b), (1, .int (nI n)), (2, .long v)] := lv_sub hl [0, 1, 2, 3] rfl
      exact ih (i + 1) _ _ ls _ (by omega) hd hq.2.2 hcv.nx hF hl
  refine lv_iload_n hx hb d_Desk_feed_0 rfl (lv_at hl 1 rfl) ?_
  refine lv_iconst (v := nI 1) hx hb d_Desk_feed_1 (by decide) ?_
  refine lv_icmp_lt (tgt := 11) hx hb d_Desk_feed_2 (by decide) (fun h9 => absurd h9 (nI_nlt h1 (by omega))) (fun _ => ?_)
  refine lv_iload_n hx hb d_Desk_feed_5 rfl (lv_at hl 1 rfl) ?_
  refine lv_bipush (v := nI 8) hx hb d_Desk_feed_6 (by decide) ?_
  refine lv_icmp_le (tgt := 21) hx hb d_Desk_feed_8 (by decide) (fun _ => ?_) (fun h9 => absurd (nI_le h8 (by decide)) h9)
  refine lv_aload_n hx hb d_Desk_feed_21 rfl (lv_at hl 0 rfl) ?_
  refine q_get (C := "KateDesk") (T := T_Desk) (N := 16) (ci := 5) E hd.x.ob in_Desk rfl 9 (by decide) w_348 rfl rfl d_Desk_feed_22 ?_
  refine q_get (C := "KateDesk$Row") (T := T_Row) (N := 2) (ci := 3) E hd.tp.1 in_Row rfl 1 (by decide) w_74 rfl rfl d_Desk_feed_25 ?_
  refine lv_iload_n hx hb d_Desk_feed_28 rfl (lv_at hl 1 rfl) ?_
  refine lv_iadd hx hb d_Desk_feed_29 ?_
  refine lv_bipush (v := nI 96) hx hb d_Desk_feed_30 (by decide) ?_
  refine lv_icmp_le (tgt := 45) hx hb d_Desk_feed_32 (by decide) (fun _ => ?_) (fun h9 => absurd (by rw [nI_add]; exact nI_le hfit (by decide)) h9)
  refine lv_iconst (v := nI 0) hx hb d_Desk_feed_45 (by decide) ?_
  refine lv_istore (lv' := [(4, .int (nI 0)), (0, .ref b), (1, .int (nI n)), (2, .long v)]) hx hb d_Desk_feed_46 hl (by decide) rfl (fun ls hl => ?_)
  have hl : lv_has ls 5 [(4, .int (nI 0)), (0, .ref b), (1, .int (nI n)), (2, .long v)] := lv_sub hl [0, 1, 2, 3] rfl
  exact lp n 0 _ _ ls c9 (by omega) hd hc0 ⟨fun _ _ => rfl, fun j hj => absurd hj (Nat.not_lt_zero _)⟩ hF hl