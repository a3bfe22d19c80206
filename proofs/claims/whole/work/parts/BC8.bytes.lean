/-! bytes put below what a row has -/
theorem or_up {x y : Int64} {c : Nat} (hc : c ≤ 28) (hx : dg x) (hm : x.toInt % 2 ^ c = 0) (hy0 : 0 ≤ y.toInt) (hy : y.toInt < 2 ^ c) : (x ||| y).toInt = x.toInt + y.toInt ∧ dg (x ||| y) := by
  have ex := i64_nat hx.1
  have ey := i64_nat hy0
  have hp : ((2 ^ c : Nat) : Int) = 2 ^ c := Int.natCast_pow 2 c
  have hxm : x.toBitVec.toNat % 2 ^ c = 0 := by
    rw [ex, ← hp, ← Int.natCast_emod] at hm
    exact Int.ofNat.inj hm
  obtain ⟨a, ha⟩ : ∃ a, x.toBitVec.toNat = a <<< c := ⟨x.toBitVec.toNat / 2 ^ c, by
    rw [Nat.shiftLeft_eq]
    have := Nat.div_add_mod x.toBitVec.toNat (2 ^ c)
    rw [hxm, Nat.add_zero, Nat.mul_comm] at this
    exact this.symm⟩
  have hyn : y.toBitVec.toNat < 2 ^ c := by
    rw [ey, ← hp] at hy
    exact Int.ofNat_lt.mp hy
  have h3 : (x ||| y).toBitVec.toNat = a <<< c + y.toBitVec.toNat := by
    rw [Int64.toBitVec_or, BitVec.toNat_or, ha, Nat.shiftLeft_add_eq_or_of_lt hyn]
  have hxl : a <<< c < 268435456 := by
    have := hx.2
    rw [ex, ha] at this
    omega
  have hsum : a <<< c + 2 ^ c ≤ 268435456 := by
    rw [Nat.shiftLeft_eq] at hxl ⊢
    have e28 : (268435456 : Nat) = 2 ^ (28 - c) * 2 ^ c := by rw [← Nat.pow_add, Nat.sub_add_cancel hc]
    rw [e28] at hxl ⊢
    have h9 : a < 2 ^ (28 - c) := Nat.lt_of_mul_lt_mul_right hxl
    have h8 := Nat.mul_le_mul_right (2 ^ c) (Nat.succ_le_of_lt h9)
    rw [Nat.succ_mul] at h8
    exact h8
  have e : (x ||| y).toInt = x.toInt + y.toInt := by
    rw [i64_ofnat (by rw [h3]; omega), h3, ex, ey, ha]
    omega
  refine ⟨e, ?_, ?_⟩
  · rw [e]
    have := hx.1
    omega
  · rw [e, ex, ey, ha]
    omega
theorem orv2 {f : Nat → Int64} {q c : Nat} {y : Int64} (hq : q < 14) (hc : c ≤ 28) (hd : ∀ k, k < 14 → dg (f k)) (hm : (f q).toInt % 2 ^ c = 0) (hy0 : 0 ≤ y.toInt) (hy : y.toInt < 2 ^ c) : (∀ k, k < 14 → dg (vp_updL f q (f q ||| y) k)) ∧ VL (vp_updL f q (f q ||| y)) 14 = VL f 14 + y.toInt * 268435456 ^ q := by
  have h := or_up hc (hd q hq) hm hy0 hy
  refine ⟨fun k hk => ?_, ?_⟩
  · by_cases e : k = q
    · subst e
      rw [show vp_updL f k (f k ||| y) k = f k ||| y by simp [vp_updL]]
      exact h.2
    · rw [show vp_updL f q (f q ||| y) k = f k by simp [vp_updL, e]]
      exact hd k hk
  · rw [VL_upd hq, h.1, show (f q).toInt + y.toInt - (f q).toInt = y.toInt by omega]
theorem VL_lim {f : Nat → Int64} {q : Nat} (hq : q < 14) (hd : ∀ k, k < 14 → dg (f k)) : (f q).toInt = VL f 14 / 268435456 ^ q % 268435456 := by
  have h1 := VL_div (f := f) (q := q) (m := 14 - q) (fun k hk => hd k (by omega))
  rw [show q + (14 - q) = 14 by omega] at h1
  rw [h1]
  obtain ⟨m, hm⟩ : ∃ m, 14 - q = m + 1 := ⟨13 - q, by omega⟩
  rw [hm, VL_hd, Int.add_mul_emod_self_left]
  have d := hd q hq
  exact (Int.emod_eq_of_lt d.1 d.2).symm
theorem ob_low {f : Nat → Int64} {q c : Nat} {A : Int} (hq : q < 14) (hc : c ≤ 28) (hd : ∀ k, k < 14 → dg (f k)) (hV : VL f 14 = A * 2 ^ c * 268435456 ^ q) : (f q).toInt % 2 ^ c = 0 := by
  rw [VL_lim hq hd, hV, Int.mul_ediv_cancel _ (Int.ne_of_gt (pw_pos q)), Int.emod_emod_of_dvd _ (dv_2 hc)]
  exact Int.mul_emod_left _ _
/-- a byte at place p, below what the row has -/
theorem orB_lo {f : Nat → Int64} {p v : Nat} {A : Int} (hp : p < 48) (hv : v < 256) (hd : ∀ k, k < 14 → dg (f k)) (hV : VL f 14 = A * 256 ^ (p + 1)) (s : Int64) (es : s = (nI v).toInt64 <<< ((nI (8 * p % 28)).toInt64 &&& 63)) (f1 : Nat → Int64) (e1 : f1 = vp_updL f (8 * p / 28) (f (8 * p / 28) ||| (s &&& 268435455))) :
    ((∀ k, k < 14 → dg (f1 k)) ∧ (13 ≤ 8 * p / 28 → VL f1 14 = VL f 14 + (v : Int) * 256 ^ p)) ∧ (8 * p / 28 < 13 → (∀ k, k < 14 → dg (vp_updL f1 (8 * p / 28 + 1) (f1 (8 * p / 28 + 1) ||| (s >>> ((nI 28).toInt64 &&& 63))) k)) ∧ VL (vp_updL f1 (8 * p / 28 + 1) (f1 (8 * p / 28 + 1) ||| (s >>> ((nI 28).toInt64 &&& 63)))) 14 = VL f 14 + (v : Int) * 256 ^ p) := by
  have ho : 8 * p % 28 < 28 := Nat.mod_lt _ (by decide)
  have hs : s.toInt = ((v * 2 ^ (8 * p % 28) : Nat) : Int) := by rw [es]; exact i64_shl hv ho
  have hm8 : 8 * p % 28 ≤ 20 ∨ 8 * p % 28 = 24 := by omega
  have hq13 : 13 ≤ 8 * p / 28 → 8 * p % 28 ≤ 20 := by omega
  have hq14 : 8 * p / 28 < 14 := by omega
  have e256 : ∀ k : Nat, (256 : Int) ^ k = 2 ^ (8 * k) := fun k => by rw [Int.pow_mul]; rfl
  have eB : ∀ k : Nat, (268435456 : Int) ^ k = 2 ^ (28 * k) := fun k => by rw [Int.pow_mul]; rfl
  have hsplit : 8 * p = 8 * p % 28 + 28 * (8 * p / 28) := by omega
  have e8p : (256 : Int) ^ p = 2 ^ (8 * p % 28) * 268435456 ^ (8 * p / 28) := by rw [e256, eB, ← Int.pow_add, ← hsplit]
  have hV2 : VL f 14 = A * 2 ^ 8 * 2 ^ (8 * p % 28) * 268435456 ^ (8 * p / 28) := by
    rw [hV, Int.pow_succ, e8p]
    generalize (2 : Int) ^ (8 * p % 28) = a
    generalize (268435456 : Int) ^ (8 * p / 28) = b
    grind
  rw [e8p]
  generalize 8 * p % 28 = o at *
  generalize 8 * p / 28 = q at *
  have hsI : s.toInt = (v : Int) * 2 ^ o := by rw [hs, Int.natCast_mul, Int.natCast_pow]; rfl
  rcases hm8 with h20 | h24
  · have hlt : v * 2 ^ o < 2 ^ (o + 8) := by
      rw [Nat.pow_add, Nat.mul_comm (2 ^ o)]
      exact Nat.mul_lt_mul_of_pos_right hv (Nat.two_pow_pos o)
    have hle : 2 ^ (o + 8) ≤ 2 ^ 28 := Nat.pow_le_pow_right (by decide) (by omega)
    have hm : (s &&& 268435455).toInt = s.toInt := by
      rw [i64_mask, hs]
      exact Int.emod_eq_of_lt (Int.natCast_nonneg _) (by omega)
    have hz : (s >>> ((nI 28).toInt64 &&& 63)).toInt = 0 := by
      rw [i64_shr, hs]
      exact Int.ediv_eq_zero_of_lt (Int.natCast_nonneg _) (by omega)
    have r1 := orv2 (f := f) (q := q) (c := o + 8) (y := s &&& 268435455) hq14 (by omega) hd (ob_low (A := A) hq14 (by omega) hd (by
      rw [hV2, Int.pow_add]
      generalize (2 : Int) ^ o = a
      generalize (268435456 : Int) ^ q = b
      grind)) (by rw [hm, hs]; exact Int.natCast_nonneg _) (by
      rw [hm, hs, ← cast_p2 (o + 8)]
      exact Int.ofNat_lt.mpr hlt)
    rw [← e1, hm, hsI, Int.mul_assoc] at r1
    refine ⟨⟨r1.1, fun _ => r1.2⟩, fun h13 => ?_⟩
    have r2 := orv2 (f := f1) (q := q + 1) (c := 0) (y := s >>> ((nI 28).toInt64 &&& 63)) (by omega) (by decide) r1.1 (by rw [Int.pow_zero]; exact Int.emod_one _) (by rw [hz]; decide) (by rw [hz]; decide)
    refine ⟨r2.1, ?_⟩
    rw [r2.2, r1.2, hz, Int.zero_mul, Int.add_zero]
  · subst h24
    refine ⟨?_, fun h13 => ?_⟩
    · have h0 : (f q).toInt % 2 ^ 28 = 0 := ob_low (A := A * 16) hq14 (by decide) hd (by rw [hV2]; clear e256 eB e8p hV2 hV; generalize (268435456 : Int) ^ q = b; grind)
      have r1 := orv2 (f := f) (q := q) (c := 28) (y := s &&& 268435455) hq14 (by decide) hd h0 (by rw [i64_mask]; exact Int.emod_nonneg _ (by decide)) (by rw [i64_mask]; exact Int.emod_lt_of_pos _ (by decide))
      rw [← e1] at r1
      exact ⟨r1.1, fun h => absurd (hq13 h) (by decide)⟩
    · have h0 : (f q).toInt % 2 ^ 28 = 0 := ob_low (A := A * 16) hq14 (by decide) hd (by rw [hV2]; clear e256 eB e8p hV2 hV; generalize (268435456 : Int) ^ q = b; grind)
      have r1 := orv2 (f := f) (q := q) (c := 28) (y := s &&& 268435455) hq14 (by decide) hd h0 (by rw [i64_mask]; exact Int.emod_nonneg _ (by decide)) (by rw [i64_mask]; exact Int.emod_lt_of_pos _ (by decide))
      rw [← e1] at r1
      have h1q : (f1 (q + 1)).toInt % 2 ^ 4 = 0 := by
        rw [e1, show vp_updL f q (f q ||| (s &&& 268435455)) (q + 1) = f (q + 1) by simp [vp_updL]]
        exact ob_low (A := A) (by omega) (by decide) hd (by
          rw [hV2, show (268435456 : Int) ^ (q + 1) = 268435456 ^ q * 268435456 from Int.pow_succ _ _]
          clear e256 eB e8p hV2 hV r1
          generalize (268435456 : Int) ^ q = b
          grind)
      have r2 := orv2 (f := f1) (q := q + 1) (c := 4) (y := s >>> ((nI 28).toInt64 &&& 63)) (by omega) (by decide) r1.1 h1q (by rw [i64_shr, hs]; exact Int.ediv_nonneg (Int.natCast_nonneg _) (by decide)) (by
        rw [i64_shr, hsI]
        omega)
      refine ⟨r2.1, ?_⟩
      rw [r2.2, r1.2, i64_mask, i64_shr, Int.pow_succ]
      have e3 : s.toInt % 268435456 + 268435456 * (s.toInt / 268435456) = s.toInt := Int.emod_add_mul_ediv _ _
      rw [hsI] at e3 ⊢
      generalize (268435456 : Int) ^ q = b at *
      generalize (v : Int) * 2 ^ 24 % 268435456 = m1 at *
      generalize (v : Int) * 2 ^ 24 / 268435456 = m2 at *
      grind
theorem or_r48 : ∀ p, p < 48 → nI 8 * nI p - nI 8 * nI p / nI 28 * nI 28 = nI (8 * p % 28) := by decide +kernel
theorem ob_m48 : ∀ p, p < 48 → nI 8 * nI p = nI (8 * p) := by decide +kernel
theorem ob_d48 : ∀ p, p < 48 → nI (8 * p) / nI 28 = nI (8 * p / 28) := by decide +kernel
set_option maxHeartbeats 4000000 in
set_option maxRecDepth 100000 in
theorem L_Limbs_orByte (l : Launch) (g : WG) (n0 : Nat → Prop) (a p9 v : Nat) (f : Nat → Int64) (A : Int) (hp9 : p9 < 48) (hv : v < 256) (hd : ∀ k, k < 14 → dg (f k)) (hV : VL f 14 = A * 256 ^ (p9 + 1)) : Ctr l y_Limbs_orByte (.code y_Limbs_orByte prog_5_method_10_code 6 none) 0 0 0 0 n0 g [.ref a, .int (nI p9), .int (nI v)] (fun H => n0 a ∧ AJ g H a 14 f) (QV (fun H H' => KJ g (fun q => q = a) H H' ∧ ∃ f', AJ g H' a 14 f' ∧ (∀ k, k < 14 → dg (f' k)) ∧ VL f' 14 = (A * 256 + (v : Int)) * 256 ^ p9)) := by
  refine ctr_mk l (lv0 := [(0, .ref a), (1, .int (nI p9)), (2, .int (nI v))]) (by decide) (Nat.le_of_ble_eq_true rfl) rfl ?_
  intro p e s m below meth c ls E hr hlk hnm hl hP
  have hx := E.1
  have hb := E.2.1
  have hK := E.2.2.2.2.2
  have hF : ∀ q ∈ ([] : List Loc), n0 q.base := fun q hq => absurd hq List.not_mem_nil
  obtain ⟨hna, hA⟩ := hP
  have hVe : ∀ z : Int, z = VL f 14 + (v : Int) * 256 ^ p9 → z = (A * 256 + (v : Int)) * 256 ^ p9 := fun z hz => by rw [hz, hV, Int.pow_succ]; generalize (256 : Int) ^ p9 = b; grind
  refine lv_bipush (v := nI 8) hx hb d_Limbs_orByte_0 (by decide) ?_
  refine lv_iload_n hx hb d_Limbs_orByte_2 rfl (lv_at hl 1 rfl) ?_
  refine lv_imul hx hb d_Limbs_orByte_3 ?_
  refine lv_topi (fun t9 e9 => ?_)
  obtain rfl : t9 = nI (8 * p9) := e9.trans (ob_m48 p9 hp9)
  refine lv_bipush (v := nI 28) hx hb d_Limbs_orByte_4 (by decide) ?_
  refine lv_idiv hx hb d_Limbs_orByte_6 (by decide) ?_
  refine lv_topi (fun t9 e9 => ?_)
  obtain rfl : t9 = nI (8 * p9 / 28) := e9.trans (ob_d48 p9 hp9)
  refine lv_istore_n (lv' := [(3, .int (nI (8 * p9 / 28))), (0, .ref a), (1, .int (nI p9)), (2, .int (nI v))]) hx hb d_Limbs_orByte_7 rfl hl (by decide) rfl (fun ls hl => ?_)
  refine lv_iload_n hx hb d_Limbs_orByte_8 rfl (lv_at hl 2 rfl) ?_
  refine lv_if_lt (tgt := 18) hx hb d_Limbs_orByte_9 (by decide) (fun h9 => absurd h9 (nI_pos (by omega))) (fun _ => ?_)
  refine lv_iload_n hx hb d_Limbs_orByte_12 rfl (lv_at hl 0 rfl) ?_
  refine lv_bipush (v := nI 14) hx hb d_Limbs_orByte_13 (by decide) ?_
  refine lv_icmp_lt (tgt := 19) hx hb d_Limbs_orByte_15 (by decide) (fun _ => ?_) (fun h9 => absurd (nI_lt (show 8 * p9 / 28 < 14 by omega) (by decide)) h9)
  refine lv_iload_n hx hb d_Limbs_orByte_19 rfl (lv_at hl 3 rfl) ?_
  refine lv_i2l (v := (nI v).toInt64) hx hb d_Limbs_orByte_20 rfl ?_
  refine lv_bipush (v := nI 8) hx hb d_Limbs_orByte_21 (by decide) ?_
  refine lv_iload_n hx hb d_Limbs_orByte_23 rfl (lv_at hl 2 rfl) ?_
  refine lv_imul hx hb d_Limbs_orByte_24 ?_
  refine lv_bipush (v := nI 28) hx hb d_Limbs_orByte_25 (by decide) ?_
  refine lv_irem hx hb d_Limbs_orByte_27 (by decide) ?_
  refine lv_topi (fun t9 e9 => ?_)
  obtain rfl : t9 = nI (8 * p9 % 28) := e9.trans (or_r48 p9 hp9)
  refine lv_lshl (v := ((nI v).toInt64) <<< ((nI (8 * p9 % 28)).toInt64 &&& 63)) hx hb d_Limbs_orByte_28 rfl ?_
  refine lv_topl (fun sv es => ?_)
  refine lv_lstore (lv' := [(4, .long sv), (3, .int (nI (8 * p9 / 28))), (0, .ref a), (1, .int (nI p9)), (2, .int (nI v))]) hx hb d_Limbs_orByte_29 hl (by decide) rfl (fun ls hl => ?_)
  refine lv_aload_n hx hb d_Limbs_orByte_31 rfl (lv_at hl 2 rfl) ?_
  refine lv_iload_n hx hb d_Limbs_orByte_32 rfl (lv_at hl 1 rfl) ?_
  refine lv_dup2_11 hx hb d_Limbs_orByte_33 rfl rfl ?_
  refine q_lald (N := 14) (f := f) E hA (8 * p9 / 28) rfl (by omega) (by decide) d_Limbs_orByte_34 ?_
  refine lv_lload hx hb d_Limbs_orByte_35 (lv_at hl 0 rfl) ?_
  refine lv_ldc2 (v := 268435455) hx hb E.2.2.2.1 (E.2.2.2.2.1 _ w_509) d_Limbs_orByte_37 ?_
  refine lv_land hx hb d_Limbs_orByte_40 ?_
  refine lv_lor hx hb d_Limbs_orByte_41 ?_
  refine q_last E hA hna hF (8 * p9 / 28) rfl (by omega) (by decide) d_Limbs_orByte_42 (fun H1 locs hq hA1 hF => ?_)
  have hk := hq
  have hor := orB_lo hp9 hv hd hV sv es (vp_updL f (8 * p9 / 28) ((f (8 * p9 / 28)) ||| (sv &&& 268435455))) rfl
  refine lv_iload_n hx hb d_Limbs_orByte_43 rfl (lv_at hl 1 rfl) ?_
  refine lv_iconst (v := nI 1) hx hb d_Limbs_orByte_44 (by decide) ?_
  refine lv_iadd hx hb d_Limbs_orByte_45 ?_
  refine lv_topi (fun t9 e9 => ?_)
  obtain rfl : t9 = nI (8 * p9 / 28 + 1) := e9.trans (nI_add _ _)
  refine lv_bipush (v := nI 14) hx hb d_Limbs_orByte_46 (by decide) ?_
  refine lv_icmp_ge (tgt := 64) hx hb d_Limbs_orByte_48 (by decide) (fun hb9 => ?_) (fun hb9 => ?_)
  rotate_left
  · skip
    have h13 : 8 * p9 / 28 < 13 := Classical.byContradiction (fun hn => hb9 (nI_le (show 14 ≤ 8 * p9 / 28 + 1 by omega) (by omega)))
    refine lv_aload_n hx hb d_Limbs_orByte_51 rfl (lv_at hl 2 rfl) ?_
    refine lv_iload_n hx hb d_Limbs_orByte_52 rfl (lv_at hl 1 rfl) ?_
    refine lv_iconst (v := nI 1) hx hb d_Limbs_orByte_53 (by decide) ?_
    refine lv_iadd hx hb d_Limbs_orByte_54 ?_
    refine lv_dup2_11 hx hb d_Limbs_orByte_55 rfl rfl ?_
    refine q_lald (N := 14) (f := (vp_updL f (8 * p9 / 28) ((f (8 * p9 / 28)) ||| (sv &&& 268435455)))) E hA1 (8 * p9 / 28 + 1) (nI_add _ _) (by omega) (by decide) d_Limbs_orByte_56 ?_
    refine lv_lload hx hb d_Limbs_orByte_57 (lv_at hl 0 rfl) ?_
    refine lv_bipush (v := nI 28) hx hb d_Limbs_orByte_59 (by decide) ?_
    refine lv_lshr (v := sv >>> ((nI 28).toInt64 &&& 63)) hx hb d_Limbs_orByte_61 rfl ?_
    refine lv_lor hx hb d_Limbs_orByte_62 ?_
    refine q_last E hA1 hna hF (8 * p9 / 28 + 1) (nI_add _ _) (by omega) (by decide) d_Limbs_orByte_63 (fun H2 locs hq hA2 hF => ?_)
    exact q_vret E hr hlk (⟨rfl, hk.tr hq, _, hA2, (hor.2 h13).1, hVe _ (hor.2 h13).2⟩) hF d_Limbs_orByte_64
  have h13 : 13 ≤ 8 * p9 / 28 := Classical.byContradiction (fun hn => nI_ge (show 8 * p9 / 28 + 1 < 14 by omega) (by decide) hb9)
  exact q_vret E hr hlk (⟨rfl, hk, _, hA1, hor.1.1, hVe _ (hor.1.2 h13)⟩) hF d_Limbs_orByte_64
