theorem sh_n : ∀ o, o ≤ 28 → (((nI o).toInt64 &&& 63).toBitVec.smod 64).toNat = o := by decide +kernel
theorem sh_nb : ∀ o, o ≤ 28 → ((nI o).toInt64 &&& 63).toBitVec.smod 64 = BitVec.ofNat 64 o := by decide +kernel
theorem l_maskN : ∀ c, c ≤ 28 → (((1 : Int64) <<< ((nI c).toInt64 &&& 63)) - 1).toBitVec.toNat = 2 ^ c - 1 := by decide +kernel
theorem p2_28 {o : Nat} (ho : o ≤ 28) : 2 ^ o ≤ 268435456 := Nat.le_trans (Nat.pow_le_pow_right (by decide) ho) (by decide)
theorem cast_p2 (o : Nat) : ((2 ^ o : Nat) : Int) = 2 ^ o := Int.natCast_pow _ _
theorem and_mask {x : Int64} {c : Nat} (hx : 0 ≤ x.toInt) (hc : c ≤ 28) : (x &&& (((1 : Int64) <<< ((nI c).toInt64 &&& 63)) - 1)).toInt = x.toInt % 2 ^ c := by
  have hn : (x &&& (((1 : Int64) <<< ((nI c).toInt64 &&& 63)) - 1)).toBitVec.toNat = x.toBitVec.toNat % 2 ^ c := by
    rw [Int64.toBitVec_and, BitVec.toNat_and, l_maskN c hc, Nat.and_two_pow_sub_one_eq_mod]
  have hl : x.toBitVec.toNat % 2 ^ c < 2 ^ c := Nat.mod_lt _ (Nat.two_pow_pos c)
  have h28 := p2_28 hc
  rw [i64_ofnat (by rw [hn]; omega), hn, i64_nat hx, ← cast_p2]
  exact Int.natCast_emod _ _
theorem shl_d {y : Int64} {s : Nat} (hy : dg y) (hs : s ≤ 28) : (y <<< ((nI s).toInt64 &&& 63)).toInt = y.toInt * 2 ^ s := by
  have ey := i64_nat hy.1
  have hy2 : y.toBitVec.toNat < 268435456 := by have := hy.2; omega
  have h28 := p2_28 hs
  have hb : y.toBitVec.toNat * 2 ^ s ≤ 268435456 * 268435456 := Nat.mul_le_mul (by omega) h28
  have hn : (y <<< ((nI s).toInt64 &&& 63)).toBitVec.toNat = y.toBitVec.toNat * 2 ^ s := by
    rw [Int64.toBitVec_shiftLeft]
    show (y.toBitVec <<< (((nI s).toInt64 &&& 63).toBitVec.smod 64)).toNat = _
    rw [sh_nb s hs]
    show (y.toBitVec <<< (BitVec.ofNat 64 s).toNat).toNat = _
    rw [BitVec.toNat_shiftLeft, BitVec.toNat_ofNat, Nat.mod_eq_of_lt (show s < 2 ^ 64 by omega), Nat.shiftLeft_eq, Nat.mod_eq_of_lt (by omega)]
  rw [i64_ofnat (by rw [hn]; omega), hn, ey, ← cast_p2]
  exact Int.natCast_mul _ _
theorem i64_or2 {x y : Int64} {o z : Nat} (hx : 0 ≤ x.toInt) (hx2 : x.toInt < ((2 ^ o : Nat) : Int)) (ho : o ≤ 28) (hy : y.toInt = ((z * 2 ^ o : Nat) : Int)) (hz : z * 2 ^ o ≤ 72057594037927936) : (x ||| y).toInt = x.toInt + y.toInt := by
  have ex := i64_nat hx
  have ey := i64_nat (x := y) (by rw [hy]; exact Int.natCast_nonneg _)
  have hyn : y.toBitVec.toNat = z <<< o := by
    rw [Nat.shiftLeft_eq]
    exact Int.ofNat.inj (ey.symm.trans hy)
  have hxn : x.toBitVec.toNat < 2 ^ o := by
    rw [ex] at hx2
    exact Int.ofNat_lt.mp hx2
  have h3 : (x ||| y).toBitVec.toNat = z <<< o + x.toBitVec.toNat := by
    rw [Int64.toBitVec_or, BitVec.toNat_or, hyn, Nat.or_comm, Nat.shiftLeft_add_eq_or_of_lt hxn]
  have h4 := p2_28 ho
  have h5 : z <<< o ≤ 72057594037927936 := by rw [Nat.shiftLeft_eq]; exact hz
  rw [i64_ofnat (by rw [h3]; omega), h3, ex, ey, hyn]
  omega
theorem bits_hi {x : Int} {i c : Nat} (h0 : 0 ≤ x) (hx : x < 268435456 ^ 14) (hi : 392 ≤ i) : (0 : Int64).toInt = x / 2 ^ i % 2 ^ c := by
  have h1 : (268435456 : Int) ^ 14 ≤ 2 ^ i := by
    rw [show (268435456 : Int) ^ 14 = 2 ^ 392 by decide +kernel]
    rw [← cast_p2, ← cast_p2]
    exact Int.ofNat_le.mpr (Nat.pow_le_pow_right (by decide) hi)
  rw [Int.ediv_eq_zero_of_lt h0 (Int.lt_of_lt_of_le hx h1)]
  rfl
theorem div_lt28 {x : Int} {o : Nat} (hx : x < 268435456) (ho : o ≤ 28) : x / 2 ^ o < ((2 ^ (28 - o) : Nat) : Int) := by
  rw [cast_p2]
  apply Int.ediv_lt_of_lt_mul (p2_pos o)
  rw [Int.mul_comm, ← p28 ho]
  exact hx
theorem bits_two {f : Nat → Int64} {q o c : Nat} (hd : ∀ k, k < 14 → dg (f k)) (hq : q + 2 ≤ 14) (ho : o < 28) (hc : c ≤ 28) : (((f q >>> ((nI o).toInt64 &&& 63)) ||| (f (q + 1) <<< ((nI (28 - o)).toInt64 &&& 63))) &&& (((1 : Int64) <<< ((nI c).toInt64 &&& 63)) - 1)).toInt = VL f 14 / 268435456 ^ q / 2 ^ o % 2 ^ c := by
  have d0 := hd q (by omega)
  have d1 := hd (q + 1) (by omega)
  have e0 : (f q >>> ((nI o).toInt64 &&& 63)).toInt = (f q).toInt / 2 ^ o := i64_shrN _ (sh_n o (by omega))
  have e1 := shl_d d1 (show 28 - o ≤ 28 by omega)
  have p0 : 0 ≤ (f q).toInt / 2 ^ o := Int.ediv_nonneg d0.1 (Int.le_of_lt (p2_pos o))
  have n1 := i64_nat d1.1
  have hy : (f (q + 1) <<< ((nI (28 - o)).toInt64 &&& 63)).toInt = (((f (q + 1)).toBitVec.toNat * 2 ^ (28 - o) : Nat) : Int) := by
    rw [e1, n1, Int.natCast_mul, cast_p2]
  have hz : (f (q + 1)).toBitVec.toNat * 2 ^ (28 - o) ≤ 72057594037927936 := Nat.le_trans (Nat.mul_le_mul (show _ ≤ 268435456 by have := d1.2; omega) (p2_28 (show 28 - o ≤ 28 by omega))) (by decide)
  have hor := i64_or2 (o := 28 - o) (by rw [e0]; exact p0) (by rw [e0]; exact div_lt28 d0.2 (by omega)) (by omega) hy hz
  have hnn : 0 ≤ (f (q + 1)).toInt * 2 ^ (28 - o) := Int.mul_nonneg d1.1 (Int.le_of_lt (p2_pos _))
  rw [and_mask (by rw [hor, e0, e1]; omega) hc, hor, e0, e1, VL_bits hd hq ho hc, div_28 (Nat.le_of_lt ho), Int.mul_comm (2 ^ (28 - o))]
theorem bits_one {f : Nat → Int64} {o c : Nat} (hd : ∀ k, k < 14 → dg (f k)) (ho : o < 28) (hc : c ≤ 28) : ((f 13 >>> ((nI o).toInt64 &&& 63)) &&& (((1 : Int64) <<< ((nI c).toInt64 &&& 63)) - 1)).toInt = VL f 14 / 268435456 ^ 13 / 2 ^ o % 2 ^ c := by
  have d0 := hd 13 (by decide)
  have e0 : (f 13 >>> ((nI o).toInt64 &&& 63)).toInt = (f 13).toInt / 2 ^ o := i64_shrN _ (sh_n o (by omega))
  rw [and_mask (by rw [e0]; exact Int.ediv_nonneg d0.1 (Int.le_of_lt (p2_pos o))) hc, e0, VL_bitsT hd]
theorem o28 (i : Nat) : i - i / 28 * 28 = i % 28 := by omega
/-- the limbs of a number are it -/
theorem VL_digits {f : Nat → Int64} {y : Int} {n : Nat} (h : ∀ k, k < n → (f k).toInt = y / 268435456 ^ k % 268435456) : VL f n = y % 268435456 ^ n := by
  induction n with
  | zero => show (0 : Int) = y % 1; omega
  | succ n ih =>
    show VL f n + (f n).toInt * 268435456 ^ n = _
    rw [ih (fun k hk => h k (by omega)), h n (by omega), Int.pow_succ]
    have hp := pw_pos n
    have e1 := Int.emod_add_mul_ediv y (268435456 ^ n)
    have e2 := Int.emod_add_mul_ediv (y / 268435456 ^ n) 268435456
    have e3 : y / (268435456 ^ n * 268435456) = y / 268435456 ^ n / 268435456 := (Int.ediv_ediv_of_nonneg (Int.le_of_lt hp)).symm
    have e4 := Int.emod_add_mul_ediv y (268435456 ^ n * 268435456)
    rw [e3] at e4
    generalize (268435456 : Int) ^ n = b at *
    generalize y % (b * 268435456) = a1 at *
    generalize y / b / 268435456 = a2 at *
    generalize y / b % 268435456 = a3 at *
    generalize y % b = a4 at *
    generalize y / b = a5 at *
    clear ih h e3
    grind
set_option maxHeartbeats 4000000 in
set_option maxRecDepth 100000 in
theorem V_Limbs_bits (l : Launch) (g : WG) (n0 : Nat → Prop) (a i c9 : Nat) (f : Nat → Int64) (x : Int) (hf : RV f x) (hi : i < 1048576) (hc9 : c9 ≤ 28) : Ctr l y_Limbs_bits (.code y_Limbs_bits prog_5_method_9_code 7 (some FieldType.long)) 0 0 0 0 n0 g [.ref a, .int (nI i), .int (nI c9)] (fun H => AJ g H a 14 f) (QL (fun r H H' => r.toInt = x / 2 ^ i % 2 ^ c9 ∧ H' = H)) := by
  refine ctr_mk l (lv0 := [(0, .ref a), (1, .int (nI i)), (2, .int (nI c9))]) (by decide) (Nat.le_of_ble_eq_true rfl) rfl ?_
  intro p e s m below meth c ls E hr hlk hnm hl hP
  have hx := E.1
  have hb := E.2.1
  have hK := E.2.2.2.2.2
  have hF : ∀ q ∈ ([] : List Loc), n0 q.base := fun q hq => absurd hq List.not_mem_nil
  have ra := VL_range hf.1
  rw [hf.2] at ra
  refine lv_iload_n hx hb d_Limbs_bits_0 rfl (lv_at hl 1 rfl) ?_
  refine lv_bipush (v := nI 28) hx hb d_Limbs_bits_1 (by decide) ?_
  refine lv_idiv hx hb d_Limbs_bits_3 (by decide) ?_
  refine lv_topi (fun t9 e9 => ?_)
  obtain rfl : t9 = nI (i / 28) := e9.trans (pk_div (by omega) (by decide) (by decide))
  refine lv_istore_n (lv' := [(3, .int (nI (i / 28))), (0, .ref a), (1, .int (nI i)), (2, .int (nI c9))]) hx hb d_Limbs_bits_4 rfl hl (by decide) rfl (fun ls hl => ?_)
  refine lv_iload_n hx hb d_Limbs_bits_5 rfl (lv_at hl 2 rfl) ?_
  refine lv_bipush (v := nI 28) hx hb d_Limbs_bits_6 (by decide) ?_
  refine lv_irem hx hb d_Limbs_bits_8 (by decide) ?_
  refine lv_topi (fun t9 e9 => ?_)
  obtain rfl : t9 = nI (i - i / 28 * 28) := e9.trans (rem28 (by omega))
  refine lv_istore (lv' := [(4, .int (nI (i - i / 28 * 28))), (3, .int (nI (i / 28))), (0, .ref a), (1, .int (nI i)), (2, .int (nI c9))]) hx hb d_Limbs_bits_9 hl (by decide) rfl (fun ls hl => ?_)
  refine lv_iload_n hx hb d_Limbs_bits_11 rfl (lv_at hl 3 rfl) ?_
  refine lv_if_lt (tgt := 21) hx hb d_Limbs_bits_12 (by decide) (fun h9 => absurd h9 (nI_pos (by omega))) (fun _ => ?_)
  refine lv_iload_n hx hb d_Limbs_bits_15 rfl (lv_at hl 1 rfl) ?_
  refine lv_bipush (v := nI 14) hx hb d_Limbs_bits_16 (by decide) ?_
  refine lv_icmp_lt (tgt := 23) hx hb d_Limbs_bits_18 (by decide) (fun h2 => ?_) (fun h2 => ?_)
  rotate_left
  · skip
    have h392 : 392 ≤ i := Nat.le_of_not_lt (fun h => h2 (nI_lt (show i / 28 < 14 by omega) (by decide)))
    refine lv_lconst (v := 0) hx hb d_Limbs_bits_21 (by decide) ?_
    exact q_lret E hr hlk (⟨_, rfl, bits_hi ra.1 ra.2 h392, rfl⟩) hF d_Limbs_bits_22
  have hl0 : i / 28 < 14 := (nI_ltI (by omega) (by decide)).mp h2
  refine lv_aload_n hx hb d_Limbs_bits_23 rfl (lv_at hl 2 rfl) ?_
  refine lv_iload_n hx hb d_Limbs_bits_24 rfl (lv_at hl 1 rfl) ?_
  refine q_lald (N := 14) (f := f) E hP (i / 28) rfl hl0 (by decide) d_Limbs_bits_25 ?_
  refine lv_iload hx hb d_Limbs_bits_26 (lv_at hl 0 rfl) ?_
  refine lv_lshr (v := (f (i / 28)) >>> ((nI (i - i / 28 * 28)).toInt64 &&& 63)) hx hb d_Limbs_bits_28 rfl ?_
  refine lv_topl (fun v5 e5 => ?_)
  refine lv_lstore (lv' := [(5, .long v5), (4, .int (nI (i - i / 28 * 28))), (3, .int (nI (i / 28))), (0, .ref a), (1, .int (nI i)), (2, .int (nI c9))]) hx hb d_Limbs_bits_29 hl (by decide) rfl (fun ls hl => ?_)
  refine lv_iload_n hx hb d_Limbs_bits_31 rfl (lv_at hl 2 rfl) ?_
  refine lv_iconst (v := nI 1) hx hb d_Limbs_bits_32 (by decide) ?_
  refine lv_iadd hx hb d_Limbs_bits_33 ?_
  refine lv_topi (fun t9 e9 => ?_)
  obtain rfl : t9 = nI (i / 28 + 1) := e9.trans (nI_add _ _)
  refine lv_bipush (v := nI 14) hx hb d_Limbs_bits_34 (by decide) ?_
  refine lv_icmp_ge (tgt := 55) hx hb d_Limbs_bits_36 (by decide) (fun h3 => ?_) (fun h3 => ?_)
  rotate_left
  · skip
    have hl2 : i / 28 + 1 < 14 := Nat.not_le.mp (fun h => h3 (nI_le h (by omega)))
    refine lv_lload hx hb d_Limbs_bits_39 (lv_at hl 0 rfl) ?_
    refine lv_aload_n hx hb d_Limbs_bits_41 rfl (lv_at hl 3 rfl) ?_
    refine lv_iload_n hx hb d_Limbs_bits_42 rfl (lv_at hl 2 rfl) ?_
    refine lv_iconst (v := nI 1) hx hb d_Limbs_bits_43 (by decide) ?_
    refine lv_iadd hx hb d_Limbs_bits_44 ?_
    refine q_lald (N := 14) (f := f) E hP (i / 28 + 1) (nI_add _ _) hl2 (by decide) d_Limbs_bits_45 ?_
    refine lv_bipush (v := nI 28) hx hb d_Limbs_bits_46 (by decide) ?_
    refine lv_iload hx hb d_Limbs_bits_48 (lv_at hl 1 rfl) ?_
    refine lv_isub hx hb d_Limbs_bits_50 ?_
    refine lv_topi (fun t9 e9 => ?_)
    obtain rfl : t9 = nI (28 - (i - i / 28 * 28)) := e9.trans (pk_sub (by omega))
    refine lv_lshl (v := (f (i / 28 + 1)) <<< ((nI (28 - (i - i / 28 * 28))).toInt64 &&& 63)) hx hb d_Limbs_bits_51 rfl ?_
    refine lv_lor hx hb d_Limbs_bits_52 ?_
    refine lv_topl (fun v6 e6 => ?_)
    refine lv_lstore (lv' := [(5, .long v6), (4, .int (nI (i - i / 28 * 28))), (3, .int (nI (i / 28))), (0, .ref a), (1, .int (nI i)), (2, .int (nI c9))]) hx hb d_Limbs_bits_53 hl (by decide) rfl (fun ls hl => ?_)
    refine lv_lload hx hb d_Limbs_bits_55 (lv_at hl 0 rfl) ?_
    refine lv_lconst (v := 1) hx hb d_Limbs_bits_57 (by decide) ?_
    refine lv_iload_n hx hb d_Limbs_bits_58 rfl (lv_at hl 5 rfl) ?_
    refine lv_lshl (v := 1 <<< ((nI c9).toInt64 &&& 63)) hx hb d_Limbs_bits_59 rfl ?_
    refine lv_lconst (v := 1) hx hb d_Limbs_bits_60 (by decide) ?_
    refine lv_lsub hx hb d_Limbs_bits_61 ?_
    refine lv_land hx hb d_Limbs_bits_62 ?_
    rw [o28] at e5 e6
    exact q_lret E hr hlk (⟨_, rfl, by rw [e6, e5, bits_two hf.1 (by omega) (Nat.mod_lt _ (by decide)) hc9, hf.2, pw_at], rfl⟩) hF d_Limbs_bits_63
  have hl3 : i / 28 = 13 := by have := (nI_leI (by decide) (by omega)).mp h3; omega
  refine lv_lload hx hb d_Limbs_bits_55 (lv_at hl 0 rfl) ?_
  refine lv_lconst (v := 1) hx hb d_Limbs_bits_57 (by decide) ?_
  refine lv_iload_n hx hb d_Limbs_bits_58 rfl (lv_at hl 5 rfl) ?_
  refine lv_lshl (v := 1 <<< ((nI c9).toInt64 &&& 63)) hx hb d_Limbs_bits_59 rfl ?_
  refine lv_lconst (v := 1) hx hb d_Limbs_bits_60 (by decide) ?_
  refine lv_lsub hx hb d_Limbs_bits_61 ?_
  refine lv_land hx hb d_Limbs_bits_62 ?_
  rw [o28, hl3] at e5
  exact q_lret E hr hlk (⟨_, rfl, by rw [e5, bits_one hf.1 (Nat.mod_lt _ (by decide)) hc9, hf.2, ← hl3, pw_at], rfl⟩) hF d_Limbs_bits_63
theorem sh_limb {x : Int} {i s : Nat} : x / 2 ^ (28 * i + s) % 2 ^ 28 = x / 2 ^ s / 268435456 ^ i % 268435456 := by
  rw [Int.ediv_ediv_of_nonneg (Int.le_of_lt (p2_pos s)), show (268435456 : Int) = 2 ^ 28 from rfl, ← Int.pow_mul, ← Int.pow_add, Nat.add_comm]
set_option maxHeartbeats 4000000 in
set_option maxRecDepth 100000 in
theorem V_Limbs_shiftRight (l : Launch) (g : WG) (n0 : Nat → Prop) (a b s9 : Nat) (f : Nat → Int64) (x : Int) (hf : RV f x) (hs9 : s9 < 1000) (hab : b ≠ a) : Ctr l y_Limbs_shiftRight (.code y_Limbs_shiftRight prog_5_method_11_code 4 none) 1 26 0 0 n0 g [.ref a, .ref b, .int (nI s9)] (fun H => (n0 a ∧ ∃ ft, AJ g H a 14 ft) ∧ AJ g H b 14 f) (QV (fun H H' => KJ g (fun q => q = a) H H' ∧ ∃ f', AJ g H' a 14 f' ∧ RV f' (x / 2 ^ s9))) := by
  refine ctr_mk l (lv0 := [(0, .ref a), (1, .ref b), (2, .int (nI s9))]) (by decide) (Nat.le_of_ble_eq_true rfl) rfl ?_
  intro p e s m below meth c ls E hr hlk hnm hl hP
  have hx := E.1
  have hb := E.2.1
  have hK := E.2.2.2.2.2
  have hF : ∀ q ∈ ([] : List Loc), n0 q.base := fun q hq => absurd hq List.not_mem_nil
  obtain ⟨⟨hnt, ft0, hft0⟩, hB⟩ := hP
  have ra := VL_range hf.1
  rw [hf.2] at ra
  have loop : ∀ (k : Nat) (i : Nat) (H : Heap) (locs : List Loc) (ls : Array Slot) (ft : Nat → Int64), i + k = 14 → KJ g (fun q => q = a) s.heap H → AJ g H a 14 ft → (∀ k, k < i → (ft k).toInt = x / 2 ^ s9 / 268435456 ^ k % 268435456) → (∀ q ∈ locs, n0 q.base) → lv_has ls 4 [(3, .int (nI i)), (0, .ref a), (1, .ref b), (2, .int (nI s9))] → W p l e { frames := 1, cells := 0, slots := 0, locals := 26 } s m [.ref a, .ref b, .int (nI s9)].toArray below meth c H locs 0 0 (MQ below (QcP (QV (fun H H' => KJ g (fun q => q = a) H H' ∧ ∃ f', AJ g H' a 14 f' ∧ RV f' (x / 2 ^ s9)))) [.ref a, .ref b, .int (nI s9)].toArray s 0 0 (fun q => n0 q)) (F0 m 2 ls []) := by
    intro k
    induction k with
    | zero =>
      intro  i   H   locs   ls   ft hi hk hft hdt hF hl
      obtain rfl : i = 14 := by omega
      refine lv_iload_n hx hb d_Limbs_shiftRight_2 rfl (lv_at hl 0 rfl) ?_
      refine lv_bipush (v := nI 14) hx hb d_Limbs_shiftRight_3 (by decide) ?_
      refine lv_icmp_ge (tgt := 29) hx hb d_Limbs_shiftRight_5 (by decide) (fun _ => ?_) (fun h9 => absurd (by decide) h9)
      have hv := VL_digits (y := x / 2 ^ s9) hdt
      have h0 : 0 ≤ x / 2 ^ s9 := Int.ediv_nonneg ra.1 (Int.le_of_lt (p2_pos _))
      have h1 : x / 2 ^ s9 ≤ x := Int.ediv_le_self _ ra.1
      rw [Int.emod_eq_of_lt h0 (by omega)] at hv
      exact q_vret E hr hlk (⟨rfl, hk, _, hft, fun k hk => by unfold dg; rw [hdt k hk]; exact ⟨Int.emod_nonneg _ (by decide), Int.emod_lt_of_pos _ (by decide)⟩, hv⟩) hF d_Limbs_shiftRight_29
    | succ k ih =>
      intro  i   H   locs   ls   ft hi hk hft hdt hF hl
      have hi14 : i < 14 := by omega
      refine lv_iload_n hx hb d_Limbs_shiftRight_2 rfl (lv_at hl 0 rfl) ?_
      refine lv_bipush (v := nI 14) hx hb d_Limbs_shiftRight_3 (by decide) ?_
      refine lv_icmp_ge (tgt := 29) hx hb d_Limbs_shiftRight_5 (by decide) (fun h9 => absurd h9 (nI_ge hi14 (by decide))) (fun _ => ?_)
      refine lv_aload_n hx hb d_Limbs_shiftRight_8 rfl (lv_at hl 1 rfl) ?_
      refine lv_iload_n hx hb d_Limbs_shiftRight_9 rfl (lv_at hl 0 rfl) ?_
      refine lv_aload_n hx hb d_Limbs_shiftRight_10 rfl (lv_at hl 2 rfl) ?_
      refine lv_bipush (v := nI 28) hx hb d_Limbs_shiftRight_11 (by decide) ?_
      refine lv_iload_n hx hb d_Limbs_shiftRight_13 rfl (lv_at hl 0 rfl) ?_
      refine lv_imul hx hb d_Limbs_shiftRight_14 ?_
      refine lv_iload_n hx hb d_Limbs_shiftRight_15 rfl (lv_at hl 3 rfl) ?_
      refine lv_iadd hx hb d_Limbs_shiftRight_16 ?_
      refine lv_bipush (v := nI 28) hx hb d_Limbs_shiftRight_17 (by decide) ?_
      have eat : ((nI 28) * (nI i)) + (nI s9) = nI (28 * i + s9) := by rw [pk_mul, nI_add]
      rw [eat]
      refine q_cS (rest := [.int (nI i), .ref a]) E (V_Limbs_bits l g n0 b (28 * i + s9) 28 f x hf (by omega) (by decide)) w_271 w_5 w_269 w_270 hd_Limbs_bits rfl ⟨by decide, by decide⟩ (hk.ajo hab hB) hF hl.1 rfl (Nat.le_of_ble_eq_true rfl) d_Limbs_shiftRight_19 ⟨by decide, by decide⟩ (ql (fun rb H1 locs hq hF => ?_))
      obtain ⟨hrb, hq⟩ := hq
      have hq := hq.symm
      subst hq
      refine q_last E hft hnt hF i rfl hi14 (by decide) d_Limbs_shiftRight_22 (fun H2 locs hq hft2 hF => ?_)
      have hk := hk.tr hq
      refine lv_iinc (k := 0) (v := nI (i + 1)) (lv' := [(3, .int (nI (i + 1))), (0, .ref a), (1, .ref b), (2, .int (nI s9))]) hx hb d_Limbs_shiftRight_23 hl rfl (i_inc i) (by decide) rfl (fun ls hl => ?_)
      refine lv_goto (tgt := 2) hx hb d_Limbs_shiftRight_26 (by decide) ?_
      have hl : lv_has ls 4 [(3, .int (nI (i + 1))), (0, .ref a), (1, .ref b), (2, .int (nI s9))] := lv_sub hl [0, 1, 2, 3] rfl
      refine ih (i + 1) _ _ ls _ (by omega) hk hft2 (fun k hk1 => ?_) hF hl
      by_cases e : k = i
      · subst e; simp only [vp_updL, if_true]; rw [hrb]; exact sh_limb
      · simp only [vp_updL, e, if_false]; exact hdt k (by omega)
  refine lv_iconst (v := nI 0) hx hb d_Limbs_shiftRight_0 (by decide) ?_
  refine lv_istore_n (lv' := [(3, .int (nI 0)), (0, .ref a), (1, .ref b), (2, .int (nI s9))]) hx hb d_Limbs_shiftRight_1 rfl hl (by decide) rfl (fun ls hl => ?_)
  have hl : lv_has ls 4 [(3, .int (nI 0)), (0, .ref a), (1, .ref b), (2, .int (nI s9))] := lv_sub hl [0, 1, 2, 3] rfl
  exact loop 14 0 _ _ ls ft0 rfl KJ.rf hft0 (fun k hk => absurd hk (Nat.not_lt_zero _)) hF hl
theorem sh_56 : (((nI 56).toInt64 &&& 63).toBitVec.smod 64).toNat = 56 := by decide +kernel
theorem fl_val {v : Int64} (hv : 0 ≤ v.toInt) : RV (vp_updL (vp_updL (vp_updL (fun _ => 0) 0 (v &&& 268435455)) 1 ((v >>> ((nI 28).toInt64 &&& 63)) &&& 268435455)) 2 (v >>> ((nI 56).toInt64 &&& 63))) v.toInt := by
  have e0 := i64_mask v
  have e1 := i64_mask (v >>> ((nI 28).toInt64 &&& 63))
  rw [i64_shr] at e1
  have e2 : (v >>> ((nI 56).toInt64 &&& 63)).toInt = v.toInt / 72057594037927936 := i64_shrN v sh_56
  have hl := Int64.toInt_lt v
  have z0 : (0 : Int64).toInt = 0 := by decide
  refine ⟨fun k hk => ?_, ?_⟩
  · by_cases h2 : k = 2
    · subst h2; simp only [vp_updL, if_true]; unfold dg; rw [e2]; omega
    · by_cases h1 : k = 1
      · subst h1; simp only [vp_updL, if_true, h2, if_false]; unfold dg; rw [e1]; omega
      · by_cases h0 : k = 0
        · subst h0; simp only [vp_updL, if_true, h2, h1, if_false]; unfold dg; rw [e0]; omega
        · simp only [vp_updL, h2, h1, h0, if_false]; exact dg_0
  · rw [VL_upd (by decide), VL_upd (by decide), VL_upd (by decide), VL_z14]
    simp only [vp_updL]
    simp
    rw [e0, e1, e2]
    omega
set_option maxHeartbeats 4000000 in
set_option maxRecDepth 100000 in
theorem V_Limbs_fromLong (l : Launch) (g : WG) (n0 : Nat → Prop) (a : Nat) (v : Int64) (hv : 0 ≤ v.toInt) : Ctr l y_Limbs_fromLong (.code y_Limbs_fromLong prog_5_method_3_code 3 none) 2 44 0 0 n0 g [.ref a, .long v] (fun H => J14 g n0 H a) (QV (fun H H' => KJ g (fun q => q = a) H H' ∧ ∃ f', AJ g H' a 14 f' ∧ RV f' v.toInt)) := by
  refine ctr_mk l (lv0 := [(0, .ref a), (1, .long v)]) (by decide) (Nat.le_of_ble_eq_true rfl) rfl ?_
  intro p e s m below meth c ls E hr hlk hnm hl hP
  have hx := E.1
  have hb := E.2.1
  have hK := E.2.2.2.2.2
  have hF : ∀ q ∈ ([] : List Loc), n0 q.base := fun q hq => absurd hq List.not_mem_nil
  refine lv_aload_n hx hb d_Limbs_fromLong_0 rfl (lv_at hl 0 rfl) ?_
  refine q_cS (rest := []) E (c_Limbs_clear l g n0 a) w_498 w_5 w_524 w_497 hd_Limbs_clear rfl ⟨by decide, by decide⟩ hP hF hl.1 rfl (Nat.le_of_ble_eq_true rfl) d_Limbs_fromLong_1 ⟨by decide, by decide⟩ (qv (fun H1 locs hq hF => ?_))
  obtain ⟨hk, hft⟩ := hq
  refine lv_aload_n hx hb d_Limbs_fromLong_4 rfl (lv_at hl 0 rfl) ?_
  refine lv_iconst (v := nI 0) hx hb d_Limbs_fromLong_5 (by decide) ?_
  refine lv_lload_n hx hb d_Limbs_fromLong_6 rfl (lv_at hl 1 rfl) ?_
  refine lv_ldc2 (v := 268435455) hx hb E.2.2.2.1 (E.2.2.2.2.1 _ w_509) d_Limbs_fromLong_7 ?_
  refine lv_land hx hb d_Limbs_fromLong_10 ?_
  refine q_last E hft hP.1 hF 0 rfl (by decide) (by decide) d_Limbs_fromLong_11 (fun H2 locs hq hft hF => ?_)
  have hk := hk.tr hq
  refine lv_aload_n hx hb d_Limbs_fromLong_12 rfl (lv_at hl 0 rfl) ?_
  refine lv_iconst (v := nI 1) hx hb d_Limbs_fromLong_13 (by decide) ?_
  refine lv_lload_n hx hb d_Limbs_fromLong_14 rfl (lv_at hl 1 rfl) ?_
  refine lv_bipush (v := nI 28) hx hb d_Limbs_fromLong_15 (by decide) ?_
  refine lv_lshr (v := v >>> ((nI 28).toInt64 &&& 63)) hx hb d_Limbs_fromLong_17 rfl ?_
  refine lv_ldc2 (v := 268435455) hx hb E.2.2.2.1 (E.2.2.2.2.1 _ w_509) d_Limbs_fromLong_18 ?_
  refine lv_land hx hb d_Limbs_fromLong_21 ?_
  refine q_last E hft hP.1 hF 1 rfl (by decide) (by decide) d_Limbs_fromLong_22 (fun H3 locs hq hft hF => ?_)
  have hk := hk.tr hq
  refine lv_aload_n hx hb d_Limbs_fromLong_23 rfl (lv_at hl 0 rfl) ?_
  refine lv_iconst (v := nI 2) hx hb d_Limbs_fromLong_24 (by decide) ?_
  refine lv_lload_n hx hb d_Limbs_fromLong_25 rfl (lv_at hl 1 rfl) ?_
  refine lv_bipush (v := nI 56) hx hb d_Limbs_fromLong_26 (by decide) ?_
  refine lv_lshr (v := v >>> ((nI 56).toInt64 &&& 63)) hx hb d_Limbs_fromLong_28 rfl ?_
  refine q_last E hft hP.1 hF 2 rfl (by decide) (by decide) d_Limbs_fromLong_29 (fun H4 locs hq hft hF => ?_)
  have hk := hk.tr hq
  exact q_vret E hr hlk (⟨rfl, hk, _, hft, fl_val hv⟩) hF d_Limbs_fromLong_30
theorem nz_limb {f : Nat → Int64} {x : Int} {i : Nat} (hf : RV f x) (hi : i < 14) (h : f i ≠ 0) : x ≠ 0 := by
  intro hx
  have h1 := VL_ge hf.1 hi
  rw [hf.2, hx] at h1
  have d := hf.1 i hi
  have hp := pw_pos i
  have h2 : (f i).toInt = 0 := by
    rcases Int.lt_or_le 0 (f i).toInt with c | c
    · have := Int.mul_pos c hp
      omega
    · have := d.1
      omega
  exact h (i64_eq_of (h2.trans (by decide)))
set_option maxHeartbeats 4000000 in
set_option maxRecDepth 100000 in
theorem V_Limbs_isZero (l : Launch) (g : WG) (n0 : Nat → Prop) (a : Nat) (f : Nat → Int64) (x : Int) (hf : RV f x) : Ctr l y_Limbs_isZero (.code y_Limbs_isZero prog_5_method_6_code 2 (some FieldType.boolean)) 0 0 0 0 n0 g [.ref a] (fun H => AJ g H a 14 f) (QI (fun r H H' => ((r = 1 ∧ x = 0) ∨ (r = 0 ∧ x ≠ 0)) ∧ H' = H)) := by
  refine ctr_mk l (lv0 := [(0, .ref a)]) (by decide) (Nat.le_of_ble_eq_true rfl) rfl ?_
  intro p e s m below meth c ls E hr hlk hnm hl hP
  have hx := E.1
  have hb := E.2.1
  have hK := E.2.2.2.2.2
  have hF : ∀ q ∈ ([] : List Loc), n0 q.base := fun q hq => absurd hq List.not_mem_nil
  have lp : ∀ (k : Nat) (i : Nat) (ls : Array Slot), i + k = 14 → (∀ k, k < i → f k = 0) → lv_has ls 2 [(1, .int (nI i)), (0, .ref a)] → W p l e { frames := 0, cells := 0, slots := 0, locals := 0 } s m [.ref a].toArray below meth c s.heap [] 0 0 (MQ below (QcP (QI (fun r H H' => ((r = 1 ∧ x = 0) ∨ (r = 0 ∧ x ≠ 0)) ∧ H' = H))) [.ref a].toArray s 0 0 (fun q => n0 q)) (F0 m 2 ls []) := by
    intro k
    induction k with
    | zero =>
      intro  i   ls hi hz hl
      obtain rfl : i = 14 := by omega
      refine lv_iload_n hx hb d_Limbs_isZero_2 rfl (lv_at hl 0 rfl) ?_
      refine lv_bipush (v := nI 14) hx hb d_Limbs_isZero_3 (by decide) ?_
      refine lv_icmp_ge (tgt := 24) hx hb d_Limbs_isZero_5 (by decide) (fun _ => ?_) (fun h9 => absurd (by decide) h9)
      refine lv_iconst (v := nI 1) hx hb d_Limbs_isZero_24 (by decide) ?_
      exact q_zret E hr rfl hlk (⟨_, rfl, Or.inl ⟨rfl, by rw [← hf.2, VL_ext (h := fun _ => 0) hz]; exact VL_z14⟩, rfl⟩) hF d_Limbs_isZero_25
    | succ k ih =>
      intro  i   ls hi hz hl
      refine lv_iload_n hx hb d_Limbs_isZero_2 rfl (lv_at hl 0 rfl) ?_
      refine lv_bipush (v := nI 14) hx hb d_Limbs_isZero_3 (by decide) ?_
      refine lv_icmp_ge (tgt := 24) hx hb d_Limbs_isZero_5 (by decide) (fun h9 => absurd h9 (nI_ge (by omega) (by decide))) (fun _ => ?_)
      refine lv_aload_n hx hb d_Limbs_isZero_8 rfl (lv_at hl 1 rfl) ?_
      refine lv_iload_n hx hb d_Limbs_isZero_9 rfl (lv_at hl 0 rfl) ?_
      refine q_lald (N := 14) (f := f) E hP i rfl (by omega) (by decide) d_Limbs_isZero_10 ?_
      refine lv_lconst (v := 0) hx hb d_Limbs_isZero_11 (by decide) ?_
      refine W.lcmp hx hb d_Limbs_isZero_12 ?_
      refine lv_if_eq (tgt := 18) hx hb d_Limbs_isZero_13 (by decide) (fun hc => ?_) (fun hc => ?_)
      rotate_left
      · skip
        refine lv_iconst (v := nI 0) hx hb d_Limbs_isZero_16 (by decide) ?_
        exact q_zret E hr rfl hlk (⟨_, rfl, Or.inr ⟨rfl, nz_limb hf (show i < 14 by omega) (fun e => hc (by rw [e]; decide))⟩, rfl⟩) hF d_Limbs_isZero_17
      refine lv_iinc (k := 0) (v := nI (i + 1)) (lv' := [(1, .int (nI (i + 1))), (0, .ref a)]) hx hb d_Limbs_isZero_18 hl rfl (i_inc i) (by decide) rfl (fun ls hl => ?_)
      refine lv_goto (tgt := 2) hx hb d_Limbs_isZero_21 (by decide) ?_
      have hl : lv_has ls 2 [(1, .int (nI (i + 1))), (0, .ref a)] := lv_sub hl [0, 1] rfl
      exact ih (i + 1) ls (by omega) (fun k hk => if e : k = i then by subst e; exact cmp_eq hc else hz k (by omega)) hl
  refine lv_iconst (v := nI 0) hx hb d_Limbs_isZero_0 (by decide) ?_
  refine lv_istore_n (lv' := [(1, .int (nI 0)), (0, .ref a)]) hx hb d_Limbs_isZero_1 rfl hl (by decide) rfl (fun ls hl => ?_)
  have hl : lv_has ls 2 [(1, .int (nI 0)), (0, .ref a)] := lv_sub hl [0, 1] rfl
  exact lp 14 0 ls (by omega) (fun k hk => absurd hk (Nat.not_lt_zero _)) hl
