theorem i64_or16 {x y : Int64} {z : Nat} (hx : 0 ≤ x.toInt) (hx2 : x.toInt < ((2 ^ 16 : Nat) : Int)) (hy : y.toInt = ((z * 2 ^ 16 : Nat) : Int)) (hz : z < 2 ^ 16) : (x ||| y).toInt = x.toInt + y.toInt := by
  have ex := i64_nat hx
  have ey := i64_nat (x := y) (by rw [hy]; exact Int.natCast_nonneg _)
  have hyn : y.toBitVec.toNat = z <<< 16 := by
    rw [Nat.shiftLeft_eq]
    exact Int.ofNat.inj (ey.symm.trans hy)
  have hxn : x.toBitVec.toNat < 2 ^ 16 := by
    rw [ex] at hx2
    exact Int.ofNat_lt.mp hx2
  have h3 : (x ||| y).toBitVec.toNat = z <<< 16 + x.toBitVec.toNat := by
    rw [Int64.toBitVec_or, BitVec.toNat_or, hyn, Nat.or_comm, Nat.shiftLeft_add_eq_or_of_lt hxn]
  have h5 : z <<< 16 < 2 ^ 32 := by rw [Nat.shiftLeft_eq]; omega
  rw [i64_ofnat (by rw [h3]; omega), h3, ex, ey, hyn]
  omega
theorem wd_n (E m : Nat) : E / 2 ^ m % 65536 + E / 2 ^ (m + 16) % 65536 * 65536 = E / 2 ^ m % 4294967296 := by
  rw [Nat.pow_add 2 m 16, ← Nat.div_div_eq_div_mul]
  generalize E / 2 ^ m = q
  omega
theorem sh_16 {y : Int64} {v : Nat} (hv : v < 65536) (ey : y.toInt = (v : Int)) : (y <<< ((nI 16).toInt64 &&& 63)).toInt = ((v * 65536 : Nat) : Int) := by
  have dy : dg y := by
    unfold dg
    rw [ey]
    omega
  rw [shl_d dy (show 16 ≤ 28 by decide), ey, Int.natCast_mul, show (2 : Int) ^ 16 = ((65536 : Nat) : Int) by decide]
theorem wd_i {E m : Nat} {x : Int64} (hx : x.toInt = (E : Int) / 2 ^ m % 2 ^ 16) : x.toInt = ((E / 2 ^ m % 65536 : Nat) : Int) := by
  rw [hx, ← cast_p2 m, show (2 : Int) ^ 16 = ((65536 : Nat) : Int) by decide, ← Int.natCast_ediv, ← Int.natCast_emod]
theorem wd_c {E m : Nat} {x y : Int64} (hx : x.toInt = (E : Int) / 2 ^ m % 2 ^ 16) (hy : y.toInt = (E : Int) / 2 ^ (m + 16) % 2 ^ 16) : ((y <<< ((nI 16).toInt64 &&& 63)) ||| x).toInt = ((E / 2 ^ m % 2 ^ 32 : Nat) : Int) := by
  have ex := wd_i hx
  have ey := wd_i hy
  have hb1 : E / 2 ^ m % 65536 < 65536 := Nat.mod_lt _ (by decide)
  have hb2 : E / 2 ^ (m + 16) % 65536 < 65536 := Nat.mod_lt _ (by decide)
  have hn := wd_n E m
  rw [show (2 : Nat) ^ 32 = 4294967296 by decide, ← hn]
  generalize E / 2 ^ m % 65536 = u at *
  generalize E / 2 ^ (m + 16) % 65536 = v at *
  have e3 := sh_16 hb2 ey
  have h := i64_or16 (z := v) (by rw [ex]; exact Int.natCast_nonneg _) (by rw [ex]; exact Int.ofNat_lt.mpr hb1) (y := y <<< ((nI 16).toInt64 &&& 63)) e3 hb2
  rw [Int64.or_comm, h, ex, e3, ← Int.natCast_add]
set_option maxHeartbeats 4000000 in
set_option maxRecDepth 100000 in
theorem R_Desk_word (l : Launch) (g : WG) (b pn tn wn : Nat) (mr mq : Int64) (hmr : mr = 268435455) (A : Nat → Int) (a k : Nat) (ha : a < 32) (hk8 : k < 8) : Ctr l y_Desk_word (.code y_Desk_word prog_1_method_5_code 7 (some FieldType.long)) 1 26 0 0 (nD b) g [.ref b, .int (nI a), .int (nI k)] (fun H => DS g H H b pn tn wn mr mq ∧ CR g H b ∧ SCA g H b A) (QL (fun r H H' => (∃ E : Nat, (E : Int) = A a ∧ r.toInt = ((E / 2 ^ (32 * k) % 2 ^ 32 : Nat) : Int)) ∧ DS g H H' b pn tn wn mr mq ∧ H' = H)) := by
  refine ctr_mk l (lv0 := [(0, .ref b), (1, .int (nI a)), (2, .int (nI k))]) (by decide) (Nat.le_of_ble_eq_true rfl) rfl ?_
  intro p e s m below meth c ls E hr hlk hnm hl hP
  have hx := E.1
  have hb := E.2.1
  have hK := E.2.2.2.2.2
  have hF : ∀ q ∈ ([] : List Loc), nD b q.base := fun q hq => absurd hq List.not_mem_nil
  obtain ⟨hd, hcr, hsa⟩ := hP
  have hk : KJ g (kSW b) s.heap s.heap := KJ.rf
  refine lv_iload_n hx hb d_Desk_word_0 rfl (lv_at hl 1 rfl) ?_
  refine lv_iconst (v := nI 1) hx hb d_Desk_word_1 (by decide) ?_
  refine q_cS (rest := []) E (c_Desk_needScalars l g (nD b) (nI a) (nI 1) (okS_of (by decide) ha)) w_494 w_1 w_492 w_493 hd_Desk_needScalars rfl ⟨by decide, by decide⟩ trivial hF hl.1 rfl (Nat.le_of_ble_eq_true rfl) d_Desk_word_2 ⟨by decide, by decide⟩ (qv (fun H1 locs hq hF => ?_))
  have hq := hq.symm
  subst hq
  refine lv_iload_n hx hb d_Desk_word_5 rfl (lv_at hl 2 rfl) ?_
  refine lv_if_lt (tgt := 15) hx hb d_Desk_word_6 (by decide) (fun h9 => absurd h9 (nI_pos (by omega))) (fun _ => ?_)
  refine lv_iload_n hx hb d_Desk_word_9 rfl (lv_at hl 2 rfl) ?_
  refine lv_bipush (v := nI 8) hx hb d_Desk_word_10 (by decide) ?_
  refine lv_icmp_lt (tgt := 25) hx hb d_Desk_word_12 (by decide) (fun _ => ?_) (fun h9 => absurd (nI_lt hk8 (by decide)) h9)
  obtain ⟨fs1, as1, vs1, rs1⟩ := hsa a ha
  obtain ⟨E8, hE⟩ : ∃ E8 : Nat, (E8 : Int) = A a := ⟨(A a).toNat, Int.toNat_of_nonneg vs1.nn⟩
  refine lv_aload_n hx hb d_Desk_word_25 rfl (lv_at hl 0 rfl) ?_
  refine q_get (C := "KateDesk") (T := T_Desk) (N := 16) (ci := 5) E (hk.ob hK hd.x.ob) in_Desk rfl 5 (by decide) w_344 rfl rfl d_Desk_word_26 ?_
  refine lv_iload_n hx hb d_Desk_word_29 rfl (lv_at hl 1 rfl) ?_
  refine q_aald (t := 4) E rfl rfl ((hk.rs hK hd.x.rs.nd).1) a rfl ha (by decide) d_Desk_word_30 ?_
  refine lv_bipush (v := nI 32) hx hb d_Desk_word_31 (by decide) ?_
  refine lv_iload_n hx hb d_Desk_word_33 rfl (lv_at hl 2 rfl) ?_
  refine lv_imul hx hb d_Desk_word_34 ?_
  refine lv_topi (fun t9 e9 => ?_)
  obtain rfl : t9 = nI (32 * k) := e9.trans (pk_mul _ _)
  refine lv_bipush (v := nI 16) hx hb d_Desk_word_35 (by decide) ?_
  refine q_cS (rest := []) E (V_Limbs_bits l g (nD b) (kSc b a) (32 * k) 16 fs1 (A a) vs1 (by omega) (by decide)) w_271 w_5 w_533 w_270 hd_Limbs_bits rfl ⟨by decide, by decide⟩ as1 hF hl.1 rfl (Nat.le_of_ble_eq_true rfl) d_Desk_word_37 ⟨by decide, by decide⟩ (ql (fun lo9 H2 locs hq hF => ?_))
  obtain ⟨hlo, hq⟩ := hq
  have hq := hq.symm
  subst hq
  refine lv_lstore_n (lv' := [(3, .long lo9), (0, .ref b), (1, .int (nI a)), (2, .int (nI k))]) hx hb d_Desk_word_40 rfl hl (by decide) rfl (fun ls hl => ?_)
  refine lv_aload_n hx hb d_Desk_word_41 rfl (lv_at hl 1 rfl) ?_
  refine q_get (C := "KateDesk") (T := T_Desk) (N := 16) (ci := 5) E (hk.ob hK hd.x.ob) in_Desk rfl 5 (by decide) w_344 rfl rfl d_Desk_word_42 ?_
  refine lv_iload_n hx hb d_Desk_word_45 rfl (lv_at hl 2 rfl) ?_
  refine q_aald (t := 4) E rfl rfl ((hk.rs hK hd.x.rs.nd).1) a rfl ha (by decide) d_Desk_word_46 ?_
  refine lv_bipush (v := nI 32) hx hb d_Desk_word_47 (by decide) ?_
  refine lv_iload_n hx hb d_Desk_word_49 rfl (lv_at hl 3 rfl) ?_
  refine lv_imul hx hb d_Desk_word_50 ?_
  refine lv_topi (fun t9 e9 => ?_)
  obtain rfl : t9 = nI (32 * k) := e9.trans (pk_mul _ _)
  refine lv_bipush (v := nI 16) hx hb d_Desk_word_51 (by decide) ?_
  refine lv_iadd hx hb d_Desk_word_53 ?_
  refine lv_topi (fun t9 e9 => ?_)
  obtain rfl : t9 = nI (32 * k + 16) := e9.trans (nI_add _ _)
  refine lv_bipush (v := nI 16) hx hb d_Desk_word_54 (by decide) ?_
  refine q_cS (rest := []) E (V_Limbs_bits l g (nD b) (kSc b a) (32 * k + 16) 16 fs1 (A a) vs1 (by omega) (by decide)) w_271 w_5 w_533 w_270 hd_Limbs_bits rfl ⟨by decide, by decide⟩ as1 hF hl.1 rfl (Nat.le_of_ble_eq_true rfl) d_Desk_word_56 ⟨by decide, by decide⟩ (ql (fun hi9 H3 locs hq hF => ?_))
  obtain ⟨hhi, hq⟩ := hq
  have hq := hq.symm
  subst hq
  refine lv_lstore (lv' := [(5, .long hi9), (3, .long lo9), (0, .ref b), (1, .int (nI a)), (2, .int (nI k))]) hx hb d_Desk_word_59 hl (by decide) rfl (fun ls hl => ?_)
  refine lv_lload hx hb d_Desk_word_61 (lv_at hl 0 rfl) ?_
  refine lv_bipush (v := nI 16) hx hb d_Desk_word_63 (by decide) ?_
  refine lv_lshl (v := hi9 <<< ((nI 16).toInt64 &&& 63)) hx hb d_Desk_word_65 rfl ?_
  refine lv_lload_n hx hb d_Desk_word_66 rfl (lv_at hl 1 rfl) ?_
  refine lv_lor hx hb d_Desk_word_67 ?_
  exact q_lret E hr hlk (⟨_, rfl, ⟨E8, hE, wd_c (by rw [hlo, hE]) (by rw [hhi, hE])⟩, hd, rfl⟩) hF d_Desk_word_68
