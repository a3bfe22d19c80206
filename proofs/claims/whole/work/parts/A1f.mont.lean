theorem mi_eq {b V1 V0 X A Y Q D M : Int} (hV : 268435456 * V1 = V0 + X * A + Y * Q) (hM : b * V0 = A * D + M * Q) : b * 268435456 * V1 = A * (D + X * b) + (M + Y * b) * Q := by
  rw [Int.mul_assoc, hV]
  grind
set_option maxHeartbeats 1000000 in
theorem MI.step {fa fq fb : Nat → Int64} {i : Nat} {mi t0 t1 t2 t3 t4 t5 t6 t7 t8 t9 t10 t11 t12 u m x : Int64} (hi : i < 14) (ha : ∀ k, k < 14 → dg (fa k)) (hq : ∀ k, k < 14 → dg (fq k)) (hxd : dg x) (hx : x = fb i) (hmi : ((fq 0).toInt * mi.toInt + 1) % 268435456 = 0) (h : MI fa fq fb i (TL t0 t1 t2 t3 t4 t5 t6 t7 t8 t9 t10 t11 t12)) (hu : u = t0 + x * fa 0) (hm : m = (u * mi) &&& 268435455) : MI fa fq fb (i + 1) (TL (((u + m * fq 0) >>> ((nI 28).toInt64 &&& 63)) + t1 + x * fa 1 + m * fq 1) (t2 + x * fa 2 + m * fq 2) (t3 + x * fa 3 + m * fq 3) (t4 + x * fa 4 + m * fq 4) (t5 + x * fa 5 + m * fq 5) (t6 + x * fa 6 + m * fq 6) (t7 + x * fa 7 + m * fq 7) (t8 + x * fa 8 + m * fq 8) (t9 + x * fa 9 + m * fq 9) (t10 + x * fa 10 + m * fq 10) (t11 + x * fa 11 + m * fq 11) (t12 + x * fa 12 + m * fq 12) (x * fa 13 + m * fq 13)) := by
  obtain ⟨h0, hT, M, hM0, hM1, hM⟩ := h
  have hB : (i : Int) * 144115188075855872 ≤ 13 * 144115188075855872 := Int.mul_le_mul_of_nonneg_right (by omega) (by decide)
  have h0 : 0 ≤ t0.toInt ∧ t0.toInt ≤ i * 144115188075855872 + 17179869184 := h0
  have b1 : 0 ≤ t1.toInt ∧ t1.toInt ≤ i * 144115188075855872 := hT 1 (by decide) (by decide)
  have b2 : 0 ≤ t2.toInt ∧ t2.toInt ≤ i * 144115188075855872 := hT 2 (by decide) (by decide)
  have b3 : 0 ≤ t3.toInt ∧ t3.toInt ≤ i * 144115188075855872 := hT 3 (by decide) (by decide)
  have b4 : 0 ≤ t4.toInt ∧ t4.toInt ≤ i * 144115188075855872 := hT 4 (by decide) (by decide)
  have b5 : 0 ≤ t5.toInt ∧ t5.toInt ≤ i * 144115188075855872 := hT 5 (by decide) (by decide)
  have b6 : 0 ≤ t6.toInt ∧ t6.toInt ≤ i * 144115188075855872 := hT 6 (by decide) (by decide)
  have b7 : 0 ≤ t7.toInt ∧ t7.toInt ≤ i * 144115188075855872 := hT 7 (by decide) (by decide)
  have b8 : 0 ≤ t8.toInt ∧ t8.toInt ≤ i * 144115188075855872 := hT 8 (by decide) (by decide)
  have b9 : 0 ≤ t9.toInt ∧ t9.toInt ≤ i * 144115188075855872 := hT 9 (by decide) (by decide)
  have b10 : 0 ≤ t10.toInt ∧ t10.toInt ≤ i * 144115188075855872 := hT 10 (by decide) (by decide)
  have b11 : 0 ≤ t11.toInt ∧ t11.toInt ≤ i * 144115188075855872 := hT 11 (by decide) (by decide)
  have b12 : 0 ≤ t12.toInt ∧ t12.toInt ≤ i * 144115188075855872 := hT 12 (by decide) (by decide)
  have p0 := dg_mul hxd (ha 0 (by decide))
  have eu : u.toInt = t0.toInt + x.toInt * (fa 0).toInt := by rw [hu, ← p0.1]; exact i64_add (by rw [p0.1]; omega) (by rw [p0.1]; omega)
  have em : m.toInt = (u.toInt * mi.toInt) % 268435456 := by rw [hm, i64_mask, Int64.toInt_mul, bmod_28]
  have hmd : dg m := by unfold dg; rw [em]; omega
  have r0 := dg_mul hmd (hq 0 (by decide))
  have es : (u + m * fq 0).toInt = u.toInt + m.toInt * (fq 0).toInt := by rw [← r0.1]; exact i64_add (by rw [r0.1, eu]; omega) (by rw [r0.1, eu]; omega)
  have hdv : (u.toInt + m.toInt * (fq 0).toInt) % 268435456 = 0 := by
    have e1 : m.toInt = u.toInt * mi.toInt - 268435456 * (u.toInt * mi.toInt / 268435456) := by rw [em]; have := Int.emod_add_mul_ediv (u.toInt * mi.toInt) 268435456; omega
    obtain ⟨c, hc⟩ := Int.dvd_of_emod_eq_zero hmi
    have e2 : u.toInt + m.toInt * (fq 0).toInt = 268435456 * (u.toInt * c - u.toInt * mi.toInt / 268435456 * (fq 0).toInt) := by
      rw [e1]
      generalize u.toInt * mi.toInt / 268435456 = j at *
      generalize (fq 0).toInt = q0 at *
      generalize mi.toInt = w at *
      generalize u.toInt = v at *
      grind
    rw [e2]
    exact Int.mul_emod_right _ _
  have esh : ((u + m * fq 0) >>> ((nI 28).toInt64 &&& 63)).toInt = (u.toInt + m.toInt * (fq 0).toInt) / 268435456 := by rw [i64_shr, es]
  generalize hs : (u + m * fq 0) >>> ((nI 28).toInt64 &&& 63) = s at *
  have e9 : 268435456 * s.toInt = u.toInt + m.toInt * (fq 0).toInt := by rw [esh]; omega
  have bs : 0 ≤ s.toInt ∧ s.toInt ≤ 17179869184 := by omega
  have p1 := dg_mul hxd (ha 1 (by decide))
  have r1 := dg_mul hmd (hq 1 (by decide))
  have c1 : (s + t1).toInt = s.toInt + t1.toInt := i64_add (by omega) (by omega)
  have c2 : (s + t1 + x * fa 1).toInt = s.toInt + t1.toInt + x.toInt * (fa 1).toInt := by rw [← p1.1, ← c1]; exact i64_add (by rw [c1, p1.1]; omega) (by rw [c1, p1.1]; omega)
  have c3 : (s + t1 + x * fa 1 + m * fq 1).toInt = s.toInt + t1.toInt + x.toInt * (fa 1).toInt + m.toInt * (fq 1).toInt := by rw [← r1.1, ← c2]; exact i64_add (by rw [c2, r1.1]; omega) (by rw [c2, r1.1]; omega)
  have s1 := sum2 hi b2 hxd (ha 2 (by decide)) hmd (hq 2 (by decide))
  have s2 := sum2 hi b3 hxd (ha 3 (by decide)) hmd (hq 3 (by decide))
  have s3 := sum2 hi b4 hxd (ha 4 (by decide)) hmd (hq 4 (by decide))
  have s4 := sum2 hi b5 hxd (ha 5 (by decide)) hmd (hq 5 (by decide))
  have s5 := sum2 hi b6 hxd (ha 6 (by decide)) hmd (hq 6 (by decide))
  have s6 := sum2 hi b7 hxd (ha 7 (by decide)) hmd (hq 7 (by decide))
  have s7 := sum2 hi b8 hxd (ha 8 (by decide)) hmd (hq 8 (by decide))
  have s8 := sum2 hi b9 hxd (ha 9 (by decide)) hmd (hq 9 (by decide))
  have s9 := sum2 hi b10 hxd (ha 10 (by decide)) hmd (hq 10 (by decide))
  have s10 := sum2 hi b11 hxd (ha 11 (by decide)) hmd (hq 11 (by decide))
  have s11 := sum2 hi b12 hxd (ha 12 (by decide)) hmd (hq 12 (by decide))
  have s12 := sum2 (t := 0) hi ⟨by decide, by show (0 : Int) ≤ _; omega⟩ hxd (ha 13 (by decide)) hmd (hq 13 (by decide))
  have z12 : (0 : Int64) + x * fa 13 + m * fq 13 = x * fa 13 + m * fq 13 := by rw [Int64.zero_add]
  rw [z12] at s12
  have hi1 : ((i + 1 : Nat) : Int) * 144115188075855872 = (i : Int) * 144115188075855872 + 144115188075855872 := by omega
  have hv : ∀ k, k < 13 → ((TL (s + t1 + x * fa 1 + m * fq 1) (t2 + x * fa 2 + m * fq 2) (t3 + x * fa 3 + m * fq 3) (t4 + x * fa 4 + m * fq 4) (t5 + x * fa 5 + m * fq 5) (t6 + x * fa 6 + m * fq 6) (t7 + x * fa 7 + m * fq 7) (t8 + x * fa 8 + m * fq 8) (t9 + x * fa 9 + m * fq 9) (t10 + x * fa 10 + m * fq 10) (t11 + x * fa 11 + m * fq 11) (t12 + x * fa 12 + m * fq 12) (x * fa 13 + m * fq 13)) k).toInt = if k = 0 then s.toInt + (((TL t0 t1 t2 t3 t4 t5 t6 t7 t8 t9 t10 t11 t12) (0 + 1)).toInt + x.toInt * (fa (0 + 1)).toInt + m.toInt * (fq (0 + 1)).toInt) else ((TL t0 t1 t2 t3 t4 t5 t6 t7 t8 t9 t10 t11 t12) (k + 1)).toInt + x.toInt * (fa (k + 1)).toInt + m.toInt * (fq (k + 1)).toInt := by
    intro k hk
    match k, hk with
    | 0, _ => rw [if_pos rfl]; exact c3.trans (by show _ = s.toInt + (t1.toInt + x.toInt * (fa 1).toInt + m.toInt * (fq 1).toInt); omega)
    | 1, _ => exact s1.1
    | 2, _ => exact s2.1
    | 3, _ => exact s3.1
    | 4, _ => exact s4.1
    | 5, _ => exact s5.1
    | 6, _ => exact s6.1
    | 7, _ => exact s7.1
    | 8, _ => exact s8.1
    | 9, _ => exact s9.1
    | 10, _ => exact s10.1
    | 11, _ => exact s11.1
    | 12, _ => exact s12.1
    | k + 13, hk => exact absurd hk (by omega)
  have hV : 268435456 * VL (TL (s + t1 + x * fa 1 + m * fq 1) (t2 + x * fa 2 + m * fq 2) (t3 + x * fa 3 + m * fq 3) (t4 + x * fa 4 + m * fq 4) (t5 + x * fa 5 + m * fq 5) (t6 + x * fa 6 + m * fq 6) (t7 + x * fa 7 + m * fq 7) (t8 + x * fa 8 + m * fq 8) (t9 + x * fa 9 + m * fq 9) (t10 + x * fa 10 + m * fq 10) (t11 + x * fa 11 + m * fq 11) (t12 + x * fa 12 + m * fq 12) (x * fa 13 + m * fq 13)) 13 = VL (TL t0 t1 t2 t3 t4 t5 t6 t7 t8 t9 t10 t11 t12) 13 + x.toInt * VL fa 14 + m.toInt * VL fq 14 := by
    rw [VL_VI, VI_ext hv, VI_head (f := fun k => ((TL t0 t1 t2 t3 t4 t5 t6 t7 t8 t9 t10 t11 t12) (k + 1)).toInt + x.toInt * (fa (k + 1)).toInt + m.toInt * (fq (k + 1)).toInt) (n := 12), Int.mul_add, VI_shift (f := fun k => ((TL t0 t1 t2 t3 t4 t5 t6 t7 t8 t9 t10 t11 t12) k).toInt + x.toInt * (fa k).toInt + m.toInt * (fq k).toInt), VI_lin, e9, eu, VL_VI, VL_VI, VL_VI]
    have z : VI (fun k => ((TL t0 t1 t2 t3 t4 t5 t6 t7 t8 t9 t10 t11 t12) k).toInt) (12 + 1 + 1) = VI (fun k => ((TL t0 t1 t2 t3 t4 t5 t6 t7 t8 t9 t10 t11 t12) k).toInt) 13 := by
      show VI (fun k => ((TL t0 t1 t2 t3 t4 t5 t6 t7 t8 t9 t10 t11 t12) k).toInt) 13 + (0 : Int) * 268435456 ^ 13 = _
      omega
    rw [z]
    simp only [Nat.reduceAdd]
    show t0.toInt + x.toInt * (fa 0).toInt + m.toInt * (fq 0).toInt + (_ - (t0.toInt + x.toInt * (fa 0).toInt + m.toInt * (fq 0).toInt)) = _
    omega
  refine ⟨?_, ?_, M + m.toInt * 268435456 ^ i, ?_, ?_, ?_⟩
  · show 0 ≤ (s + t1 + x * fa 1 + m * fq 1).toInt ∧ (s + t1 + x * fa 1 + m * fq 1).toInt ≤ _
    rw [c3, hi1]
    omega
  · intro k h1 h2
    match k, h1, h2 with
    | 1, _, _ => exact s1.2
    | 2, _, _ => exact s2.2
    | 3, _, _ => exact s3.2
    | 4, _, _ => exact s4.2
    | 5, _, _ => exact s5.2
    | 6, _, _ => exact s6.2
    | 7, _, _ => exact s7.2
    | 8, _, _ => exact s8.2
    | 9, _, _ => exact s9.2
    | 10, _, _ => exact s10.2
    | 11, _, _ => exact s11.2
    | 12, _, _ => exact s12.2
    | k + 13, _, h => exact absurd h (by omega)
  · exact Int.add_nonneg hM0 (Int.mul_nonneg hmd.1 (Int.le_of_lt (pw_pos i)))
  · rw [Int.pow_succ]
    have h9 : m.toInt * 268435456 ^ i ≤ 268435455 * 268435456 ^ i := Int.mul_le_mul_of_nonneg_right (by have := hmd.2; omega) (Int.le_of_lt (pw_pos i))
    generalize (268435456 : Int) ^ i = b at *
    generalize m.toInt * b = y at *
    omega
  · have e5 : VL fb (i + 1) = VL fb i + x.toInt * 268435456 ^ i := by rw [hx]; rfl
    rw [e5, Int.pow_succ]
    exact mi_eq hV hM
/-- the sums are carried out to the end -/
theorem MI.last {T c f : Nat → Int64} {n : Nat} (hc0 : c 0 = T 0) (hc : ∀ k, k < 12 → c (k + 1) = T (k + 1) + (c k >>> ((nI 28).toInt64 &&& 63))) (hf : ∀ k, k < 13 → f k = c k &&& 268435455) (h13 : f 13 = c 12 >>> ((nI 28).toInt64 &&& 63)) (hb : ∀ k, k < 13 → 0 ≤ (T k).toInt ∧ (T k).toInt ≤ 2305843009213693952) (hV : VL T 13 < 268435456 ^ 14) : (∀ k, k < 14 → dg (f k)) ∧ VL f 14 = VL T 13 := by
  have key : ∀ k, k < 13 → 0 ≤ (c k).toInt ∧ (c k).toInt ≤ 2314850208468434944 ∧ VL f (k + 1) + (c k).toInt / 268435456 * 268435456 ^ (k + 1) = VL T (k + 1) := by
    intro k
    induction k with
    | zero =>
      intro hk
      have b := hb 0 hk
      refine ⟨by rw [hc0]; exact b.1, by rw [hc0]; omega, ?_⟩
      show (0 : Int) + (f 0).toInt * 268435456 ^ 0 + (c 0).toInt / 268435456 * 268435456 ^ 1 = 0 + (T 0).toInt * 268435456 ^ 0
      rw [hf 0 hk, i64_mask, hc0, show (268435456 : Int) ^ 0 = 1 from rfl, show (268435456 : Int) ^ 1 = 268435456 from rfl]
      omega
    | succ k ih =>
      intro hk
      obtain ⟨i1, i2, i3⟩ := ih (by omega)
      have b := hb (k + 1) hk
      have e1 : (c (k + 1)).toInt = (T (k + 1)).toInt + (c k).toInt / 268435456 := by
        rw [hc k (by omega), ← i64_shr]
        exact i64_add (by rw [i64_shr]; omega) (by rw [i64_shr]; omega)
      refine ⟨by omega, by omega, ?_⟩
      show VL f (k + 1) + (f (k + 1)).toInt * 268435456 ^ (k + 1) + (c (k + 1)).toInt / 268435456 * 268435456 ^ (k + 1 + 1) = VL T (k + 1) + (T (k + 1)).toInt * 268435456 ^ (k + 1)
      rw [hf (k + 1) hk, i64_mask, ← i3, Int.pow_succ 268435456 (k + 1)]
      have e2 := Int.emod_add_mul_ediv (c (k + 1)).toInt 268435456
      generalize (c (k + 1)).toInt % 268435456 = m1 at *
      generalize (c (k + 1)).toInt / 268435456 = m2 at *
      generalize (c k).toInt / 268435456 = m3 at *
      generalize (268435456 : Int) ^ (k + 1) = b9 at *
      generalize (c (k + 1)).toInt = m4 at *
      generalize (T (k + 1)).toInt = m5 at *
      clear i1 i2 b hf hc hb
      grind
  obtain ⟨k1, k2, k3⟩ := key 12 (by decide)
  have e13 : (f 13).toInt = (c 12).toInt / 268435456 := by rw [h13, i64_shr]
  have hV14 : VL f 14 = VL T 13 := by
    show VL f 13 + (f 13).toInt * 268435456 ^ 13 = VL T 13
    rw [e13]
    exact k3
  have hd : ∀ k, k < 13 → dg (f k) := fun k hk => by unfold dg; rw [hf k hk, i64_mask]; omega
  refine ⟨fun k hk => ?_, hV14⟩
  by_cases e : k = 13
  · subst e
    refine ⟨by rw [e13]; omega, ?_⟩
    have r := VL_range hd
    rcases Int.lt_or_le (f 13).toInt 268435456 with q | q
    · exact q
    · exfalso
      have h1 := Int.mul_le_mul_of_nonneg_right q (Int.le_of_lt (pw_pos 13))
      have h2 : VL f 14 = VL f 13 + (f 13).toInt * 268435456 ^ 13 := rfl
      have h3 : (268435456 : Int) ^ 14 = 268435456 * 268435456 ^ 13 := by decide
      omega
  · exact hd k (by omega)
