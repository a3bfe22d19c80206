/-! the tape as a number -/
def tvN (t : Nat → Nat) : Nat → Nat
  | 0 => 0
  | n + 1 => tvN t n + t n * 256 ^ n
theorem tvN_lt {t : Nat → Nat} (h : ∀ j, t j < 256) (n : Nat) : tvN t n < 256 ^ n := by
  induction n with
  | zero => show 0 < 256 ^ 0; decide
  | succ n ih =>
    have h1 : t n * 256 ^ n ≤ 255 * 256 ^ n := Nat.mul_le_mul_right _ (by have := h n; omega)
    show tvN t n + t n * 256 ^ n < 256 ^ (n + 1)
    rw [Nat.pow_succ]
    generalize 256 ^ n = b at *
    generalize t n * b = y at *
    omega
theorem VL_upd {f : Nat → Int64} {j n : Nat} {x : Int64} (h : j < n) : VL (vp_updL f j x) n = VL f n + (x.toInt - (f j).toInt) * 268435456 ^ j := by
  induction n with
  | zero => omega
  | succ n ih =>
    by_cases e : j = n
    · subst e
      show VL (vp_updL f j x) j + (vp_updL f j x j).toInt * 268435456 ^ j = VL f j + (f j).toInt * 268435456 ^ j + (x.toInt - (f j).toInt) * 268435456 ^ j
      rw [VL_upd_ge (Nat.le_refl _), show vp_updL f j x j = x by simp [vp_updL], Int.sub_mul]
      omega
    · show VL (vp_updL f j x) n + (vp_updL f j x n).toInt * 268435456 ^ n = VL f n + (f n).toInt * 268435456 ^ n + (x.toInt - (f j).toInt) * 268435456 ^ j
      rw [ih (by omega), show vp_updL f j x n = f n by simp [vp_updL, show n ≠ j by omega]]
      exact Int.add_right_comm _ _ _
theorem VL_ge {f : Nat → Int64} {n j : Nat} (h : ∀ k, k < n → dg (f k)) (hj : j < n) : (f j).toInt * 268435456 ^ j ≤ VL f n := by
  induction n with
  | zero => omega
  | succ n ih =>
    have h1 := VL_range (f := f) (n := n) (fun k hk => h k (by omega))
    have h2 := Int.mul_nonneg (h n (by omega)).1 (Int.le_of_lt (pw_pos n))
    show _ ≤ VL f n + (f n).toInt * 268435456 ^ n
    by_cases e : j = n
    · subst e
      omega
    · have h3 := ih (fun k hk => h k (by omega)) (by omega)
      omega
theorem i64_nat {x : Int64} (h : 0 ≤ x.toInt) : x.toInt = (x.toBitVec.toNat : Int) := by
  have h2 := x.toBitVec.isLt
  have h1 : x.toInt = x.toBitVec.toInt := rfl
  rw [h1] at h ⊢
  rw [BitVec.toInt_eq_toNat_cond] at h ⊢
  split at h <;> split <;> omega
theorem i64_ofnat {x : Int64} (h : x.toBitVec.toNat < 9223372036854775808) : x.toInt = (x.toBitVec.toNat : Int) := by
  show x.toBitVec.toInt = _
  rw [BitVec.toInt_eq_toNat_cond, if_pos (by omega)]
theorem i64_orz {x y : Int64} {o z : Nat} (ho : o ≤ 28) (hx : 0 ≤ x.toInt) (hx2 : x.toInt < ((2 ^ o : Nat) : Int)) (hy : y.toInt = ((z * 2 ^ o : Nat) : Int)) (hz : z * 2 ^ o < 268435456) : (x ||| y).toInt = x.toInt + y.toInt := by
  have ex := i64_nat hx
  have ey := i64_nat (x := y) (by rw [hy]; exact Int.natCast_nonneg _)
  have hyn : y.toBitVec.toNat = z <<< o := by
    rw [Nat.shiftLeft_eq]
    exact Int.ofNat.inj (ey.symm.trans hy)
  have hxn : x.toBitVec.toNat < 2 ^ o := by
    rw [ex] at hx2
    exact Int.ofNat_lt.mp hx2
  have h3 : (x ||| y).toBitVec.toNat = z <<< o + x.toBitVec.toNat := by
    rw [Int64.toBitVec_or, BitVec.toNat_or, hyn, Nat.or_comm, Nat.shiftLeft_add_eq_or_of_lt hxn]
  have h4 : (2 : Nat) ^ o ≤ 2 ^ 28 := Nat.pow_le_pow_right (by decide) ho
  have h5 : z <<< o < 268435456 := by rw [Nat.shiftLeft_eq]; exact hz
  rw [i64_ofnat (by rw [h3]; omega), h3, ex, ey, hyn]
  omega
theorem orv {f : Nat → Int64} {q o z : Nat} {y : Int64} (hq : q < 14) (ho : o < 28) (hd : ∀ k, k < 14 → dg (f k)) (hV : VL f 14 < ((2 ^ o : Nat) : Int) * 268435456 ^ q) (hy : y.toInt = ((z * 2 ^ o : Nat) : Int)) (hz : z * 2 ^ o < 268435456) :
    (∀ k, k < 14 → dg (vp_updL f q (f q ||| y) k)) ∧ VL (vp_updL f q (f q ||| y)) 14 = VL f 14 + y.toInt * 268435456 ^ q := by
  have hfq := hd q hq
  have hlt : (f q).toInt < ((2 ^ o : Nat) : Int) := by
    rcases Int.lt_or_le (f q).toInt ((2 ^ o : Nat) : Int) with c | c
    · exact c
    · have h1 := Int.mul_le_mul_of_nonneg_right c (Int.le_of_lt (pw_pos q))
      have h2 := VL_ge hd hq
      exact absurd (Int.lt_of_lt_of_le hV (Int.le_trans h1 h2)) (Int.lt_irrefl _)
  have hor := i64_orz (Nat.le_of_lt ho) hfq.1 hlt hy hz
  refine ⟨fun k hk => ?_, ?_⟩
  · by_cases e : k = q
    · subst e
      rw [show vp_updL f k (f k ||| y) k = f k ||| y by simp [vp_updL]]
      exact dg_or hfq ⟨by rw [hy]; exact Int.natCast_nonneg _, by rw [hy]; exact Int.ofNat_lt.mpr hz⟩
    · rw [show vp_updL f q (f q ||| y) k = f k by simp [vp_updL, e]]
      exact hd k hk
  · rw [VL_upd hq, hor, show (f q).toInt + y.toInt - (f q).toInt = y.toInt by omega]
theorem sh_63 : ∀ o, o < 28 → ((nI o).toInt64 &&& 63).toBitVec.smod 64 = BitVec.ofNat 64 o := by decide +kernel
theorem nI_w64 : ∀ v, v < 256 → (nI v).toInt64.toBitVec = BitVec.ofNat 64 v := by decide +kernel
theorem p2_27 {o : Nat} (ho : o < 28) : 2 ^ o ≤ 134217728 := Nat.le_trans (Nat.pow_le_pow_right (by decide) (show o ≤ 27 by omega)) (by decide)
theorem i64_shl {v o : Nat} (hv : v < 256) (ho : o < 28) : ((nI v).toInt64 <<< ((nI o).toInt64 &&& 63)).toInt = ((v * 2 ^ o : Nat) : Int) := by
  have hb : v * 2 ^ o ≤ 255 * 134217728 := Nat.mul_le_mul (by omega) (p2_27 ho)
  have hn : ((nI v).toInt64 <<< ((nI o).toInt64 &&& 63)).toBitVec.toNat = v * 2 ^ o := by
    rw [Int64.toBitVec_shiftLeft]
    show ((nI v).toInt64.toBitVec <<< (((nI o).toInt64 &&& 63).toBitVec.smod 64)).toNat = _
    rw [sh_63 o ho, nI_w64 v hv]
    show (BitVec.ofNat 64 v <<< (BitVec.ofNat 64 o).toNat).toNat = _
    rw [BitVec.toNat_shiftLeft, BitVec.toNat_ofNat, BitVec.toNat_ofNat, Nat.mod_eq_of_lt (show o < 2 ^ 64 by omega), Nat.mod_eq_of_lt (show v < 2 ^ 64 by omega), Nat.shiftLeft_eq, Nat.mod_eq_of_lt (show v * 2 ^ o < 2 ^ 64 by omega)]
  rw [i64_ofnat (by rw [hn]; omega), hn]
theorem pw_split {p : Nat} : (256 ^ p : Nat) = 2 ^ (8 * p % 28) * 268435456 ^ (8 * p / 28) := by
  rw [show (256 : Nat) = 2 ^ 8 from rfl, show (268435456 : Nat) = 2 ^ 28 from rfl, ← Nat.pow_mul, ← Nat.pow_mul, ← Nat.pow_add, Nat.mod_add_div]
theorem orB_val {f : Nat → Int64} {p v : Nat} (hp : p < 32) (hv : v < 256) (hd : ∀ k, k < 14 → dg (f k)) (hV : VL f 14 < ((256 ^ p : Nat) : Int)) (s : Int64) (es : s = (nI v).toInt64 <<< ((nI (8 * p % 28)).toInt64 &&& 63)) (f1 : Nat → Int64) (e1 : f1 = vp_updL f (8 * p / 28) (f (8 * p / 28) ||| (s &&& 268435455))) :
    (∀ k, k < 14 → dg (vp_updL f1 (8 * p / 28 + 1) (f1 (8 * p / 28 + 1) ||| (s >>> ((nI 28).toInt64 &&& 63))) k)) ∧ VL (vp_updL f1 (8 * p / 28 + 1) (f1 (8 * p / 28 + 1) ||| (s >>> ((nI 28).toInt64 &&& 63)))) 14 = VL f 14 + ((v * 256 ^ p : Nat) : Int) := by
  have ho : 8 * p % 28 < 28 := Nat.mod_lt _ (by decide)
  have hq : 8 * p / 28 + 1 < 14 := by omega
  have hs : s.toInt = ((v * 2 ^ (8 * p % 28) : Nat) : Int) := by rw [es]; exact i64_shl hv ho
  rw [pw_split] at hV ⊢
  generalize 8 * p % 28 = o at *
  generalize 8 * p / 28 = q at *
  have hB : ((2 ^ o * 268435456 ^ q : Nat) : Int) = ((2 ^ o : Nat) : Int) * 268435456 ^ q := by
    rw [Int.natCast_mul]
    congr 1
  rw [hB] at hV
  have hsp : (2 : Nat) ^ (28 - o) * 2 ^ o = 268435456 := by rw [← Nat.pow_add, Nat.sub_add_cancel (Nat.le_of_lt ho)]
  have h1 : (s &&& 268435455).toInt = ((v % 2 ^ (28 - o) * 2 ^ o : Nat) : Int) := by
    rw [i64_mask, hs, ← Nat.mul_mod_mul_right, hsp]
    rfl
  have h2 : (s >>> ((nI 28).toInt64 &&& 63)).toInt = ((v * 2 ^ o / 268435456 * 2 ^ 0 : Nat) : Int) := by
    rw [i64_shr, hs]
    show _ = ((v * 2 ^ o / 268435456 * 1 : Nat) : Int)
    rw [Nat.mul_one]
    rfl
  have hz1 : v % 2 ^ (28 - o) * 2 ^ o + 2 ^ o ≤ 268435456 := by
    have := Nat.mod_lt v (Nat.two_pow_pos (28 - o))
    have h3 := Nat.mul_le_mul_right (2 ^ o) (Nat.succ_le_of_lt this)
    rw [hsp, Nat.succ_mul] at h3
    exact h3
  have hpo := Nat.two_pow_pos o
  have r1 := orv (q := q) (by omega) ho hd hV h1 (by omega)
  rw [← e1] at r1
  have hV1 : VL f1 14 < ((2 ^ 0 : Nat) : Int) * 268435456 ^ (q + 1) := by
    rw [r1.2, h1, Int.pow_succ]
    show _ < 1 * (268435456 ^ q * 268435456)
    have hp0 := pw_pos q
    have h4 : ((v % 2 ^ (28 - o) * 2 ^ o : Nat) : Int) + ((2 ^ o : Nat) : Int) ≤ 268435456 := by omega
    have h5 := Int.mul_le_mul_of_nonneg_right h4 (Int.le_of_lt hp0)
    rw [Int.add_mul] at h5
    rw [Int.one_mul, Int.mul_comm (268435456 ^ q) 268435456]
    omega
  have hv2 : v * 2 ^ o / 268435456 * 2 ^ 0 < 268435456 := by
    have hb : v * 2 ^ o ≤ 255 * 134217728 := Nat.mul_le_mul (by omega) (p2_27 ho)
    have := Nat.div_le_self (v * 2 ^ o) 268435456
    have h9 : v * 2 ^ o / 268435456 < 268435456 := by omega
    rw [show (2 : Nat) ^ 0 = 1 from rfl, Nat.mul_one]
    exact h9
  have r2 := orv (q := q + 1) hq (by decide) r1.1 hV1 h2 hv2
  refine ⟨r2.1, ?_⟩
  rw [r2.2, r1.2, i64_mask, i64_shr, Int.natCast_mul, hB, Int.pow_succ]
  have e3 : s.toInt % 268435456 + 268435456 * (s.toInt / 268435456) = s.toInt := Int.emod_add_mul_ediv _ _
  have e4 : s.toInt = (v : Int) * ((2 ^ o : Nat) : Int) := by rw [hs, Int.natCast_mul]
  generalize (268435456 : Int) ^ q = b at *
  generalize ((2 ^ o : Nat) : Int) = c at *
  generalize s.toInt % 268435456 = m1 at *
  generalize s.toInt / 268435456 = m2 at *
  generalize s.toInt = m at *
  grind
