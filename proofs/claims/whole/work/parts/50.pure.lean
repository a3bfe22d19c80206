
/-! numbers: limbs of 28 bits as whole numbers -/
def dg (x : Int64) : Prop := 0 ≤ x.toInt ∧ x.toInt < 268435456
def VL (f : Nat → Int64) : Nat → Int
  | 0 => 0
  | n + 1 => VL f n + (f n).toInt * 268435456 ^ n
theorem VL_ext {f h : Nat → Int64} {n : Nat} (e : ∀ k, k < n → f k = h k) : VL f n = VL h n := by
  induction n with
  | zero => rfl
  | succ n ih => unfold VL; rw [ih (fun k hk => e k (by omega)), e n (by omega)]
theorem pw_pos (n : Nat) : (0 : Int) < 268435456 ^ n := Int.pow_pos (by decide)
theorem VL_range {f : Nat → Int64} {n : Nat} (h : ∀ k, k < n → dg (f k)) : 0 ≤ VL f n ∧ VL f n < 268435456 ^ n := by
  induction n with
  | zero => exact ⟨Int.le_refl _, by show (0 : Int) < 268435456 ^ 0; decide⟩
  | succ n ih =>
    have ih := ih (fun k hk => h k (by omega))
    have hd := h n (by omega)
    have hp := pw_pos n
    unfold VL
    have e1 : 0 ≤ (f n).toInt * 268435456 ^ n := Int.mul_nonneg hd.1 (Int.le_of_lt hp)
    have e2 : (f n).toInt * 268435456 ^ n ≤ 268435455 * 268435456 ^ n := Int.mul_le_mul_of_nonneg_right (by have := hd.2; omega) (Int.le_of_lt hp)
    rw [Int.pow_succ]
    generalize (268435456 : Int) ^ n = b at *
    generalize (f n).toInt * b = y at *
    omega
theorem i64_add {x y : Int64} (h1 : -9223372036854775808 ≤ x.toInt + y.toInt) (h2 : x.toInt + y.toInt < 9223372036854775808) : (x + y).toInt = x.toInt + y.toInt := by
  rw [Int64.toInt_add]
  exact Int.bmod_eq_of_le (by omega) (by omega)
theorem i64_sub {x y : Int64} (h1 : -9223372036854775808 ≤ x.toInt - y.toInt) (h2 : x.toInt - y.toInt < 9223372036854775808) : (x - y).toInt = x.toInt - y.toInt := by
  rw [Int64.toInt_sub]
  exact Int.bmod_eq_of_le (by omega) (by omega)
theorem i64_mul {x y : Int64} (h1 : -9223372036854775808 ≤ x.toInt * y.toInt) (h2 : x.toInt * y.toInt < 9223372036854775808) : (x * y).toInt = x.toInt * y.toInt := by
  rw [Int64.toInt_mul]
  exact Int.bmod_eq_of_le (by omega) (by omega)
theorem i64_mask (x : Int64) : (x &&& 268435455).toInt = x.toInt % 268435456 := by
  have h1 : (x &&& 268435455).toBitVec.toNat = x.toBitVec.toNat % 268435456 := by
    rw [Int64.toBitVec_and, BitVec.toNat_and]
    show x.toBitVec.toNat &&& 268435455 = _
    exact Nat.and_two_pow_sub_one_eq_mod x.toBitVec.toNat 28
  have h2 : (x &&& 268435455).toBitVec.toNat < 268435456 := by rw [h1]; exact Nat.mod_lt _ (by decide)
  have h3 : (x &&& 268435455).toInt = ((x &&& 268435455).toBitVec.toNat : Int) := by
    show (x &&& 268435455).toBitVec.toInt = _
    rw [BitVec.toInt_eq_toNat_cond]
    rw [if_pos (by omega)]
  rw [h3, h1]
  show _ = x.toBitVec.toInt % 268435456
  rw [BitVec.toInt_eq_toNat_cond]
  split
  · simp
  · omega
theorem i64_shr (x : Int64) : (x >>> ((nI 28).toInt64 &&& 63)).toInt = x.toInt / 268435456 := by
  have h : ((nI 28).toInt64 &&& 63).toBitVec.smod 64 = 28#64 := by decide
  show (x >>> ((nI 28).toInt64 &&& 63)).toBitVec.toInt = x.toBitVec.toInt / 268435456
  rw [Int64.toBitVec_shiftRight]
  show (x.toBitVec.sshiftRight' (((nI 28).toInt64 &&& 63).toBitVec.smod 64)).toInt = _
  rw [h]
  show (x.toBitVec.sshiftRight 28).toInt = _
  rw [BitVec.toInt_sshiftRight, Int.shiftRight_eq_div_pow]
  rfl
theorem VL_upd_ge {f : Nat → Int64} {j n : Nat} {x : Int64} (h : n ≤ j) : VL (vp_updL f j x) n = VL f n := VL_ext (fun k hk => by simp [vp_updL, show k ≠ j by omega])
/-- a step of the carries -/
theorem carry_step {f f' : Nat → Int64} {i : Nat} {c : Int64} (hc : -68719476736 ≤ c.toInt ∧ c.toInt ≤ 68719476736) (hf : -4611686018427387904 ≤ (f i).toInt ∧ (f i).toInt ≤ 4611686018427387904) (hV : VL f' i + c.toInt * 268435456 ^ i = VL f i) :
    (let s := c + f i; VL (vp_updL f' i (s &&& 268435455)) (i + 1) + (s >>> ((nI 28).toInt64 &&& 63)).toInt * 268435456 ^ (i + 1) = VL f (i + 1) ∧ -68719476736 ≤ (s >>> ((nI 28).toInt64 &&& 63)).toInt ∧ (s >>> ((nI 28).toInt64 &&& 63)).toInt ≤ 68719476736 ∧ dg (s &&& 268435455)) := by
  intro s
  have hs : s.toInt = c.toInt + (f i).toInt := i64_add (by omega) (by omega)
  have h1 := i64_mask s
  have h2 := i64_shr s
  have h3 : (vp_updL f' i (s &&& 268435455)) i = s &&& 268435455 := by simp [vp_updL]
  refine ⟨?_, by rw [h2]; omega, by rw [h2]; omega, by unfold dg; rw [h1]; omega⟩
  unfold VL
  rw [VL_upd_ge (Nat.le_refl _), h3, h1, h2, Int.pow_succ]
  have e1 : s.toInt % 268435456 + 268435456 * (s.toInt / 268435456) = s.toInt := Int.emod_add_mul_ediv _ _
  generalize (268435456 : Int) ^ i = b at *
  generalize s.toInt % 268435456 = u at *
  generalize s.toInt / 268435456 = v at *
  generalize VL f' i = A at *
  generalize VL f i = B at *
  grind
