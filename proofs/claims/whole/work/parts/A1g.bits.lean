/-! bits of a row of limbs -/
theorem VL_split {f : Nat → Int64} {q m : Nat} : VL f (q + m) = VL f q + 268435456 ^ q * VL (fun k => f (q + k)) m := by
  induction m with
  | zero => show VL f q = VL f q + 268435456 ^ q * 0; omega
  | succ m ih =>
    show VL f (q + m) + (f (q + m)).toInt * 268435456 ^ (q + m) = VL f q + 268435456 ^ q * (VL (fun k => f (q + k)) m + (f (q + m)).toInt * 268435456 ^ m)
    rw [ih, Int.pow_add, Int.mul_add]
    generalize (268435456 : Int) ^ q = a
    generalize (268435456 : Int) ^ m = b
    grind
theorem VL_div {f : Nat → Int64} {q m : Nat} (hd : ∀ k, k < q → dg (f k)) : VL f (q + m) / 268435456 ^ q = VL (fun k => f (q + k)) m := by
  have r := VL_range hd
  rw [VL_split, Int.add_mul_ediv_left _ _ (Int.ne_of_gt (pw_pos q)), Int.ediv_eq_zero_of_lt r.1 r.2, Int.zero_add]
theorem VL_hd {f : Nat → Int64} {m : Nat} : VL f (m + 1) = (f 0).toInt + 268435456 * VL (fun k => f (1 + k)) m := by
  have h := VL_split (f := f) (q := 1) (m := m)
  rw [Nat.add_comm] at h
  rw [h]
  show (0 : Int) + (f 0).toInt * 268435456 ^ 0 + 268435456 ^ 1 * _ = _
  rw [show (268435456 : Int) ^ 0 = 1 from rfl, show (268435456 : Int) ^ 1 = 268435456 from rfl]
  omega
theorem p28 {o : Nat} (ho : o ≤ 28) : (268435456 : Int) = 2 ^ o * 2 ^ (28 - o) := by
  rw [← Int.pow_add, Nat.add_sub_cancel' ho]
  rfl
theorem p2_pos (n : Nat) : (0 : Int) < 2 ^ n := Int.pow_pos (by decide)
theorem div_28 {x r : Int} {o : Nat} (ho : o ≤ 28) : (x + 268435456 * r) / 2 ^ o = x / 2 ^ o + 2 ^ (28 - o) * r := by
  rw [p28 ho, Int.mul_assoc, Int.add_mul_ediv_left _ _ (Int.ne_of_gt (p2_pos o))]
theorem dv_2 {c : Nat} (hc : c ≤ 28) : (2 : Int) ^ c ∣ 268435456 := ⟨2 ^ (28 - c), p28 hc⟩
/-- bits from q limbs and o bits on: two limbs tell them -/
theorem VL_bits {f : Nat → Int64} {q o c : Nat} (hd : ∀ k, k < 14 → dg (f k)) (hq : q + 2 ≤ 14) (ho : o < 28) (hc : c ≤ 28) : VL f 14 / 268435456 ^ q / 2 ^ o % 2 ^ c = ((f q).toInt + 268435456 * (f (q + 1)).toInt) / 2 ^ o % 2 ^ c := by
  obtain ⟨m, hm⟩ : ∃ m, 14 = q + (m + 2) := ⟨12 - q, by omega⟩
  rw [hm, VL_div (fun k hk => hd k (by omega)), VL_hd, VL_hd]
  show ((f (q + 0)).toInt + 268435456 * ((f (q + (1 + 0))).toInt + 268435456 * _)) / 2 ^ o % 2 ^ c = _
  rw [show q + (1 + 0) = q + 1 from rfl, show q + 0 = q from rfl]
  generalize VL (fun k => f (q + (1 + (1 + k)))) m = r
  rw [show (f q).toInt + 268435456 * ((f (q + 1)).toInt + 268435456 * r) = (f q).toInt + 268435456 * (f (q + 1)).toInt + 268435456 * (268435456 * r) by omega, div_28 (Nat.le_of_lt ho)]
  obtain ⟨e, he⟩ := dv_2 hc
  rw [show (2 : Int) ^ (28 - o) * (268435456 * r) = 2 ^ c * (2 ^ (28 - o) * (e * r)) by rw [he]; grind]
  exact Int.add_mul_emod_self_left _ _ _
theorem VL_bitsT {f : Nat → Int64} {o c : Nat} (hd : ∀ k, k < 14 → dg (f k)) : VL f 14 / 268435456 ^ 13 / 2 ^ o % 2 ^ c = (f 13).toInt / 2 ^ o % 2 ^ c := by
  have h := VL_div (f := f) (q := 13) (m := 1) (fun k hk => hd k (by omega))
  rw [h]
  show (0 + (f 13).toInt * 268435456 ^ 0) / 2 ^ o % 2 ^ c = _
  rw [show (268435456 : Int) ^ 0 = 1 from rfl]
  rw [show (0 : Int) + (f 13).toInt * 1 = (f 13).toInt by omega]
theorem VL_bit1 {f : Nat → Int64} {q o : Nat} (hd : ∀ k, k < 14 → dg (f k)) (hq : q < 14) (ho : o < 28) : VL f 14 / 268435456 ^ q / 2 ^ o % 2 = (f q).toInt / 2 ^ o % 2 := by
  obtain ⟨m, hm⟩ : ∃ m, 14 = q + (m + 1) := ⟨13 - q, by omega⟩
  rw [hm, VL_div (fun k hk => hd k (by omega)), VL_hd]
  show ((f (q + 0)).toInt + 268435456 * _) / 2 ^ o % 2 = _
  rw [show q + 0 = q from rfl, div_28 (Nat.le_of_lt ho)]
  generalize VL (fun k => f (q + (1 + k))) m = r
  obtain ⟨j, hj⟩ : ∃ j, 28 - o = j + 1 := ⟨27 - o, by omega⟩
  rw [hj, Int.pow_succ, show (2 : Int) ^ j * 2 * r = 2 * (2 ^ j * r) by grind]
  exact Int.add_mul_emod_self_left _ _ _
theorem pw_at {i : Nat} {x : Int} : x / 268435456 ^ (i / 28) / 2 ^ (i % 28) = x / 2 ^ i := by
  rw [Int.ediv_ediv_of_nonneg (Int.le_of_lt (pw_pos _))]
  congr 1
  rw [show (268435456 : Int) = 2 ^ 28 from rfl, ← Int.pow_mul, ← Int.pow_add]
  congr 1
  omega
