/-! sums of limbs as whole numbers -/
def VI (f : Nat → Int) : Nat → Int
  | 0 => 0
  | n + 1 => VI f n + f n * 268435456 ^ n
theorem VI_ext {f h : Nat → Int} {n : Nat} (e : ∀ k, k < n → f k = h k) : VI f n = VI h n := by
  induction n with
  | zero => rfl
  | succ n ih =>
    show VI f n + f n * 268435456 ^ n = VI h n + h n * 268435456 ^ n
    rw [ih (fun k hk => e k (by omega)), e n (by omega)]
theorem VL_VI {f : Nat → Int64} {n : Nat} : VL f n = VI (fun k => (f k).toInt) n := by
  induction n with
  | zero => rfl
  | succ n ih =>
    show VL f n + (f n).toInt * 268435456 ^ n = VI (fun k => (f k).toInt) n + (f n).toInt * 268435456 ^ n
    rw [ih]
theorem VI_lin {f h g : Nat → Int} {x m : Int} {n : Nat} : VI (fun k => f k + x * h k + m * g k) n = VI f n + x * VI h n + m * VI g n := by
  induction n with
  | zero => show (0 : Int) = 0 + x * 0 + m * 0; omega
  | succ n ih =>
    show VI (fun k => f k + x * h k + m * g k) n + (f n + x * h n + m * g n) * 268435456 ^ n = VI f n + f n * 268435456 ^ n + x * (VI h n + h n * 268435456 ^ n) + m * (VI g n + g n * 268435456 ^ n)
    rw [ih]
    generalize (268435456 : Int) ^ n = b
    grind
theorem VI_shift {f : Nat → Int} {n : Nat} : 268435456 * VI (fun k => f (k + 1)) n = VI f (n + 1) - f 0 := by
  induction n with
  | zero =>
    show 268435456 * (0 : Int) = 0 + f 0 * 268435456 ^ 0 - f 0
    rw [show (268435456 : Int) ^ 0 = 1 from rfl]
    omega
  | succ n ih =>
    show 268435456 * (VI (fun k => f (k + 1)) n + f (n + 1) * 268435456 ^ n) = VI f (n + 1) + f (n + 1) * 268435456 ^ (n + 1) - f 0
    rw [Int.pow_succ]
    generalize (268435456 : Int) ^ n = b at *
    grind
theorem VI_head {f : Nat → Int} {s : Int} {n : Nat} : VI (fun k => if k = 0 then s + f 0 else f k) (n + 1) = s + VI f (n + 1) := by
  induction n with
  | zero =>
    show (0 : Int) + (s + f 0) * 268435456 ^ 0 = s + (0 + f 0 * 268435456 ^ 0)
    rw [show (268435456 : Int) ^ 0 = 1 from rfl]
    omega
  | succ n ih =>
    show VI (fun k => if k = 0 then s + f 0 else f k) (n + 1) + (if n + 1 = 0 then s + f 0 else f (n + 1)) * 268435456 ^ (n + 1) = s + (VI f (n + 1) + f (n + 1) * 268435456 ^ (n + 1))
    rw [ih, if_neg (Nat.succ_ne_zero n)]
    omega
theorem bmod_28 (x : Int) : (x.bmod (2 ^ 64)) % 268435456 = x % 268435456 := by
  have h1 : (x.bmod (2 ^ 64)) % ((2 ^ 64 : Nat) : Int) = x % ((2 ^ 64 : Nat) : Int) := Int.bmod_emod
  have hd : (268435456 : Int) ∣ ((2 ^ 64 : Nat) : Int) := ⟨68719476736, by decide⟩
  rw [← Int.emod_emod_of_dvd (x.bmod (2 ^ 64)) hd, h1, Int.emod_emod_of_dvd x hd]
/-- thirteen numbers as a row -/
def TL (t0 t1 t2 t3 t4 t5 t6 t7 t8 t9 t10 t11 t12 : Int64) (k : Nat) : Int64 := ([t0, t1, t2, t3, t4, t5, t6, t7, t8, t9, t10, t11, t12] : List Int64).getD k 0
/-- the sums of a product under way: i limbs of b are in -/
def MI (fa fq fb : Nat → Int64) (i : Nat) (T : Nat → Int64) : Prop :=
  (0 ≤ (T 0).toInt ∧ (T 0).toInt ≤ i * 144115188075855872 + 17179869184) ∧ (∀ k, 1 ≤ k → k < 13 → 0 ≤ (T k).toInt ∧ (T k).toInt ≤ i * 144115188075855872) ∧ ∃ M : Int, 0 ≤ M ∧ M < 268435456 ^ i ∧ 268435456 ^ i * VL T 13 = VL fa 14 * VL fb i + M * VL fq 14
theorem dg_mul {x y : Int64} (hx : dg x) (hy : dg y) : (x * y).toInt = x.toInt * y.toInt ∧ 0 ≤ x.toInt * y.toInt ∧ x.toInt * y.toInt ≤ 72057593501057025 := by
  have h0 := Int.mul_nonneg hx.1 hy.1
  have h1 : x.toInt * y.toInt ≤ 268435455 * 268435455 := Int.mul_le_mul (by have := hx.2; omega) (by have := hy.2; omega) hy.1 (by decide)
  have h2 : (268435455 : Int) * 268435455 = 72057593501057025 := by decide
  rw [h2] at h1
  exact ⟨i64_mul (by omega) (by omega), h0, h1⟩
/-- the new sum at k: two products come to the one above -/
theorem sum2 {t x a m q : Int64} {n : Nat} (hn : n < 14) (ht : 0 ≤ t.toInt ∧ t.toInt ≤ n * 144115188075855872) (hx : dg x) (ha : dg a) (hm : dg m) (hq : dg q) : (t + x * a + m * q).toInt = t.toInt + x.toInt * a.toInt + m.toInt * q.toInt ∧ 0 ≤ (t + x * a + m * q).toInt ∧ (t + x * a + m * q).toInt ≤ ((n + 1 : Nat) : Int) * 144115188075855872 := by
  have p1 := dg_mul hx ha
  have p2 := dg_mul hm hq
  have hb : (n : Int) * 144115188075855872 ≤ 13 * 144115188075855872 := Int.mul_le_mul_of_nonneg_right (by omega) (by decide)
  have e1 : (t + x * a).toInt = t.toInt + x.toInt * a.toInt := by rw [← p1.1]; exact i64_add (by rw [p1.1]; omega) (by rw [p1.1]; omega)
  have e2 : (t + x * a + m * q).toInt = t.toInt + x.toInt * a.toInt + m.toInt * q.toInt := by
    rw [← p2.1, ← e1]
    exact i64_add (by rw [e1, p2.1]; omega) (by rw [e1, p2.1]; omega)
  refine ⟨e2, ?_, ?_⟩
  · rw [e2]
    omega
  · rw [e2]
    have : ((n + 1 : Nat) : Int) * 144115188075855872 = (n : Int) * 144115188075855872 + 144115188075855872 := by omega
    omega
