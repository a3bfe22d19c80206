
/-! sums of limbs above, and what product needs -/
def TS (f : Nat → Int64) : Nat → Nat → Int
  | _, 0 => 0
  | j, m + 1 => (f j).toInt + TS f (j + 1) m
theorem TS_nonneg {f : Nat → Int64} {m j : Nat} (h : ∀ k, j ≤ k → k < j + m → 0 ≤ (f k).toInt) : 0 ≤ TS f j m := by
  induction m generalizing j with
  | zero => exact Int.le_refl _
  | succ m ih =>
    have h1 := h j (Nat.le_refl _) (by omega)
    have h2 := ih (j := j + 1) (fun k a b => h k (by omega) (by omega))
    unfold TS
    omega
theorem TS_le {f : Nat → Int64} {m j : Nat} (h : ∀ k, j ≤ k → k < j + m → (f k).toInt ≤ 268435456) : TS f j m ≤ (m : Int) * 268435456 := by
  induction m generalizing j with
  | zero => exact Int.le_refl _
  | succ m ih =>
    have h1 := h j (Nat.le_refl _) (by omega)
    have h2 := ih (j := j + 1) (fun k a b => h k (by omega) (by omega))
    unfold TS
    omega
theorem TS_zero {f : Nat → Int64} {m j : Nat} (h : ∀ k, j ≤ k → k < j + m → (f k).toInt = 0) : TS f j m = 0 := by
  induction m generalizing j with
  | zero => rfl
  | succ m ih =>
    have h1 := h j (Nat.le_refl _) (by omega)
    have h2 := ih (j := j + 1) (fun k a b => h k (by omega) (by omega))
    unfold TS
    omega
theorem TS_ext {f h : Nat → Int64} {m j : Nat} (e : ∀ k, j ≤ k → k < j + m → f k = h k) : TS f j m = TS h j m := by
  induction m generalizing j with
  | zero => rfl
  | succ m ih =>
    have h1 := e j (Nat.le_refl _) (by omega)
    have h2 := ih (j := j + 1) (fun k a b => e k (by omega) (by omega))
    unfold TS
    rw [h1, h2]
theorem VL_nonneg {f : Nat → Int64} {n : Nat} (h : ∀ k, k < n → 0 ≤ (f k).toInt) : 0 ≤ VL f n := by
  induction n with
  | zero => exact Int.le_refl _
  | succ n ih =>
    have h1 := ih (fun k hk => h k (by omega))
    have h2 := Int.mul_nonneg (h n (by omega)) (Int.le_of_lt (pw_pos n))
    unfold VL
    omega
theorem VL_addq {f f' h : Nat → Int64} {n : Nat} {q : Int} (e : ∀ k, k < n → (f' k).toInt = (f k).toInt + q * (h k).toInt) : VL f' n = VL f n + q * VL h n := by
  induction n with
  | zero => simp [VL]
  | succ n ih =>
    unfold VL
    rw [ih (fun k hk => e k (by omega)), e n (by omega)]
    generalize (268435456 : Int) ^ n = b at *
    grind
theorem VL_upd_lt {f : Nat → Int64} {j n : Nat} {x : Int64} (h : j < n) : VL (vp_updL f j x) n = VL f n + (x.toInt - (f j).toInt) * 268435456 ^ j := by
  induction n with
  | zero => omega
  | succ n ih =>
    unfold VL
    by_cases e : j = n
    · subst e
      rw [VL_upd_ge (Nat.le_refl _)]
      simp only [vp_updL, if_true]
      generalize (268435456 : Int) ^ j = b at *
      grind
    · rw [ih (by omega)]
      simp only [vp_updL, show n ≠ j by omega, if_false]
      omega
theorem VL_high {f : Nat → Int64} {n : Nat} (m : Nat) (hd : ∀ k, k < n + m → dg (f k)) (h : VL f (n + m) < 268435456 ^ n) : (∀ k, n ≤ k → k < n + m → (f k).toInt = 0) ∧ VL f n = VL f (n + m) := by
  induction m with
  | zero => exact ⟨fun k a b => absurd b (by omega), rfl⟩
  | succ m ih =>
    have h1 := VL_range (f := f) (n := n + m) (fun k hk => hd k (by omega))
    have h2 := hd (n + m) (by omega)
    have e0 : VL f (n + (m + 1)) = VL f (n + m) + (f (n + m)).toInt * 268435456 ^ (n + m) := rfl
    have hz : (f (n + m)).toInt = 0 := by
      by_cases c : 1 ≤ (f (n + m)).toInt
      · have h3 := Int.mul_le_mul_of_nonneg_right c (Int.le_of_lt (pw_pos (n + m)))
        have h4 : (268435456 : Int) ^ n * 1 ≤ 268435456 ^ n * 268435456 ^ m := Int.mul_le_mul_of_nonneg_left (by have := pw_pos m; omega) (Int.le_of_lt (pw_pos n))
        rw [← Int.pow_add] at h4
        omega
      · have := h2.1
        omega
    rw [hz, Int.zero_mul, Int.add_zero] at e0
    obtain ⟨i1, i2⟩ := ih (fun k hk => hd k (by omega)) (by omega)
    refine ⟨fun k a b => ?_, i2.trans e0.symm⟩
    by_cases c : k = n + m
    · rw [c]; exact hz
    · exact i1 k a (by omega)
theorem carry_bd {x c b y u : Int} (hx : 0 ≤ x ∧ x < b) (h : x + c * b = y) (hy : 0 ≤ y) (hu : y ≤ (1 + u) * (b - 1)) (h0 : 0 ≤ u) : 0 ≤ c ∧ c ≤ u := by
  have hb : 0 < b := by omega
  constructor
  · by_cases h2 : c ≤ -1
    · have := Int.mul_le_mul_of_nonneg_right h2 (Int.le_of_lt hb)
      have e : (-1 : Int) * b = -b := by omega
      rw [e] at this
      omega
    · omega
  · by_cases h2 : 1 + u ≤ c
    · have := Int.mul_le_mul_of_nonneg_right h2 (Int.le_of_lt hb)
      have e : (1 + u) * (b - 1) = (1 + u) * b - (1 + u) := by grind
      rw [e] at hu
      omega
    · omega
theorem dgm {x y : Int64} (h1 : dg x) (h2 : dg y) : 0 ≤ x.toInt * y.toInt ∧ x.toInt * y.toInt ≤ 72057594037927936 := by
  refine ⟨Int.mul_nonneg h1.1 h2.1, ?_⟩
  have e1 : x.toInt * y.toInt ≤ x.toInt * 268435456 := Int.mul_le_mul_of_nonneg_left (Int.le_of_lt h2.2) h1.1
  have := h1.2
  omega
theorem vdm {v x : Int64} (h1 : 0 ≤ v.toInt) (h2 : dg x) : 0 ≤ v.toInt * x.toInt ∧ v.toInt * x.toInt ≤ v.toInt * 268435456 := ⟨Int.mul_nonneg h1 h2.1, Int.mul_le_mul_of_nonneg_left (Int.le_of_lt h2.2) h1⟩
theorem mul_lt_pw {x y : Int} {n : Nat} (hx : 0 ≤ x ∧ x < 268435456 ^ n) (hy : 0 ≤ y ∧ y < 268435456 ^ n) : 0 ≤ x * y ∧ x * y < 268435456 ^ (2 * n) := by
  refine ⟨Int.mul_nonneg hx.1 hy.1, ?_⟩
  have e : (268435456 : Int) ^ (2 * n) = 268435456 ^ n * 268435456 ^ n := by rw [← Int.pow_add]; congr 1; omega
  rw [e]
  generalize (268435456 : Int) ^ n = b at *
  have e1 : x * y ≤ x * b := Int.mul_le_mul_of_nonneg_left (Int.le_of_lt hy.2) hx.1
  have e2 : x * b < b * b := Int.mul_lt_mul_of_pos_right hx.2 (by omega)
  omega
theorem vr_le {v A R b : Int} (h1 : 0 ≤ v) (h2 : 0 ≤ R ∧ R < b) (hA : A ≤ b - 1) : A + v * R ≤ (1 + v) * (b - 1) := by
  have e1 : v * R ≤ v * (b - 1) := Int.mul_le_mul_of_nonneg_left (by omega) h1
  have e2 : (1 + v) * (b - 1) = (b - 1) + v * (b - 1) := by grind
  omega
theorem vr_le2 {v A R b u : Int} (h1 : 0 ≤ v) (h2 : 0 ≤ R ∧ R < b) (hA : A ≤ (1 + u) * (b - 1)) : A + v * R ≤ (1 + (u + v)) * (b - 1) := by
  have e1 : v * R ≤ v * (b - 1) := Int.mul_le_mul_of_nonneg_left (by omega) h1
  have e2 : (1 + (u + v)) * (b - 1) = (1 + u) * (b - 1) + v * (b - 1) := by grind
  omega
theorem vr_lt {v A R b : Int} (h1 : 1 ≤ v) (h2 : 0 ≤ R ∧ R < b) : A + v * R < A + v * b := by
  have e1 : v * R ≤ v * (b - 1) := Int.mul_le_mul_of_nonneg_left (by omega) (by omega)
  have e2 : v * (b - 1) = v * b - v := by grind
  omega
