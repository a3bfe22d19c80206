
def kP (w k : Nat) : Int64 := kPr (14 * w + k)
def PP (w n : Nat) : Int := VL (kP w) n
theorem kPr_dg : ∀ k, k < 28 → dg (kPr k) := by
  have h : ∀ k : Fin 28, 0 ≤ (kPr k.val).toInt ∧ (kPr k.val).toInt < 268435456 := by decide +kernel
  exact fun k hk => h ⟨k, hk⟩
theorem wh_kP {w n : Nat} (h : WH w n) : (∀ k, k < 14 → dg (kP w k)) ∧ 1 ≤ n ∧ n ≤ 14 ∧ w ≤ 1 ∧ PP w n ≤ ((kP w (n - 1)).toInt + 1) * 268435456 ^ (n - 1) ∧ 1 < PP w n ∧ ¬ (kP w (n - 1) + 1) = 0 ∧ (kP w (n - 1) + 1).toInt = (kP w (n - 1)).toInt + 1 := by
  rcases h with ⟨rfl, rfl⟩ | ⟨rfl, rfl⟩
  · exact ⟨fun k hk => kPr_dg _ (by omega), by decide, by decide, by decide, by decide +kernel, by decide +kernel, by decide +kernel, by decide +kernel⟩
  · exact ⟨fun k hk => kPr_dg _ (by omega), by decide, by decide, by decide, by decide +kernel, by decide +kernel, by decide +kernel, by decide +kernel⟩
theorem VL_lex {f h : Nat → Int64} {k n : Nat} (hk : k < n) (hf : ∀ j, j < n → dg (f j)) (hh : ∀ j, j < n → dg (h j)) (he : ∀ j, k < j → j < n → f j = h j) (hlt : (f k).toInt < (h k).toInt) : VL f n < VL h n := by
  induction n with
  | zero => omega
  | succ n ih =>
    by_cases e : k = n
    · subst e
      have h1 := VL_range (f := f) (n := k) (fun j hj => hf j (by omega))
      have h2 := VL_range (f := h) (n := k) (fun j hj => hh j (by omega))
      have hp := pw_pos k
      unfold VL
      have h3 : ((f k).toInt + 1) * 268435456 ^ k ≤ (h k).toInt * 268435456 ^ k := Int.mul_le_mul_of_nonneg_right (by omega) (Int.le_of_lt hp)
      rw [Int.add_mul, Int.one_mul] at h3
      generalize (f k).toInt * 268435456 ^ k = u at *
      generalize (h k).toInt * 268435456 ^ k = v at *
      omega
    · have h1 := ih (by omega) (fun j hj => hf j (by omega)) (fun j hj => hh j (by omega)) (fun j a b => he j a (by omega))
      unfold VL
      rw [he n (by omega) (by omega)]
      omega
theorem i64_eq_of {x y : Int64} (h : x.toInt = y.toInt) : x = y := Int64.toInt_inj.mp h
/-- x, y digits' numbers below b: a carry between them is 0 -/
theorem carry0 {x y c b : Int} (hb : 0 < b) (hx : 0 ≤ x ∧ x < b) (hy : 0 ≤ y ∧ y < b) (h : x + c * b = y) : c = 0 ∧ x = y := by
  have hc : c = 0 := by
    by_cases h1 : 1 ≤ c
    · have := Int.mul_le_mul_of_nonneg_right h1 (Int.le_of_lt hb)
      rw [Int.one_mul] at this
      omega
    · by_cases h2 : c ≤ -1
      · have := Int.mul_le_mul_of_nonneg_right h2 (Int.le_of_lt hb)
        have e : (-1 : Int) * b = -b := by omega
        rw [e] at this
        omega
      · omega
  subst hc
  exact ⟨rfl, by omega⟩
theorem VL_subq {f f' h : Nat → Int64} {n : Nat} {q : Int} (e : ∀ k, k < n → (f' k).toInt = (f k).toInt - q * (h k).toInt) : VL f' n = VL f n - q * VL h n := by
  induction n with
  | zero => simp [VL]
  | succ n ih =>
    unfold VL
    rw [ih (fun k hk => e k (by omega)), e n (by omega)]
    generalize (268435456 : Int) ^ n = b at *
    grind
theorem i64_div {x y : Int64} (hx : 0 ≤ x.toInt) (hy : 0 < y.toInt) : (x / y).toInt = x.toInt / y.toInt := by
  have h1 : y ≠ -1 := fun e => by rw [e] at hy; exact absurd hy (by decide)
  have h2 : (x / y).toInt = x.toInt.tdiv y.toInt := by
    rw [Int64.toInt_div]
    have h3 : x.toInt.tdiv y.toInt = x.toInt / y.toInt := Int.tdiv_eq_ediv_of_nonneg hx
    have h4 : 0 ≤ x.toInt / y.toInt := Int.ediv_nonneg hx (Int.le_of_lt hy)
    have h5 : x.toInt / y.toInt ≤ x.toInt := Int.ediv_le_self _ hx
    have h6 : x.toInt < 9223372036854775808 := by have := Int64.toInt_lt x; omega
    rw [h3]
    exact Int.bmod_eq_of_le (by omega) (by omega)
  rw [h2]
  exact Int.tdiv_eq_ediv_of_nonneg hx
/-- what settles takes away is not more than there is -/
theorem settle_le {f : Nat → Int64} {w n : Nat} (hw : WH w n) (hd : ∀ k, k < n → dg (f k)) {q : Int} (hq : 0 ≤ q) (hq2 : q * ((kP w (n - 1)).toInt + 1) ≤ (f (n - 1)).toInt) : q * PP w n ≤ VL f n := by
  obtain ⟨-, h1, h2, -, h3, -⟩ := wh_kP hw
  obtain ⟨m, rfl⟩ : ∃ m, n = m + 1 := ⟨n - 1, by omega⟩
  simp only [Nat.add_sub_cancel] at *
  have hp := pw_pos m
  have e1 : q * PP w (m + 1) ≤ q * (((kP w m).toInt + 1) * 268435456 ^ m) := Int.mul_le_mul_of_nonneg_left h3 hq
  have e2 : q * ((kP w m).toInt + 1) * 268435456 ^ m ≤ (f m).toInt * 268435456 ^ m := Int.mul_le_mul_of_nonneg_right hq2 (Int.le_of_lt hp)
  have e3 := (VL_range (f := f) (n := m) (fun k hk => hd k (by omega))).1
  have e4 : VL f (m + 1) = VL f m + (f m).toInt * 268435456 ^ m := rfl
  rw [Int.mul_assoc] at e2
  omega
