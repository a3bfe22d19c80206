/-! digits 0 or odd, -7 to 7, of a multiplier -/
def DSg (d : Nat → Int) : Nat → Int
  | 0 => 0
  | n + 1 => DSg d n + d n * 2 ^ n
theorem DSg_ext {d d' : Nat → Int} {n : Nat} (h : ∀ j, j < n → d j = d' j) : DSg d n = DSg d' n := by
  induction n with
  | zero => rfl
  | succ n ih =>
    unfold DSg
    rw [ih (fun j hj => h j (by omega)), h n (by omega)]
/-- up to i: the digits, a carry at e -/
def WN (s cnt i c e : Nat) (d : Nat → Int) : Prop := c ≤ 1 ∧ i ≤ e ∧ (c = 1 → e ≤ cnt) ∧ DSg d i + (c : Int) * 2 ^ e = ((s % 2 ^ e : Nat) : Int)
theorem wn_0 (s cnt : Nat) (d : Nat → Int) : WN s cnt 0 0 0 d := by
  refine ⟨by decide, Nat.le_refl _, fun h => absurd h (by decide), ?_⟩
  rw [Nat.pow_zero, Nat.mod_one]
  rfl
theorem wn_skip {s cnt i c e : Nat} {d : Nat → Int} (h : WN s cnt i c e d) (hi : i < e) (hd : d i = 0) : WN s cnt (i + 1) c e d := by
  refine ⟨h.1, hi, h.2.2.1, ?_⟩
  show DSg d i + d i * 2 ^ i + (c : Int) * 2 ^ e = _
  rw [hd, Int.zero_mul, Int.add_zero]
  exact h.2.2.2
theorem wn_even {s cnt i c : Nat} {d : Nat → Int} (h : WN s cnt i c i d) (hs : s < 2 ^ cnt) (hd : d i = 0) (hb : c = s / 2 ^ i % 2) : WN s cnt (i + 1) c (i + 1) d := by
  have hc : c = 1 → i + 1 ≤ cnt := by
    intro h1
    refine Classical.byContradiction (fun hn => ?_)
    have hle : 2 ^ cnt ≤ 2 ^ i := Nat.pow_le_pow_right (by decide) (by omega)
    rw [Nat.div_eq_of_lt (Nat.lt_of_lt_of_le hs hle)] at hb
    omega
  refine ⟨h.1, Nat.le_refl _, hc, ?_⟩
  show DSg d i + d i * 2 ^ i + (c : Int) * 2 ^ (i + 1) = _
  rw [hd, Int.zero_mul, Int.add_zero, Nat.mod_pow_succ, ← hb]
  have e := h.2.2.2
  rw [Int.natCast_add, Int.natCast_mul, Int.natCast_pow, ← e, Int.pow_succ]
  generalize (2 : Int) ^ i = b
  grind
theorem wn_odd {s cnt i c c' w : Nat} {d : Nat → Int} (h : WN s cnt i c i d) (hw : s % 2 ^ (i + 4) = s % 2 ^ i + w * 2 ^ i) (hc' : c' ≤ 1) (hcc : c' = 1 → i + 4 ≤ cnt) (hd : d i = (c : Int) + (w : Int) - 16 * (c' : Int)) : WN s cnt (i + 1) c' (i + 4) d := by
  refine ⟨hc', by omega, hcc, ?_⟩
  show DSg d i + d i * 2 ^ i + (c' : Int) * 2 ^ (i + 4) = _
  have e := h.2.2.2
  rw [hw, Int.natCast_add, Int.natCast_mul, Int.natCast_pow, ← e, hd, Int.pow_add]
  rw [show (2 : Int) ^ 4 = 16 by decide]
  generalize DSg d i = x
  rw [show ((2 : Nat) : Int) = 2 from rfl]
  generalize (2 : Int) ^ i = b
  grind
theorem wn_end {s cnt c e : Nat} {d : Nat → Int} (h : WN s cnt (cnt + 1) c e d) (hs : s < 2 ^ cnt) : DSg d (cnt + 1) = (s : Int) := by
  have hc : c = 0 := by
    have h1 := h.1
    have h2 := h.2.1
    have h3 := h.2.2.1
    omega
  have e9 := h.2.2.2
  have hle : 2 ^ cnt ≤ 2 ^ e := Nat.pow_le_pow_right (by decide) (by have := h.2.1; omega)
  rw [hc, Nat.mod_eq_of_lt (Nat.lt_of_lt_of_le hs hle)] at e9
  rw [← e9]
  show _ = _ + (0 : Int) * _
  rw [Int.zero_mul, Int.add_zero]
/-- the window of k bits -/
theorem wn_w {s cnt i : Nat} (hs : s < 2 ^ cnt) (hi : i ≤ cnt) : s % 2 ^ (i + 4) = s % 2 ^ i + (s / 2 ^ i % 2 ^ (min 4 (cnt - i))) * 2 ^ i := by
  have h1 : s % 2 ^ (i + 4) = s % 2 ^ i + 2 ^ i * (s / 2 ^ i % 2 ^ 4) := by
    rw [Nat.pow_add, Nat.mod_mul]
  by_cases c : 4 ≤ cnt - i
  · rw [Nat.min_eq_left c, h1, Nat.mul_comm]
  · rw [Nat.min_eq_right (by omega), h1, Nat.mul_comm]
    have h2 : s / 2 ^ i < 2 ^ (cnt - i) := by
      rw [Nat.div_lt_iff_lt_mul (Nat.two_pow_pos i), ← Nat.pow_add, Nat.sub_add_cancel hi]
      exact hs
    have h3 : 2 ^ (cnt - i) ≤ 2 ^ 4 := Nat.pow_le_pow_right (by decide) (by omega)
    rw [Nat.mod_eq_of_lt h2, Nat.mod_eq_of_lt (Nat.lt_of_lt_of_le h2 h3)]
/-- from the top: k digits of n -/
def TT (d : Nat → Int) (n : Nat) : Nat → Int
  | 0 => 0
  | k + 1 => 2 * TT d n k + d (n - 1 - k)
theorem TT_DS (d : Nat → Int) (n k : Nat) : k ≤ n → DSg d n = DSg d (n - k) + 2 ^ (n - k) * TT d n k := by
  induction k with
  | zero =>
    intro _
    show DSg d n = DSg d n + 2 ^ n * 0
    rw [Int.mul_zero, Int.add_zero]
  | succ k ih =>
    intro hk
    rw [ih (by omega)]
    obtain ⟨m, hm⟩ : ∃ m, n - k = m + 1 := ⟨n - k - 1, by omega⟩
    have e1 : n - (k + 1) = m := by omega
    have e2 : n - 1 - k = m := by omega
    rw [hm, e1]
    show DSg d m + d m * 2 ^ m + 2 ^ (m + 1) * TT d n k = DSg d m + 2 ^ m * (2 * TT d n k + d (n - 1 - k))
    rw [e2, Int.pow_succ]
    generalize (2 : Int) ^ m = b
    grind
theorem TT_all (d : Nat → Int) (n : Nat) : TT d n n = DSg d n := by
  have h := TT_DS d n n (Nat.le_refl n)
  rw [Nat.sub_self] at h
  rw [h]
  show _ = (0 : Int) + 2 ^ 0 * TT d n n
  rw [Int.pow_zero, Int.one_mul, Int.zero_add]
