theorem NV.fr {fd fd' : Nat → Int64} {s : Nat} {x : Int} (h : NV fd s x) (ho : ∀ k, k < 14 → fd' (14 * s + k) = fd (14 * s + k)) : NV fd' s x := (VL_ext (fun k hk => ho k hk)).trans h
theorem nb_set {fd fd' : Nat → Int64} {B : Nat → Int} {r : Nat} {x : Int} (hB : ∀ k, k < 32 → NV fd k (B k) ∧ B k < RI) (ho : ∀ j, j < 448 → (j < 14 * r ∨ 14 * r + 14 ≤ j) → fd' j = fd j) (hn : NV fd' r x) (hx : x < RI) : ∀ k, k < 32 → NV fd' k (updI B r x k) ∧ updI B r x k < RI := by
  intro k hk
  unfold updI
  by_cases e : k = r
  · subst e
    rw [if_pos rfl]
    exact ⟨hn, hx⟩
  · rw [if_neg e]
    exact ⟨(hB k hk).1.fr (fun j hj => ho _ (by omega) (by omega)), (hB k hk).2⟩
theorem v_RI (v : Int64) : v.toInt < RI := by
  have h := Int64.toInt_lt v
  have h2 : (2 : Int) ^ 63 < RI := by decide +kernel
  omega
theorem v_nn {v : Int64} (h : ¬ v < 0) : 0 ≤ v.toInt := by
  rcases Int.lt_or_le v.toInt 0 with q | q
  · exact absurd (Int64.lt_iff_toInt_lt.mpr q) h
  · exact q
/-- what reckon makes of two numbers -/
def rkV (k : Nat) (x y : Int) : Int := if k = 0 then (x + y) % RI else if k = 1 then (x - y + RI) % RI else if k = 2 then (x * y) % RI else (x * (y ^ (RN - 2) % RI)) % RI
theorem wd_mod (q j : Nat) : q / 2 % 2 ^ j * 2 + q % 2 = q % 2 ^ (j + 1) := by
  rw [show 2 ^ (j + 1) = 2 * 2 ^ j by rw [Nat.pow_succ, Nat.mul_comm], Nat.mod_mul]
  omega
theorem wd_step {y : Int64} {E m j : Nat} (hj : j < 32) (hy : y.toInt = ((E / 2 ^ (m + 1) % 2 ^ j : Nat) : Int)) : (2 * y + (nI (E / 2 ^ m % 2)).toInt64).toInt = ((E / 2 ^ m % 2 ^ (j + 1) : Nat) : Int) := by
  have hb : E / 2 ^ (m + 1) % 2 ^ j < 2 ^ 31 := Nat.lt_of_lt_of_le (Nat.mod_lt _ (Nat.two_pow_pos _)) (Nat.pow_le_pow_right (by decide) (by omega))
  have h2 : E / 2 ^ m % 2 < 2 := Nat.mod_lt _ (by decide)
  have e1 : (nI (E / 2 ^ m % 2)).toInt64.toInt = ((E / 2 ^ m % 2 : Nat) : Int) := by rw [i2l_toInt, nI_toInt (by omega)]
  have t2 : (2 : Int64).toInt = 2 := by decide
  have e2 : (2 * y).toInt = 2 * y.toInt := by
    rw [i64_mul (by rw [t2]; omega) (by rw [t2]; omega), t2]
  rw [i64_add (by rw [e1, e2]; omega) (by rw [e1, e2]; omega), e1, e2, hy, ← wd_mod (E / 2 ^ m) j, show E / 2 ^ m / 2 = E / 2 ^ (m + 1) by rw [Nat.div_div_eq_div_mul, Nat.pow_succ]]
  omega
theorem hv_r {A : Nat → Int} {a : Nat} {Z : Int} (n : Nat) : ∀ v, v < RI → hvS A a Z n v < RI := by
  induction n with
  | zero => intro v h; exact h
  | succ n ih => intro v _; exact ih _ (rm_r _).2
theorem hv_ext {A A' : Nat → Int} {a : Nat} {Z : Int} (n : Nat) : ∀ v, (∀ k, k < n → A (a + k) = A' (a + k)) → hvS A a Z n v = hvS A' a Z n v := by
  induction n with
  | zero => intro v _; rfl
  | succ n ih =>
    intro v h
    show hvS A a Z n ((v * Z + A (a + n)) % RI) = hvS A' a Z n ((v * Z + A' (a + n)) % RI)
    rw [h n (Nat.lt_succ_self n)]
    exact ih _ (fun k hk => h k (by omega))
/-- the division, its first i coefficients done -/
def opB (B : Nat → Int) (a n : Nat) (Z : Int) (i j : Nat) : Int := if a ≤ j ∧ j < a + i then hvS B (j + 1) Z (a + n - 1 - j) 0 else B j
theorem op_nx {B : Nat → Int} {a n i : Nat} {Z : Int} (hi : i < n) (k : Nat) : updI (opB B a n Z i) (a + i) (hvS (opB B a n Z i) (a + i + 1) Z (n - 1 - i) 0) k = opB B a n Z (i + 1) k := by
  rw [hv_ext (A' := B) _ _ (fun k hk => by unfold opB; rw [if_neg (by omega)])]
  unfold updI opB
  by_cases e : k = a + i
  · subst e
    rw [if_pos rfl, if_pos (by omega), show a + n - 1 - (a + i) = n - 1 - i by omega]
  · rw [if_neg e]
    by_cases c : a ≤ k ∧ k < a + i
    · rw [if_pos c, if_pos (by omega)]
    · rw [if_neg c, if_neg (by omega)]
theorem p2_l : ∀ k, k ≤ 4 → ((1 : Int64) <<< ((nI k).toInt64 &&& 63)).toInt = (2 : Int) ^ k := by decide +kernel
theorem p2_r : ∀ k, k ≤ 4 → (2 : Int) ^ k < RI := by decide +kernel
theorem p2_n : ∀ k, k ≤ 4 → ((2 ^ k : Nat) : Int) = (2 : Int) ^ k := by decide +kernel
theorem RI_16 : (16 : Int) < RI := by decide +kernel
/-- what number answers of a tape and makes of the scalars -/
def NC (r : Int32) (t : Nat → Nat) (tn k1 : Nat) (B B' : Nat → Int) : Prop := (tn ≤ 32 ∧ ((r = 1 ∧ (tvN t tn : Int) < VL kR 14 ∧ B' = updI B k1 (tvN t tn : Int)) ∨ (r = 0 ∧ VL kR 14 ≤ (tvN t tn : Int) ∧ B' = B))) ∨ (32 < tn ∧ r = 0 ∧ B' = B)
theorem NC.eq {r r' : Int32} {t : Nat → Nat} {tn k1 : Nat} {B B1 B2 : Nat → Int} (h : NC r t tn k1 B B1) (h' : NC r' t tn k1 B B2) : r = r' ∧ B1 = B2 := by
  rcases h with ⟨h1, ⟨h2, h3, h4⟩ | ⟨h2, h3, h4⟩⟩ | ⟨h1, h2, h4⟩ <;> rcases h' with ⟨k1, ⟨k2, k3, k4⟩ | ⟨k2, k3, k4⟩⟩ | ⟨k1, k2, k4⟩ <;> first | omega | exact ⟨by rw [h2, k2], by rw [h4, k4]⟩
theorem kP1_R : VL (kP 1) 14 = RI := kR_rv.2
