/-! one bit put where there is none -/
theorem or_bit {x o : Nat} (h : x / 2 ^ o % 2 = 0) : x ||| 2 ^ o = x + 2 ^ o := by
  have e : x = (x / 2 ^ (o + 1)) <<< (o + 1) + x % 2 ^ o := by
    rw [Nat.shiftLeft_eq]
    have h1 := Nat.div_add_mod x (2 ^ (o + 1))
    rw [Nat.mod_pow_succ, h, Nat.mul_zero, Nat.add_zero, Nat.mul_comm] at h1
    exact h1.symm
  have hl : x % 2 ^ o < 2 ^ o := Nat.mod_lt _ (Nat.two_pow_pos o)
  obtain ⟨a, ha⟩ : ∃ a, a = x / 2 ^ (o + 1) := ⟨_, rfl⟩
  obtain ⟨b, hb⟩ : ∃ b, b = x % 2 ^ o := ⟨_, rfl⟩
  rw [← ha, ← hb] at e
  rw [← hb] at hl
  have h1 : (2 : Nat) ^ o = 1 <<< o := by rw [Nat.shiftLeft_eq, Nat.one_mul]
  have hb2 : b < 2 ^ (o + 1) := by rw [Nat.pow_succ]; omega
  have hb3 : 1 <<< o + b < 2 ^ (o + 1) := by rw [Nat.pow_succ, ← h1]; omega
  rw [e]
  calc (a <<< (o + 1) + b) ||| 2 ^ o = (a <<< (o + 1) ||| b) ||| 2 ^ o := by rw [Nat.shiftLeft_add_eq_or_of_lt hb2]
    _ = a <<< (o + 1) ||| (1 <<< o ||| b) := by rw [Nat.or_assoc, Nat.or_comm b (2 ^ o), h1]
    _ = a <<< (o + 1) ||| (1 <<< o + b) := by rw [Nat.shiftLeft_add_eq_or_of_lt hl]
    _ = a <<< (o + 1) + (1 <<< o + b) := by rw [Nat.shiftLeft_add_eq_or_of_lt hb3]
    _ = a <<< (o + 1) + b + 2 ^ o := by rw [h1]; omega
theorem or_b64 {x y : Int64} {o : Nat} (ho : o < 28) (hx : dg x) (hb : x.toInt / 2 ^ o % 2 = 0) (hy : y.toInt = ((1 * 2 ^ o : Nat) : Int)) : (x ||| y).toInt = x.toInt + y.toInt := by
  have ex := i64_nat hx.1
  have ey := i64_nat (x := y) (by rw [hy]; exact Int.natCast_nonneg _)
  have hyn : y.toBitVec.toNat = 2 ^ o := by
    have h9 := ey.symm.trans hy
    rw [Nat.one_mul] at h9
    exact Int.ofNat.inj h9
  have hbn : x.toBitVec.toNat / 2 ^ o % 2 = 0 := by
    rw [ex, show (2 : Int) ^ o = ((2 ^ o : Nat) : Int) from (Int.natCast_pow 2 o).symm, ← Int.natCast_ediv] at hb
    exact Int.ofNat.inj ((Int.natCast_emod _ 2).trans hb)
  have h3 : (x ||| y).toBitVec.toNat = x.toBitVec.toNat + 2 ^ o := by rw [Int64.toBitVec_or, BitVec.toNat_or, hyn, or_bit hbn]
  have hp := p2_27 ho
  have hx2 := hx.2
  rw [i64_ofnat (by rw [h3]; omega), h3, ex, ey, hyn]
  omega
theorem setb9 {fd1 : Nat → Int64} {a m : Nat} (hD : DD fd1) (ha : a < 170) (hm : m < 392) (hb : SV fd1 a 14 / 2 ^ m % 2 = 0) : SV (vp_updL fd1 (14 * a + m / 28) (fd1 (14 * a + m / 28) ||| ((1 : Int64) <<< ((nI (m - m / 28 * 28)).toInt64 &&& 63)))) a 14 = SV fd1 a 14 + 2 ^ m := by
  have eo : m - m / 28 * 28 = m % 28 := by omega
  rw [eo]
  have hq : m / 28 < 14 := by omega
  have ho : m % 28 < 28 := Nat.mod_lt _ (by decide)
  have h1 := VL_bit1 (f := fun k => fd1 (14 * a + k)) (fun k hk => hD _ (by omega)) hq ho
  rw [pw_at, show VL (fun k => fd1 (14 * a + k)) 14 = SV fd1 a 14 from rfl, hb] at h1
  have hy := sh_1 (m % 28) ho
  have hor := or_b64 ho (hD (14 * a + m / 28) (by omega)) h1.symm hy
  have hB : (2 : Int) ^ m = 2 ^ (m % 28) * 268435456 ^ (m / 28) := by rw [show (268435456 : Int) = 2 ^ 28 from rfl, ← Int.pow_mul, ← Int.pow_add, Nat.mod_add_div]
  rw [SV_upd hq, VL_upd hq]
  show SV fd1 a 14 + ((fd1 (14 * a + m / 28) ||| _).toInt - (fd1 (14 * a + m / 28)).toInt) * 268435456 ^ (m / 28) = _
  rw [hor, hy, Nat.one_mul, show ((2 ^ (m % 28) : Nat) : Int) = 2 ^ (m % 28) from Int.natCast_pow 2 _, hB]
  generalize (2 : Int) ^ (m % 28) = c
  generalize (fd1 (14 * a + m / 28)).toInt = x
  rw [show x + c - x = c by omega]
/-- below a byte that is set nothing is set but its own lower bits -/
theorem bz8 {kb i A w : Nat} (hi : i < 8) (hw : w < 2 ^ i) : (256 ^ kb * (A * 256 + w)) / 2 ^ (8 * kb + i) % 2 = 0 := by
  have e : (256 : Nat) ^ kb = 2 ^ (8 * kb) := by rw [show (256 : Nat) = 2 ^ 8 from rfl, ← Nat.pow_mul]
  rw [e, Nat.pow_add, Nat.mul_div_mul_left _ _ (Nat.two_pow_pos _)]
  have hi8 : i = 0 ∨ i = 1 ∨ i = 2 ∨ i = 3 ∨ i = 4 ∨ i = 5 ∨ i = 6 ∨ i = 7 := by omega
  rcases hi8 with rfl | rfl | rfl | rfl | rfl | rfl | rfl | rfl <;> omega
theorem bz9 {kb i A w : Nat} {S : Int} (hi : i < 8) (hw : w < 2 ^ i) (hS : S = ((256 ^ kb * (A * 256 + w) : Nat) : Int)) : S / 2 ^ (8 * kb + i) % 2 = 0 := by
  rw [hS, show (2 : Int) ^ (8 * kb + i) = ((2 ^ (8 * kb + i) : Nat) : Int) from (Int.natCast_pow 2 _).symm, ← Int.natCast_ediv]
  exact (Int.natCast_emod _ 2).symm.trans (congrArg Int.ofNat (bz8 hi hw))
theorem bs9 {kb i A v : Nat} (hb : v / 2 ^ i % 2 = 1) : ((256 ^ kb * (A * 256 + v % 2 ^ i) : Nat) : Int) + 2 ^ (8 * kb + i) = ((256 ^ kb * (A * 256 + v % 2 ^ (i + 1)) : Nat) : Int) := by
  have e : (256 : Nat) ^ kb = 2 ^ (8 * kb) := by rw [show (256 : Nat) = 2 ^ 8 from rfl, ← Nat.pow_mul]
  rw [show (2 : Int) ^ (8 * kb + i) = ((2 ^ (8 * kb + i) : Nat) : Int) from (Int.natCast_pow 2 _).symm, ← Int.natCast_add]
  congr 1
  rw [Nat.mod_pow_succ, hb, Nat.mul_one, Nat.pow_add, ← e, ← Nat.mul_add, Nat.add_assoc]
theorem BE_z {t : Nat → Nat} {fr n : Nat} : BE9 t fr n = 0 ↔ ∀ j, j < n → cb9 t fr j = 0 := by
  induction n with
  | zero => exact ⟨fun _ j hj => absurd hj (Nat.not_lt_zero _), fun _ => rfl⟩
  | succ n ih =>
    show BE9 t fr n * 256 + cb9 t fr n = 0 ↔ _
    constructor
    · intro h j hj
      by_cases e : j = n
      · subst e; omega
      · exact ih.mp (by omega) j (by omega)
    · intro h
      have h1 := ih.mpr (fun j hj => h j (by omega))
      have h2 := h n (by omega)
      omega
theorem cb_48 {t : Nat → Nat} {j : Nat} : cb9 t 48 j = t (48 + j) := by unfold cb9; rw [if_neg (by omega)]
theorem cb_00 {t : Nat → Nat} : cb9 t 0 0 = t 0 % 32 := by unfold cb9; rw [if_pos rfl]
theorem cb_0j {t : Nat → Nat} {j : Nat} (h : j ≠ 0) : cb9 t 0 j = t j := by unfold cb9; rw [if_neg (by omega), Nat.zero_add]
theorem bare_48 {t : Nat → Nat} : bare9 t 48 ↔ BE9 t 0 48 = 0 := by
  rw [BE_z]
  constructor
  · intro h j hj
    by_cases e : j = 0
    · subst e; rw [cb_00]; exact h.1
    · rw [cb_0j e]; exact h.2 j (by omega) hj
  · intro h
    refine ⟨?_, fun j h1 h2 => ?_⟩
    · rw [← cb_00]; exact h 0 (by decide)
    · rw [← cb_0j (t := t) (j := j) (by omega)]; exact h j h2
theorem bare_96 {t : Nat → Nat} : bare9 t 96 ↔ BE9 t 0 48 = 0 ∧ BE9 t 48 48 = 0 := by
  rw [← bare_48, BE_z]
  constructor
  · intro h
    refine ⟨⟨h.1, fun j h1 h2 => h.2 j h1 (by omega)⟩, fun j hj => ?_⟩
    rw [cb_48]; exact h.2 _ (by omega) (by omega)
  · intro h
    refine ⟨h.1.1, fun j h1 h2 => ?_⟩
    by_cases e : j < 48
    · exact h.1.2 j h1 e
    · have := h.2 (j - 48) (by omega)
      rw [cb_48, show 48 + (j - 48) = j by omega] at this
      exact this
theorem mq_small {fd : Nat → Int64} {s N : Nat} (h : NV fd s (N : Int)) (hN : ((N : Nat) : Int) < QJ) : MQ9 fd s (N : Int) := by
  show NV fd s ((N : Int) % QJ)
  rw [Int.emod_eq_of_lt (Int.natCast_nonneg _) hN]
  exact h
theorem ng_e (X : Int) : (0 - X) % QJ = ngQ (X % QJ) := by
  have r := qm_r X
  unfold ngQ
  have e1 : (0 - X) % QJ = (0 - X % QJ) % QJ := by rw [Int.sub_emod, Int.sub_emod 0 (X % QJ), Int.emod_emod_of_dvd _ (Int.dvd_refl _)]
  rw [e1]
  generalize X % QJ = y at *
  split
  · rw [show 0 - y + QJ = 0 - y + QJ from rfl, ← Int.add_emod_right]
    exact Int.emod_eq_of_lt (by omega) (by omega)
  · have : y = 0 := by omega
    subst this
    decide +kernel
theorem E9_e : (QJ + (1 : Int64).toInt) / 2 ^ 2 = ((E9Q : Nat) : Int) := by decide +kernel
theorem four_e : (4 : Int64).toInt = 4 := by decide
theorem vk_Q : VL (kP 0) 14 = QJ := kQ_rv.2
theorem rem48a : ∀ i, i < 48 → nI i - nI i / nI 48 * nI 48 = nI i := by decide +kernel
theorem rem48b : ∀ i, i < 96 → 48 ≤ i → nI i - nI i / nI 48 * nI 48 = nI (i - 48) := by decide +kernel
theorem s47 : ∀ i, i < 48 → nI 47 - nI i = nI (47 - i) := by decide +kernel
theorem VL_kR2 : VL (fun k => kPr (14 + k)) 14 = ((RN : Nat) : Int) := kR_rn.2
