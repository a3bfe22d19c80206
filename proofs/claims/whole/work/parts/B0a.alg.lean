/-! the algebra modulo R between the class and the reference -/
theorem one_m : (1 : Int) % RI = 1 := by decide +kernel
theorem cg_m (a : Int) : (a % RI) % RI = a % RI := Int.emod_emod_of_dvd _ (Int.dvd_refl _)
theorem cg_mul {a b c d : Int} (h : a % RI = b % RI) (h' : c % RI = d % RI) : (a * c) % RI = (b * d) % RI := by rw [Int.mul_emod, h, h', ← Int.mul_emod]
theorem cg_add {a b c d : Int} (h : a % RI = b % RI) (h' : c % RI = d % RI) : (a + c) % RI = (b + d) % RI := by rw [Int.add_emod, h, h', ← Int.add_emod]
theorem cg_sub {a b c d : Int} (h : a % RI = b % RI) (h' : c % RI = d % RI) : (a - c) % RI = (b - d) % RI := by rw [Int.sub_emod, h, h', ← Int.sub_emod]
theorem cg_pow {a b : Int} (h : a % RI = b % RI) (n : Nat) : (a ^ n) % RI = (b ^ n) % RI := by
  induction n with
  | zero => rw [Int.pow_zero, Int.pow_zero]
  | succ n ih =>
    rw [Int.pow_succ, Int.pow_succ]
    exact cg_mul ih h
theorem al_mpw (a b : Int) (n : Nat) : (a * b) ^ n = a ^ n * b ^ n := by
  induction n with
  | zero => rw [Int.pow_zero, Int.pow_zero, Int.pow_zero, Int.mul_one]
  | succ n ih =>
    rw [Int.pow_succ, Int.pow_succ, Int.pow_succ, ih]
    generalize a ^ n = x
    generalize b ^ n = y
    grind
theorem al_onep (n : Nat) : (1 : Int) ^ n = 1 := by
  induction n with
  | zero => rfl
  | succ n ih => rw [Int.pow_succ, ih, Int.mul_one]
theorem cg_one {a : Int} (h : a % RI = 1) (n : Nat) : (a ^ n) % RI = 1 := by
  have h2 := cg_pow (h.trans one_m.symm) n
  rw [al_onep, one_m] at h2
  exact h2
theorem cg_inv {x y z : Int} (hx : (x * z) % RI = 1) (hy : (y * z) % RI = 1) : x % RI = y % RI := by
  have h1 : (x * (y * z)) % RI = (x * 1) % RI := cg_mul rfl (hy.trans one_m.symm)
  have h2 : (y * (x * z)) % RI = (y * 1) % RI := cg_mul rfl (hx.trans one_m.symm)
  rw [Int.mul_one] at h1 h2
  rw [← h1, ← h2, Int.mul_left_comm]
theorem al_RN2 : (RN - 2).succ = RN - 1 := by decide +kernel
theorem fmI {X : Int} (h0 : 0 ≤ X) (h : X % RI ≠ 0) : (X ^ (RN - 2) * X) % RI = 1 := by
  obtain ⟨x, rfl⟩ := Int.eq_ofNat_of_zero_le h0
  have e : x % RN ≠ 0 := fun q => h (by rw [RI_N, ← Int.natCast_emod, q]; rfl)
  have f := fermatR e
  rw [← Int.pow_succ, al_RN2, RI_N, ← Int.natCast_pow, ← Int.natCast_emod, f]
  rfl
theorem fmI2 {X : Int} (h0 : 0 ≤ X) (h : X % RI ≠ 0) : (X ^ (RN - 2) % RI * X) % RI = 1 := by
  exact (cg_mul (cg_m _) rfl).trans (fmI h0 h)
/-- a root of unity -/
def uW (k : Nat) : Int := 7 ^ eU k
theorem al_eU : ∀ k, k < 5 → eU k * 2 ^ k = RN - 1 := by decide +kernel
theorem al_g : ((7 : Int) ^ (RN - 1)) % RI = 1 := by
  rw [RI_N, show (7 : Int) = ((7 : Nat) : Int) from rfl, ← Int.natCast_pow, ← Int.natCast_emod, fm_g]
  rfl
theorem uW_n {k : Nat} (hk : k < 5) : (uW k ^ (2 ^ k)) % RI = 1 := by
  unfold uW
  rw [← Int.pow_mul, al_eU k hk]
  exact al_g
theorem uW_nn (k : Nat) : 0 ≤ uW k := Int.le_of_lt (Int.pow_pos (by decide))
theorem al_p2 (k : Nat) : 1 ≤ 2 ^ k := Nat.one_le_two_pow
theorem al_zp {n : Nat} (h : 1 ≤ n) : (0 : Int) ^ n = 0 := by
  obtain ⟨m, rfl⟩ : ∃ m, n = m + 1 := ⟨n - 1, by omega⟩
  rw [Int.pow_succ, Int.mul_zero]
theorem uW_nz {k : Nat} (hk : k < 5) : uW k % RI ≠ 0 := by
  intro h
  have h1 := cg_pow (b := 0) (h.trans (by decide)) (2 ^ k)
  rw [uW_n hk, al_zp (al_p2 k)] at h1
  exact absurd h1 (by decide)
/-- what divides by 2^k -/
theorem al_sh : ∀ k, k < 5 → ((0 - (eU k : Int)) * (2 ^ k)) % RI = 1 := by decide +kernel
theorem al_2nz : ∀ k, k < 5 → ((2 : Int) ^ k) % RI ≠ 0 := by decide +kernel
theorem al_share {k : Nat} (hk : k < 5) : (0 - (eU k : Int)) % RI = (((2 : Int) ^ k) ^ (RN - 2)) % RI := cg_inv (al_sh k hk) (fmI (Int.le_of_lt (p2_pos k)) (al_2nz k hk))
/-! values at a point -/
theorem hv_cg {A : Nat → Int} {a : Nat} {Z Z' : Int} (h : Z % RI = Z' % RI) (n : Nat) : ∀ v, hvS A a Z n v = hvS A a Z' n v := by
  induction n with
  | zero => intro v; rfl
  | succ n ih =>
    intro v
    show hvS A a Z n ((v * Z + A (a + n)) % RI) = hvS A a Z' n ((v * Z' + A (a + n)) % RI)
    rw [ih, cg_add (cg_mul (rfl : v % RI = v % RI) h) (rfl : A (a + n) % RI = A (a + n) % RI)]
theorem hv_low {A : Nat → Int} {a : Nat} {Z : Int} (m : Nat) : ∀ v, hvS A a Z (m + 1) v = (hvS A (a + 1) Z m v * Z + A a) % RI := by
  induction m with
  | zero => intro v; rfl
  | succ m ih =>
    intro v
    show hvS A a Z (m + 1) ((v * Z + A (a + (m + 1))) % RI) = (hvS A (a + 1) Z m ((v * Z + A (a + 1 + m)) % RI) * Z + A a) % RI
    rw [ih, show a + (m + 1) = a + 1 + m by omega]
theorem dv_gen {A : Nat → Int} {a n : Nat} {Z : Int} (k : Nat) : ∀ (A1 : Nat → Int) (v : Int), k ≤ n → (∀ j, A1 j = if a + k ≤ j ∧ j < a + n then hvS A (j + 1) Z (a + n - 1 - j) 0 else A j) → v = hvS A (a + k) Z (n - k) 0 → (∀ j, (dvS a Z k (A1, v)).1 j = if a ≤ j ∧ j < a + n then hvS A (j + 1) Z (a + n - 1 - j) 0 else A j) ∧ (dvS a Z k (A1, v)).2 = hvS A a Z n 0 := by
  induction k with
  | zero =>
    intro A1 v _ h hv
    exact ⟨h, hv⟩
  | succ k ih =>
    intro A1 v hk h hv
    show (∀ j, (dvS a Z k (updI A1 (a + k) v, (v * Z + A1 (a + k)) % RI)).1 j = _) ∧ (dvS a Z k (updI A1 (a + k) v, (v * Z + A1 (a + k)) % RI)).2 = _
    refine ih _ _ (by omega) (fun j => ?_) ?_
    · unfold updI
      by_cases e : j = a + k
      · rw [if_pos e, if_pos (by omega), hv, e, show a + (k + 1) = a + k + 1 by omega, show a + n - 1 - (a + k) = n - (k + 1) by omega]
      · rw [if_neg e, h j]
        by_cases c : a + (k + 1) ≤ j ∧ j < a + n
        · rw [if_pos c, if_pos (by omega)]
        · rw [if_neg c, if_neg (by omega)]
    · rw [h (a + k), if_neg (by omega), hv, show n - k = (n - (k + 1)) + 1 by omega, hv_low, show a + (k + 1) = a + k + 1 by omega]
/-- the division, coefficient by coefficient -/
def dvA (A : Nat → Int) (a n : Nat) (Z : Int) (j : Nat) : Int := if a ≤ j ∧ j < a + n then hvS A (j + 1) Z (a + n - 1 - j) 0 else A j
theorem dv_all {A : Nat → Int} {a n : Nat} {Z : Int} : (∀ j, (dvS a Z n (A, 0)).1 j = dvA A a n Z j) ∧ (dvS a Z n (A, 0)).2 = hvS A a Z n 0 :=
  dv_gen n A 0 (Nat.le_refl _) (fun j => by rw [if_neg (by omega)]) (by rw [Nat.sub_self]; rfl)
/-! the transform -/
theorem al_fw {k i : Nat} : ((uW k % RI) ^ i % RI) % RI = (uW k ^ i) % RI := by
  rw [cg_m]
  exact cg_pow (cg_m _) i
theorem al_bk {k i : Nat} (hk : k < 5) (hi : i < 2 ^ k) : (((uW k % RI) ^ (RN - 2) % RI) ^ i % RI) % RI = (uW k ^ ((2 ^ k - i) % 2 ^ k)) % RI := by
  rw [cg_m]
  refine cg_inv (z := uW k ^ i) ?_ ?_
  · rw [← al_mpw]
    refine cg_one ?_ i
    have h := fmI2 (X := uW k % RI) (rm_r _).1 (by rw [cg_m]; exact uW_nz hk)
    exact (cg_mul rfl (cg_m _).symm).trans h
  · by_cases e : i = 0
    · subst e
      rw [Nat.sub_zero, Nat.mod_self, Int.pow_zero, Int.mul_one]
      exact one_m
    · rw [Nat.mod_eq_of_lt (by omega), ← Int.pow_add, show 2 ^ k - i + i = 2 ^ k by omega]
      exact uW_n hk
/-! the basis -/
theorem ge_tel {u : Int} (n : Nat) : ∀ v, ((u - 1) * geS u n v) % RI = ((u - 1) * v * u ^ n + u ^ n - 1) % RI := by
  induction n with
  | zero =>
    intro v
    show ((u - 1) * v) % RI = _
    rw [Int.pow_zero, Int.mul_one]
    congr 1
    omega
  | succ n ih =>
    intro v
    show ((u - 1) * geS u n ((v * u + 1) % RI)) % RI = _
    rw [ih]
    have h1 : ((u - 1) * ((v * u + 1) % RI) * u ^ n + u ^ n - 1) % RI = ((u - 1) * (v * u + 1) * u ^ n + u ^ n - 1) % RI := cg_sub (cg_add (cg_mul (cg_mul rfl (cg_m _)) rfl) rfl) rfl
    rw [h1, Int.pow_succ]
    congr 1
    generalize u ^ n = x
    grind
theorem ge_one {u : Int} (hu : u % RI = 1) (n : Nat) : ∀ v, geS u n v % RI = (v + n) % RI := by
  induction n with
  | zero =>
    intro v
    show v % RI = (v + ((0 : Nat) : Int)) % RI
    congr 1
    omega
  | succ n ih =>
    intro v
    show geS u n ((v * u + 1) % RI) % RI = _
    rw [ih]
    have h1 : ((v * u + 1) % RI + (n : Int)) % RI = (v * 1 + 1 + (n : Int)) % RI := cg_add ((cg_m _).trans (cg_add (cg_mul rfl (hu.trans one_m.symm)) rfl)) rfl
    rw [h1, Int.mul_one]
    congr 1
    omega
theorem lg_qu {k i : Nat} (hk : k < 5) (hi : i < 2 ^ k) : (uW k ^ (2 ^ k - i) * uW k ^ i) % RI = 1 := by
  rw [← Int.pow_add, show 2 ^ k - i + i = 2 ^ k by omega]
  exact uW_n hk
theorem al_cast (k : Nat) : (((2 ^ k : Nat) : Nat) : Int) = (2 : Int) ^ k := cast_p2 k
theorem lg_one {k i : Nat} {Z : Int} (hk : k < 5) (hi : i < 2 ^ k) (hZ : (uW k ^ i) % RI = Z) : (geS (Z * uW k ^ (2 ^ k - i)) (2 ^ k) 0 * (0 - (eU k : Int))) % RI = 1 := by
  have hu : (Z * uW k ^ (2 ^ k - i)) % RI = 1 := by
    rw [← hZ, Int.mul_comm]
    exact (cg_mul rfl (cg_m _)).trans (lg_qu hk hi)
  have h2 : (geS (Z * uW k ^ (2 ^ k - i)) (2 ^ k) 0) % RI = ((2 : Int) ^ k) % RI := by rw [ge_one hu, al_cast, Int.zero_add]
  have h3 := cg_mul h2 (rfl : (0 - (eU k : Int)) % RI = (0 - (eU k : Int)) % RI)
  rw [Int.mul_comm (2 ^ k) (0 - (eU k : Int)), al_sh k hk] at h3
  exact h3
theorem lg_sum {k i : Nat} {Z : Int} (hk : k < 5) (hi : i < 2 ^ k) : (geS (Z * uW k ^ (2 ^ k - i)) (2 ^ k) 0 * (Z - uW k ^ i)) % RI = ((Z ^ (2 ^ k) - 1) * uW k ^ i) % RI := by
  have ht := ge_tel (u := Z * uW k ^ (2 ^ k - i)) (2 ^ k) 0
  have hq := lg_qu hk hi
  have hn : (uW k ^ (2 ^ k - i)) ^ (2 ^ k) % RI = 1 := by
    rw [← Int.pow_mul, Nat.mul_comm, Int.pow_mul]
    exact cg_one (uW_n hk) _
  have hun : ((Z * uW k ^ (2 ^ k - i)) ^ (2 ^ k)) % RI = (Z ^ (2 ^ k)) % RI := by
    rw [al_mpw]
    have h := cg_mul (rfl : Z ^ (2 ^ k) % RI = Z ^ (2 ^ k) % RI) (hn.trans one_m.symm)
    rw [Int.mul_one] at h
    exact h
  generalize geS (Z * uW k ^ (2 ^ k - i)) (2 ^ k) 0 = S at *
  rw [Int.mul_zero, Int.zero_mul, Int.zero_add] at ht
  generalize (Z * uW k ^ (2 ^ k - i)) ^ (2 ^ k) = un at *
  generalize uW k ^ (2 ^ k - i) = p at *
  generalize uW k ^ i = q at *
  generalize Z ^ (2 ^ k) = zn at *
  have h1 : ((Z * p - 1) * S * q) % RI = ((zn - 1) * q) % RI := cg_mul (ht.trans (cg_sub hun rfl)) rfl
  rw [← h1, show (Z * p - 1) * S * q = S * (Z * (p * q) - q) by grind]
  refine cg_mul rfl (cg_sub ?_ rfl)
  have h2 := cg_mul (rfl : Z % RI = Z % RI) (hq.trans one_m.symm)
  rw [Int.mul_one] at h2
  exact h2.symm
theorem lg_fin {S s n D X V N P zp : Int} (h1 : (S * zp) % RI = (N * P) % RI) (hs : (s * n) % RI = 1) (hD : D % RI = (zp * n) % RI) (hX : (X * D) % RI = 1) (hV : V % RI = N % RI) : (S * s) % RI = ((V * P) % RI * X) % RI := by
  have e1 : ((V * P) % RI * X) % RI = (S * zp * X) % RI := cg_mul ((cg_m _).trans ((cg_mul hV rfl).trans h1.symm)) rfl
  have e2 : (S * s * 1) % RI = (S * s * (X * (zp * n))) % RI := cg_mul rfl ((one_m.trans hX.symm).trans (cg_mul rfl hD))
  have e3 : (S * zp * X * (s * n)) % RI = (S * zp * X * 1) % RI := cg_mul rfl (hs.trans one_m.symm)
  rw [Int.mul_one] at e2 e3
  rw [e1, e2, ← e3]
  congr 1
  grind
theorem lg_gen {k i : Nat} {Z : Int} (hk : k < 5) (hi : i < 2 ^ k) (hZ0 : 0 ≤ Z) (hZ1 : Z < RI) (hne : (uW k ^ i) % RI ≠ Z) : (geS (Z * uW k ^ (2 ^ k - i)) (2 ^ k) 0 * (0 - (eU k : Int))) % RI = ((((Z ^ (2 ^ k) % RI - 1 + RI) % RI * ((uW k ^ i) % RI)) % RI) * ((((Z - (uW k ^ i) % RI + RI) % RI * 2 ^ k) % RI) ^ (RN - 2) % RI)) % RI := by
  have hP := rm_r (uW k ^ i)
  have hsum : (geS (Z * uW k ^ (2 ^ k - i)) (2 ^ k) 0 * (Z - (uW k ^ i) % RI)) % RI = ((Z ^ (2 ^ k) - 1) * ((uW k ^ i) % RI)) % RI := by
    have h := lg_sum (Z := Z) hk hi
    have e1 : (geS (Z * uW k ^ (2 ^ k - i)) (2 ^ k) 0 * (Z - (uW k ^ i) % RI)) % RI = (geS (Z * uW k ^ (2 ^ k - i)) (2 ^ k) 0 * (Z - uW k ^ i)) % RI := cg_mul rfl (cg_sub rfl (cg_m _))
    rw [e1, h]
    exact cg_mul rfl (cg_m _).symm
  have hs := al_sh k hk
  generalize uW k ^ i % RI = P at *
  generalize geS (Z * uW k ^ (2 ^ k - i)) (2 ^ k) 0 = S at *
  have hzp : ((Z - P + RI) % RI) % RI = (Z - P) % RI := by rw [cg_m, Int.add_emod_right]
  have hD : (((Z - P + RI) % RI * 2 ^ k) % RI) % RI = ((Z - P) * 2 ^ k) % RI := by
    rw [cg_m]
    exact cg_mul hzp rfl
  have hDn : (((Z - P + RI) % RI * 2 ^ k) % RI) % RI ≠ 0 := by
    intro h
    rw [hD] at h
    have h2 : ((Z - P) * 2 ^ k * (0 - (eU k : Int))) % RI = (0 * (0 - (eU k : Int))) % RI := cg_mul (h.trans (by decide)) rfl
    rw [Int.zero_mul] at h2
    have h3 : ((Z - P) * ((0 - (eU k : Int)) * 2 ^ k)) % RI = ((Z - P) * 1) % RI := cg_mul rfl (hs.trans one_m.symm)
    rw [Int.mul_one, show (Z - P) * ((0 - (eU k : Int)) * 2 ^ k) = (Z - P) * 2 ^ k * (0 - (eU k : Int)) by generalize (0 - (eU k : Int)) = s; generalize (2 : Int) ^ k = n; grind, h2] at h3
    have h4 := Int.dvd_of_emod_eq_zero (h3.symm.trans (by decide))
    obtain ⟨c, hc⟩ := h4
    have hr := RI_pos
    have hc0 : c = 0 := by
      rcases Int.lt_trichotomy c 0 with q | q | q
      · have := Int.mul_le_mul_of_nonneg_left (show c ≤ -1 by omega) (Int.le_of_lt hr)
        rw [Int.mul_neg, Int.mul_one] at this
        omega
      · exact q
      · have := Int.mul_le_mul_of_nonneg_left (show 1 ≤ c by omega) (Int.le_of_lt hr)
        rw [Int.mul_one] at this
        omega
    rw [hc0, Int.mul_zero] at hc
    exact hne (by omega)
  have hX := fmI2 (rm_r ((Z - P + RI) % RI * 2 ^ k)).1 hDn
  exact lg_fin hsum hs hD hX (by rw [cg_m, Int.add_emod_right]; exact cg_sub (cg_m _) rfl)
