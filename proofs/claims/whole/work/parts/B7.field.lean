/-! numbers modulo Q -/
def QJ : Int := 4002409555221667393417789825735904156556882819939007885332058136124031650490837864442687629129015664037894272559787
theorem QJ_N : QJ = (QN : Int) := by decide +kernel
theorem QJ_pos : 0 < QJ := by decide +kernel
theorem QJ_ne : QJ ≠ 0 := by decide +kernel
def cq (a b : Int) : Prop := a % QJ = b % QJ
def nq (a : Int) : Prop := a % QJ ≠ 0
theorem cq.rf (a : Int) : cq a a := rfl
theorem cq.sy {a b : Int} (h : cq a b) : cq b a := Eq.symm h
theorem cq.tr {a b c : Int} (h : cq a b) (h' : cq b c) : cq a c := Eq.trans h h'
theorem cq.mul {a b c d : Int} (h : cq a b) (h' : cq c d) : cq (a * c) (b * d) := by
  unfold cq at *
  rw [Int.mul_emod, h, h', ← Int.mul_emod]
theorem cq.add {a b c d : Int} (h : cq a b) (h' : cq c d) : cq (a + c) (b + d) := by
  unfold cq at *
  rw [Int.add_emod, h, h', ← Int.add_emod]
theorem cq.sub {a b c d : Int} (h : cq a b) (h' : cq c d) : cq (a - c) (b - d) := by
  unfold cq at *
  rw [Int.sub_emod, h, h', ← Int.sub_emod]
theorem cq.neg {a b : Int} (h : cq a b) : cq (-a) (-b) := by
  have h2 := (cq.rf 0).sub h
  rw [Int.zero_sub, Int.zero_sub] at h2
  exact h2
theorem q_z : (0 : Int) % QJ = 0 := by decide
theorem cq.of {a b : Int} (h : cq (a - b) 0) : cq a b := by
  have h2 := h.add (cq.rf b)
  rw [Int.sub_add_cancel, Int.zero_add] at h2
  exact h2
theorem cq.to {a b : Int} (h : cq a b) : cq (a - b) 0 := by
  have h2 := h.sub (cq.rf b)
  rw [Int.sub_self] at h2
  exact h2
theorem cq.z_l {a : Int} (b : Int) (h : cq a 0) : cq (a * b) 0 := by
  have h2 := h.mul (cq.rf b)
  rw [Int.zero_mul] at h2
  exact h2
theorem cq.z_r {a : Int} (b : Int) (h : cq a 0) : cq (b * a) 0 := by
  have h2 := (cq.rf b).mul h
  rw [Int.mul_zero] at h2
  exact h2
theorem cq.z_a {a b : Int} (h : cq a 0) (h' : cq b 0) : cq (a + b) 0 := h.add h'
theorem nq_of {a : Int} : nq a ↔ ¬ cq a 0 := by
  unfold nq cq
  rw [q_z]
theorem nq_cq {a b : Int} (h : cq a b) (n : nq b) : nq a := fun z => n (h.symm.trans z)
theorem q_mul0 {a b : Int} (h : cq (a * b) 0) : cq a 0 ∨ cq b 0 := by
  by_cases c : cq a 0
  · exact Or.inl c
  · refine Or.inr ?_
    have h1 : QJ ∣ a * b := Int.dvd_of_emod_eq_zero (h.trans q_z)
    have h2 : QN ∣ a.natAbs * b.natAbs := by
      rw [← Int.natAbs_mul]
      have := Int.natAbs_dvd_natAbs.mpr h1
      rw [QJ_N] at this
      exact this
    have h3 : ¬ QN ∣ a.natAbs := fun k => c (by
      have k2 : QJ ∣ a := by
        rw [QJ_N]
        exact Int.natAbs_dvd_natAbs.mp k
      exact (Int.emod_eq_zero_of_dvd k2).trans q_z.symm)
    have h4 := Nat.Coprime.dvd_of_dvd_mul_left (Nat.Coprime.symm (gN.cop h3)) h2
    have k2 : QJ ∣ b := by
      rw [QJ_N]
      exact Int.natAbs_dvd_natAbs.mp h4
    exact (Int.emod_eq_zero_of_dvd k2).trans q_z.symm
theorem nq.mul {a b : Int} (h : nq a) (h' : nq b) : nq (a * b) := by
  rw [nq_of] at *
  intro z
  rcases q_mul0 z with k | k
  · exact h k
  · exact h' k
theorem nq_l {a b : Int} (h : nq (a * b)) : nq a := by
  rw [nq_of] at *
  exact fun z => h (z.z_l b)
theorem nq_r {a b : Int} (h : nq (a * b)) : nq b := by
  rw [nq_of] at *
  exact fun z => h (z.z_r a)
theorem cq_can {k a b : Int} (hk : nq k) (h : cq (k * a) (k * b)) : cq a b := by
  have h1 := h.to
  rw [← Int.mul_sub] at h1
  rcases q_mul0 h1 with z | z
  · exact absurd z (nq_of.mp hk)
  · exact z.of
theorem QN2 : (QN - 2).succ = QN - 1 := by decide +kernel
theorem q_inv {a : Int} (h : nq a) : ∃ w, cq (w * a) 1 := by
  have h0 : 0 ≤ a % QJ := Int.emod_nonneg _ QJ_ne
  obtain ⟨x, hx⟩ := Int.eq_ofNat_of_zero_le h0
  have e0 : cq a (x : Int) := by
    unfold cq
    rw [← hx, Int.emod_emod_of_dvd _ (Int.dvd_refl _)]
  have e : x % QN ≠ 0 := fun q => h (by
    rw [show a % QJ = (x : Int) % QJ from e0, QJ_N, ← Int.natCast_emod, q]
    rfl)
  have f := gN.fermat e
  refine ⟨(x : Int) ^ (QN - 2), ?_⟩
  refine ((cq.rf _).mul e0).tr ?_
  unfold cq
  rw [← Int.pow_succ, QN2, QJ_N, ← Int.natCast_pow, ← Int.natCast_emod, f]
  decide +kernel
/-- minus 4 is no cube -/
theorem nc_3 : (QN - 4) ^ ((QN - 1) / 3) % QN ≠ 1 := by
  rw [← pw2_eq 381 (QN - 4) ((QN - 1) / 3) (by decide +kernel)]
  decide +kernel
theorem nc_m : 3 * ((QN - 1) / 3) = QN - 1 := by decide +kernel
theorem nc_n {t : Nat} (h : (t * t * t + 4) % QN = 0) : False := by
  have hz : t % QN ≠ 0 := by
    intro z
    have z2 : t % QN = 0 % QN := z.trans (Nat.zero_mod QN).symm
    have h1 : (t * t * t + 4) % QN = (0 * 0 * 0 + 4) % QN := md_add (md_mul (md_mul z2 z2) z2) rfl
    rw [h] at h1
    exact absurd h1 (by decide +kernel)
  have h1 : (t * t * t) % QN = (QN - 4) % QN := by
    have e := md_add (m := QN) (a := t * t * t + 4) (b := 0) (c := QN - 4) (d := QN - 4) h rfl
    rw [Nat.zero_add, show t * t * t + 4 + (QN - 4) = t * t * t + QN by
      have : 4 ≤ QN := by decide +kernel
      omega, Nat.add_mod_right] at e
    exact e
  have h2 := md_pow h1 ((QN - 1) / 3)
  rw [show t * t * t = t ^ 3 by rw [Nat.pow_succ, Nat.pow_succ, Nat.pow_succ, Nat.pow_zero, Nat.one_mul], ← Nat.pow_mul, nc_m, gN.fermat hz] at h2
  exact nc_3 h2.symm
theorem q_ncube {x y : Int} (h : cq (x * x * x + 4 * (y * y * y)) 0) : cq y 0 := by
  refine Classical.byContradiction (fun hy => ?_)
  obtain ⟨w, hw⟩ := q_inv (nq_of.mpr hy)
  have h1 : cq (w * w * w * (x * x * x + 4 * (y * y * y))) 0 := h.z_r _
  rw [show w * w * w * (x * x * x + 4 * (y * y * y)) = (w * x) * (w * x) * (w * x) + 4 * ((w * y) * (w * y) * (w * y)) by grind] at h1
  have h2 : cq (w * x * (w * x) * (w * x) + 4 * (1 * 1 * 1)) 0 := ((cq.rf _).add ((cq.rf 4).mul ((hw.mul hw).mul hw).sy)).tr h1
  have h0 : 0 ≤ (w * x) % QJ := Int.emod_nonneg _ QJ_ne
  obtain ⟨t, ht⟩ := Int.eq_ofNat_of_zero_le h0
  have e0 : cq (w * x) (t : Int) := by
    unfold cq
    rw [← ht, Int.emod_emod_of_dvd _ (Int.dvd_refl _)]
  have h3 : cq ((t : Int) * t * t + 4 * (1 * 1 * 1)) 0 := (((e0.mul e0).mul e0).sy.add (cq.rf _)).tr h2
  refine nc_n (t := t) ?_
  have h4 : ((t : Int) * t * t + 4 * (1 * 1 * 1)) % QJ = 0 := h3.trans q_z
  rw [QJ_N] at h4
  have h5 : (((t * t * t + 4) % QN : Nat) : Int) = ((0 : Nat) : Int) := by
    rw [Int.natCast_emod, Int.natCast_add, Int.natCast_mul, Int.natCast_mul]
    exact h4
  exact Int.ofNat.inj h5
