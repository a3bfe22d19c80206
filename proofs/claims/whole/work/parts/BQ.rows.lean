theorem be_s {i B : Nat} (h : i < 48) : 256 ^ (48 - i) * B = 256 ^ (47 - i) * (B * 256) := by rw [show 48 - i = 47 - i + 1 by omega, Nat.pow_succ, Nat.mul_assoc, Nat.mul_comm 256 B]
theorem pow_mod9 (X : Int) (n : Nat) : (X % QJ) ^ n % QJ = X ^ n % QJ := by
  induction n with
  | zero => rw [Int.pow_zero, Int.pow_zero]
  | succ n ih => rw [Int.pow_succ, Int.pow_succ, Int.mul_emod, ih, Int.emod_emod_of_dvd _ (Int.dvd_refl _), ← Int.mul_emod]
theorem be_a {t : Nat → Nat} {fd : Nat → Int64} {s : Nat} (h : SV fd s 14 = ((256 ^ (48 - 48) * BE9 t 0 48 : Nat) : Int)) : NV fd s ((BE9 t 0 48 : Nat) : Int) := by
  rw [Nat.sub_self, Nat.pow_zero, Nat.one_mul] at h
  exact h
theorem be_b {t : Nat → Nat} {fd : Nat → Int64} {s : Nat} (h : SV fd s 14 = ((256 ^ (48 - 48) * BE9 t 48 48 : Nat) : Int)) : NV fd s ((BE9 t 48 48 : Nat) : Int) := by
  rw [Nat.sub_self, Nat.pow_zero, Nat.one_mul] at h
  exact h
theorem be_0 {t : Nat → Nat} {fd : Nat → Int64} {s : Nat} (h : SV fd s 14 = ((256 ^ 48 * BE9 t 48 0 : Nat) : Int)) : NV fd s ((0 : Nat) : Int) := by
  rw [show BE9 t 48 0 = 0 from rfl, Nat.mul_zero] at h
  exact h
theorem nv_z {fd : Nat → Int64} {s : Nat} (h : ∀ k, k < 14 → fd (14 * s + k) = 0) : NV fd s ((0 : Nat) : Int) := (VL_ext (fun k hk => h k hk)).trans VL_z14
theorem mq_1 {fd : Nat → Int64} {s : Nat} (h : ∀ k, k < 14 → fd (14 * s + k) = (if k = 0 then (1 : Int64) else 0)) : MQ9 fd s 1 := (VL_ext (h := fun k => if k = 0 then (1 : Int64) else 0) (fun k hk => h k hk)).trans (by decide +kernel)
theorem mq_4 {fd : Nat → Int64} {s : Nat} (h : NV fd s (4 : Int64).toInt) : MQ9 fd s 4 := by
  show NV fd s (4 % QJ)
  rw [show (4 : Int) % QJ = (4 : Int64).toInt by decide +kernel]
  exact h
theorem mq_p {fd : Nat → Int64} {s n : Nat} {X : Int} (h : NV fd s ((X % QJ) ^ n % QJ)) : MQ9 fd s (X ^ n) := by
  rw [pow_mod9] at h
  exact h
theorem mq_0 {fd : Nat → Int64} {s : Nat} (h : ∀ k, k < 14 → fd (14 * s + k) = 0) : MQ9 fd s 0 := (nv_z h).trans (by decide +kernel)
theorem MQ9.kp {fd fd' : Nat → Int64} {s : Nat} {X : Int} (h : MQ9 fd s X) (e : ∀ k, k < 14 → fd' (14 * s + k) = fd (14 * s + k)) : MQ9 fd' s X := (VL_ext (fun k hk => e k hk)).trans h
theorem mk48 {mk : Nat} (h : can9 mk 48) : mk = 4 ∨ mk = 5 ∨ mk = 6 := by
  rcases h with ⟨_, h⟩ | ⟨h, _⟩
  · exact h
  · exact absurd h (by decide)
theorem mk96 {mk : Nat} (h : can9 mk 96) : mk = 0 ∨ mk = 2 := by
  rcases h with ⟨h, _⟩ | ⟨_, h⟩
  · exact absurd h (by decide)
  · exact h
