theorem ds_w1 {b : Nat} : ∀ q, nJ b q → nD b q ∧ q ≠ b + 150 ∧ q ≠ b + 151 := fun q h => ⟨h.1, fun e => h.2.2 (by subst e; omega), fun e => h.2.2 (by subst e; omega)⟩
theorem nd_148 {b c : Nat} (h : c ≤ 500) : nD b (b + c) := ⟨Nat.le_add_right _ _, Nat.add_le_add_left h _⟩
theorem pa_150 {b k : Nat} (hk : k < 12) : kPA b k ≠ b + 150 ∧ kPA b k ≠ b + 151 := by unfold kPA; omega