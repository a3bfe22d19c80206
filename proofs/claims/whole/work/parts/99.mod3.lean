theorem out_k {kv : Int32} {wn : Nat} (hw : wn ≤ 96) (h : (0 : Int64).toInt ≤ kv.toInt64.toInt ∧ kv.toInt64.toInt ≤ (nI wn - nI 1).toInt64.toInt) : ∃ k, kv = nI k ∧ k < wn := by
  rw [i2l_toInt, i2l_toInt] at h
  have h0 : (0 : Int64).toInt = 0 := by decide
  rw [h0] at h
  have h1 : ¬ kv < 0 := fun q => by
    have := Int32.lt_iff_toInt_lt.mp q
    rw [show (0 : Int32).toInt = 0 by decide] at this
    omega
  obtain ⟨k, hk, rfl⟩ := nI_of h1
  refine ⟨k, rfl, ?_⟩
  rcases Nat.eq_zero_or_pos wn with h2 | h2
  · subst h2
    rw [show (nI 0 - nI 1).toInt = -1 by decide] at h
    omega
  · rw [pk_sub h2, nI_toInt hk, nI_toInt (show wn - Nat.succ 0 < 2 ^ 31 by omega)] at h
    omega