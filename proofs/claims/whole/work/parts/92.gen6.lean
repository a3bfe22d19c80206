theorem ne_464 {b : Nat} : b + 464 ≠ b + 463 := by omega
theorem ne_PA {b k : Nat} : kPA3 b k ≠ kPA2 b k := by unfold kPA3 kPA2; omega
theorem s_ge {v : Int64} (h : ¬ v < 0) : 0 ≤ lg_cmp v 0 := (lg_cmp_ge v 0).mpr (Int64.not_lt.mp h)