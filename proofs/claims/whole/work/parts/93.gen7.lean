theorem tr_ok {a k : Nat} (hk5 : k < 5) (ha : a + 2 ^ k ≤ 32) : okS (nI a) (nI 1 <<< (nI k &&& 31)) := by rw [sh1 k hk5]; exact okS_of (pw16 hk5).1 ha
theorem lg_ok {i k : Nat} (hk5 : k < 5) (hi : i < 2 ^ k) : okC (nI i) (nI 0) ((nI 1 <<< (nI k &&& 31)) - nI 1) := by
  have h := (pw16 hk5)
  rw [sh1 k hk5, pk_sub h.1]
  exact okC_of (Nat.zero_le _) (by omega) (by omega)
theorem cm_S {a n : Nat} (h : 0 < n → a + n ≤ 32) : okS (nI a) (nI n) := by
  rcases Nat.eq_zero_or_pos n with rfl | h0
  · exact Or.inl (by decide)
  · exact okS_of h0 (h h0)
theorem cm_P {a n : Nat} (h : 0 < n → a + n ≤ 12) : okP (nI a) (nI n) := by
  rcases Nat.eq_zero_or_pos n with rfl | h0
  · exact Or.inl (by decide)
  · exact okP_of h0 (h h0)
/-- the written row became another, by way of other changes -/
theorem DS.wchain {g : WG} {H0 H H1 H2 H' : Heap} {U : State} {b p t w w2 : Nat} {mr mq : Int64} (d : DS g H0 H b p t w mr mq) (hK : KW g U) (h1 : FRM (fun q => q = b + 150 ∨ q = b + 151) H H1) (h2 : KJ g (nJ b) H1 H2) (h3 : FRM (fun q => q = b + 150 ∨ q = b + 151) H2 H') (hr : RW9 g H' (b + 150) (b + 151) w2) (h96 : w2 ≤ 96) : DS g H0 H' b p t w2 mr mq :=
  ⟨((d.1.tr (h1.mono (fun q h => by rcases h with rfl | rfl <;> exact ⟨⟨by omega, by omega⟩, by omega, by unfold kE; omega⟩))).tr (h2.frq nJ_F)).tr (h3.mono (fun q h => by rcases h with rfl | rfl <;> exact ⟨⟨by omega, by omega⟩, by omega, by unfold kE; omega⟩)), ((d.2.1.on (fun q hq => h1.2 q (nx_row hq).2)).kj hK h2).on (fun q hq => h3.2 q (nx_row hq).2), (h2.rw9 hK (d.2.2.1.frm h1 (by omega) (by omega))).frm h3 (by omega) (by omega), hr, d.2.2.2.2.1, d.2.2.2.2.2.1, h96⟩