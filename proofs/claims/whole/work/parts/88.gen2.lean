/-- the sums but for their digits -/
def SO (g : WG) (n0 : Nat → Prop) (H : Heap) (o cu od dg sm s1 s2 s3 fo : Nat) (F : Nat → Nat) (mi : Int64) (X O O1 O2 O3 : Nat → Nat) : Prop :=
  OB g H o 4 [.ref cu, .ref od, .ref dg, .ref sm] ∧ CV g n0 H cu fo F mi X ∧ PT g n0 H sm s1 s2 s3 ∧ AR g.2.2.2.2.1 H od 64 O ∧ ∀ k, k < 64 → PT g n0 H (O k) (O1 k) (O2 k) (O3 k)
theorem KJ.so {g : WG} {S : Nat → Prop} {n0 : Nat → Prop} {H H' : Heap} {U : State} (h : KJ g S H H') (hK : KW g U) {o cu od dg sm s1 s2 s3 fo : Nat} {F : Nat → Nat} {mi : Int64} {X O O1 O2 O3 : Nat → Nat} (hf : SO g n0 H o cu od dg sm s1 s2 s3 fo F mi X O O1 O2 O3) : SO g n0 H' o cu od dg sm s1 s2 s3 fo F mi X O O1 O2 O3 :=
  ⟨h.ob hK hf.1, h.cv hK hf.2.1, h.pt hK hf.2.2.1, h.arP hK hf.2.2.2.1, fun k hk => h.pt hK (hf.2.2.2.2 k hk)⟩
/-- a digit: -7 to 7 -/
def sd (x : Int32) : Prop := ∃ k, k < 15 ∧ x = nI k - nI 7
theorem sd_0 : sd 0 := ⟨7, by decide, by decide⟩
theorem sd_step : ∀ d, d < 17 → nI d &&& nI 1 = nI 1 → (∃ k, k < 15 ∧ vp_nar .byte ((nI d - ((nI d >>> (nI 3 &&& 31)) <<< (nI 4 &&& 31))).toInt8.toInt32) = nI k - nI 7) ∧ ∃ c, c < 2 ∧ nI d >>> (nI 3 &&& 31) = nI c := by
  have h : ∀ d : Fin 17, nI d.val &&& nI 1 = nI 1 → (∃ k : Fin 15, ((nI d.val - ((nI d.val >>> (nI 3 &&& 31)) <<< (nI 4 &&& 31))).toInt8.toInt32).toInt8.toInt32 = nI k.val - nI 7) ∧ ∃ c : Fin 2, nI d.val >>> (nI 3 &&& 31) = nI c.val := by decide +kernel
  intro d hd ho
  obtain ⟨⟨k, hk⟩, ⟨c, hc⟩⟩ := h ⟨d, hd⟩ ho
  exact ⟨⟨k.val, k.isLt, hk⟩, c.val, c.isLt, hc⟩
theorem sd_abs : ∀ x, sd x → ∃ j, j < 4 ∧ (if 0 ≤ x then x else 0 - x) / nI 2 = nI j := by
  have h : ∀ k : Fin 15, ∃ j : Fin 4, (if 0 ≤ nI k.val - nI 7 then nI k.val - nI 7 else 0 - (nI k.val - nI 7)) / nI 2 = nI j.val := by decide +kernel
  rintro x ⟨k, hk, rfl⟩
  obtain ⟨j, hj⟩ := h ⟨k, hk⟩
  exact ⟨j.val, j.isLt, hj⟩
theorem mn4 {i cnt : Nat} (h : i ≤ cnt) (hc : cnt < 257) : (if nI cnt - nI i < nI 4 then nI cnt - nI i else nI 4) = nI (min 4 (cnt - i)) := by
  rw [pk_sub h]
  by_cases h4 : cnt - i < 4
  · rw [if_pos (nI_lt h4 (by decide)), Nat.min_eq_right (by omega)]
  · rw [if_neg (nI_nlt (by omega) (by omega)), Nat.min_eq_left (by omega)]
theorem sd_upd {f : Nat → Int32} {i : Nat} {x : Int32} (h : ∀ j, j < 257 → sd (f j)) (hx : sd x) : ∀ j, j < 257 → sd (upd f i x j) := by
  intro j hj
  by_cases e : j = i
  · simp only [upd, e, if_true]; exact hx
  · simp only [upd, e, if_false]; exact h j hj