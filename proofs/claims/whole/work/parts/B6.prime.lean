/-! a primitive root shows a prime -/
theorem gn_mod {p w a b : Nat} (hp : 1 < p) (ha : w ^ a % p = 1) (hb : w ^ b % p = 1) : w ^ (a % b) % p = 1 := by
  have om : 1 % p = 1 := Nat.mod_eq_of_lt hp
  have h1 : w ^ a = (w ^ b) ^ (a / b) * w ^ (a % b) := by rw [← Nat.pow_mul, ← Nat.pow_add, Nat.div_add_mod]
  have h2 : (w ^ b) ^ (a / b) % p = 1 % p := by
    have := md_pow (m := p) (show w ^ b % p = 1 % p by rw [hb, om]) (a / b)
    rw [Nat.one_pow] at this
    exact this
  have h3 := md_mul (m := p) h2 (rfl : w ^ (a % b) % p = w ^ (a % b) % p)
  rw [← h1, Nat.one_mul, ha] at h3
  exact h3.symm
theorem gn_gcd {p w : Nat} (hp : 1 < p) (a b : Nat) : w ^ a % p = 1 → w ^ b % p = 1 → w ^ (Nat.gcd a b) % p = 1 := by
  induction a, b using Nat.gcd.induction with
  | H0 n => intro _ h; rw [Nat.gcd_zero_left]; exact h
  | H1 m n hm ih => intro h1 h2; rw [Nat.gcd_rec]; exact ih (gn_mod hp h2 h1) h1
theorem gn_dv {p w d l : Nat} (hp : 1 < p) (hg : w ^ d % p = 1) (hd : d ∣ p - 1) (hl : l ∣ (p - 1) / d) (hl0 : 0 < l) : w ^ ((p - 1) / l) % p = 1 := by
  have om : 1 % p = 1 := Nat.mod_eq_of_lt hp
  obtain ⟨k, hk⟩ := hd
  have hd0 : 0 < d := Nat.pos_of_ne_zero (fun z => by subst z; rw [Nat.zero_mul] at hk; omega)
  have e1 : (p - 1) / d = k := by rw [hk, Nat.mul_div_cancel_left _ hd0]
  rw [e1] at hl
  obtain ⟨j, rfl⟩ := hl
  have e2 : (p - 1) / l = d * j := by
    rw [hk, show d * (l * j) = l * (d * j) by rw [Nat.mul_left_comm], Nat.mul_div_cancel_left _ hl0]
  rw [e2, Nat.pow_mul]
  have := md_pow (m := p) (show w ^ d % p = 1 % p by rw [hg, om]) j
  rw [Nat.one_pow, om] at this
  exact this
/-- what shows p to be a prime -/
def GN (p w : Nat) : Prop := 1 < p ∧ w ^ (p - 1) % p = 1 ∧ ∀ k, k ∣ p - 1 → k ≠ 1 → ∃ l, l ∣ k ∧ 0 < l ∧ w ^ ((p - 1) / l) % p ≠ 1
theorem GN.ord {p w e : Nat} (hG : GN p w) (h0 : 0 < e) (h1 : e < p - 1) : w ^ e % p ≠ 1 := by
  intro h
  obtain ⟨hp, hw, hdv⟩ := hG
  have hg := gn_gcd hp e (p - 1) h hw
  have hd := Nat.gcd_dvd_right e (p - 1)
  have hle : Nat.gcd e (p - 1) ≤ e := Nat.le_of_dvd h0 (Nat.gcd_dvd_left _ _)
  generalize Nat.gcd e (p - 1) = d at *
  have hk : (p - 1) / d ∣ p - 1 := Nat.div_dvd_of_dvd hd
  have hk1 : (p - 1) / d ≠ 1 := by
    intro z
    obtain ⟨k, hk⟩ := hd
    have hd0 : 0 < d := Nat.pos_of_ne_zero (fun z => by subst z; rw [Nat.zero_mul] at hk; omega)
    rw [hk, Nat.mul_div_cancel_left _ hd0] at z
    rw [z, Nat.mul_one] at hk
    omega
  obtain ⟨l, h2, h3, h4⟩ := hdv _ hk hk1
  exact h4 (gn_dv hp hg hd h2 h3)
theorem GN.nz {p w i : Nat} (hG : GN p w) (h : i ≤ p - 1) : w ^ i % p ≠ 0 := by
  intro hz
  obtain ⟨hp, hw, _⟩ := hG
  have h1 : w ^ (p - 1) = w ^ i * w ^ (p - 1 - i) := by rw [← Nat.pow_add, Nat.add_sub_cancel' h]
  rw [h1] at hw
  have h3 := md_mul (m := p) (show w ^ i % p = 0 % p by rw [hz, Nat.zero_mod]) (rfl : w ^ (p - 1 - i) % p = _)
  rw [hw, Nat.zero_mul, Nat.zero_mod] at h3
  exact absurd h3 (by decide)
theorem GN.log {p w x : Nat} (hG : GN p w) (h : x % p ≠ 0) : ∃ i, w ^ i % p = x % p := by
  have hp := hG.1
  have hw := hG.2.1
  have om : 1 % p = 1 := Nat.mod_eq_of_lt hp
  have hp0 : 0 < p := by omega
  have hx := Nat.mod_lt x hp0
  obtain ⟨i, h1, h2⟩ := pig (p - 1) (fun i => w ^ i % p - 1) (fun i hi => by
      have a := hG.nz (Nat.le_of_lt hi)
      have b := Nat.mod_lt (w ^ i) hp0
      show w ^ i % p - 1 < p - 1
      omega) (fun i j hij hj h => by
      have a := hG.nz (i := i) (by omega)
      have b := hG.nz (i := j) (by omega)
      have e : w ^ i % p = w ^ j % p := by
        have h' : w ^ i % p - 1 = w ^ j % p - 1 := h
        omega
      have e1 := md_mul (m := p) e (rfl : w ^ (p - 1 - i) % p = _)
      rw [← Nat.pow_add, ← Nat.pow_add, show i + (p - 1 - i) = p - 1 by omega, show j + (p - 1 - i) = (p - 1) + (j - i) by omega, Nat.pow_add, hw] at e1
      have e2 := md_mul (m := p) (show w ^ (p - 1) % p = 1 % p by rw [hw, om]) (rfl : w ^ (j - i) % p = _)
      rw [Nat.one_mul] at e2
      exact hG.ord (e := j - i) (by omega) (by omega) (e2.symm.trans e1.symm)) (x % p - 1) (by omega)
  have h2' : w ^ i % p - 1 = x % p - 1 := h2
  have a := hG.nz (Nat.le_of_lt h1)
  exact ⟨i, by omega⟩
theorem GN.fermat {p w x : Nat} (hG : GN p w) (h : x % p ≠ 0) : x ^ (p - 1) % p = 1 := by
  have om : 1 % p = 1 := Nat.mod_eq_of_lt hG.1
  obtain ⟨i, hi⟩ := hG.log h
  rw [← md_pow hi, ← Nat.pow_mul, Nat.mul_comm, Nat.pow_mul]
  have := md_pow (m := p) (show w ^ (p - 1) % p = 1 % p by rw [hG.2.1, om]) i
  rw [Nat.one_pow, om] at this
  exact this
theorem GN.cop {p w k : Nat} (hG : GN p w) (hk : ¬ p ∣ k) : Nat.Coprime k p := by
  have hp := hG.1
  have h := hG.fermat (x := k) (fun z => hk (Nat.dvd_of_mod_eq_zero z))
  have h1 : Nat.gcd k p ∣ k ^ (p - 1) := Nat.dvd_trans (Nat.gcd_dvd_left k p) (by
    rw [show p - 1 = (p - 2) + 1 by omega, Nat.pow_succ]
    exact Nat.dvd_mul_left _ _)
  have h2 : Nat.gcd k p ∣ p * (k ^ (p - 1) / p) := Nat.dvd_trans (Nat.gcd_dvd_right k p) (Nat.dvd_mul_right _ _)
  have h3 := Nat.div_add_mod (k ^ (p - 1)) p
  rw [h] at h3
  rw [← h3] at h1
  exact Nat.dvd_one.mp ((Nat.dvd_add_right h2).mp h1)
theorem gc_2 {k : Nat} (hk : ¬ 2 ∣ k) : Nat.Coprime k 2 := cop_sp (r := 2) (by decide) (by decide +kernel) (by decide) hk
theorem gc_3 {k : Nat} (hk : ¬ 3 ∣ k) : Nat.Coprime k 3 := cop_sp (r := 2) (by decide) (by decide +kernel) (by decide) hk
theorem gc_11 {k : Nat} (hk : ¬ 11 ∣ k) : Nat.Coprime k 11 := cop_sp (r := 4) (by decide) (by decide +kernel) (by decide) hk
theorem gc_23 {k : Nat} (hk : ¬ 23 ∣ k) : Nat.Coprime k 23 := cop_sp (r := 5) (by decide) (by decide +kernel) (by decide) hk
theorem gc_47 {k : Nat} (hk : ¬ 47 ∣ k) : Nat.Coprime k 47 := cop_sp (r := 7) (by decide) (by decide +kernel) (by decide) hk
theorem gc_10177 {k : Nat} (hk : ¬ 10177 ∣ k) : Nat.Coprime k 10177 := cop_sp (r := 101) (by decide) (by decide +kernel) (by decide) hk
theorem gc_859267 {k : Nat} (hk : ¬ 859267 ∣ k) : Nat.Coprime k 859267 := cop_sp (r := 927) (by decide) (by decide +kernel) (by decide) hk
theorem gc_52437899 {k : Nat} (hk : ¬ 52437899 ∣ k) : Nat.Coprime k 52437899 := cop_sp (r := 7242) (by decide) (by decide +kernel) (by decide) hk
theorem gc_89 {k : Nat} (hk : ¬ 89 ∣ k) : Nat.Coprime k 89 := cop_sp (r := 10) (by decide) (by decide +kernel) (by decide) hk
theorem gc_941 {k : Nat} (hk : ¬ 941 ∣ k) : Nat.Coprime k 941 := cop_sp (r := 31) (by decide) (by decide +kernel) (by decide) hk
theorem gc_13 {k : Nat} (hk : ¬ 13 ∣ k) : Nat.Coprime k 13 := cop_sp (r := 4) (by decide) (by decide +kernel) (by decide) hk
theorem gc_5 {k : Nat} (hk : ¬ 5 ∣ k) : Nat.Coprime k 5 := cop_sp (r := 3) (by decide) (by decide +kernel) (by decide) hk
theorem gc_7 {k : Nat} (hk : ¬ 7 ∣ k) : Nat.Coprime k 7 := cop_sp (r := 3) (by decide) (by decide +kernel) (by decide) hk
theorem gc_7577 {k : Nat} (hk : ¬ 7577 ∣ k) : Nat.Coprime k 7577 := cop_sp (r := 88) (by decide) (by decide +kernel) (by decide) hk
theorem gc_582767 {k : Nat} (hk : ¬ 582767 ∣ k) : Nat.Coprime k 582767 := cop_sp (r := 764) (by decide) (by decide +kernel) (by decide) hk
theorem gN_44_f : 9272813673901 - 1 = 2 ^ 2 * 3 * 5 ^ 2 * 7 * 7577 * 582767 := by decide +kernel
theorem gN_44_d {k : Nat} (hk : k ∣ 9272813673901 - 1) (h1 : k ≠ 1) : 2 ∣ k ∨ 3 ∣ k ∨ 5 ∣ k ∨ 7 ∣ k ∨ 7577 ∣ k ∨ 582767 ∣ k := by
  refine Classical.byContradiction (fun hn => h1 ?_)
  simp only [not_or] at hn
  obtain ⟨n0, n1, n2, n3, n4, n5⟩ := hn
  rw [gN_44_f] at hk
  exact Nat.Coprime.eq_one_of_dvd (Nat.Coprime.mul_right (Nat.Coprime.mul_right (Nat.Coprime.mul_right (Nat.Coprime.mul_right (Nat.Coprime.mul_right ((gc_2 n0).pow_right 2) (gc_3 n1)) ((gc_5 n2).pow_right 2)) (gc_7 n3)) (gc_7577 n4)) (gc_582767 n5)) hk
theorem gN_44_p2 : 2 ^ ((9272813673901 - 1) / 2) % 9272813673901 ≠ 1 := by
  rw [← pw2_eq 44 2 ((9272813673901 - 1) / 2) (by decide +kernel)]
  decide +kernel
theorem gN_44_p3 : 2 ^ ((9272813673901 - 1) / 3) % 9272813673901 ≠ 1 := by
  rw [← pw2_eq 44 2 ((9272813673901 - 1) / 3) (by decide +kernel)]
  decide +kernel
theorem gN_44_p5 : 2 ^ ((9272813673901 - 1) / 5) % 9272813673901 ≠ 1 := by
  rw [← pw2_eq 44 2 ((9272813673901 - 1) / 5) (by decide +kernel)]
  decide +kernel
theorem gN_44_p7 : 2 ^ ((9272813673901 - 1) / 7) % 9272813673901 ≠ 1 := by
  rw [← pw2_eq 44 2 ((9272813673901 - 1) / 7) (by decide +kernel)]
  decide +kernel
theorem gN_44_p7577 : 2 ^ ((9272813673901 - 1) / 7577) % 9272813673901 ≠ 1 := by
  rw [← pw2_eq 44 2 ((9272813673901 - 1) / 7577) (by decide +kernel)]
  decide +kernel
theorem gN_44_p582767 : 2 ^ ((9272813673901 - 1) / 582767) % 9272813673901 ≠ 1 := by
  rw [← pw2_eq 44 2 ((9272813673901 - 1) / 582767) (by decide +kernel)]
  decide +kernel
theorem gN_44_g : 2 ^ (9272813673901 - 1) % 9272813673901 = 1 := by
  rw [← pw2_eq 44 2 (9272813673901 - 1) (by decide +kernel)]
  decide +kernel
theorem gN_44 : GN 9272813673901 2 := by
  refine ⟨by decide, gN_44_g, fun k hk h1 => ?_⟩
  rcases gN_44_d hk h1 with h | h | h | h | h | h
  · exact ⟨2, h, by decide, gN_44_p2⟩
  · exact ⟨3, h, by decide, gN_44_p3⟩
  · exact ⟨5, h, by decide, gN_44_p5⟩
  · exact ⟨7, h, by decide, gN_44_p7⟩
  · exact ⟨7577, h, by decide, gN_44_p7577⟩
  · exact ⟨582767, h, by decide, gN_44_p582767⟩
theorem gc_9272813673901 {k : Nat} (hk : ¬ 9272813673901 ∣ k) : Nat.Coprime k 9272813673901 := gN_44.cop hk
theorem gN_51_f : 1928745244171409 - 1 = 2 ^ 4 * 13 * 9272813673901 := by decide +kernel
theorem gN_51_d {k : Nat} (hk : k ∣ 1928745244171409 - 1) (h1 : k ≠ 1) : 2 ∣ k ∨ 13 ∣ k ∨ 9272813673901 ∣ k := by
  refine Classical.byContradiction (fun hn => h1 ?_)
  simp only [not_or] at hn
  obtain ⟨n0, n1, n2⟩ := hn
  rw [gN_51_f] at hk
  exact Nat.Coprime.eq_one_of_dvd (Nat.Coprime.mul_right (Nat.Coprime.mul_right ((gc_2 n0).pow_right 4) (gc_13 n1)) (gc_9272813673901 n2)) hk
theorem gN_51_p2 : 3 ^ ((1928745244171409 - 1) / 2) % 1928745244171409 ≠ 1 := by
  rw [← pw2_eq 51 3 ((1928745244171409 - 1) / 2) (by decide +kernel)]
  decide +kernel
theorem gN_51_p13 : 3 ^ ((1928745244171409 - 1) / 13) % 1928745244171409 ≠ 1 := by
  rw [← pw2_eq 51 3 ((1928745244171409 - 1) / 13) (by decide +kernel)]
  decide +kernel
theorem gN_51_p9272813673901 : 3 ^ ((1928745244171409 - 1) / 9272813673901) % 1928745244171409 ≠ 1 := by
  rw [← pw2_eq 51 3 ((1928745244171409 - 1) / 9272813673901) (by decide +kernel)]
  decide +kernel
theorem gN_51_g : 3 ^ (1928745244171409 - 1) % 1928745244171409 = 1 := by
  rw [← pw2_eq 51 3 (1928745244171409 - 1) (by decide +kernel)]
  decide +kernel
theorem gN_51 : GN 1928745244171409 3 := by
  refine ⟨by decide, gN_51_g, fun k hk h1 => ?_⟩
  rcases gN_51_d hk h1 with h | h | h
  · exact ⟨2, h, by decide, gN_51_p2⟩
  · exact ⟨13, h, by decide, gN_51_p13⟩
  · exact ⟨9272813673901, h, by decide, gN_51_p9272813673901⟩
theorem gc_1928745244171409 {k : Nat} (hk : ¬ 1928745244171409 ∣ k) : Nat.Coprime k 1928745244171409 := gN_51.cop hk
theorem gN_63_f : 7259797099061183477 - 1 = 2 ^ 2 * 941 * 1928745244171409 := by decide +kernel
theorem gN_63_d {k : Nat} (hk : k ∣ 7259797099061183477 - 1) (h1 : k ≠ 1) : 2 ∣ k ∨ 941 ∣ k ∨ 1928745244171409 ∣ k := by
  refine Classical.byContradiction (fun hn => h1 ?_)
  simp only [not_or] at hn
  obtain ⟨n0, n1, n2⟩ := hn
  rw [gN_63_f] at hk
  exact Nat.Coprime.eq_one_of_dvd (Nat.Coprime.mul_right (Nat.Coprime.mul_right ((gc_2 n0).pow_right 2) (gc_941 n1)) (gc_1928745244171409 n2)) hk
theorem gN_63_p2 : 2 ^ ((7259797099061183477 - 1) / 2) % 7259797099061183477 ≠ 1 := by
  rw [← pw2_eq 63 2 ((7259797099061183477 - 1) / 2) (by decide +kernel)]
  decide +kernel
theorem gN_63_p941 : 2 ^ ((7259797099061183477 - 1) / 941) % 7259797099061183477 ≠ 1 := by
  rw [← pw2_eq 63 2 ((7259797099061183477 - 1) / 941) (by decide +kernel)]
  decide +kernel
theorem gN_63_p1928745244171409 : 2 ^ ((7259797099061183477 - 1) / 1928745244171409) % 7259797099061183477 ≠ 1 := by
  rw [← pw2_eq 63 2 ((7259797099061183477 - 1) / 1928745244171409) (by decide +kernel)]
  decide +kernel
theorem gN_63_g : 2 ^ (7259797099061183477 - 1) % 7259797099061183477 = 1 := by
  rw [← pw2_eq 63 2 (7259797099061183477 - 1) (by decide +kernel)]
  decide +kernel
theorem gN_63 : GN 7259797099061183477 2 := by
  refine ⟨by decide, gN_63_g, fun k hk h1 => ?_⟩
  rcases gN_63_d hk h1 with h | h | h
  · exact ⟨2, h, by decide, gN_63_p2⟩
  · exact ⟨941, h, by decide, gN_63_p941⟩
  · exact ⟨1928745244171409, h, by decide, gN_63_p1928745244171409⟩
theorem gc_7259797099061183477 {k : Nat} (hk : ¬ 7259797099061183477 ∣ k) : Nat.Coprime k 7259797099061183477 := gN_63.cop hk
theorem gN_72_f : 2584487767265781317813 - 1 = 2 ^ 2 * 89 * 7259797099061183477 := by decide +kernel
theorem gN_72_d {k : Nat} (hk : k ∣ 2584487767265781317813 - 1) (h1 : k ≠ 1) : 2 ∣ k ∨ 89 ∣ k ∨ 7259797099061183477 ∣ k := by
  refine Classical.byContradiction (fun hn => h1 ?_)
  simp only [not_or] at hn
  obtain ⟨n0, n1, n2⟩ := hn
  rw [gN_72_f] at hk
  exact Nat.Coprime.eq_one_of_dvd (Nat.Coprime.mul_right (Nat.Coprime.mul_right ((gc_2 n0).pow_right 2) (gc_89 n1)) (gc_7259797099061183477 n2)) hk
theorem gN_72_p2 : 2 ^ ((2584487767265781317813 - 1) / 2) % 2584487767265781317813 ≠ 1 := by
  rw [← pw2_eq 72 2 ((2584487767265781317813 - 1) / 2) (by decide +kernel)]
  decide +kernel
theorem gN_72_p89 : 2 ^ ((2584487767265781317813 - 1) / 89) % 2584487767265781317813 ≠ 1 := by
  rw [← pw2_eq 72 2 ((2584487767265781317813 - 1) / 89) (by decide +kernel)]
  decide +kernel
theorem gN_72_p7259797099061183477 : 2 ^ ((2584487767265781317813 - 1) / 7259797099061183477) % 2584487767265781317813 ≠ 1 := by
  rw [← pw2_eq 72 2 ((2584487767265781317813 - 1) / 7259797099061183477) (by decide +kernel)]
  decide +kernel
theorem gN_72_g : 2 ^ (2584487767265781317813 - 1) % 2584487767265781317813 = 1 := by
  rw [← pw2_eq 72 2 (2584487767265781317813 - 1) (by decide +kernel)]
  decide +kernel
theorem gN_72 : GN 2584487767265781317813 2 := by
  refine ⟨by decide, gN_72_g, fun k hk h1 => ?_⟩
  rcases gN_72_d hk h1 with h | h | h
  · exact ⟨2, h, by decide, gN_72_p2⟩
  · exact ⟨89, h, by decide, gN_72_p89⟩
  · exact ⟨7259797099061183477, h, by decide, gN_72_p7259797099061183477⟩
theorem gc_2584487767265781317813 {k : Nat} (hk : ¬ 2584487767265781317813 ∣ k) : Nat.Coprime k 2584487767265781317813 := gN_72.cop hk
theorem gc_53 {k : Nat} (hk : ¬ 53 ∣ k) : Nat.Coprime k 53 := cop_sp (r := 8) (by decide) (by decide +kernel) (by decide) hk
theorem gc_475709467 {k : Nat} (hk : ¬ 475709467 ∣ k) : Nat.Coprime k 475709467 := cop_sp (r := 21811) (by decide) (by decide +kernel) (by decide) hk
theorem gc_31 {k : Nat} (hk : ¬ 31 ∣ k) : Nat.Coprime k 31 := cop_sp (r := 6) (by decide) (by decide +kernel) (by decide) hk
theorem gc_467 {k : Nat} (hk : ¬ 467 ∣ k) : Nat.Coprime k 467 := cop_sp (r := 22) (by decide) (by decide +kernel) (by decide) hk
theorem gc_16447 {k : Nat} (hk : ¬ 16447 ∣ k) : Nat.Coprime k 16447 := cop_sp (r := 129) (by decide) (by decide +kernel) (by decide) hk
theorem gc_409 {k : Nat} (hk : ¬ 409 ∣ k) : Nat.Coprime k 409 := cop_sp (r := 21) (by decide) (by decide +kernel) (by decide) hk
theorem gc_43591 {k : Nat} (hk : ¬ 43591 ∣ k) : Nat.Coprime k 43591 := cop_sp (r := 209) (by decide) (by decide +kernel) (by decide) hk
theorem gN_30_f : 927093389 - 1 = 2 ^ 2 * 13 * 409 * 43591 := by decide +kernel
theorem gN_30_d {k : Nat} (hk : k ∣ 927093389 - 1) (h1 : k ≠ 1) : 2 ∣ k ∨ 13 ∣ k ∨ 409 ∣ k ∨ 43591 ∣ k := by
  refine Classical.byContradiction (fun hn => h1 ?_)
  simp only [not_or] at hn
  obtain ⟨n0, n1, n2, n3⟩ := hn
  rw [gN_30_f] at hk
  exact Nat.Coprime.eq_one_of_dvd (Nat.Coprime.mul_right (Nat.Coprime.mul_right (Nat.Coprime.mul_right ((gc_2 n0).pow_right 2) (gc_13 n1)) (gc_409 n2)) (gc_43591 n3)) hk
theorem gN_30_p2 : 3 ^ ((927093389 - 1) / 2) % 927093389 ≠ 1 := by
  rw [← pw2_eq 30 3 ((927093389 - 1) / 2) (by decide +kernel)]
  decide +kernel
theorem gN_30_p13 : 3 ^ ((927093389 - 1) / 13) % 927093389 ≠ 1 := by
  rw [← pw2_eq 30 3 ((927093389 - 1) / 13) (by decide +kernel)]
  decide +kernel
theorem gN_30_p409 : 3 ^ ((927093389 - 1) / 409) % 927093389 ≠ 1 := by
  rw [← pw2_eq 30 3 ((927093389 - 1) / 409) (by decide +kernel)]
  decide +kernel
theorem gN_30_p43591 : 3 ^ ((927093389 - 1) / 43591) % 927093389 ≠ 1 := by
  rw [← pw2_eq 30 3 ((927093389 - 1) / 43591) (by decide +kernel)]
  decide +kernel
theorem gN_30_g : 3 ^ (927093389 - 1) % 927093389 = 1 := by
  rw [← pw2_eq 30 3 (927093389 - 1) (by decide +kernel)]
  decide +kernel
theorem gN_30 : GN 927093389 3 := by
  refine ⟨by decide, gN_30_g, fun k hk h1 => ?_⟩
  rcases gN_30_d hk h1 with h | h | h | h
  · exact ⟨2, h, by decide, gN_30_p2⟩
  · exact ⟨13, h, by decide, gN_30_p13⟩
  · exact ⟨409, h, by decide, gN_30_p409⟩
  · exact ⟨43591, h, by decide, gN_30_p43591⟩
theorem gc_927093389 {k : Nat} (hk : ¬ 927093389 ∣ k) : Nat.Coprime k 927093389 := gN_30.cop hk
theorem gN_46_f : 64881703735777 - 1 = 2 ^ 5 * 3 ^ 7 * 927093389 := by decide +kernel
theorem gN_46_d {k : Nat} (hk : k ∣ 64881703735777 - 1) (h1 : k ≠ 1) : 2 ∣ k ∨ 3 ∣ k ∨ 927093389 ∣ k := by
  refine Classical.byContradiction (fun hn => h1 ?_)
  simp only [not_or] at hn
  obtain ⟨n0, n1, n2⟩ := hn
  rw [gN_46_f] at hk
  exact Nat.Coprime.eq_one_of_dvd (Nat.Coprime.mul_right (Nat.Coprime.mul_right ((gc_2 n0).pow_right 5) ((gc_3 n1).pow_right 7)) (gc_927093389 n2)) hk
theorem gN_46_p2 : 5 ^ ((64881703735777 - 1) / 2) % 64881703735777 ≠ 1 := by
  rw [← pw2_eq 46 5 ((64881703735777 - 1) / 2) (by decide +kernel)]
  decide +kernel
theorem gN_46_p3 : 5 ^ ((64881703735777 - 1) / 3) % 64881703735777 ≠ 1 := by
  rw [← pw2_eq 46 5 ((64881703735777 - 1) / 3) (by decide +kernel)]
  decide +kernel
theorem gN_46_p927093389 : 5 ^ ((64881703735777 - 1) / 927093389) % 64881703735777 ≠ 1 := by
  rw [← pw2_eq 46 5 ((64881703735777 - 1) / 927093389) (by decide +kernel)]
  decide +kernel
theorem gN_46_g : 5 ^ (64881703735777 - 1) % 64881703735777 = 1 := by
  rw [← pw2_eq 46 5 (64881703735777 - 1) (by decide +kernel)]
  decide +kernel
theorem gN_46 : GN 64881703735777 5 := by
  refine ⟨by decide, gN_46_g, fun k hk h1 => ?_⟩
  rcases gN_46_d hk h1 with h | h | h
  · exact ⟨2, h, by decide, gN_46_p2⟩
  · exact ⟨3, h, by decide, gN_46_p3⟩
  · exact ⟨927093389, h, by decide, gN_46_p927093389⟩
theorem gc_64881703735777 {k : Nat} (hk : ¬ 64881703735777 ∣ k) : Nat.Coprime k 64881703735777 := gN_46.cop hk
theorem gN_77_f : 92691255082156974996979 - 1 = 2 * 3 * 31 * 467 * 16447 * 64881703735777 := by decide +kernel
theorem gN_77_d {k : Nat} (hk : k ∣ 92691255082156974996979 - 1) (h1 : k ≠ 1) : 2 ∣ k ∨ 3 ∣ k ∨ 31 ∣ k ∨ 467 ∣ k ∨ 16447 ∣ k ∨ 64881703735777 ∣ k := by
  refine Classical.byContradiction (fun hn => h1 ?_)
  simp only [not_or] at hn
  obtain ⟨n0, n1, n2, n3, n4, n5⟩ := hn
  rw [gN_77_f] at hk
  exact Nat.Coprime.eq_one_of_dvd (Nat.Coprime.mul_right (Nat.Coprime.mul_right (Nat.Coprime.mul_right (Nat.Coprime.mul_right (Nat.Coprime.mul_right (gc_2 n0) (gc_3 n1)) (gc_31 n2)) (gc_467 n3)) (gc_16447 n4)) (gc_64881703735777 n5)) hk
theorem gN_77_p2 : 3 ^ ((92691255082156974996979 - 1) / 2) % 92691255082156974996979 ≠ 1 := by
  rw [← pw2_eq 77 3 ((92691255082156974996979 - 1) / 2) (by decide +kernel)]
  decide +kernel
theorem gN_77_p3 : 3 ^ ((92691255082156974996979 - 1) / 3) % 92691255082156974996979 ≠ 1 := by
  rw [← pw2_eq 77 3 ((92691255082156974996979 - 1) / 3) (by decide +kernel)]
  decide +kernel
theorem gN_77_p31 : 3 ^ ((92691255082156974996979 - 1) / 31) % 92691255082156974996979 ≠ 1 := by
  rw [← pw2_eq 77 3 ((92691255082156974996979 - 1) / 31) (by decide +kernel)]
  decide +kernel
theorem gN_77_p467 : 3 ^ ((92691255082156974996979 - 1) / 467) % 92691255082156974996979 ≠ 1 := by
  rw [← pw2_eq 77 3 ((92691255082156974996979 - 1) / 467) (by decide +kernel)]
  decide +kernel
theorem gN_77_p16447 : 3 ^ ((92691255082156974996979 - 1) / 16447) % 92691255082156974996979 ≠ 1 := by
  rw [← pw2_eq 77 3 ((92691255082156974996979 - 1) / 16447) (by decide +kernel)]
  decide +kernel
theorem gN_77_p64881703735777 : 3 ^ ((92691255082156974996979 - 1) / 64881703735777) % 92691255082156974996979 ≠ 1 := by
  rw [← pw2_eq 77 3 ((92691255082156974996979 - 1) / 64881703735777) (by decide +kernel)]
  decide +kernel
theorem gN_77_g : 3 ^ (92691255082156974996979 - 1) % 92691255082156974996979 = 1 := by
  rw [← pw2_eq 77 3 (92691255082156974996979 - 1) (by decide +kernel)]
  decide +kernel
theorem gN_77 : GN 92691255082156974996979 3 := by
  refine ⟨by decide, gN_77_g, fun k hk h1 => ?_⟩
  rcases gN_77_d hk h1 with h | h | h | h | h | h
  · exact ⟨2, h, by decide, gN_77_p2⟩
  · exact ⟨3, h, by decide, gN_77_p3⟩
  · exact ⟨31, h, by decide, gN_77_p31⟩
  · exact ⟨467, h, by decide, gN_77_p467⟩
  · exact ⟨16447, h, by decide, gN_77_p16447⟩
  · exact ⟨64881703735777, h, by decide, gN_77_p64881703735777⟩
theorem gc_92691255082156974996979 {k : Nat} (hk : ¬ 92691255082156974996979 ∣ k) : Nat.Coprime k 92691255082156974996979 := gN_77.cop hk
theorem gc_3373 {k : Nat} (hk : ¬ 3373 ∣ k) : Nat.Coprime k 3373 := cop_sp (r := 59) (by decide) (by decide +kernel) (by decide) hk
theorem gc_17 {k : Nat} (hk : ¬ 17 ∣ k) : Nat.Coprime k 17 := cop_sp (r := 5) (by decide) (by decide +kernel) (by decide) hk
theorem gc_51376543 {k : Nat} (hk : ¬ 51376543 ∣ k) : Nat.Coprime k 51376543 := cop_sp (r := 7168) (by decide) (by decide +kernel) (by decide) hk
theorem gN_36_f : 43670061551 - 1 = 2 * 5 ^ 2 * 17 * 51376543 := by decide +kernel
theorem gN_36_d {k : Nat} (hk : k ∣ 43670061551 - 1) (h1 : k ≠ 1) : 2 ∣ k ∨ 5 ∣ k ∨ 17 ∣ k ∨ 51376543 ∣ k := by
  refine Classical.byContradiction (fun hn => h1 ?_)
  simp only [not_or] at hn
  obtain ⟨n0, n1, n2, n3⟩ := hn
  rw [gN_36_f] at hk
  exact Nat.Coprime.eq_one_of_dvd (Nat.Coprime.mul_right (Nat.Coprime.mul_right (Nat.Coprime.mul_right (gc_2 n0) ((gc_5 n1).pow_right 2)) (gc_17 n2)) (gc_51376543 n3)) hk
theorem gN_36_p2 : 7 ^ ((43670061551 - 1) / 2) % 43670061551 ≠ 1 := by
  rw [← pw2_eq 36 7 ((43670061551 - 1) / 2) (by decide +kernel)]
  decide +kernel
theorem gN_36_p5 : 7 ^ ((43670061551 - 1) / 5) % 43670061551 ≠ 1 := by
  rw [← pw2_eq 36 7 ((43670061551 - 1) / 5) (by decide +kernel)]
  decide +kernel
theorem gN_36_p17 : 7 ^ ((43670061551 - 1) / 17) % 43670061551 ≠ 1 := by
  rw [← pw2_eq 36 7 ((43670061551 - 1) / 17) (by decide +kernel)]
  decide +kernel
theorem gN_36_p51376543 : 7 ^ ((43670061551 - 1) / 51376543) % 43670061551 ≠ 1 := by
  rw [← pw2_eq 36 7 ((43670061551 - 1) / 51376543) (by decide +kernel)]
  decide +kernel
theorem gN_36_g : 7 ^ (43670061551 - 1) % 43670061551 = 1 := by
  rw [← pw2_eq 36 7 (43670061551 - 1) (by decide +kernel)]
  decide +kernel
theorem gN_36 : GN 43670061551 7 := by
  refine ⟨by decide, gN_36_g, fun k hk h1 => ?_⟩
  rcases gN_36_d hk h1 with h | h | h | h
  · exact ⟨2, h, by decide, gN_36_p2⟩
  · exact ⟨5, h, by decide, gN_36_p5⟩
  · exact ⟨17, h, by decide, gN_36_p17⟩
  · exact ⟨51376543, h, by decide, gN_36_p51376543⟩
theorem gc_43670061551 {k : Nat} (hk : ¬ 43670061551 ∣ k) : Nat.Coprime k 43670061551 := gN_36.cop hk
theorem gc_19 {k : Nat} (hk : ¬ 19 ∣ k) : Nat.Coprime k 19 := cop_sp (r := 5) (by decide) (by decide +kernel) (by decide) hk
theorem gc_113 {k : Nat} (hk : ¬ 113 ∣ k) : Nat.Coprime k 113 := cop_sp (r := 11) (by decide) (by decide +kernel) (by decide) hk
theorem gc_755057 {k : Nat} (hk : ¬ 755057 ∣ k) : Nat.Coprime k 755057 := cop_sp (r := 869) (by decide) (by decide +kernel) (by decide) hk
theorem gc_421987 {k : Nat} (hk : ¬ 421987 ∣ k) : Nat.Coprime k 421987 := cop_sp (r := 650) (by decide) (by decide +kernel) (by decide) hk
theorem gN_34_f : 13090036741 - 1 = 2 ^ 2 * 3 * 5 * 11 * 47 * 421987 := by decide +kernel
theorem gN_34_d {k : Nat} (hk : k ∣ 13090036741 - 1) (h1 : k ≠ 1) : 2 ∣ k ∨ 3 ∣ k ∨ 5 ∣ k ∨ 11 ∣ k ∨ 47 ∣ k ∨ 421987 ∣ k := by
  refine Classical.byContradiction (fun hn => h1 ?_)
  simp only [not_or] at hn
  obtain ⟨n0, n1, n2, n3, n4, n5⟩ := hn
  rw [gN_34_f] at hk
  exact Nat.Coprime.eq_one_of_dvd (Nat.Coprime.mul_right (Nat.Coprime.mul_right (Nat.Coprime.mul_right (Nat.Coprime.mul_right (Nat.Coprime.mul_right ((gc_2 n0).pow_right 2) (gc_3 n1)) (gc_5 n2)) (gc_11 n3)) (gc_47 n4)) (gc_421987 n5)) hk
theorem gN_34_p2 : 10 ^ ((13090036741 - 1) / 2) % 13090036741 ≠ 1 := by
  rw [← pw2_eq 34 10 ((13090036741 - 1) / 2) (by decide +kernel)]
  decide +kernel
theorem gN_34_p3 : 10 ^ ((13090036741 - 1) / 3) % 13090036741 ≠ 1 := by
  rw [← pw2_eq 34 10 ((13090036741 - 1) / 3) (by decide +kernel)]
  decide +kernel
theorem gN_34_p5 : 10 ^ ((13090036741 - 1) / 5) % 13090036741 ≠ 1 := by
  rw [← pw2_eq 34 10 ((13090036741 - 1) / 5) (by decide +kernel)]
  decide +kernel
theorem gN_34_p11 : 10 ^ ((13090036741 - 1) / 11) % 13090036741 ≠ 1 := by
  rw [← pw2_eq 34 10 ((13090036741 - 1) / 11) (by decide +kernel)]
  decide +kernel
theorem gN_34_p47 : 10 ^ ((13090036741 - 1) / 47) % 13090036741 ≠ 1 := by
  rw [← pw2_eq 34 10 ((13090036741 - 1) / 47) (by decide +kernel)]
  decide +kernel
theorem gN_34_p421987 : 10 ^ ((13090036741 - 1) / 421987) % 13090036741 ≠ 1 := by
  rw [← pw2_eq 34 10 ((13090036741 - 1) / 421987) (by decide +kernel)]
  decide +kernel
theorem gN_34_g : 10 ^ (13090036741 - 1) % 13090036741 = 1 := by
  rw [← pw2_eq 34 10 (13090036741 - 1) (by decide +kernel)]
  decide +kernel
theorem gN_34 : GN 13090036741 10 := by
  refine ⟨by decide, gN_34_g, fun k hk h1 => ?_⟩
  rcases gN_34_d hk h1 with h | h | h | h | h | h
  · exact ⟨2, h, by decide, gN_34_p2⟩
  · exact ⟨3, h, by decide, gN_34_p3⟩
  · exact ⟨5, h, by decide, gN_34_p5⟩
  · exact ⟨11, h, by decide, gN_34_p11⟩
  · exact ⟨47, h, by decide, gN_34_p47⟩
  · exact ⟨421987, h, by decide, gN_34_p421987⟩
theorem gc_13090036741 {k : Nat} (hk : ¬ 13090036741 ∣ k) : Nat.Coprime k 13090036741 := gN_34.cop hk
theorem gN_72x_f : 3819663927398918131021 - 1 = 2 ^ 2 * 3 ^ 2 * 5 * 19 * 113 * 755057 * 13090036741 := by decide +kernel
theorem gN_72x_d {k : Nat} (hk : k ∣ 3819663927398918131021 - 1) (h1 : k ≠ 1) : 2 ∣ k ∨ 3 ∣ k ∨ 5 ∣ k ∨ 19 ∣ k ∨ 113 ∣ k ∨ 755057 ∣ k ∨ 13090036741 ∣ k := by
  refine Classical.byContradiction (fun hn => h1 ?_)
  simp only [not_or] at hn
  obtain ⟨n0, n1, n2, n3, n4, n5, n6⟩ := hn
  rw [gN_72x_f] at hk
  exact Nat.Coprime.eq_one_of_dvd (Nat.Coprime.mul_right (Nat.Coprime.mul_right (Nat.Coprime.mul_right (Nat.Coprime.mul_right (Nat.Coprime.mul_right (Nat.Coprime.mul_right ((gc_2 n0).pow_right 2) ((gc_3 n1).pow_right 2)) (gc_5 n2)) (gc_19 n3)) (gc_113 n4)) (gc_755057 n5)) (gc_13090036741 n6)) hk
theorem gN_72x_p2 : 6 ^ ((3819663927398918131021 - 1) / 2) % 3819663927398918131021 ≠ 1 := by
  rw [← pw2_eq 72 6 ((3819663927398918131021 - 1) / 2) (by decide +kernel)]
  decide +kernel
theorem gN_72x_p3 : 6 ^ ((3819663927398918131021 - 1) / 3) % 3819663927398918131021 ≠ 1 := by
  rw [← pw2_eq 72 6 ((3819663927398918131021 - 1) / 3) (by decide +kernel)]
  decide +kernel
theorem gN_72x_p5 : 6 ^ ((3819663927398918131021 - 1) / 5) % 3819663927398918131021 ≠ 1 := by
  rw [← pw2_eq 72 6 ((3819663927398918131021 - 1) / 5) (by decide +kernel)]
  decide +kernel
theorem gN_72x_p19 : 6 ^ ((3819663927398918131021 - 1) / 19) % 3819663927398918131021 ≠ 1 := by
  rw [← pw2_eq 72 6 ((3819663927398918131021 - 1) / 19) (by decide +kernel)]
  decide +kernel
theorem gN_72x_p113 : 6 ^ ((3819663927398918131021 - 1) / 113) % 3819663927398918131021 ≠ 1 := by
  rw [← pw2_eq 72 6 ((3819663927398918131021 - 1) / 113) (by decide +kernel)]
  decide +kernel
theorem gN_72x_p755057 : 6 ^ ((3819663927398918131021 - 1) / 755057) % 3819663927398918131021 ≠ 1 := by
  rw [← pw2_eq 72 6 ((3819663927398918131021 - 1) / 755057) (by decide +kernel)]
  decide +kernel
theorem gN_72x_p13090036741 : 6 ^ ((3819663927398918131021 - 1) / 13090036741) % 3819663927398918131021 ≠ 1 := by
  rw [← pw2_eq 72 6 ((3819663927398918131021 - 1) / 13090036741) (by decide +kernel)]
  decide +kernel
theorem gN_72x_g : 6 ^ (3819663927398918131021 - 1) % 3819663927398918131021 = 1 := by
  rw [← pw2_eq 72 6 (3819663927398918131021 - 1) (by decide +kernel)]
  decide +kernel
theorem gN_72x : GN 3819663927398918131021 6 := by
  refine ⟨by decide, gN_72x_g, fun k hk h1 => ?_⟩
  rcases gN_72x_d hk h1 with h | h | h | h | h | h | h
  · exact ⟨2, h, by decide, gN_72x_p2⟩
  · exact ⟨3, h, by decide, gN_72x_p3⟩
  · exact ⟨5, h, by decide, gN_72x_p5⟩
  · exact ⟨19, h, by decide, gN_72x_p19⟩
  · exact ⟨113, h, by decide, gN_72x_p113⟩
  · exact ⟨755057, h, by decide, gN_72x_p755057⟩
  · exact ⟨13090036741, h, by decide, gN_72x_p13090036741⟩
theorem gc_3819663927398918131021 {k : Nat} (hk : ¬ 3819663927398918131021 ∣ k) : Nat.Coprime k 3819663927398918131021 := gN_72x.cop hk
theorem gN_120_f : 1125266252156850182658904441386709967 - 1 = 2 * 3373 * 43670061551 * 3819663927398918131021 := by decide +kernel
theorem gN_120_d {k : Nat} (hk : k ∣ 1125266252156850182658904441386709967 - 1) (h1 : k ≠ 1) : 2 ∣ k ∨ 3373 ∣ k ∨ 43670061551 ∣ k ∨ 3819663927398918131021 ∣ k := by
  refine Classical.byContradiction (fun hn => h1 ?_)
  simp only [not_or] at hn
  obtain ⟨n0, n1, n2, n3⟩ := hn
  rw [gN_120_f] at hk
  exact Nat.Coprime.eq_one_of_dvd (Nat.Coprime.mul_right (Nat.Coprime.mul_right (Nat.Coprime.mul_right (gc_2 n0) (gc_3373 n1)) (gc_43670061551 n2)) (gc_3819663927398918131021 n3)) hk
theorem gN_120_p2 : 5 ^ ((1125266252156850182658904441386709967 - 1) / 2) % 1125266252156850182658904441386709967 ≠ 1 := by
  rw [← pw2_eq 120 5 ((1125266252156850182658904441386709967 - 1) / 2) (by decide +kernel)]
  decide +kernel
theorem gN_120_p3373 : 5 ^ ((1125266252156850182658904441386709967 - 1) / 3373) % 1125266252156850182658904441386709967 ≠ 1 := by
  rw [← pw2_eq 120 5 ((1125266252156850182658904441386709967 - 1) / 3373) (by decide +kernel)]
  decide +kernel
theorem gN_120_p43670061551 : 5 ^ ((1125266252156850182658904441386709967 - 1) / 43670061551) % 1125266252156850182658904441386709967 ≠ 1 := by
  rw [← pw2_eq 120 5 ((1125266252156850182658904441386709967 - 1) / 43670061551) (by decide +kernel)]
  decide +kernel
theorem gN_120_p3819663927398918131021 : 5 ^ ((1125266252156850182658904441386709967 - 1) / 3819663927398918131021) % 1125266252156850182658904441386709967 ≠ 1 := by
  rw [← pw2_eq 120 5 ((1125266252156850182658904441386709967 - 1) / 3819663927398918131021) (by decide +kernel)]
  decide +kernel
theorem gN_120_g : 5 ^ (1125266252156850182658904441386709967 - 1) % 1125266252156850182658904441386709967 = 1 := by
  rw [← pw2_eq 120 5 (1125266252156850182658904441386709967 - 1) (by decide +kernel)]
  decide +kernel
theorem gN_120 : GN 1125266252156850182658904441386709967 5 := by
  refine ⟨by decide, gN_120_g, fun k hk h1 => ?_⟩
  rcases gN_120_d hk h1 with h | h | h | h
  · exact ⟨2, h, by decide, gN_120_p2⟩
  · exact ⟨3373, h, by decide, gN_120_p3373⟩
  · exact ⟨43670061551, h, by decide, gN_120_p43670061551⟩
  · exact ⟨3819663927398918131021, h, by decide, gN_120_p3819663927398918131021⟩
theorem gc_1125266252156850182658904441386709967 {k : Nat} (hk : ¬ 1125266252156850182658904441386709967 ∣ k) : Nat.Coprime k 1125266252156850182658904441386709967 := gN_120.cop hk
theorem gN_234_f : 15778400344354997994418419698270088123916926905054652752758194827714659 - 1 = 2 * 3 * 53 * 475709467 * 92691255082156974996979 * 1125266252156850182658904441386709967 := by decide +kernel
theorem gN_234_d {k : Nat} (hk : k ∣ 15778400344354997994418419698270088123916926905054652752758194827714659 - 1) (h1 : k ≠ 1) : 2 ∣ k ∨ 3 ∣ k ∨ 53 ∣ k ∨ 475709467 ∣ k ∨ 92691255082156974996979 ∣ k ∨ 1125266252156850182658904441386709967 ∣ k := by
  refine Classical.byContradiction (fun hn => h1 ?_)
  simp only [not_or] at hn
  obtain ⟨n0, n1, n2, n3, n4, n5⟩ := hn
  rw [gN_234_f] at hk
  exact Nat.Coprime.eq_one_of_dvd (Nat.Coprime.mul_right (Nat.Coprime.mul_right (Nat.Coprime.mul_right (Nat.Coprime.mul_right (Nat.Coprime.mul_right (gc_2 n0) (gc_3 n1)) (gc_53 n2)) (gc_475709467 n3)) (gc_92691255082156974996979 n4)) (gc_1125266252156850182658904441386709967 n5)) hk
theorem gN_234_p2 : 2 ^ ((15778400344354997994418419698270088123916926905054652752758194827714659 - 1) / 2) % 15778400344354997994418419698270088123916926905054652752758194827714659 ≠ 1 := by
  rw [← pw2_eq 234 2 ((15778400344354997994418419698270088123916926905054652752758194827714659 - 1) / 2) (by decide +kernel)]
  decide +kernel
theorem gN_234_p3 : 2 ^ ((15778400344354997994418419698270088123916926905054652752758194827714659 - 1) / 3) % 15778400344354997994418419698270088123916926905054652752758194827714659 ≠ 1 := by
  rw [← pw2_eq 234 2 ((15778400344354997994418419698270088123916926905054652752758194827714659 - 1) / 3) (by decide +kernel)]
  decide +kernel
theorem gN_234_p53 : 2 ^ ((15778400344354997994418419698270088123916926905054652752758194827714659 - 1) / 53) % 15778400344354997994418419698270088123916926905054652752758194827714659 ≠ 1 := by
  rw [← pw2_eq 234 2 ((15778400344354997994418419698270088123916926905054652752758194827714659 - 1) / 53) (by decide +kernel)]
  decide +kernel
theorem gN_234_p475709467 : 2 ^ ((15778400344354997994418419698270088123916926905054652752758194827714659 - 1) / 475709467) % 15778400344354997994418419698270088123916926905054652752758194827714659 ≠ 1 := by
  rw [← pw2_eq 234 2 ((15778400344354997994418419698270088123916926905054652752758194827714659 - 1) / 475709467) (by decide +kernel)]
  decide +kernel
theorem gN_234_p92691255082156974996979 : 2 ^ ((15778400344354997994418419698270088123916926905054652752758194827714659 - 1) / 92691255082156974996979) % 15778400344354997994418419698270088123916926905054652752758194827714659 ≠ 1 := by
  rw [← pw2_eq 234 2 ((15778400344354997994418419698270088123916926905054652752758194827714659 - 1) / 92691255082156974996979) (by decide +kernel)]
  decide +kernel
theorem gN_234_p1125266252156850182658904441386709967 : 2 ^ ((15778400344354997994418419698270088123916926905054652752758194827714659 - 1) / 1125266252156850182658904441386709967) % 15778400344354997994418419698270088123916926905054652752758194827714659 ≠ 1 := by
  rw [← pw2_eq 234 2 ((15778400344354997994418419698270088123916926905054652752758194827714659 - 1) / 1125266252156850182658904441386709967) (by decide +kernel)]
  decide +kernel
theorem gN_234_g : 2 ^ (15778400344354997994418419698270088123916926905054652752758194827714659 - 1) % 15778400344354997994418419698270088123916926905054652752758194827714659 = 1 := by
  rw [← pw2_eq 234 2 (15778400344354997994418419698270088123916926905054652752758194827714659 - 1) (by decide +kernel)]
  decide +kernel
theorem gN_234 : GN 15778400344354997994418419698270088123916926905054652752758194827714659 2 := by
  refine ⟨by decide, gN_234_g, fun k hk h1 => ?_⟩
  rcases gN_234_d hk h1 with h | h | h | h | h | h
  · exact ⟨2, h, by decide, gN_234_p2⟩
  · exact ⟨3, h, by decide, gN_234_p3⟩
  · exact ⟨53, h, by decide, gN_234_p53⟩
  · exact ⟨475709467, h, by decide, gN_234_p475709467⟩
  · exact ⟨92691255082156974996979, h, by decide, gN_234_p92691255082156974996979⟩
  · exact ⟨1125266252156850182658904441386709967, h, by decide, gN_234_p1125266252156850182658904441386709967⟩
theorem gc_15778400344354997994418419698270088123916926905054652752758194827714659 {k : Nat} (hk : ¬ 15778400344354997994418419698270088123916926905054652752758194827714659 ∣ k) : Nat.Coprime k 15778400344354997994418419698270088123916926905054652752758194827714659 := gN_234.cop hk
theorem gN_Q_f : 4002409555221667393417789825735904156556882819939007885332058136124031650490837864442687629129015664037894272559787 - 1 = 2 * 3 ^ 2 * 11 * 23 * 47 * 10177 * 859267 * 52437899 * 2584487767265781317813 * 15778400344354997994418419698270088123916926905054652752758194827714659 := by decide +kernel
theorem gN_Q_d {k : Nat} (hk : k ∣ 4002409555221667393417789825735904156556882819939007885332058136124031650490837864442687629129015664037894272559787 - 1) (h1 : k ≠ 1) : 2 ∣ k ∨ 3 ∣ k ∨ 11 ∣ k ∨ 23 ∣ k ∨ 47 ∣ k ∨ 10177 ∣ k ∨ 859267 ∣ k ∨ 52437899 ∣ k ∨ 2584487767265781317813 ∣ k ∨ 15778400344354997994418419698270088123916926905054652752758194827714659 ∣ k := by
  refine Classical.byContradiction (fun hn => h1 ?_)
  simp only [not_or] at hn
  obtain ⟨n0, n1, n2, n3, n4, n5, n6, n7, n8, n9⟩ := hn
  rw [gN_Q_f] at hk
  exact Nat.Coprime.eq_one_of_dvd (Nat.Coprime.mul_right (Nat.Coprime.mul_right (Nat.Coprime.mul_right (Nat.Coprime.mul_right (Nat.Coprime.mul_right (Nat.Coprime.mul_right (Nat.Coprime.mul_right (Nat.Coprime.mul_right (Nat.Coprime.mul_right (gc_2 n0) ((gc_3 n1).pow_right 2)) (gc_11 n2)) (gc_23 n3)) (gc_47 n4)) (gc_10177 n5)) (gc_859267 n6)) (gc_52437899 n7)) (gc_2584487767265781317813 n8)) (gc_15778400344354997994418419698270088123916926905054652752758194827714659 n9)) hk
theorem gN_Q_p2 : 2 ^ ((4002409555221667393417789825735904156556882819939007885332058136124031650490837864442687629129015664037894272559787 - 1) / 2) % 4002409555221667393417789825735904156556882819939007885332058136124031650490837864442687629129015664037894272559787 ≠ 1 := by
  rw [← pw2_eq 381 2 ((4002409555221667393417789825735904156556882819939007885332058136124031650490837864442687629129015664037894272559787 - 1) / 2) (by decide +kernel)]
  decide +kernel
theorem gN_Q_p3 : 2 ^ ((4002409555221667393417789825735904156556882819939007885332058136124031650490837864442687629129015664037894272559787 - 1) / 3) % 4002409555221667393417789825735904156556882819939007885332058136124031650490837864442687629129015664037894272559787 ≠ 1 := by
  rw [← pw2_eq 381 2 ((4002409555221667393417789825735904156556882819939007885332058136124031650490837864442687629129015664037894272559787 - 1) / 3) (by decide +kernel)]
  decide +kernel
theorem gN_Q_p11 : 2 ^ ((4002409555221667393417789825735904156556882819939007885332058136124031650490837864442687629129015664037894272559787 - 1) / 11) % 4002409555221667393417789825735904156556882819939007885332058136124031650490837864442687629129015664037894272559787 ≠ 1 := by
  rw [← pw2_eq 381 2 ((4002409555221667393417789825735904156556882819939007885332058136124031650490837864442687629129015664037894272559787 - 1) / 11) (by decide +kernel)]
  decide +kernel
theorem gN_Q_p23 : 2 ^ ((4002409555221667393417789825735904156556882819939007885332058136124031650490837864442687629129015664037894272559787 - 1) / 23) % 4002409555221667393417789825735904156556882819939007885332058136124031650490837864442687629129015664037894272559787 ≠ 1 := by
  rw [← pw2_eq 381 2 ((4002409555221667393417789825735904156556882819939007885332058136124031650490837864442687629129015664037894272559787 - 1) / 23) (by decide +kernel)]
  decide +kernel
theorem gN_Q_p47 : 2 ^ ((4002409555221667393417789825735904156556882819939007885332058136124031650490837864442687629129015664037894272559787 - 1) / 47) % 4002409555221667393417789825735904156556882819939007885332058136124031650490837864442687629129015664037894272559787 ≠ 1 := by
  rw [← pw2_eq 381 2 ((4002409555221667393417789825735904156556882819939007885332058136124031650490837864442687629129015664037894272559787 - 1) / 47) (by decide +kernel)]
  decide +kernel
theorem gN_Q_p10177 : 2 ^ ((4002409555221667393417789825735904156556882819939007885332058136124031650490837864442687629129015664037894272559787 - 1) / 10177) % 4002409555221667393417789825735904156556882819939007885332058136124031650490837864442687629129015664037894272559787 ≠ 1 := by
  rw [← pw2_eq 381 2 ((4002409555221667393417789825735904156556882819939007885332058136124031650490837864442687629129015664037894272559787 - 1) / 10177) (by decide +kernel)]
  decide +kernel
theorem gN_Q_p859267 : 2 ^ ((4002409555221667393417789825735904156556882819939007885332058136124031650490837864442687629129015664037894272559787 - 1) / 859267) % 4002409555221667393417789825735904156556882819939007885332058136124031650490837864442687629129015664037894272559787 ≠ 1 := by
  rw [← pw2_eq 381 2 ((4002409555221667393417789825735904156556882819939007885332058136124031650490837864442687629129015664037894272559787 - 1) / 859267) (by decide +kernel)]
  decide +kernel
theorem gN_Q_p52437899 : 2 ^ ((4002409555221667393417789825735904156556882819939007885332058136124031650490837864442687629129015664037894272559787 - 1) / 52437899) % 4002409555221667393417789825735904156556882819939007885332058136124031650490837864442687629129015664037894272559787 ≠ 1 := by
  rw [← pw2_eq 381 2 ((4002409555221667393417789825735904156556882819939007885332058136124031650490837864442687629129015664037894272559787 - 1) / 52437899) (by decide +kernel)]
  decide +kernel
theorem gN_Q_p2584487767265781317813 : 2 ^ ((4002409555221667393417789825735904156556882819939007885332058136124031650490837864442687629129015664037894272559787 - 1) / 2584487767265781317813) % 4002409555221667393417789825735904156556882819939007885332058136124031650490837864442687629129015664037894272559787 ≠ 1 := by
  rw [← pw2_eq 381 2 ((4002409555221667393417789825735904156556882819939007885332058136124031650490837864442687629129015664037894272559787 - 1) / 2584487767265781317813) (by decide +kernel)]
  decide +kernel
theorem gN_Q_p15778400344354997994418419698270088123916926905054652752758194827714659 : 2 ^ ((4002409555221667393417789825735904156556882819939007885332058136124031650490837864442687629129015664037894272559787 - 1) / 15778400344354997994418419698270088123916926905054652752758194827714659) % 4002409555221667393417789825735904156556882819939007885332058136124031650490837864442687629129015664037894272559787 ≠ 1 := by
  rw [← pw2_eq 381 2 ((4002409555221667393417789825735904156556882819939007885332058136124031650490837864442687629129015664037894272559787 - 1) / 15778400344354997994418419698270088123916926905054652752758194827714659) (by decide +kernel)]
  decide +kernel
theorem gN_Q_g : 2 ^ (4002409555221667393417789825735904156556882819939007885332058136124031650490837864442687629129015664037894272559787 - 1) % 4002409555221667393417789825735904156556882819939007885332058136124031650490837864442687629129015664037894272559787 = 1 := by
  rw [← pw2_eq 381 2 (4002409555221667393417789825735904156556882819939007885332058136124031650490837864442687629129015664037894272559787 - 1) (by decide +kernel)]
  decide +kernel
theorem gN_Q : GN 4002409555221667393417789825735904156556882819939007885332058136124031650490837864442687629129015664037894272559787 2 := by
  refine ⟨by decide, gN_Q_g, fun k hk h1 => ?_⟩
  rcases gN_Q_d hk h1 with h | h | h | h | h | h | h | h | h | h
  · exact ⟨2, h, by decide, gN_Q_p2⟩
  · exact ⟨3, h, by decide, gN_Q_p3⟩
  · exact ⟨11, h, by decide, gN_Q_p11⟩
  · exact ⟨23, h, by decide, gN_Q_p23⟩
  · exact ⟨47, h, by decide, gN_Q_p47⟩
  · exact ⟨10177, h, by decide, gN_Q_p10177⟩
  · exact ⟨859267, h, by decide, gN_Q_p859267⟩
  · exact ⟨52437899, h, by decide, gN_Q_p52437899⟩
  · exact ⟨2584487767265781317813, h, by decide, gN_Q_p2584487767265781317813⟩
  · exact ⟨15778400344354997994418419698270088123916926905054652752758194827714659, h, by decide, gN_Q_p15778400344354997994418419698270088123916926905054652752758194827714659⟩
theorem gc_Q {k : Nat} (hk : ¬ 4002409555221667393417789825735904156556882819939007885332058136124031650490837864442687629129015664037894272559787 ∣ k) : Nat.Coprime k 4002409555221667393417789825735904156556882819939007885332058136124031650490837864442687629129015664037894272559787 := gN_Q.cop hk
def QN : Nat := 4002409555221667393417789825735904156556882819939007885332058136124031650490837864442687629129015664037894272559787
theorem gN : GN QN 2 := gN_Q
