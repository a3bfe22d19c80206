
/-! numbers modulo R: every one but 0 to the R - 1 is 1 -/
def RN : Nat := 52435875175126190479447740508185965837690552500527637822603658699938581184513
theorem RN_pos : 0 < RN := by decide
theorem md_mul {m a b c d : Nat} (h : a % m = b % m) (h' : c % m = d % m) : (a * c) % m = (b * d) % m := by rw [Nat.mul_mod, h, h', ← Nat.mul_mod]
theorem md_add {m a b c d : Nat} (h : a % m = b % m) (h' : c % m = d % m) : (a + c) % m = (b + d) % m := by rw [Nat.add_mod, h, h', ← Nat.add_mod]
theorem md_pow {m a b : Nat} (h : a % m = b % m) (n : Nat) : (a ^ n) % m = (b ^ n) % m := by
  induction n with
  | zero => rfl
  | succ n ih => rw [Nat.pow_succ, Nat.pow_succ]; exact md_mul ih h
/-- powers, quickly -/
def pw2 (m : Nat) : Nat → Nat → Nat → Nat
  | 0, _, _ => 1 % m
  | n + 1, x, e => if e = 0 then 1 % m else if e % 2 = 1 then x * pw2 m n (x * x % m) (e / 2) % m else pw2 m n (x * x % m) (e / 2)
theorem pw2_eq {m : Nat} : ∀ (n x e : Nat), e < 2 ^ n → pw2 m n x e = x ^ e % m := by
  intro n
  induction n with
  | zero =>
    intro x e h
    have h0 : e = 0 := by
      have : (2 : Nat) ^ 0 = 1 := rfl
      omega
    subst h0
    rfl
  | succ n ih =>
    intro x e h
    unfold pw2
    by_cases h0 : e = 0
    · subst h0
      rfl
    · rw [if_neg h0]
      have hl : e / 2 < 2 ^ n := by
        rw [Nat.pow_succ] at h
        omega
      have e1 : pw2 m n (x * x % m) (e / 2) = (x * x) ^ (e / 2) % m := by
        rw [ih _ _ hl]
        exact md_pow (Nat.mod_mod _ _) _
      have e2 : (x * x) ^ (e / 2) = x ^ (2 * (e / 2)) := by
        rw [Nat.pow_mul, Nat.pow_two]
      rw [e1, e2]
      by_cases ho : e % 2 = 1
      · rw [if_pos ho]
        have e3 : e = 2 * (e / 2) + 1 := by omega
        have e4 : x * (x ^ (2 * (e / 2)) % m) % m = (x * x ^ (2 * (e / 2))) % m := md_mul rfl (Nat.mod_mod _ _)
        rw [e4, ← Nat.pow_succ']
        congr 2
        exact e3.symm
      · rw [if_neg ho]
        congr 2
        omega
theorem fm_g : 7 ^ (RN - 1) % RN = 1 := by
  rw [← pw2_eq 256 7 (RN - 1) (by decide +kernel)]
  decide +kernel
theorem fm_p2 : 7 ^ ((RN - 1) / 2) % RN ≠ 1 := by
  rw [← pw2_eq 256 7 ((RN - 1) / 2) (by decide +kernel)]
  decide +kernel
theorem fm_p3 : 7 ^ ((RN - 1) / 3) % RN ≠ 1 := by
  rw [← pw2_eq 256 7 ((RN - 1) / 3) (by decide +kernel)]
  decide +kernel
theorem fm_p11 : 7 ^ ((RN - 1) / 11) % RN ≠ 1 := by
  rw [← pw2_eq 256 7 ((RN - 1) / 11) (by decide +kernel)]
  decide +kernel
theorem fm_p19 : 7 ^ ((RN - 1) / 19) % RN ≠ 1 := by
  rw [← pw2_eq 256 7 ((RN - 1) / 19) (by decide +kernel)]
  decide +kernel
theorem fm_p10177 : 7 ^ ((RN - 1) / 10177) % RN ≠ 1 := by
  rw [← pw2_eq 256 7 ((RN - 1) / 10177) (by decide +kernel)]
  decide +kernel
theorem fm_p125527 : 7 ^ ((RN - 1) / 125527) % RN ≠ 1 := by
  rw [← pw2_eq 256 7 ((RN - 1) / 125527) (by decide +kernel)]
  decide +kernel
theorem fm_p859267 : 7 ^ ((RN - 1) / 859267) % RN ≠ 1 := by
  rw [← pw2_eq 256 7 ((RN - 1) / 859267) (by decide +kernel)]
  decide +kernel
theorem fm_p906349 : 7 ^ ((RN - 1) / 906349) % RN ≠ 1 := by
  rw [← pw2_eq 256 7 ((RN - 1) / 906349) (by decide +kernel)]
  decide +kernel
theorem fm_p2508409 : 7 ^ ((RN - 1) / 2508409) % RN ≠ 1 := by
  rw [← pw2_eq 256 7 ((RN - 1) / 2508409) (by decide +kernel)]
  decide +kernel
theorem fm_p2529403 : 7 ^ ((RN - 1) / 2529403) % RN ≠ 1 := by
  rw [← pw2_eq 256 7 ((RN - 1) / 2529403) (by decide +kernel)]
  decide +kernel
theorem fm_p52437899 : 7 ^ ((RN - 1) / 52437899) % RN ≠ 1 := by
  rw [← pw2_eq 256 7 ((RN - 1) / 52437899) (by decide +kernel)]
  decide +kernel
theorem fm_p254760293 : 7 ^ ((RN - 1) / 254760293) % RN ≠ 1 := by
  rw [← pw2_eq 256 7 ((RN - 1) / 254760293) (by decide +kernel)]
  decide +kernel
/-- no divisor from d on, n of them, leaves nothing of p -/
def trial (p : Nat) : Nat → Nat → Bool
  | 0, _ => true
  | n + 1, d => if p % d = 0 then false else trial p n (d + 1)
theorem trial_sp {p : Nat} : ∀ (n d : Nat), trial p n d = true → ∀ k, d ≤ k → k < d + n → p % k ≠ 0 := by
  intro n
  induction n with
  | zero => intro d _ k h1 h2; omega
  | succ n ih =>
    intro d h k h1 h2
    unfold trial at h
    by_cases hd : p % d = 0
    · rw [if_pos hd] at h
      exact absurd h (by decide)
    · rw [if_neg hd] at h
      by_cases e : k = d
      · subst e
        exact hd
      · exact ih (d + 1) h k (by omega) (by omega)
theorem prime_sp {p r : Nat} (hr : p < r * r) (h : trial p (r - 2) 2 = true) {d : Nat} (hd : d ∣ p) (hp : 1 < p) : d = 1 ∨ d = p := by
  obtain ⟨e, rfl⟩ := hd
  have hd0 : 0 < d := Nat.pos_of_ne_zero (fun z => by subst z; omega)
  have he0 : 0 < e := Nat.pos_of_ne_zero (fun z => by subst z; omega)
  have key : ∀ a b, a * b = d * e → 2 ≤ a → ¬ a < r := fun a b hab ha hlt => trial_sp _ _ h a ha (by omega) (by rw [← hab]; exact Nat.mul_mod_right a b)
  by_cases h1 : d = 1
  · exact Or.inl h1
  · by_cases h2 : e = 1
    · subst h2
      exact Or.inr (Nat.mul_one d).symm
    · have k1 := key d e rfl (by omega)
      have k2 := key e d (Nat.mul_comm e d) (by omega)
      have : r * r ≤ d * e := Nat.mul_le_mul (by omega) (by omega)
      omega
theorem cop_sp {p r k : Nat} (hr : p < r * r) (h : trial p (r - 2) 2 = true) (hp : 1 < p) (hk : ¬ p ∣ k) : Nat.Coprime k p := by
  rcases prime_sp hr h (Nat.gcd_dvd_right k p) hp with e | e
  · exact e
  · exact absurd (by have := Nat.gcd_dvd_left k p; rw [e] at this; exact this) hk
theorem fm_c2 {k : Nat} (hk : ¬ 2 ∣ k) : Nat.Coprime k 2 := cop_sp (r := 2) (by decide) (by decide +kernel) (by decide) hk
theorem fm_c3 {k : Nat} (hk : ¬ 3 ∣ k) : Nat.Coprime k 3 := cop_sp (r := 2) (by decide) (by decide +kernel) (by decide) hk
theorem fm_c11 {k : Nat} (hk : ¬ 11 ∣ k) : Nat.Coprime k 11 := cop_sp (r := 4) (by decide) (by decide +kernel) (by decide) hk
theorem fm_c19 {k : Nat} (hk : ¬ 19 ∣ k) : Nat.Coprime k 19 := cop_sp (r := 5) (by decide) (by decide +kernel) (by decide) hk
theorem fm_c10177 {k : Nat} (hk : ¬ 10177 ∣ k) : Nat.Coprime k 10177 := cop_sp (r := 101) (by decide) (by decide +kernel) (by decide) hk
theorem fm_c125527 {k : Nat} (hk : ¬ 125527 ∣ k) : Nat.Coprime k 125527 := cop_sp (r := 355) (by decide) (by decide +kernel) (by decide) hk
theorem fm_c859267 {k : Nat} (hk : ¬ 859267 ∣ k) : Nat.Coprime k 859267 := cop_sp (r := 927) (by decide) (by decide +kernel) (by decide) hk
theorem fm_c906349 {k : Nat} (hk : ¬ 906349 ∣ k) : Nat.Coprime k 906349 := cop_sp (r := 953) (by decide) (by decide +kernel) (by decide) hk
theorem fm_c2508409 {k : Nat} (hk : ¬ 2508409 ∣ k) : Nat.Coprime k 2508409 := cop_sp (r := 1584) (by decide) (by decide +kernel) (by decide) hk
theorem fm_c2529403 {k : Nat} (hk : ¬ 2529403 ∣ k) : Nat.Coprime k 2529403 := cop_sp (r := 1591) (by decide) (by decide +kernel) (by decide) hk
theorem fm_c52437899 {k : Nat} (hk : ¬ 52437899 ∣ k) : Nat.Coprime k 52437899 := cop_sp (r := 7242) (by decide) (by decide +kernel) (by decide) hk
theorem fm_c254760293 {k : Nat} (hk : ¬ 254760293 ∣ k) : Nat.Coprime k 254760293 := cop_sp (r := 15962) (by decide) (by decide +kernel) (by decide) hk
theorem fm_f : RN - 1 = 2 ^ 32 * 3 * 11 * 19 * 10177 * 125527 * 859267 * 906349 ^ 2 * 2508409 * 2529403 * 52437899 * 254760293 ^ 2 := by decide +kernel
theorem fm_div {k : Nat} (hk : k ∣ RN - 1) (h1 : k ≠ 1) : 2 ∣ k ∨ 3 ∣ k ∨ 11 ∣ k ∨ 19 ∣ k ∨ 10177 ∣ k ∨ 125527 ∣ k ∨ 859267 ∣ k ∨ 906349 ∣ k ∨ 2508409 ∣ k ∨ 2529403 ∣ k ∨ 52437899 ∣ k ∨ 254760293 ∣ k := by
  refine Classical.byContradiction (fun hn => h1 ?_)
  simp only [not_or] at hn
  obtain ⟨n0, n1, n2, n3, n4, n5, n6, n7, n8, n9, n10, n11⟩ := hn
  rw [fm_f] at hk
  exact Nat.Coprime.eq_one_of_dvd (Nat.Coprime.mul_right (Nat.Coprime.mul_right (Nat.Coprime.mul_right (Nat.Coprime.mul_right (Nat.Coprime.mul_right (Nat.Coprime.mul_right (Nat.Coprime.mul_right (Nat.Coprime.mul_right (Nat.Coprime.mul_right (Nat.Coprime.mul_right (Nat.Coprime.mul_right ((fm_c2 n0).pow_right 32) (fm_c3 n1)) (fm_c11 n2)) (fm_c19 n3)) (fm_c10177 n4)) (fm_c125527 n5)) (fm_c859267 n6)) ((fm_c906349 n7).pow_right 2)) (fm_c2508409 n8)) (fm_c2529403 n9)) (fm_c52437899 n10)) ((fm_c254760293 n11).pow_right 2)) hk
theorem one_mod : 1 % RN = 1 := by decide
/-- where 7 to the n is 1 -/
theorem fm_mod {a b : Nat} (ha : 7 ^ a % RN = 1) (hb : 7 ^ b % RN = 1) : 7 ^ (a % b) % RN = 1 := by
  have h1 : 7 ^ a = (7 ^ b) ^ (a / b) * 7 ^ (a % b) := by rw [← Nat.pow_mul, ← Nat.pow_add, Nat.div_add_mod]
  have h2 : (7 ^ b) ^ (a / b) % RN = 1 % RN := by
    have := md_pow (m := RN) (show 7 ^ b % RN = 1 % RN by rw [hb, one_mod]) (a / b)
    rw [Nat.one_pow] at this
    exact this
  have h3 := md_mul (m := RN) h2 (rfl : 7 ^ (a % b) % RN = 7 ^ (a % b) % RN)
  rw [← h1, Nat.one_mul, ha] at h3
  exact h3.symm
theorem fm_gcd (a b : Nat) : 7 ^ a % RN = 1 → 7 ^ b % RN = 1 → 7 ^ (Nat.gcd a b) % RN = 1 := by
  induction a, b using Nat.gcd.induction with
  | H0 n => intro _ h; rw [Nat.gcd_zero_left]; exact h
  | H1 m n hm ih => intro h1 h2; rw [Nat.gcd_rec]; exact ih (fm_mod h2 h1) h1
theorem fm_dv {g p : Nat} (hg : 7 ^ g % RN = 1) (hd : g ∣ RN - 1) (hp : p ∣ (RN - 1) / g) (hp0 : 0 < p) : 7 ^ ((RN - 1) / p) % RN = 1 := by
  obtain ⟨k, hk⟩ := hd
  have hg0 : 0 < g := Nat.pos_of_ne_zero (fun z => by subst z; rw [Nat.zero_mul] at hk; exact absurd hk (by decide))
  have e1 : (RN - 1) / g = k := by rw [hk, Nat.mul_div_cancel_left _ hg0]
  rw [e1] at hp
  obtain ⟨j, rfl⟩ := hp
  have e2 : (RN - 1) / p = g * j := by
    rw [hk, show g * (p * j) = p * (g * j) by rw [Nat.mul_left_comm], Nat.mul_div_cancel_left _ hp0]
  rw [e2, Nat.pow_mul]
  have := md_pow (m := RN) (show 7 ^ g % RN = 1 % RN by rw [hg, one_mod]) j
  rw [Nat.one_pow, one_mod] at this
  exact this
theorem fm_ord {e : Nat} (h0 : 0 < e) (h1 : e < RN - 1) : 7 ^ e % RN ≠ 1 := by
  intro h
  have hg := fm_gcd e (RN - 1) h fm_g
  have hd := Nat.gcd_dvd_right e (RN - 1)
  have hle : Nat.gcd e (RN - 1) ≤ e := Nat.le_of_dvd h0 (Nat.gcd_dvd_left _ _)
  generalize Nat.gcd e (RN - 1) = g at *
  have hk : (RN - 1) / g ∣ RN - 1 := Nat.div_dvd_of_dvd hd
  have hk1 : (RN - 1) / g ≠ 1 := by
    intro z
    obtain ⟨k, hk⟩ := hd
    have hg0 : 0 < g := Nat.pos_of_ne_zero (fun z => by subst z; rw [Nat.zero_mul] at hk; exact absurd hk (by decide))
    rw [hk, Nat.mul_div_cancel_left _ hg0] at z
    rw [z, Nat.mul_one] at hk
    omega
  rcases fm_div hk hk1 with h | h | h | h | h | h | h | h | h | h | h | h
  · exact fm_p2 (fm_dv hg hd h (by decide))
  · exact fm_p3 (fm_dv hg hd h (by decide))
  · exact fm_p11 (fm_dv hg hd h (by decide))
  · exact fm_p19 (fm_dv hg hd h (by decide))
  · exact fm_p10177 (fm_dv hg hd h (by decide))
  · exact fm_p125527 (fm_dv hg hd h (by decide))
  · exact fm_p859267 (fm_dv hg hd h (by decide))
  · exact fm_p906349 (fm_dv hg hd h (by decide))
  · exact fm_p2508409 (fm_dv hg hd h (by decide))
  · exact fm_p2529403 (fm_dv hg hd h (by decide))
  · exact fm_p52437899 (fm_dv hg hd h (by decide))
  · exact fm_p254760293 (fm_dv hg hd h (by decide))
/-- what goes into n places, each into its own, fills them -/
theorem pig : ∀ (n : Nat) (f : Nat → Nat), (∀ i, i < n → f i < n) → (∀ i j, i < j → j < n → f i ≠ f j) → ∀ y, y < n → ∃ i, i < n ∧ f i = y := by
  intro n
  induction n with
  | zero => intro f _ _ y hy; omega
  | succ n ih =>
    intro f hf hi y hy
    have inj : ∀ i j, i < n + 1 → j < n + 1 → f i = f j → i = j := by
      intro i j h1 h2 h
      rcases Nat.lt_trichotomy i j with c | c | c
      · exact absurd h (hi i j c h2)
      · exact c
      · exact absurd h.symm (hi j i c h1)
    have hz := hf n (by omega)
    by_cases hyz : y = f n
    · exact ⟨n, by omega, hyz.symm⟩
    · have hg : ∀ i, i < n → (if f i = n then f n else f i) < n := by
        intro i h
        have h1 := hf i (by omega)
        split
        · rename_i e
          have : f n ≠ n := fun e2 => by have := inj i n (by omega) (by omega) (e.trans e2.symm); omega
          omega
        · omega
      have hgi : ∀ i j, i < j → j < n → (if f i = n then f n else f i) ≠ (if f j = n then f n else f j) := by
        intro i j h1 h2 h
        split at h <;> split at h
        · rename_i a b
          have := inj i j (by omega) (by omega) (a.trans b.symm)
          omega
        · have := inj n j (by omega) (by omega) h
          omega
        · have := inj i n (by omega) (by omega) h
          omega
        · have := inj i j (by omega) (by omega) h
          omega
      by_cases hyn : y = n
      · subst hyn
        have hzn : f y < y := by omega
        obtain ⟨i, h1, h2⟩ := ih (fun i => if f i = y then f y else f i) hg hgi (f y) hzn
        have h2' : (if f i = y then f y else f i) = f y := h2
        by_cases c : f i = y
        · exact ⟨i, by omega, c⟩
        · rw [if_neg c] at h2'
          have := inj i y (by omega) (by omega) h2'
          omega
      · obtain ⟨i, h1, h2⟩ := ih (fun i => if f i = n then f n else f i) hg hgi y (by omega)
        have h2' : (if f i = n then f n else f i) = y := h2
        by_cases c : f i = n
        · rw [if_pos c] at h2'
          exact absurd h2'.symm hyz
        · rw [if_neg c] at h2'
          exact ⟨i, by omega, h2'⟩
theorem fm_nz {i : Nat} (h : i ≤ RN - 1) : 7 ^ i % RN ≠ 0 := by
  intro hz
  have h1 : 7 ^ (RN - 1) = 7 ^ i * 7 ^ (RN - 1 - i) := by rw [← Nat.pow_add, Nat.add_sub_cancel' h]
  have h2 := fm_g
  rw [h1] at h2
  have h3 := md_mul (m := RN) (show 7 ^ i % RN = 0 % RN by rw [hz]; rfl) (rfl : 7 ^ (RN - 1 - i) % RN = _)
  rw [h2, Nat.zero_mul] at h3
  exact absurd h3 (by decide)
theorem fm_log {x : Nat} (h : x % RN ≠ 0) : ∃ i, 7 ^ i % RN = x % RN := by
  have hx := Nat.mod_lt x RN_pos
  obtain ⟨i, h1, h2⟩ := pig (RN - 1) (fun i => 7 ^ i % RN - 1) (fun i hi => by
      have a := fm_nz (Nat.le_of_lt hi)
      have b := Nat.mod_lt (7 ^ i) RN_pos
      show 7 ^ i % RN - 1 < RN - 1
      omega) (fun i j hij hj h => by
      have a := fm_nz (i := i) (by omega)
      have b := fm_nz (i := j) (by omega)
      have e : 7 ^ i % RN = 7 ^ j % RN := by
        have h' : 7 ^ i % RN - 1 = 7 ^ j % RN - 1 := h
        omega
      have e1 := md_mul (m := RN) e (rfl : 7 ^ (RN - 1 - i) % RN = _)
      rw [← Nat.pow_add, ← Nat.pow_add, show i + (RN - 1 - i) = RN - 1 by omega, show j + (RN - 1 - i) = (RN - 1) + (j - i) by omega, Nat.pow_add, fm_g] at e1
      have e2 := md_mul (m := RN) (show 7 ^ (RN - 1) % RN = 1 % RN by rw [fm_g, one_mod]) (rfl : 7 ^ (j - i) % RN = _)
      rw [Nat.one_mul] at e2
      exact fm_ord (e := j - i) (by omega) (by omega) (e2.symm.trans e1.symm)) (x % RN - 1) (by omega)
  have h2' : 7 ^ i % RN - 1 = x % RN - 1 := h2
  have a := fm_nz (Nat.le_of_lt h1)
  exact ⟨i, by omega⟩
theorem fermatR {x : Nat} (h : x % RN ≠ 0) : x ^ (RN - 1) % RN = 1 := by
  obtain ⟨i, hi⟩ := fm_log h
  rw [← md_pow hi, ← Nat.pow_mul, Nat.mul_comm, Nat.pow_mul]
  have := md_pow (m := RN) (show 7 ^ (RN - 1) % RN = 1 % RN by rw [fm_g, one_mod]) i
  rw [Nat.one_pow, one_mod] at this
  exact this
