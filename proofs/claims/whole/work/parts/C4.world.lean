/-! the points of the desk -/
def G9 : P3 := (3685416753713387016781088315183077757961620795782546409894578378688607592378376318836054947676345821548104185464507, 1339506544944476473020471379941921221584933875938349620426543736416511423956333506472724655353366534992391756441569, 1)
theorem G9_on : onC G9 := ⟨by
  show cq (CE G9.1 G9.2.1 G9.2.2) 0
  unfold cq CE ecI
  decide +kernel, Or.inr (Or.inr nq_1)⟩
def PTS (g : WG) (H : Heap) (b : Nat) (P : Nat → P3) : Prop := ∀ k, k < 12 → LPt g H (kPA1 b k) (kPA2 b k) (kPA3 b k) (P k) ∧ onC (P k)
def PWS (g : WG) (H : Heap) (b pn : Nat) (W : Nat → P3) : Prop := ∀ k, k < pn → LPt g H (kPW1 b k) (kPW2 b k) (kPW3 b k) (W k) ∧ onC (W k)
def CX (g : WG) (H : Heap) (b : Nat) : Prop := CQ g H b ∧ LPt g H (b + 496) (b + 497) (b + 498) G9 ∧ ∃ f, AJ g H (b + 173) 14 f ∧ RV f (QJ - 2)
/-- what the points' methods use as scratch -/
def kPS (b q : Nat) : Prop := (b + 177 ≤ q ∧ q ≤ b + 185) ∨ q = b + 174 ∨ (b + 188 ≤ q ∧ q ≤ b + 443) ∨ (b + 445 ≤ q ∧ q ≤ b + 464) ∨ (b + 153 ≤ q ∧ q ≤ b + 155) ∨ (b + 157 ≤ q ∧ q ≤ b + 161) ∨ q = b + 167
def kPQ (b k q : Nat) : Prop := kPS b q ∨ q = kPA1 b k ∨ q = kPA2 b k ∨ q = kPA3 b k
theorem pa_ps {b k : Nat} (hk : k < 12) : ¬ kPS b (kPA1 b k) ∧ ¬ kPS b (kPA2 b k) ∧ ¬ kPS b (kPA3 b k) := by unfold kPS kPA1 kPA2 kPA3; omega
theorem pw_ps {b k : Nat} (hk : k < 16) : ¬ kPS b (kPW1 b k) ∧ ¬ kPS b (kPW2 b k) ∧ ¬ kPS b (kPW3 b k) := by unfold kPS kPW1 kPW2 kPW3; omega
theorem ge_ps {b : Nat} : ¬ kPS b (b + 496) ∧ ¬ kPS b (b + 497) ∧ ¬ kPS b (b + 498) := by unfold kPS; omega
theorem sc_ps {b k : Nat} (hk : k < 32) : ¬ kPS b (kSc b k) := by unfold kPS kSc; omega
theorem PTS.at {g : WG} {H H' : Heap} {b k : Nat} {P : Nat → P3} (h : PTS g H b P) (hk : KJ g (kPS b) H H') (h12 : k < 12) : LPt g H' (kPA1 b k) (kPA2 b k) (kPA3 b k) (P k) := (h k h12).1.off hk (pa_ps h12).1 (pa_ps h12).2.1 (pa_ps h12).2.2
theorem PWS.at {g : WG} {H H' : Heap} {b k pn : Nat} {W : Nat → P3} (h : PWS g H b pn W) (hk : KJ g (kPS b) H H') (hp : k < pn) (h16 : k < 16) : LPt g H' (kPW1 b k) (kPW2 b k) (kPW3 b k) (W k) := (h k hp).1.off hk (pw_ps h16).1 (pw_ps h16).2.1 (pw_ps h16).2.2
theorem LPt.ge {g : WG} {H H' : Heap} {b : Nat} {P : P3} (h : LPt g H (b + 496) (b + 497) (b + 498) P) (hk : KJ g (kPS b) H H') : LPt g H' (b + 496) (b + 497) (b + 498) P := h.off hk ge_ps.1 ge_ps.2.1 ge_ps.2.2
theorem AJ.q0 {g : WG} {H H' : Heap} {b : Nat} {f : Nat → Int64} (h : AJ g H (b + 175) 14 f) (hk : KJ g (kPS b) H H') : AJ g H' (b + 175) 14 f := hk.ajo (by unfold kPS; omega) h
theorem pa_X {b k : Nat} (hk : k < 12) : ∀ i, i < 9 → kPA1 b k ≠ kX b i ∧ kPA2 b k ≠ kX b i ∧ kPA3 b k ≠ kX b i := by intro i hi; unfold kPA1 kPA2 kPA3 kX; omega
theorem pw_X {b k : Nat} (hk : k < 16) : ∀ i, i < 9 → kPW1 b k ≠ kX b i ∧ kPW2 b k ≠ kX b i ∧ kPW3 b k ≠ kX b i := by intro i hi; unfold kPW1 kPW2 kPW3 kX; omega
theorem pa_O {b k : Nat} (hk : k < 12) : ∀ j, j < 64 → (kPA1 b k ≠ kO1 b j ∧ kPA1 b k ≠ kO2 b j ∧ kPA1 b k ≠ kO3 b j) ∧ (kPA2 b k ≠ kO1 b j ∧ kPA2 b k ≠ kO2 b j ∧ kPA2 b k ≠ kO3 b j) ∧ kPA3 b k ≠ kO1 b j ∧ kPA3 b k ≠ kO2 b j ∧ kPA3 b k ≠ kO3 b j := by intro j hj; unfold kPA1 kPA2 kPA3 kO1 kO2 kO3; omega
theorem pw_O {b k : Nat} (hk : k < 16) : ∀ j, j < 64 → (kPW1 b k ≠ kO1 b j ∧ kPW1 b k ≠ kO2 b j ∧ kPW1 b k ≠ kO3 b j) ∧ (kPW2 b k ≠ kO1 b j ∧ kPW2 b k ≠ kO2 b j ∧ kPW2 b k ≠ kO3 b j) ∧ kPW3 b k ≠ kO1 b j ∧ kPW3 b k ≠ kO2 b j ∧ kPW3 b k ≠ kO3 b j := by intro j hj; unfold kPW1 kPW2 kPW3 kO1 kO2 kO3; omega
theorem pa_ne {b k : Nat} (hk : k < 12) : (kPA1 b k ≠ kPA2 b k ∧ kPA1 b k ≠ kPA3 b k ∧ kPA2 b k ≠ kPA3 b k) ∧ (b + 463 ≠ kPA1 b k ∧ b + 464 ≠ kPA1 b k ∧ b + 464 ≠ kPA2 b k) ∧ kFq b 0 ≠ kPA1 b k ∧ kFq b 0 ≠ kPA2 b k ∧ kFq b 0 ≠ kPA3 b k ∧ kPA1 b k ≠ kFq b 5 ∧ kPA2 b k ≠ kFq b 5 ∧ kPA3 b k ≠ kFq b 5 := by rw [kFq_0, kFq_5]; unfold kPA1 kPA2 kPA3; omega
theorem pa_nJ {b k : Nat} (hk : k < 12) : nJ b (kPA1 b k) ∧ nJ b (kPA2 b k) ∧ nJ b (kPA3 b k) := by unfold nJ nD kPA1 kPA2 kPA3 kE; omega
theorem ftk_S {b t q : Nat} (ht : t < 16) (h : (fun q => (∃ i, i < 9 ∧ q = kX b i) ∨ q = kFq b 5 ∨ q = (b + 462) ∨ q = (b + 463) ∨ q = (b + 464) ∨ ∃ k, t * 4 ≤ k ∧ k < t * 4 + 4 ∧ (q = kO1 b k ∨ q = kO2 b k ∨ q = kO3 b k)) q) : kPS b q ∧ nJ b q := by
  rcases h with ⟨i, hi, rfl⟩ | rfl | rfl | rfl | rfl | ⟨k, h1, h2, h3⟩
  · exact ⟨by unfold kPS kX; omega, kx_nJ hi⟩
  · exact ⟨by rw [kFq_5]; unfold kPS; omega, k5_nJ⟩
  · exact ⟨by unfold kPS; omega, kc_nJ (by decide)⟩
  · exact ⟨by unfold kPS; omega, kc_nJ (by decide)⟩
  · exact ⟨by unfold kPS; omega, kc_nJ (by decide)⟩
  · have h4 := ko_nJ (b := b) (k := k) (by omega)
    rcases h3 with rfl | rfl | rfl
    · exact ⟨by unfold kPS kO1; omega, h4.1⟩
    · exact ⟨by unfold kPS kO2; omega, h4.2.1⟩
    · exact ⟨by unfold kPS kO3; omega, h4.2.2⟩
theorem dg_S {b t : Nat} (ht : t < 16) : kPS b (kDG b t) := by unfold kPS kDG; omega
theorem ftot_S {b q t1 t2 t3 : Nat} (h : (fun q => (∃ i, i < 9 ∧ q = kX b i) ∨ q = kFq b 5 ∨ q = (b + 462) ∨ q = (b + 463) ∨ q = (b + 464) ∨ q = t1 ∨ q = t2 ∨ q = t3) q) : kPS b q ∨ q = t1 ∨ q = t2 ∨ q = t3 := by
  rcases h with ⟨i, hi, rfl⟩ | rfl | rfl | rfl | rfl | h
  · exact Or.inl (by unfold kPS kX; omega)
  · exact Or.inl (by rw [kFq_5]; unfold kPS; omega)
  · exact Or.inl (by unfold kPS; omega)
  · exact Or.inl (by unfold kPS; omega)
  · exact Or.inl (by unfold kPS; omega)
  · exact Or.inr h
theorem ftot_J {b q t1 t2 t3 : Nat} (h1 : nJ b t1) (h2 : nJ b t2) (h3 : nJ b t3) (h : (fun q => (∃ i, i < 9 ∧ q = kX b i) ∨ q = kFq b 5 ∨ q = (b + 462) ∨ q = (b + 463) ∨ q = (b + 464) ∨ q = t1 ∨ q = t2 ∨ q = t3) q) : nJ b q := by
  rcases h with ⟨i, hi, rfl⟩ | rfl | rfl | rfl | rfl | rfl | rfl | rfl
  · exact kx_nJ hi
  · exact k5_nJ
  · exact kc_nJ (by decide)
  · exact kc_nJ (by decide)
  · exact kc_nJ (by decide)
  · exact h1
  · exact h2
  · exact h3
/-- what the sums hold of n terms -/
def TBL (g : WG) (H : Heap) (b : Nat) (P : Nat → P3) (Ai : Nat → Nat) (n : Nat) : Prop := ∀ t, t < n → (∃ f, AB g H (kDG b t) 257 f ∧ (∀ j, j < 257 → DO (f j)) ∧ DSg (fun j => (f j).toInt) 257 = ((Ai t : Nat) : Int) ∧ (Ai t = 0 → ∀ j, f j = 0)) ∧ (Ai t ≠ 0 → ∀ m9 : Nat, m9 < 4 → ∃ W, RP (P t) (2 * (m9 : Int) + 1) W ∧ LPt g H (kO1 b (t * 4 + m9)) (kO2 b (t * 4 + m9)) (kO3 b (t * 4 + m9)) W)
theorem o_ft {b i t m9 : Nat} (hi : i < 16) (ht : t < 16) (hn : t ≠ i) (hm : m9 < 4) : (¬ (kO1 b (t * 4 + m9) = kDG b i ∨ (fun q => (∃ i, i < 9 ∧ q = kX b i) ∨ q = kFq b 5 ∨ q = (b + 462) ∨ q = (b + 463) ∨ q = (b + 464) ∨ ∃ k, i * 4 ≤ k ∧ k < i * 4 + 4 ∧ (q = kO1 b k ∨ q = kO2 b k ∨ q = kO3 b k)) (kO1 b (t * 4 + m9)))) ∧ (¬ (kO2 b (t * 4 + m9) = kDG b i ∨ (fun q => (∃ i, i < 9 ∧ q = kX b i) ∨ q = kFq b 5 ∨ q = (b + 462) ∨ q = (b + 463) ∨ q = (b + 464) ∨ ∃ k, i * 4 ≤ k ∧ k < i * 4 + 4 ∧ (q = kO1 b k ∨ q = kO2 b k ∨ q = kO3 b k)) (kO2 b (t * 4 + m9)))) ∧ ¬ (kO3 b (t * 4 + m9) = kDG b i ∨ (fun q => (∃ i, i < 9 ∧ q = kX b i) ∨ q = kFq b 5 ∨ q = (b + 462) ∨ q = (b + 463) ∨ q = (b + 464) ∨ ∃ k, i * 4 ≤ k ∧ k < i * 4 + 4 ∧ (q = kO1 b k ∨ q = kO2 b k ∨ q = kO3 b k)) (kO3 b (t * 4 + m9))) := by
  refine ⟨?_, ?_, ?_⟩ <;> (rintro (h | ⟨j, hj, h⟩ | h | h | h | h | ⟨k, h1, h2, h | h | h⟩) <;> first | (rw [kFq_5] at h; unfold kO1 at h; omega) | (rw [kFq_5] at h; unfold kO2 at h; omega) | (rw [kFq_5] at h; unfold kO3 at h; omega) | (simp only [kO1, kO2, kO3, kDG, kX] at h; omega))
theorem d_ft {b i t : Nat} (hi : i < 16) (ht : t < 16) (hn : t ≠ i) : ¬ (kDG b t = kDG b i ∨ (fun q => (∃ i, i < 9 ∧ q = kX b i) ∨ q = kFq b 5 ∨ q = (b + 462) ∨ q = (b + 463) ∨ q = (b + 464) ∨ ∃ k, i * 4 ≤ k ∧ k < i * 4 + 4 ∧ (q = kO1 b k ∨ q = kO2 b k ∨ q = kO3 b k)) (kDG b t)) := by
  rintro (h | h)
  · unfold kDG at h; omega
  · exact (ftk_S hi h).2.2.1 (nj_DG ht)
theorem TBL.nx {g : WG} {H H' : Heap} {b i : Nat} {P : Nat → P3} {Ai : Nat → Nat} (h : TBL g H b P Ai i) (hi : i < 16) (hq : KJ g (fun q => q = kDG b i ∨ (fun q => (∃ i, i < 9 ∧ q = kX b i) ∨ q = kFq b 5 ∨ q = (b + 462) ∨ q = (b + 463) ∨ q = (b + 464) ∨ ∃ k, i * 4 ≤ k ∧ k < i * 4 + 4 ∧ (q = kO1 b k ∨ q = kO2 b k ∨ q = kO3 b k)) q) H H') (h1 : ∃ f, AB g H' (kDG b i) 257 f ∧ (∀ j, j < 257 → DO (f j)) ∧ DSg (fun j => (f j).toInt) 257 = ((Ai i : Nat) : Int) ∧ (Ai i = 0 → ∀ j, f j = 0)) (h2 : Ai i ≠ 0 → ∀ m9 : Nat, m9 < 4 → ∃ W, RP (P i) (2 * (m9 : Int) + 1) W ∧ LPt g H' (kO1 b (i * 4 + m9)) (kO2 b (i * 4 + m9)) (kO3 b (i * 4 + m9)) W) : TBL g H' b P Ai (i + 1) := by
  intro t ht
  by_cases e : t = i
  · subst e
    exact ⟨h1, h2⟩
  · have h3 := h t (by omega)
    refine ⟨h3.1.imp (fun f hf => ⟨hq.abo (d_ft hi (by omega) e) hf.1, hf.2⟩), fun hz m9 hm => ?_⟩
    obtain ⟨W, a, c⟩ := h3.2 hz m9 hm
    have n9 := o_ft (b := b) hi (show t < 16 by omega) e hm
    exact ⟨W, a, c.off hq n9.1 n9.2.1 n9.2.2⟩
theorem TBL.ch {g : WG} {H : Heap} {b n : Nat} {P : Nat → P3} {Ai : Nat → Nat} (h : TBL g H b P Ai n) : ∃ (fdg : Nat → Nat → Int32) (Wt : Nat → Nat → P3), (∀ t, t < n → AB g H (kDG b t) 257 (fdg t)) ∧ (∀ t j, t < n → j < 257 → DO (fdg t j)) ∧ (∀ t, t < n → DSg (fun j => (fdg t j).toInt) 257 = ((Ai t : Nat) : Int)) ∧ (∀ t, t < n → (∃ j, j < 257 ∧ fdg t j ≠ 0) → ∀ m9 : Nat, m9 < 4 → RP (P t) (2 * (m9 : Int) + 1) (Wt t m9)) ∧ ∀ t, t < n → (∃ j, j < 257 ∧ fdg t j ≠ 0) → ∀ m9 : Nat, m9 < 4 → LPt g H (kO1 b (t * 4 + m9)) (kO2 b (t * 4 + m9)) (kO3 b (t * 4 + m9)) (Wt t m9) := by
  have h1 : ∀ t, ∃ f : Nat → Int32, t < n → AB g H (kDG b t) 257 f ∧ (∀ j, j < 257 → DO (f j)) ∧ DSg (fun j => (f j).toInt) 257 = ((Ai t : Nat) : Int) ∧ (Ai t = 0 → ∀ j, f j = 0) := fun t => by
    by_cases c : t < n
    · exact (h t c).1.imp (fun f hf _ => hf)
    · exact ⟨fun _ => 0, fun q => absurd q c⟩
  have h2 : ∀ t, ∃ V : Nat → P3, t < n → Ai t ≠ 0 → ∀ m9 : Nat, m9 < 4 → RP (P t) (2 * (m9 : Int) + 1) (V m9) ∧ LPt g H (kO1 b (t * 4 + m9)) (kO2 b (t * 4 + m9)) (kO3 b (t * 4 + m9)) (V m9) := fun t => by
    by_cases c : t < n ∧ Ai t ≠ 0
    · have h3 : ∀ m9 : Nat, ∃ W, m9 < 4 → RP (P t) (2 * (m9 : Int) + 1) W ∧ LPt g H (kO1 b (t * 4 + m9)) (kO2 b (t * 4 + m9)) (kO3 b (t * 4 + m9)) W := fun m9 => by
        by_cases c4 : m9 < 4
        · exact ((h t c.1).2 c.2 m9 c4).imp (fun W hW _ => hW)
        · exact ⟨PZ0, fun q => absurd q c4⟩
      obtain ⟨V, hV⟩ := Classical.axiomOfChoice h3
      exact ⟨V, fun _ _ m9 hm => hV m9 hm⟩
    · exact ⟨fun _ => PZ0, fun q1 q2 => absurd ⟨q1, q2⟩ c⟩
  obtain ⟨fdg, hf⟩ := Classical.axiomOfChoice h1
  obtain ⟨Wt, hw⟩ := Classical.axiomOfChoice h2
  have nz : ∀ t, t < n → (∃ j, j < 257 ∧ fdg t j ≠ 0) → Ai t ≠ 0 := fun t ht ⟨j, hj, hn⟩ e => hn ((hf t ht).2.2.2 e j)
  exact ⟨fdg, Wt, fun t ht => (hf t ht).1, fun t j ht hj => (hf t ht).2.1 j hj, fun t ht => (hf t ht).2.2.1, fun t ht hj m9 hm => (hw t ht (nz t ht hj) m9 hm).1, fun t ht hj m9 hm => (hw t ht (nz t ht hj) m9 hm).2⟩
theorem TBL.z {g : WG} {H : Heap} {b : Nat} {P : Nat → P3} {Ai : Nat → Nat} : TBL g H b P Ai 0 := fun t ht => absurd ht (Nat.not_lt_zero _)
/-- a scalar as a number -/
theorem SCA.nat {g : WG} {H H' : Heap} {b : Nat} {A : Nat → Int} (h : SCA g H b A) (hk : KJ g (kPS b) H H') {k : Nat} (h32 : k < 32) : ∃ f, AJ g H' (kSc b k) 14 f ∧ RV f (((A k).toNat : Nat) : Int) ∧ (A k).toNat < 2 ^ 256 ∧ (((A k).toNat : Nat) : Int) = A k := by
  obtain ⟨f, h1, h2, h3⟩ := h k h32
  have e : (((A k).toNat : Nat) : Int) = A k := Int.toNat_of_nonneg h2.nn
  have h4 : RI < 2 ^ 256 := by decide +kernel
  exact ⟨f, hk.ajo (sc_ps h32) h1, by rw [e]; exact h2, by omega, e⟩
/-- a desk after a method that uses points; what it wrote -/
def DZ (g : WG) (S : Nat → Prop) (H0 H : Heap) (b p t w : Nat) (mr mq : Int64) : Prop := KJ g S H0 H ∧ DX0 g H b p mr mq ∧ RW9 g H (b + 148) (b + 149) t ∧ RW9 g H (b + 150) (b + 151) w ∧ p ≤ 16 ∧ t ≤ 96 ∧ w ≤ 96
theorem SCA.nn {g : WG} {H : Heap} {b : Nat} {A : Nat → Int} (h : SCA g H b A) {k : Nat} (hk : k < 32) : 0 ≤ A k := by
  obtain ⟨f, h1, h2, h3⟩ := h k hk
  exact h2.nn
theorem ge_X {b : Nat} : ∀ i, i < 9 → b + 496 ≠ kX b i ∧ b + 497 ≠ kX b i ∧ b + 498 ≠ kX b i := by intro i hi; unfold kX; omega
theorem ge_O {b : Nat} : ∀ j, j < 64 → (b + 496 ≠ kO1 b j ∧ b + 496 ≠ kO2 b j ∧ b + 496 ≠ kO3 b j) ∧ (b + 497 ≠ kO1 b j ∧ b + 497 ≠ kO2 b j ∧ b + 497 ≠ kO3 b j) ∧ b + 498 ≠ kO1 b j ∧ b + 498 ≠ kO2 b j ∧ b + 498 ≠ kO3 b j := by intro j hj; unfold kO1 kO2 kO3; omega
theorem mu_X {b : Nat} : ∀ i, i < 9 → b + 157 ≠ kX b i ∧ b + 158 ≠ kX b i ∧ b + 159 ≠ kX b i := by intro i hi; unfold kX; omega
