/-! points alike, sums of several under other names, coordinates -/
theorem PE_al {P R : P3} (hP : onC P) (hR : onC R) : (cq (P.1 * R.2.2) (R.1 * P.2.2) ∧ cq (P.2.1 * R.2.2) (R.2.1 * P.2.2)) ↔ PE P R := by
  constructor
  · intro ⟨h1, h2⟩
    have h3 : cq (P.2.1 * R.2.2) (P.2.2 * R.2.1) := by
      rw [Int.mul_comm P.2.2]
      exact h2
    refine PE_cr hP hR ?_ h3
    by_cases zP : cq P.2.2 0
    · have zR : cq R.2.2 0 := by
        have e := h2.tr (zP.z_r R.2.1)
        rcases q_mul0 e with c | c
        · exact absurd c (nq_of.mp hP.y)
        · exact c
      exact (((hP.z0 zP).1).z_l _).tr (((hR.z0 zR).1).z_r _).sy
    · by_cases zR : cq R.2.2 0
      · have e : cq (R.2.1 * P.2.2) 0 := h2.sy.tr (zR.z_r P.2.1)
        rcases q_mul0 e with c | c
        · exact absurd c (nq_of.mp hR.y)
        · exact absurd c zP
      · have n := (nq_of.mpr zP).mul (nq_of.mpr zR)
        refine cq_can n ?_
        have e := h1.mul h2.sy
        rw [show P.1 * R.2.2 * (R.2.1 * P.2.2) = P.2.2 * R.2.2 * (P.1 * R.2.1) by grind, show R.1 * P.2.2 * (P.2.1 * R.2.2) = P.2.2 * R.2.2 * (P.2.1 * R.1) by grind] at e
        exact e
  · intro ⟨k, n, e1, e2, e3⟩
    constructor
    · have a := e1.mul (cq.rf R.2.2)
      have b := (cq.rf R.1).mul e3
      rw [show k * R.1 * R.2.2 = R.1 * (k * R.2.2) by grind] at a
      exact a.tr b.sy
    · have a := e2.mul (cq.rf R.2.2)
      have b := (cq.rf R.2.1).mul e3
      rw [show k * R.2.1 * R.2.2 = R.2.1 * (k * R.2.2) by grind] at a
      exact a.tr b.sy
theorem PE.ng {P R : P3} (h : PE P R) : PE (NG P) (NG R) := by
  obtain ⟨k, n, e1, e2, e3⟩ := h
  refine ⟨k, n, e1, ?_, e3⟩
  show cq (-P.2.1) (k * -R.2.1)
  rw [Int.mul_neg]
  exact e2.neg
theorem SM_cg {P P' : Nat → P3} {n : Nat} (h : ∀ k, k < n → PE (P k) (P' k)) (m : Nat → Nat) : PE (SM P m n) (SM P' m n) := by
  induction n with
  | zero => exact PE.rf _
  | succ n ih => exact (ih (fun k hk => h k (by omega))).ad2 ((h n (by omega)).mu (m n))
theorem RSm.bs {P P' : Nat → P3} {n : Nat} {z : Nat → Int} {R : P3} (h : RSm P n z R) (e : ∀ k, k < n → PE (P k) (P' k)) : RSm P' n z R := by
  obtain ⟨h1, m, m', hz, h2⟩ := h
  exact ⟨h1, m, m', hz, ((PE.rf R).ad2 (SM_cg e m').sy).tr (h2.tr (SM_cg e m))⟩
theorem RSm.un2 {P P' : Nat → P3} {n : Nat} {z : Nat → Int} {R R' : P3} (hP : AC P' n) (h : RSm P n z R) (h' : RSm P' n z R') (e : ∀ k, k < n → PE (P k) (P' k)) : PE R R' := (h.bs e).un hP h'
theorem RP.un2 {P P' R R' : P3} {z : Int} (hP : onC P') (h : RP P z R) (h' : RP P' z R') (e : PE P P') : PE R R' := RP.un hP (h.bs e) h'
/-- P less Y is U just where P is Y and U -/
theorem ck_iff {P Y U : P3} (hP : onC P) (hY : onC Y) (hU : onC U) : PE (AD P (NG Y)) U ↔ PE P (AD Y U) := by
  have ny : PE (AD (NG Y) Y) PZ0 := by
    rw [AD_cm]
    exact AD_ng hY
  constructor
  · intro h
    have a := (AD_as hP hY.ng hY).tr (((PE.rf P).ad2 ny).tr (AD_O hP))
    rw [AD_cm Y U]
    exact a.sy.tr (h.ad Y)
  · intro h
    have a := h.ad (NG Y)
    rw [AD_cm Y U] at a
    exact a.tr ((AD_as hU hY hY.ng).tr (((PE.rf U).ad2 (AD_ng hY)).tr (AD_O hU)))
theorem cq.pow {a b : Int} (h : cq a b) (n : Nat) : cq (a ^ n) (b ^ n) := by
  induction n with
  | zero =>
    rw [Int.pow_zero, Int.pow_zero]
    exact cq.rf _
  | succ n ih =>
    rw [Int.pow_succ, Int.pow_succ]
    exact ih.mul h
theorem q_fi {a : Int} (h : nq a) : cq (a ^ (QN - 2) * a) 1 := by
  have h0 : 0 ≤ a % QJ := Int.emod_nonneg _ QJ_ne
  obtain ⟨x, hx⟩ := Int.eq_ofNat_of_zero_le h0
  have e0 : cq a (x : Int) := by
    unfold cq
    rw [← hx, Int.emod_emod_of_dvd _ (Int.dvd_refl _)]
  have e : x % QN ≠ 0 := fun q => h (by
    rw [show a % QJ = (x : Int) % QJ from e0, QJ_N, ← Int.natCast_emod, q]
    rfl)
  have f := gN.fermat e
  refine ((e0.pow (QN - 2)).mul e0).tr ?_
  unfold cq
  rw [← Int.pow_succ, QN2, QJ_N, ← Int.natCast_pow, ← Int.natCast_emod, f]
  decide +kernel
theorem PE.af {P R : P3} (h : PE P R) (hz : nq R.2.2) : cq (P.1 * P.2.2 ^ (QN - 2)) (R.1 * R.2.2 ^ (QN - 2)) ∧ cq (P.2.1 * P.2.2 ^ (QN - 2)) (R.2.1 * R.2.2 ^ (QN - 2)) := by
  obtain ⟨k, n, e1, e2, e3⟩ := h
  have u := q_fi (nq_cq e3 (n.mul hz))
  have v := q_fi hz
  generalize P.2.2 ^ (QN - 2) = U at *
  generalize R.2.2 ^ (QN - 2) = V at *
  have key : ∀ {x y : Int}, cq x (k * y) → cq (x * U) (y * V) := by
    intro x y hx
    have a := hx.mul (cq.rf U)
    have b := (cq.rf (k * y * U)).mul v
    rw [Int.mul_one, show k * y * U * (V * R.2.2) = y * V * (U * (k * R.2.2)) by grind] at b
    have c := (cq.rf (y * V)).mul (((cq.rf U).mul e3.sy).tr u)
    rw [Int.mul_one] at c
    exact a.tr (b.sy.tr c)
  exact ⟨key e1, key e2⟩
