/-! points: three numbers modulo Q, up to a factor; their sums -/
abbrev P3 := Int × Int × Int
theorem ecI_cg {k a b c d a' b' c' d' : Int} (h1 : cq a a') (h2 : cq b b') (h3 : cq c c') (h4 : cq d d') : cq (ecI k a b c d) (ecI k a' b' c' d') := by
  unfold ecI
  exact (h1.mul h2).add ((cq.rf k).mul (h3.mul h4))
theorem SX_cg {a b c d e f a' b' c' d' e' f' : Int} (h1 : cq a a') (h2 : cq b b') (h3 : cq c c') (h4 : cq d d') (h5 : cq e e') (h6 : cq f f') : cq (SX a b c d e f) (SX a' b' c' d' e' f') := by
  unfold SX
  exact ecI_cg (ecI_cg h1 h5 h4 h2) (ecI_cg h2 h5 h3 h6) (ecI_cg h2 h6 h5 h3) (ecI_cg h1 h6 h4 h3)
theorem SY_cg {a b c d e f a' b' c' d' e' f' : Int} (h1 : cq a a') (h2 : cq b b') (h3 : cq c c') (h4 : cq d d') (h5 : cq e e') (h6 : cq f f') : cq (SY a b c d e f) (SY a' b' c' d' e' f') := by
  unfold SY
  exact ecI_cg (ecI_cg h2 h5 h3 h6) (ecI_cg h2 h5 h3 h6) (h1.mul h4) (ecI_cg h1 h6 h4 h3)
theorem SZ_cg {a b c d e f a' b' c' d' e' f' : Int} (h1 : cq a a') (h2 : cq b b') (h3 : cq c c') (h4 : cq d d') (h5 : cq e e') (h6 : cq f f') : cq (SZ a b c d e f) (SZ a' b' c' d' e' f') := by
  unfold SZ
  exact ecI_cg (ecI_cg h2 h6 h5 h3) (ecI_cg h2 h5 h3 h6) (h1.mul h4) (ecI_cg h1 h5 h4 h2)
theorem CE_cg {a b c a' b' c' : Int} (h1 : cq a a') (h2 : cq b b') (h3 : cq c c') : cq (CE a b c) (CE a' b' c') := by
  unfold CE
  exact (ecI_cg (h2.mul h2) h3 (h1.mul h1) h1).add ((cq.rf _).mul ((h3.mul h3).mul h3))
theorem SX_k (k a b c d e f : Int) : SX (k * a) (k * b) (k * c) d e f = k * k * SX a b c d e f := by
  unfold SX ecI
  grind
theorem SY_k (k a b c d e f : Int) : SY (k * a) (k * b) (k * c) d e f = k * k * SY a b c d e f := by
  unfold SY ecI
  grind
theorem SZ_k (k a b c d e f : Int) : SZ (k * a) (k * b) (k * c) d e f = k * k * SZ a b c d e f := by
  unfold SZ ecI
  grind
theorem SX_cm (a b c d e f : Int) : SX a b c d e f = SX d e f a b c := by
  unfold SX ecI
  grind
theorem SY_cm (a b c d e f : Int) : SY a b c d e f = SY d e f a b c := by
  unfold SY ecI
  grind
theorem SZ_cm (a b c d e f : Int) : SZ a b c d e f = SZ d e f a b c := by
  unfold SZ ecI
  grind
def AD (P R : P3) : P3 := (SX P.1 P.2.1 P.2.2 R.1 R.2.1 R.2.2, SY P.1 P.2.1 P.2.2 R.1 R.2.1 R.2.2, SZ P.1 P.2.1 P.2.2 R.1 R.2.1 R.2.2)
theorem AD_cm (P R : P3) : AD P R = AD R P := by
  unfold AD
  rw [SX_cm, SY_cm, SZ_cm]
/-- the same up to a factor -/
def PE (P R : P3) : Prop := ∃ k, nq k ∧ cq P.1 (k * R.1) ∧ cq P.2.1 (k * R.2.1) ∧ cq P.2.2 (k * R.2.2)
theorem nq_1 : nq 1 := by
  unfold nq
  decide +kernel
theorem PE.rf (P : P3) : PE P P := ⟨1, nq_1, by rw [Int.one_mul]; exact cq.rf _, by rw [Int.one_mul]; exact cq.rf _, by rw [Int.one_mul]; exact cq.rf _⟩
theorem PE.tr {P R S : P3} (h : PE P R) (h' : PE R S) : PE P S := by
  obtain ⟨k, n, h1, h2, h3⟩ := h
  obtain ⟨j, n', g1, g2, g3⟩ := h'
  refine ⟨k * j, n.mul n', ?_, ?_, ?_⟩
  · rw [Int.mul_assoc]
    exact h1.tr ((cq.rf k).mul g1)
  · rw [Int.mul_assoc]
    exact h2.tr ((cq.rf k).mul g2)
  · rw [Int.mul_assoc]
    exact h3.tr ((cq.rf k).mul g3)
theorem q_im {w k x y : Int} (hw : cq (w * k) 1) (h : cq x (k * y)) : cq y (w * x) := by
  have h1 := (cq.rf w).mul h
  rw [← Int.mul_assoc] at h1
  have h2 := hw.mul (cq.rf y)
  rw [Int.one_mul] at h2
  exact (h1.tr h2).sy
theorem PE.sy {P R : P3} (h : PE P R) : PE R P := by
  obtain ⟨k, n, h1, h2, h3⟩ := h
  obtain ⟨w, hw⟩ := q_inv n
  exact ⟨w, nq_l (nq_cq hw nq_1), q_im hw h1, q_im hw h2, q_im hw h3⟩
theorem PE.ad {P P' : P3} (h : PE P P') (R : P3) : PE (AD P R) (AD P' R) := by
  obtain ⟨k, n, h1, h2, h3⟩ := h
  refine ⟨k * k, n.mul n, ?_, ?_, ?_⟩
  · show cq (SX P.1 P.2.1 P.2.2 R.1 R.2.1 R.2.2) (k * k * SX P'.1 P'.2.1 P'.2.2 R.1 R.2.1 R.2.2)
    rw [← SX_k]
    exact SX_cg h1 h2 h3 (cq.rf _) (cq.rf _) (cq.rf _)
  · show cq (SY P.1 P.2.1 P.2.2 R.1 R.2.1 R.2.2) (k * k * SY P'.1 P'.2.1 P'.2.2 R.1 R.2.1 R.2.2)
    rw [← SY_k]
    exact SY_cg h1 h2 h3 (cq.rf _) (cq.rf _) (cq.rf _)
  · show cq (SZ P.1 P.2.1 P.2.2 R.1 R.2.1 R.2.2) (k * k * SZ P'.1 P'.2.1 P'.2.2 R.1 R.2.1 R.2.2)
    rw [← SZ_k]
    exact SZ_cg h1 h2 h3 (cq.rf _) (cq.rf _) (cq.rf _)
theorem PE.ad2 {P P' R R' : P3} (h : PE P P') (h' : PE R R') : PE (AD P R) (AD P' R') := by
  refine (h.ad R).tr ?_
  rw [AD_cm P' R, AD_cm P' R']
  exact h'.ad P'
/-- on the curve, and not 0, 0, 0 -/
def onC (P : P3) : Prop := cq (CE P.1 P.2.1 P.2.2) 0 ∧ (nq P.1 ∨ nq P.2.1 ∨ nq P.2.2)
theorem q_cub {x : Int} (h : cq (x * x * x) 0) : cq x 0 := by
  rcases q_mul0 h with k | k
  · rcases q_mul0 k with k | k
    · exact k
    · exact k
  · exact k
/-- z 0: x is 0, and y isn't -/
theorem onC.z0 {P : P3} (h : onC P) (hz : cq P.2.2 0) : cq P.1 0 ∧ nq P.2.1 := by
  have h1 : cq P.1 0 := by
    refine q_cub ?_
    have e := h.1
    unfold CE ecI at e
    have e1 : cq (P.2.1 * P.2.1 * P.2.2 + -1 * (P.1 * P.1 * P.1) + -4 * (P.2.2 * P.2.2 * P.2.2)) (P.2.1 * P.2.1 * 0 + -1 * (P.1 * P.1 * P.1) + -4 * (P.2.2 * P.2.2 * 0)) := (((cq.rf _).mul hz).add (cq.rf _)).add ((cq.rf _).mul ((cq.rf _).mul hz))
    have e2 := (e1.sy.tr e).neg
    rw [show -(P.2.1 * P.2.1 * 0 + -1 * (P.1 * P.1 * P.1) + -4 * (P.2.2 * P.2.2 * 0)) = P.1 * P.1 * P.1 by grind] at e2
    exact e2
  rcases h.2 with n | n | n
  · exact absurd h1 (nq_of.mp n)
  · exact ⟨h1, n⟩
  · exact absurd hz (nq_of.mp n)
/-- y is never 0 -/
theorem onC.y {P : P3} (h : onC P) : nq P.2.1 := by
  rw [nq_of]
  intro hy
  have e := h.1
  unfold CE ecI at e
  have e1 : cq (P.2.1 * P.2.1 * P.2.2 + -1 * (P.1 * P.1 * P.1) + -4 * (P.2.2 * P.2.2 * P.2.2)) (0 * P.2.1 * P.2.2 + -1 * (P.1 * P.1 * P.1) + -4 * (P.2.2 * P.2.2 * P.2.2)) := (((hy.mul (cq.rf _)).mul (cq.rf _)).add (cq.rf _)).add (cq.rf _)
  have e2 := (e1.sy.tr e).neg
  rw [show -(0 * P.2.1 * P.2.2 + -1 * (P.1 * P.1 * P.1) + -4 * (P.2.2 * P.2.2 * P.2.2)) = P.1 * P.1 * P.1 + 4 * (P.2.2 * P.2.2 * P.2.2) by grind] at e2
  have hz := q_ncube e2
  exact nq_of.mp (h.z0 hz).2 hy
theorem SX_0 (b d e f : Int) : SX 0 b 0 d e f = b * b * e * d := by
  unfold SX ecI
  grind
theorem SY_0 (b d e f : Int) : SY 0 b 0 d e f = b * b * e * e := by
  unfold SY ecI
  grind
theorem SZ_0 (b d e f : Int) : SZ 0 b 0 d e f = b * b * e * f := by
  unfold SZ ecI
  grind
theorem onC.nz0 {P R : P3} (h : onC P) (h' : onC R) (hz : cq P.2.2 0) : nq (SY P.1 P.2.1 P.2.2 R.1 R.2.1 R.2.2) := by
  obtain ⟨h1, n⟩ := h.z0 hz
  have e := SY_cg h1 (cq.rf P.2.1) hz (cq.rf R.1) (cq.rf R.2.1) (cq.rf R.2.2)
  rw [SY_0] at e
  exact nq_cq e (((n.mul n).mul h'.y).mul h'.y)
theorem on_sum {P R : P3} (h : onC P) (h' : onC R) : cq (CE (AD P R).1 (AD P R).2.1 (AD P R).2.2) 0 := by
  obtain ⟨u0, u1, e⟩ := ec_on P.1 P.2.1 P.2.2 R.1 R.2.1 R.2.2
  show cq (CE (SX P.1 P.2.1 P.2.2 R.1 R.2.1 R.2.2) (SY P.1 P.2.1 P.2.2 R.1 R.2.1 R.2.2) (SZ P.1 P.2.1 P.2.2 R.1 R.2.1 R.2.2)) 0
  rw [e]
  exact (h.1.z_l u0).z_a (h'.1.z_l u1)
theorem SZ_d (a b c : Int) : SZ a b c a b c = 8 * (b * b * b * c) + CE a b c * (-6 * b) := by
  unfold SZ CE ecI
  grind
theorem SY_m (a b c : Int) : SY a b c a (-b) c = SY a b c a b c := by
  unfold SY ecI
  grind
theorem nq_8 : nq 8 := by
  unfold nq
  decide +kernel
theorem onC.dz {P : P3} (h : onC P) (hc : nq P.2.2) : nq (SZ P.1 P.2.1 P.2.2 P.1 P.2.1 P.2.2) := by
  rw [SZ_d]
  have e : cq (8 * (P.2.1 * P.2.1 * P.2.1 * P.2.2) + CE P.1 P.2.1 P.2.2 * (-6 * P.2.1)) (8 * (P.2.1 * P.2.1 * P.2.1 * P.2.2) + 0) := (cq.rf _).add (h.1.z_l _)
  rw [Int.add_zero] at e
  exact nq_cq e (nq_8.mul (((h.y.mul h.y).mul h.y).mul hc))
theorem q_y0 {x y z : Int} (h : cq (CE x y z) 0) (hy : cq y 0) : cq z 0 := by
  unfold CE ecI at h
  have e1 : cq (y * y * z + -1 * (x * x * x) + -4 * (z * z * z)) (0 * y * z + -1 * (x * x * x) + -4 * (z * z * z)) := (((hy.mul (cq.rf _)).mul (cq.rf _)).add (cq.rf _)).add (cq.rf _)
  have e2 := (e1.sy.tr h).neg
  rw [show -(0 * y * z + -1 * (x * x * x) + -4 * (z * z * z)) = x * x * x + 4 * (z * z * z) by grind] at e2
  exact q_ncube e2
theorem onC.dy {P : P3} (h : onC P) (hc : nq P.2.2) : nq (SY P.1 P.2.1 P.2.2 P.1 P.2.1 P.2.2) := by
  rw [nq_of]
  intro hy
  exact nq_of.mp (h.dz hc) (q_y0 (on_sum h h) hy)
theorem SZ_k2 (k a b c d e f : Int) : SZ a b c (k * d) (k * e) (k * f) = k * k * SZ a b c d e f := by
  rw [SZ_cm, SZ_k, SZ_cm]
theorem SY_k2 (k a b c d e f : Int) : SY a b c (k * d) (k * e) (k * f) = k * k * SY a b c d e f := by
  rw [SY_cm, SY_k, SY_cm]
theorem ec_xx (a b c d e f : Int) : c * f * ((b * f - e * c) * (b * f + e * c)) = f * f * f * CE a b c - c * c * c * CE d e f + (a * f - d * c) * (a * f * (a * f) + a * f * (d * c) + d * c * (d * c)) := by
  unfold CE ecI
  grind
theorem onC.nzz {P R : P3} (h : onC P) (h' : onC R) (hc : nq P.2.2) (hf : nq R.2.2) : nq (SY P.1 P.2.1 P.2.2 R.1 R.2.1 R.2.2) ∨ nq (SZ P.1 P.2.1 P.2.2 R.1 R.2.1 R.2.2) := by
  obtain ⟨a, b, c⟩ := P
  obtain ⟨d, e, f⟩ := R
  have hc : nq c := hc
  have hf : nq f := hf
  have hE : cq (CE a b c) 0 := h.1
  have hE' : cq (CE d e f) 0 := h'.1
  show nq (SY a b c d e f) ∨ nq (SZ a b c d e f)
  by_cases hU : cq (ecU a c d f) 0
  · have hU2 : cq (a * f - d * c) 0 := by
      unfold ecU ecI at hU
      rw [show a * f - d * c = a * f + -1 * (d * c) by grind]
      exact hU
    have haf : cq (a * f) (d * c) := hU2.of
    have e0 : cq (c * f * ((b * f - e * c) * (b * f + e * c))) 0 := by
      rw [ec_xx a b c d e f]
      exact ((((hE.z_r _).sub (hE'.z_r _)).add (hU2.z_l _)).tr (by rw [Int.sub_self, Int.add_zero]; exact cq.rf 0))
    rcases q_mul0 e0 with z | z
    · exact absurd z (nq_of.mp (hc.mul hf))
    rcases q_mul0 z with z | z
    · refine Or.inr ?_
      have hbf : cq (b * f) (e * c) := z.of
      have e1 : cq (SZ a b c (c * d) (c * e) (c * f)) (SZ a b c (f * a) (f * b) (f * c)) := SZ_cg (cq.rf a) (cq.rf b) (cq.rf c) (by rw [Int.mul_comm c d, Int.mul_comm f a]; exact haf.sy) (by rw [Int.mul_comm c e, Int.mul_comm f b]; exact hbf.sy) (by rw [Int.mul_comm c f]; exact cq.rf _)
      rw [SZ_k2, SZ_k2] at e1
      exact nq_r (nq_cq e1 ((hf.mul hf).mul (h.dz hc)))
    · refine Or.inl ?_
      have hbf : cq (e * c) (-(b * f)) := by
        have z2 := z.sub (cq.rf (b * f))
        rw [show b * f + e * c - b * f = e * c by grind, Int.zero_sub] at z2
        exact z2
      have e1 : cq (SY a b c (c * d) (c * e) (c * f)) (SY a b c (f * a) (f * -b) (f * c)) := SY_cg (cq.rf a) (cq.rf b) (cq.rf c) (by rw [Int.mul_comm c d, Int.mul_comm f a]; exact haf.sy) (by rw [Int.mul_comm c e, show f * -b = -(b * f) by grind]; exact hbf) (by rw [Int.mul_comm c f]; exact cq.rf _)
      rw [SY_k2, SY_k2, SY_m] at e1
      exact nq_r (nq_cq e1 ((hf.mul hf).mul (h.dy hc)))
  · refine Or.inr ?_
    rw [nq_of]
    intro hz
    obtain ⟨u0, u1, e1⟩ := ec_ny a b c d e f
    obtain ⟨w0, w1, e2⟩ := ec_dc a b c d e f
    have e3 : cq (ecNy a b c d e f + c * f * (c * f) * SZ a b c d e f) 0 := by
      rw [e1]
      exact (hE.z_l u0).z_a (hE'.z_l u1)
    have hny : cq (ecNy a b c d e f) 0 := by
      have z2 := e3.sub (hz.z_r (c * f * (c * f)))
      rw [show ecNy a b c d e f + c * f * (c * f) * SZ a b c d e f - c * f * (c * f) * SZ a b c d e f = ecNy a b c d e f by grind, Int.sub_zero] at z2
      exact z2
    have e4 : cq (ecI (-1) (ecNy a b c d e f * ecNy a b c d e f) (c * f) (ecNx a b c d e f * ecNx a b c d e f) (ecNx a b c d e f) + -4 * (ecU a c d f * ecU a c d f * (ecU a c d f * ecU a c d f) * (ecU a c d f * ecU a c d f) * (c * f * (c * f) * (c * f)))) 0 := by
      rw [e2]
      exact (hE.z_l w0).z_a (hE'.z_l w1)
    unfold ecI at e4
    generalize ecNy a b c d e f = y at *
    generalize ecNx a b c d e f = x at *
    generalize ecU a c d f = u at *
    have e5 : cq (y * y * (c * f) + -1 * (x * x * x) + -4 * (u * u * (u * u) * (u * u) * (c * f * (c * f) * (c * f)))) (0 * y * (c * f) + -1 * (x * x * x) + -4 * (u * u * (u * u) * (u * u) * (c * f * (c * f) * (c * f)))) := (((hny.mul (cq.rf _)).mul (cq.rf _)).add (cq.rf _)).add (cq.rf _)
    have e6 := (e5.sy.tr e4).neg
    rw [show -(0 * y * (c * f) + -1 * (x * x * x) + -4 * (u * u * (u * u) * (u * u) * (c * f * (c * f) * (c * f)))) = x * x * x + 4 * ((u * u * (c * f)) * (u * u * (c * f)) * (u * u * (c * f))) by grind] at e6
    have e7 := q_ncube e6
    have nu : nq u := nq_of.mpr hU
    exact nq_of.mp ((nu.mul nu).mul (hc.mul hf)) e7
theorem onC.ad {P R : P3} (h : onC P) (h' : onC R) : onC (AD P R) := by
  refine ⟨on_sum h h', ?_⟩
  by_cases c1 : cq P.2.2 0
  · exact Or.inr (Or.inl (h.nz0 h' c1))
  · by_cases c2 : cq R.2.2 0
    · rw [AD_cm]
      exact Or.inr (Or.inl (h'.nz0 h c2))
    · exact Or.inr (h.nzz h' (nq_of.mpr c1) (nq_of.mpr c2))
theorem PE_cr {P R : P3} (hP : onC P) (hR : onC R) (h1 : cq (P.1 * R.2.1) (P.2.1 * R.1)) (h3 : cq (P.2.1 * R.2.2) (P.2.2 * R.2.1)) : PE P R := by
  obtain ⟨w, hw⟩ := q_inv hR.y
  have nw : nq w := nq_l (nq_cq hw nq_1)
  refine ⟨P.2.1 * w, hP.y.mul nw, ?_, ?_, ?_⟩
  · have e := (h1.mul (cq.rf w))
    have e2 := (cq.rf P.1).mul hw
    rw [Int.mul_one] at e2
    rw [show P.1 * R.2.1 * w = P.1 * (w * R.2.1) by grind, show P.2.1 * R.1 * w = P.2.1 * w * R.1 by grind] at e
    exact e2.sy.tr e
  · have e2 := (cq.rf P.2.1).mul hw
    rw [Int.mul_one, ← Int.mul_assoc] at e2
    exact e2.sy
  · have e := (h3.mul (cq.rf w)).sy
    have e2 := (cq.rf P.2.2).mul hw
    rw [Int.mul_one] at e2
    rw [show P.2.2 * R.2.1 * w = P.2.2 * (w * R.2.1) by grind, show P.2.1 * R.2.2 * w = P.2.1 * w * R.2.2 by grind] at e
    exact e2.sy.tr e
theorem ecI_m {a b c d : Int} (h : cq (ecI (-1) a b c d) 0) : cq (a * b) (c * d) := by
  unfold ecI at h
  refine cq.of ?_
  rw [show a * b - c * d = a * b + -1 * (c * d) by grind]
  exact h
theorem AD_as {P R S : P3} (hP : onC P) (hR : onC R) (hS : onC S) : PE (AD (AD P R) S) (AD P (AD R S)) := by
  refine PE_cr ((hP.ad hR).ad hS) (hP.ad (hR.ad hS)) ?_ ?_
  · obtain ⟨u0, u1, u2, e⟩ := ec_as0 P.1 P.2.1 P.2.2 R.1 R.2.1 R.2.2 S.1 S.2.1 S.2.2
    refine ecI_m ?_
    show cq (ecI (-1) _ _ _ _) 0
    refine Eq.trans (congrArg (· % QJ) e) ?_
    exact (hP.1.z_l u0).z_a ((hR.1.z_l u1).z_a (hS.1.z_l u2))
  · obtain ⟨u0, u1, u2, e⟩ := ec_as2 P.1 P.2.1 P.2.2 R.1 R.2.1 R.2.2 S.1 S.2.1 S.2.2
    refine ecI_m ?_
    show cq (ecI (-1) _ _ _ _) 0
    refine Eq.trans (congrArg (· % QJ) e) ?_
    exact (hP.1.z_l u0).z_a ((hR.1.z_l u1).z_a (hS.1.z_l u2))
