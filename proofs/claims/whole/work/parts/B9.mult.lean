/-! nothing, minus a point, multiples -/
def PZ0 : P3 := (0, 1, 0)
theorem onC_O : onC PZ0 := ⟨by
  show cq (CE 0 1 0) 0
  unfold cq CE ecI
  decide +kernel, Or.inr (Or.inl nq_1)⟩
theorem O_AD {P : P3} (h : onC P) : PE (AD PZ0 P) P := by
  refine ⟨P.2.1, h.y, ?_, ?_, ?_⟩
  · show cq (SX 0 1 0 P.1 P.2.1 P.2.2) _
    rw [SX_0, Int.one_mul, Int.one_mul]
    exact cq.rf _
  · show cq (SY 0 1 0 P.1 P.2.1 P.2.2) _
    rw [SY_0, Int.one_mul, Int.one_mul]
    exact cq.rf _
  · show cq (SZ 0 1 0 P.1 P.2.1 P.2.2) _
    rw [SZ_0, Int.one_mul, Int.one_mul]
    exact cq.rf _
theorem AD_O {P : P3} (h : onC P) : PE (AD P PZ0) P := by
  rw [AD_cm]
  exact O_AD h
def NG (P : P3) : P3 := (P.1, -P.2.1, P.2.2)
theorem CE_ng (a b c : Int) : CE a (-b) c = CE a b c := by
  unfold CE ecI
  grind
theorem nq.ng {a : Int} (h : nq a) : nq (-a) := by
  rw [nq_of] at *
  intro z
  have z2 := z.neg
  rw [Int.neg_neg, Int.neg_zero] at z2
  exact h z2
theorem onC.ng {P : P3} (h : onC P) : onC (NG P) := by
  refine ⟨?_, Or.inr (Or.inl h.y.ng)⟩
  show cq (CE P.1 (-P.2.1) P.2.2) 0
  rw [CE_ng]
  exact h.1
theorem SX_ng (a b c : Int) : SX a b c a (-b) c = 0 := by
  unfold SX ecI
  grind
theorem SZ_ng (a b c : Int) : SZ a b c a (-b) c = 0 := by
  unfold SZ ecI
  grind
theorem AD_ng {P : P3} (h : onC P) : PE (AD P (NG P)) PZ0 := by
  refine ⟨(AD P (NG P)).2.1, (h.ad h.ng).y, ?_, ?_, ?_⟩
  · show cq (SX P.1 P.2.1 P.2.2 P.1 (-P.2.1) P.2.2) (_ * 0)
    rw [SX_ng, Int.mul_zero]
    exact cq.rf _
  · show cq _ (_ * 1)
    rw [Int.mul_one]
    exact cq.rf _
  · show cq (SZ P.1 P.2.1 P.2.2 P.1 (-P.2.1) P.2.2) (_ * 0)
    rw [SZ_ng, Int.mul_zero]
    exact cq.rf _
theorem PE.on {P R : P3} (h : PE P R) (hR : onC R) : onC P := by
  obtain ⟨k, n, h1, h2, h3⟩ := h
  refine ⟨?_, Or.inr (Or.inl (nq_cq h2 (n.mul hR.y)))⟩
  refine (CE_cg h1 h2 h3).tr ?_
  rw [show CE (k * R.1) (k * R.2.1) (k * R.2.2) = CE R.1 R.2.1 R.2.2 * (k * k * k) by unfold CE ecI; grind]
  exact hR.1.z_l _
theorem PE.z {P R : P3} (h : PE P R) : cq P.2.2 0 ↔ cq R.2.2 0 := by
  obtain ⟨k, n, h1, h2, h3⟩ := h
  constructor
  · intro z
    rcases q_mul0 (h3.sy.tr z) with c | c
    · exact absurd c (nq_of.mp n)
    · exact c
  · intro z
    exact h3.tr (z.z_r k)
theorem AD_4 {A B C D : P3} (hA : onC A) (hB : onC B) (hC : onC C) (hD : onC D) : PE (AD (AD A B) (AD C D)) (AD (AD A C) (AD B D)) := by
  have e1 := AD_as hA hB (hC.ad hD)
  have e2 : PE (AD B (AD C D)) (AD C (AD B D)) := by
    refine (AD_as hB hC hD).sy.tr ?_
    rw [AD_cm B C]
    exact AD_as hC hB hD
  exact (e1.tr ((PE.rf A).ad2 e2)).tr (AD_as hA hC (hB.ad hD)).sy
theorem AD_can {A B C : P3} (hA : onC A) (hB : onC B) (hC : onC C) (h : PE (AD A C) (AD B C)) : PE A B := by
  have k : ∀ {X : P3}, onC X → PE (AD (AD X C) (NG C)) X := fun hX => ((AD_as hX hC hC.ng).tr ((PE.rf _).ad2 (AD_ng hC))).tr (AD_O hX)
  exact ((k hA).sy.tr (h.ad (NG C))).tr (k hB)
def MU (P : P3) : Nat → P3
  | 0 => PZ0
  | n + 1 => AD (MU P n) P
theorem onC_MU {P : P3} (h : onC P) (n : Nat) : onC (MU P n) := by
  induction n with
  | zero => exact onC_O
  | succ n ih => exact ih.ad h
theorem MU_add {P : P3} (h : onC P) (m n : Nat) : PE (AD (MU P m) (MU P n)) (MU P (m + n)) := by
  induction n with
  | zero => exact AD_O (onC_MU h m)
  | succ n ih => exact (AD_as (onC_MU h m) (onC_MU h n) h).sy.tr (ih.ad P)
/-- R is z times P -/
def RP (P : P3) (z : Int) (R : P3) : Prop := onC R ∧ ∃ m n : Nat, z = (m : Int) - (n : Int) ∧ PE (AD R (MU P n)) (MU P m)
theorem RP_O (P : P3) : RP P 0 PZ0 := ⟨onC_O, 0, 0, rfl, AD_O onC_O⟩
theorem RP_1 {P : P3} (h : onC P) : RP P 1 P := ⟨h, 1, 0, rfl, (AD_O h).tr (O_AD h).sy⟩
theorem RP.cg {P R R' : P3} {z : Int} (h : RP P z R) (e : PE R' R) : RP P z R' := by
  obtain ⟨h1, m, n, hz, h2⟩ := h
  exact ⟨e.on h1, m, n, hz, (e.ad _).tr h2⟩
theorem RP.add {P R R' : P3} {z z' : Int} (hP : onC P) (h : RP P z R) (h' : RP P z' R') : RP P (z + z') (AD R R') := by
  obtain ⟨h1, m, n, hz, h2⟩ := h
  obtain ⟨h1', m', n', hz', h2'⟩ := h'
  refine ⟨h1.ad h1', m + m', n + n', by omega, ?_⟩
  have e1 := (PE.rf (AD R R')).ad2 (MU_add hP n n').sy
  have e2 := AD_4 h1 h1' (onC_MU hP n) (onC_MU hP n')
  exact ((e1.tr e2).tr (h2.ad2 h2')).tr (MU_add hP m m')
theorem RP.ng {P R : P3} {z : Int} (hP : onC P) (h : RP P z R) : RP P (-z) (NG R) := by
  obtain ⟨h1, m, n, hz, h2⟩ := h
  refine ⟨h1.ng, n, m, by omega, ?_⟩
  have e1 := (PE.rf (NG R)).ad2 h2.sy
  have e2 := (AD_as h1.ng h1 (onC_MU hP n)).sy
  have e3 : PE (AD (NG R) R) PZ0 := by
    rw [AD_cm]
    exact AD_ng h1
  exact ((e1.tr e2).tr (e3.ad _)).tr (O_AD (onC_MU hP n))
theorem RP.un {P R R' : P3} {z : Int} (hP : onC P) (h : RP P z R) (h' : RP P z R') : PE R R' := by
  obtain ⟨h1, m, n, hz, h2⟩ := h
  obtain ⟨h1', m', n', hz', h2'⟩ := h'
  refine AD_can h1 h1' (onC_MU hP (n + n')) ?_
  have k : ∀ {X : P3} {a b c : Nat}, onC X → PE (AD X (MU P a)) (MU P b) → PE (AD X (MU P (a + c))) (MU P (b + c)) := by
    intro X a b c hX hE
    have e1 := (PE.rf X).ad2 (MU_add hP a c).sy
    have e2 := (AD_as hX (onC_MU hP a) (onC_MU hP c)).sy
    exact ((e1.tr e2).tr (hE.ad _)).tr (MU_add hP b c)
  have a1 := k (c := n') h1 h2
  have a2 := k (c := n) h1' h2'
  rw [Nat.add_comm n' n] at a2
  have e : m + n' = m' + n := by omega
  rw [e] at a1
  exact a1.tr a2.sy
/-- twice a point, as the class reckons it -/
def DB (P : P3) : P3 := (2 * ((P.2.1 * P.2.1 - 36 * (P.2.2 * P.2.2)) * (P.1 * P.2.1)), 8 * (P.2.1 * P.2.1) * (12 * (P.2.2 * P.2.2)) + (P.2.1 * P.2.1 - 36 * (P.2.2 * P.2.2)) * (P.2.1 * P.2.1 + 12 * (P.2.2 * P.2.2)), 8 * (P.2.1 * P.2.1) * (P.2.1 * P.2.2))
theorem SX_db (a b c : Int) : 2 * ((b * b - 36 * (c * c)) * (a * b)) = SX a b c a b c := by
  unfold SX ecI
  grind
theorem SY_db (a b c : Int) : 8 * (b * b) * (12 * (c * c)) + (b * b - 36 * (c * c)) * (b * b + 12 * (c * c)) = SY a b c a b c + CE a b c * (72 * c) := by
  unfold SY CE ecI
  grind
theorem SZ_db (a b c : Int) : 8 * (b * b) * (b * c) = SZ a b c a b c + CE a b c * (6 * b) := by
  unfold SZ CE ecI
  grind
theorem DB_PE {P : P3} (h : onC P) : PE (DB P) (AD P P) := by
  refine ⟨1, nq_1, ?_, ?_, ?_⟩
  · rw [Int.one_mul]
    show cq (2 * ((P.2.1 * P.2.1 - 36 * (P.2.2 * P.2.2)) * (P.1 * P.2.1))) (SX P.1 P.2.1 P.2.2 P.1 P.2.1 P.2.2)
    rw [SX_db]
    exact cq.rf _
  · rw [Int.one_mul]
    show cq (8 * (P.2.1 * P.2.1) * (12 * (P.2.2 * P.2.2)) + (P.2.1 * P.2.1 - 36 * (P.2.2 * P.2.2)) * (P.2.1 * P.2.1 + 12 * (P.2.2 * P.2.2))) (SY P.1 P.2.1 P.2.2 P.1 P.2.1 P.2.2)
    rw [SY_db P.1]
    have e := (cq.rf (SY P.1 P.2.1 P.2.2 P.1 P.2.1 P.2.2)).add (h.1.z_l (72 * P.2.2))
    rw [Int.add_zero] at e
    exact e
  · rw [Int.one_mul]
    show cq (8 * (P.2.1 * P.2.1) * (P.2.1 * P.2.2)) (SZ P.1 P.2.1 P.2.2 P.1 P.2.1 P.2.2)
    rw [SZ_db P.1]
    have e := (cq.rf (SZ P.1 P.2.1 P.2.2 P.1 P.2.1 P.2.2)).add (h.1.z_l (6 * P.2.1))
    rw [Int.add_zero] at e
    exact e
theorem RP.db {P R : P3} {z : Int} (hP : onC P) (h : RP P z R) : RP P (2 * z) (DB R) := by
  have e := (RP.add hP h h).cg (DB_PE h.1)
  rw [show 2 * z = z + z by omega]
  exact e
theorem PE.mu {P P' : P3} (h : PE P P') (n : Nat) : PE (MU P n) (MU P' n) := by
  induction n with
  | zero => exact PE.rf _
  | succ n ih => exact ih.ad2 h
theorem RP.bs {P P' T : P3} {z : Int} (h : RP P z T) (e : PE P P') : RP P' z T := by
  obtain ⟨h1, m, n, hz, h2⟩ := h
  exact ⟨h1, m, n, hz, ((PE.rf T).ad2 (e.mu n).sy).tr (h2.tr (e.mu m))⟩
