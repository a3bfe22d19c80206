/-! what the bytes are: an answer, and a point for 0 -/
def can9 (mk ts : Nat) : Prop := (ts = 48 ∧ (mk = 4 ∨ mk = 5 ∨ mk = 6)) ∨ (ts = 96 ∧ (mk = 0 ∨ mk = 2))
def E9Q : Nat := (QN + 1) / 4
def x9 (t : Nat → Nat) : Int := ((BE9 t 0 48 : Nat) : Int)
def s9 (t : Nat → Nat) : Int := x9 t * x9 t * x9 t + 4
/-- the root with its sign -/
def y9 (t : Nat → Nat) (ts : Nat) (Y : Int) : Prop := (ts = 96 ∧ Y = ((BE9 t 48 48 : Nat) : Int)) ∨ (ts = 48 ∧ ((ngQ (s9 t ^ E9Q % QJ) < s9 t ^ E9Q % QJ ↔ t 0 / 32 = 5) → Y = s9 t ^ E9Q) ∧ (¬ (ngQ (s9 t ^ E9Q % QJ) < s9 t ^ E9Q % QJ ↔ t 0 / 32 = 5) → Y = -(s9 t ^ E9Q)))
theorem y9_un {t : Nat → Nat} {ts : Nat} {Y Y' : Int} (h : y9 t ts Y) (h' : y9 t ts Y') : Y = Y' := by
  rcases h with ⟨e, h⟩ | ⟨e, h⟩ <;> rcases h' with ⟨e', h'⟩ | ⟨e', h'⟩
  · rw [h, h']
  · omega
  · omega
  · by_cases c : (ngQ (s9 t ^ E9Q % QJ) < s9 t ^ E9Q % QJ ↔ t 0 / 32 = 5)
    · rw [h.1 c, h'.1 c]
    · rw [h.2 c, h'.2 c]
/-- the answer r, and for 0 the point P -/
def RD9 (t : Nat → Nat) (ts r : Nat) (P : P3) : Prop :=
  (¬ (ts = 48 ∨ ts = 96) ∧ r = 1) ∨ ((ts = 48 ∨ ts = 96) ∧ ¬ can9 (t 0 / 32) ts ∧ r = 2) ∨ ((ts = 48 ∨ ts = 96) ∧ can9 (t 0 / 32) ts ∧ (t 0 / 32 = 2 ∨ t 0 / 32 = 6) ∧ ((bare9 t ts ∧ r = 0 ∧ PE P PZ0) ∨ (¬ bare9 t ts ∧ r = 3))) ∨
  ((ts = 48 ∨ ts = 96) ∧ can9 (t 0 / 32) ts ∧ ¬ (t 0 / 32 = 2 ∨ t 0 / 32 = 6) ∧ (((QJ ≤ x9 t ∨ (ts = 96 ∧ QJ ≤ ((BE9 t 48 48 : Nat) : Int))) ∧ r = 4) ∨ (¬ (QJ ≤ x9 t ∨ (ts = 96 ∧ QJ ≤ ((BE9 t 48 48 : Nat) : Int))) ∧ ∃ Y, y9 t ts Y ∧ ((cq (Y * Y) (s9 t) ∧ r = 0 ∧ PE P (x9 t, Y, 1)) ∨ (¬ cq (Y * Y) (s9 t) ∧ r = 5)))))
theorem RD9.un {t : Nat → Nat} {ts r r' : Nat} {P P' : P3} (h : RD9 t ts r P) (h' : RD9 t ts r' P') : r = r' ∧ (r = 0 → PE P P') := by
  rcases h with ⟨a, h⟩ | ⟨a, b, h⟩ | ⟨a, b, c, h⟩ | ⟨a, b, c, h⟩ <;> rcases h' with ⟨a', h'⟩ | ⟨a', b', h'⟩ | ⟨a', b', c', h'⟩ | ⟨a', b', c', h'⟩ <;> first | exact absurd a' a | exact absurd a a' | exact absurd b' b | exact absurd b b' | exact absurd c' c | exact absurd c c' | skip
  · exact ⟨by omega, fun z => by omega⟩
  · exact ⟨by omega, fun z => by omega⟩
  · rcases h with ⟨d, h, e⟩ | ⟨d, h⟩ <;> rcases h' with ⟨d', h', e'⟩ | ⟨d', h'⟩ <;> first | exact absurd d' d | exact absurd d d' | skip
    · exact ⟨by omega, fun _ => e.tr e'.sy⟩
    · exact ⟨by omega, fun z => by omega⟩
  · rcases h with ⟨d, h⟩ | ⟨d, Y, hY, h⟩ <;> rcases h' with ⟨d', h'⟩ | ⟨d', Y', hY', h'⟩ <;> first | exact absurd d' d | exact absurd d d' | skip
    · exact ⟨by omega, fun z => by omega⟩
    · have e9 := y9_un hY hY'
      subst e9
      rcases h with ⟨f, h, e⟩ | ⟨f, h⟩ <;> rcases h' with ⟨f', h', e'⟩ | ⟨f', h'⟩ <;> first | exact absurd f' f | exact absurd f f' | skip
      · exact ⟨by omega, fun _ => e.tr e'.sy⟩
      · exact ⟨by omega, fun z => by omega⟩
theorem RD9.on {t : Nat → Nat} {ts : Nat} {P : P3} (h : RD9 t ts 0 P) : onC P := by
  rcases h with ⟨a, h⟩ | ⟨a, b, h⟩ | ⟨a, b, c, h⟩ | ⟨a, b, c, h⟩
  · omega
  · omega
  · rcases h with ⟨d, h, e⟩ | ⟨d, h⟩
    · exact e.on onC_O
    · omega
  · rcases h with ⟨d, h⟩ | ⟨d, Y, hY, h⟩
    · omega
    · rcases h with ⟨f, h, e⟩ | ⟨f, h⟩
      · refine e.on ⟨?_, Or.inr (Or.inr nq_1)⟩
        show cq (CE (x9 t) Y 1) 0
        rw [show CE (x9 t) Y 1 = Y * Y - s9 t by unfold CE ecI s9; grind]
        exact f.to
      · omega
/-- good: R times it is nothing -/
def GD (P : P3) : Prop := ∀ T, RP P (RN : Int) T → cq T.2.2 0
theorem GD_iff {P T : P3} (hP : onC P) (h : RP P (RN : Int) T) : GD P ↔ cq T.2.2 0 := ⟨fun g => g T h, fun z T' h' => (RP.un hP h' h).z.mpr z⟩
theorem mk_2 : ∀ m, m < 8 → (nI m &&& nI 2 = 0 ↔ ¬ (m = 2 ∨ m = 3 ∨ m = 6 ∨ m = 7)) := by decide +kernel
theorem mk_1 : ∀ m, m < 8 → (nI m &&& nI 1 = 0 ↔ ¬ (m = 1 ∨ m = 3 ∨ m = 5 ∨ m = 7)) := by decide +kernel
theorem lw_eq {X Y : Int} : (X * WQ) % QJ = (Y * WQ) % QJ ↔ cq X Y := by
  constructor
  · intro h
    have h1 : cq (WQ * X) (WQ * Y) := by
      rw [Int.mul_comm WQ X, Int.mul_comm WQ Y]
      exact h
    exact cq_can (by unfold nq; decide +kernel) h1
  · intro h
    exact h.mul (cq.rf WQ)
theorem lw_one {g : WG} {H : Heap} {r : Nat} (h : ∃ f, AJ g H r 14 f ∧ RV f WQ) : LW g H r 1 := h.imp (fun f hf => ⟨hf.1, by rw [Int.one_mul, Int.emod_eq_of_lt WQ_r.1 WQ_r.2]; exact hf.2⟩)
/-- the rows of a point lie apart from the forms' -/
def PAP (F X : Nat → Nat) (r1 r2 r3 r4 t1 t2 t3 : Nat) : Prop := (t1 ≠ t2 ∧ t1 ≠ t3 ∧ t2 ≠ t3) ∧ (∀ i, i < 9 → X i ≠ t1 ∧ X i ≠ t2 ∧ X i ≠ t3) ∧ (∀ k, k < 6 → F k ≠ t1 ∧ F k ≠ t2 ∧ F k ≠ t3) ∧ (r1 ≠ t1 ∧ r1 ≠ t2 ∧ r1 ≠ t3) ∧ (r2 ≠ t1 ∧ r2 ≠ t2 ∧ r2 ≠ t3) ∧ (r3 ≠ t1 ∧ r3 ≠ t2 ∧ r3 ≠ t3) ∧ (r4 ≠ t1 ∧ r4 ≠ t2 ∧ r4 ≠ t3) ∧ (∀ k, k < 5 → F k ≠ r2 ∧ F k ≠ r3 ∧ F k ≠ r4 ∧ F k ≠ F 5 ∧ ∀ i, i < 9 → F k ≠ X i)
