/-! polynomials in nine letters as lists of terms, reckoned with by the kernel: a term is (exponents, number) -/
abbrev EcP := List (List Nat × Int)
def ecM (v : Nat → Int) : Nat → List Nat → Int
  | _, [] => 1
  | i, x :: m => v i ^ x * ecM v (i + 1) m
def ecT : List Nat → List Nat → List Nat
  | [], n => n
  | x :: m, [] => x :: m
  | x :: m, y :: n => (x + y) :: ecT m n
theorem ecM_T (v : Nat → Int) (m : List Nat) : ∀ (i : Nat) (n : List Nat), ecM v i (ecT m n) = ecM v i m * ecM v i n := by
  induction m with
  | nil =>
    intro i n
    unfold ecT
    show ecM v i n = 1 * ecM v i n
    rw [Int.one_mul]
  | cons x m ih =>
    intro i n
    cases n with
    | nil =>
      unfold ecT
      show ecM v i (x :: m) = ecM v i (x :: m) * 1
      rw [Int.mul_one]
    | cons y n =>
      unfold ecT
      show v i ^ (x + y) * ecM v (i + 1) (ecT m n) = (v i ^ x * ecM v (i + 1) m) * (v i ^ y * ecM v (i + 1) n)
      rw [ih, Int.pow_add]
      generalize v i ^ x = a
      generalize v i ^ y = b
      generalize ecM v (i + 1) m = c
      generalize ecM v (i + 1) n = d
      grind
/-- 0 the same, 1 below, 2 above -/
def ecC : List Nat → List Nat → Nat
  | [], [] => 0
  | [], _ :: _ => 1
  | _ :: _, [] => 2
  | x :: m, y :: n => cond (Nat.beq (ecC m n) 0) (cond (Nat.beq x y) 0 (cond (Nat.ble x y) 1 2)) (ecC m n)
theorem ecC_eq (m : List Nat) : ∀ n : List Nat, ecC m n = 0 → m = n := by
  induction m with
  | nil =>
    intro n h
    cases n with
    | nil => rfl
    | cons y n => exact absurd h (by show ¬ (1 = 0); decide)
  | cons x m ih =>
    intro n h
    cases n with
    | nil => exact absurd h (by show ¬ (2 = 0); decide)
    | cons y n =>
      unfold ecC at h
      cases h0 : Nat.beq (ecC m n) 0 with
      | false =>
        rw [h0] at h
        have h : ecC m n = 0 := h
        rw [h] at h0
        exact absurd h0 (by decide)
      | true =>
        rw [h0] at h
        have h9 := ih n (Nat.eq_of_beq_eq_true h0)
        cases h1 : Nat.beq x y with
        | true => rw [Nat.eq_of_beq_eq_true h1, h9]
        | false =>
          rw [h1] at h
          cases h2 : Nat.ble x y with
          | true =>
            rw [h2] at h
            exact absurd h (by show ¬ (1 = 0); decide)
          | false =>
            rw [h2] at h
            exact absurd h (by show ¬ (2 = 0); decide)
def ecE (v : Nat → Int) : EcP → Int
  | [] => 0
  | t :: p => t.2 * ecM v 0 t.1 + ecE v p
theorem ecE_app (v : Nat → Int) (p q : EcP) : ecE v (p ++ q) = ecE v p + ecE v q := by
  induction p with
  | nil =>
    show ecE v q = 0 + ecE v q
    rw [Int.zero_add]
  | cons t p ih =>
    show t.2 * ecM v 0 t.1 + ecE v (p ++ q) = t.2 * ecM v 0 t.1 + ecE v p + ecE v q
    rw [ih, Int.add_assoc]
def ecZ : Int → Bool
  | Int.ofNat n => Nat.beq n 0
  | Int.negSucc _ => false
theorem ecZ_eq {x : Int} (h : ecZ x = true) : x = 0 := by
  cases x with
  | ofNat n =>
    have e : n = 0 := Nat.eq_of_beq_eq_true h
    rw [e]
    rfl
  | negSucc n => exact absurd h (by show ¬ (false = true); decide)
/-- the sum of two polynomials in order; n: as many steps as there may be -/
def ecA : Nat → EcP → EcP → EcP
  | 0, p, q => p ++ q
  | _ + 1, [], q => q
  | _ + 1, a :: p, [] => a :: p
  | n + 1, a :: p, b :: q => cond (Nat.beq (ecC a.1 b.1) 0) (cond (ecZ (a.2 + b.2)) (ecA n p q) ((a.1, a.2 + b.2) :: ecA n p q)) (cond (Nat.beq (ecC a.1 b.1) 1) (a :: ecA n p (b :: q)) (b :: ecA n (a :: p) q))
theorem ecE_A (v : Nat → Int) (n : Nat) : ∀ p q : EcP, ecE v (ecA n p q) = ecE v p + ecE v q := by
  induction n with
  | zero =>
    intro p q
    unfold ecA
    exact ecE_app v p q
  | succ n ih =>
    intro p q
    cases p with
    | nil =>
      unfold ecA
      show ecE v q = 0 + ecE v q
      rw [Int.zero_add]
    | cons a p =>
      cases q with
      | nil =>
        unfold ecA
        show ecE v (a :: p) = ecE v (a :: p) + 0
        rw [Int.add_zero]
      | cons b q =>
        unfold ecA
        cases h1 : Nat.beq (ecC a.1 b.1) 0 with
        | false =>
          cases h2 : Nat.beq (ecC a.1 b.1) 1 with
          | true =>
            show a.2 * ecM v 0 a.1 + ecE v (ecA n p (b :: q)) = a.2 * ecM v 0 a.1 + ecE v p + ecE v (b :: q)
            rw [ih, Int.add_assoc]
          | false =>
            show b.2 * ecM v 0 b.1 + ecE v (ecA n (a :: p) q) = ecE v (a :: p) + (b.2 * ecM v 0 b.1 + ecE v q)
            rw [ih]
            exact Int.add_left_comm _ _ _
        | true =>
          have e : a.1 = b.1 := ecC_eq _ _ (Nat.eq_of_beq_eq_true h1)
          cases h3 : ecZ (a.2 + b.2) with
          | true =>
            have z : a.2 + b.2 = 0 := ecZ_eq h3
            show ecE v (ecA n p q) = (a.2 * ecM v 0 a.1 + ecE v p) + (b.2 * ecM v 0 b.1 + ecE v q)
            rw [ih, ← e]
            have hz : a.2 * ecM v 0 a.1 + b.2 * ecM v 0 a.1 = 0 := by rw [← Int.add_mul, z, Int.zero_mul]
            generalize a.2 * ecM v 0 a.1 = x at hz
            generalize b.2 * ecM v 0 a.1 = y at hz
            omega
          | false =>
            show (a.2 + b.2) * ecM v 0 a.1 + ecE v (ecA n p q) = (a.2 * ecM v 0 a.1 + ecE v p) + (b.2 * ecM v 0 b.1 + ecE v q)
            rw [ih, ← e, Int.add_mul]
            generalize a.2 * ecM v 0 a.1 = x
            generalize b.2 * ecM v 0 a.1 = y
            omega
def ecS (t : List Nat × Int) : EcP → EcP
  | [] => []
  | u :: q => (ecT t.1 u.1, t.2 * u.2) :: ecS t q
theorem ecE_S (v : Nat → Int) (t : List Nat × Int) (q : EcP) : ecE v (ecS t q) = t.2 * ecM v 0 t.1 * ecE v q := by
  induction q with
  | nil =>
    show (0 : Int) = t.2 * ecM v 0 t.1 * 0
    rw [Int.mul_zero]
  | cons u q ih =>
    show t.2 * u.2 * ecM v 0 (ecT t.1 u.1) + ecE v (ecS t q) = t.2 * ecM v 0 t.1 * (u.2 * ecM v 0 u.1 + ecE v q)
    rw [ih, ecM_T v t.1 0 u.1]
    generalize ecM v 0 t.1 = a
    generalize ecM v 0 u.1 = b
    generalize ecE v q = c
    grind
def ecR : EcP → EcP → EcP
  | [], _ => []
  | t :: p, q => ecA 20000 (ecS t q) (ecR p q)
theorem ecE_R (v : Nat → Int) (p q : EcP) : ecE v (ecR p q) = ecE v p * ecE v q := by
  induction p with
  | nil =>
    show (0 : Int) = 0 * ecE v q
    rw [Int.zero_mul]
  | cons t p ih =>
    show ecE v (ecA 20000 (ecS t q) (ecR p q)) = (t.2 * ecM v 0 t.1 + ecE v p) * ecE v q
    rw [ecE_A, ecE_S, ih, Int.add_mul]
def ecX : Nat → EcP → EcP → EcP
  | 0, p, q => ecR p q
  | d + 1, p, q => ecA 20000 (ecX d (p.take (p.length / 2)) q) (ecX d (p.drop (p.length / 2)) q)
theorem ecE_td (v : Nat → Int) (p : EcP) (n : Nat) : ecE v (p.take n) + ecE v (p.drop n) = ecE v p := by
  rw [← ecE_app, List.take_append_drop]
theorem ecE_X (v : Nat → Int) (d : Nat) : ∀ (p q : EcP), ecE v (ecX d p q) = ecE v p * ecE v q := by
  induction d with
  | zero =>
    intro p q
    exact ecE_R v p q
  | succ d ih =>
    intro p q
    show ecE v (ecA 20000 (ecX d (p.take (p.length / 2)) q) (ecX d (p.drop (p.length / 2)) q)) = _
    rw [ecE_A, ih _ q, ih _ q, ← Int.add_mul, ecE_td]
def ecK (k : Int) : EcP → EcP
  | [] => []
  | t :: p => (t.1, k * t.2) :: ecK k p
theorem ecE_K (v : Nat → Int) (k : Int) (p : EcP) : ecE v (ecK k p) = k * ecE v p := by
  induction p with
  | nil =>
    show (0 : Int) = k * 0
    rw [Int.mul_zero]
  | cons t p ih =>
    show k * t.2 * ecM v 0 t.1 + ecE v (ecK k p) = k * (t.2 * ecM v 0 t.1 + ecE v p)
    rw [ih, Int.mul_add, Int.mul_assoc]
/-- a polynomial from exponents in six bits each -/
def ecD : Nat → Nat → List Nat
  | 0, _ => []
  | k + 1, m => (m % 64) :: ecD k (m / 64)
def ecL : List (Nat × Int) → EcP
  | [] => []
  | t :: p => (ecD 9 t.1, t.2) :: ecL p
def ecV (i : Nat) : EcP := [(ecD 9 (64 ^ i), 1)]
theorem ec_p1 (x : Int) : x ^ 1 = x := by rw [Int.pow_succ, Int.pow_zero, Int.one_mul]
theorem ecE_V (v : Nat → Int) (i : Nat) (hi : i < 9) : ecE v (ecV i) = v i := by
  have h : i = 0 ∨ i = 1 ∨ i = 2 ∨ i = 3 ∨ i = 4 ∨ i = 5 ∨ i = 6 ∨ i = 7 ∨ i = 8 := by omega
  rcases h with h | h | h | h | h | h | h | h | h <;> subst h <;> simp [ecV, ecE, ecD, ecM, ec_p1]
/-- two polynomials are the same -/
def ecQ (p q : EcP) : Bool := (ecA 20000 p (ecK (-1) q)).isEmpty
theorem ecQ_e (v : Nat → Int) {p q : EcP} (h : ecQ p q = true) : ecE v p = ecE v q := by
  have e : ecA 20000 p (ecK (-1) q) = [] := List.isEmpty_iff.mp h
  have e2 : ecE v (ecA 20000 p (ecK (-1) q)) = 0 := by
    rw [e]
    rfl
  rw [ecE_A, ecE_K] at e2
  omega
def ecI (k a b c d : Int) : Int := a * b + k * (c * d)
def ecP (k : Int) (a b c d : EcP) : EcP := ecA 20000 (ecX 7 a b) (ecK k (ecX 7 c d))
theorem ecE_P (v : Nat → Int) (k : Int) (a b c d : EcP) : ecE v (ecP k a b c d) = ecI k (ecE v a) (ecE v b) (ecE v c) (ecE v d) := by
  unfold ecP ecI
  rw [ecE_A, ecE_K, ecE_X, ecE_X]
/-! the sum of two points, as class and reference reckon it -/
def SX (a b c d e f : Int) : Int := ecI (-12) (ecI 1 a e d b) (ecI (-12) b e c f) (ecI 1 b f e c) (ecI 1 a f d c)
def SY (a b c d e f : Int) : Int := ecI 36 (ecI (-12) b e c f) (ecI 12 b e c f) (a * d) (ecI 1 a f d c)
def SZ (a b c d e f : Int) : Int := ecI 3 (ecI 1 b f e c) (ecI 12 b e c f) (a * d) (ecI 1 a e d b)
def CE (a b c : Int) : Int := ecI (-1) (b * b) c (a * a) a + -4 * (c * c * c)
def pX (a b c d e f : EcP) : EcP := ecP (-12) (ecP 1 a e d b) (ecP (-12) b e c f) (ecP 1 b f e c) (ecP 1 a f d c)
def pY (a b c d e f : EcP) : EcP := ecP 36 (ecP (-12) b e c f) (ecP 12 b e c f) (ecX 7 a d) (ecP 1 a f d c)
def pZ (a b c d e f : EcP) : EcP := ecP 3 (ecP 1 b f e c) (ecP 12 b e c f) (ecX 7 a d) (ecP 1 a e d b)
def pE (a b c : EcP) : EcP := ecA 20000 (ecP (-1) (ecX 7 b b) c (ecX 7 a a) a) (ecK (-4) (ecX 7 (ecX 7 c c) c))
theorem ecE_SX (v : Nat → Int) (a b c d e f : EcP) : ecE v (pX a b c d e f) = SX (ecE v a) (ecE v b) (ecE v c) (ecE v d) (ecE v e) (ecE v f) := by
  unfold pX SX
  rw [ecE_P, ecE_P, ecE_P, ecE_P, ecE_P]
theorem ecE_SY (v : Nat → Int) (a b c d e f : EcP) : ecE v (pY a b c d e f) = SY (ecE v a) (ecE v b) (ecE v c) (ecE v d) (ecE v e) (ecE v f) := by
  unfold pY SY
  rw [ecE_P, ecE_P, ecE_P, ecE_P, ecE_X]
theorem ecE_SZ (v : Nat → Int) (a b c d e f : EcP) : ecE v (pZ a b c d e f) = SZ (ecE v a) (ecE v b) (ecE v c) (ecE v d) (ecE v e) (ecE v f) := by
  unfold pZ SZ
  rw [ecE_P, ecE_P, ecE_P, ecE_P, ecE_X]
theorem ecE_CE (v : Nat → Int) (a b c : EcP) : ecE v (pE a b c) = CE (ecE v a) (ecE v b) (ecE v c) := by
  unfold pE CE
  rw [ecE_A, ecE_P, ecE_K, ecE_X, ecE_X, ecE_X, ecE_X]
/-! nine letters -/
def v9 (a b c d e f g h i : Int) : Nat → Int
  | 0 => a
  | 1 => b
  | 2 => c
  | 3 => d
  | 4 => e
  | 5 => f
  | 6 => g
  | 7 => h
  | _ => i
