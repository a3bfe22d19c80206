/-! the same with exponents in one number, six bits a letter: for the large identities -/
def mn (v : Nat → Int) : Nat → Nat → Nat → Int
  | 0, _, _ => 1
  | k + 1, i, m => v i ^ (m % 64) * mn v k (i + 1) (m / 64)
def okm : Nat → Nat → Bool
  | 0, _ => true
  | k + 1, m => Nat.ble (m % 64) 31 && okm k (m / 64)
theorem mn_add (v : Nat → Int) (k : Nat) : ∀ (i m n : Nat), okm k m = true → okm k n = true → mn v k i (m + n) = mn v k i m * mn v k i n := by
  induction k with
  | zero =>
    intro i m n _ _
    rfl
  | succ k ih =>
    intro i m n hm hn
    unfold okm at hm hn
    rw [Bool.and_eq_true] at hm hn
    have h1 := Nat.le_of_ble_eq_true hm.1
    have h2 := Nat.le_of_ble_eq_true hn.1
    have e1 : (m + n) % 64 = m % 64 + n % 64 := by omega
    have e2 : (m + n) / 64 = m / 64 + n / 64 := by omega
    unfold mn
    rw [e1, e2, ih _ _ _ hm.2 hn.2, Int.pow_add]
    generalize v i ^ (m % 64) = a
    generalize v i ^ (n % 64) = b
    generalize mn v k (i + 1) (m / 64) = c
    generalize mn v k (i + 1) (n / 64) = d
    grind
theorem mn_D (v : Nat → Int) (k : Nat) : ∀ (i m : Nat), ecM v i (ecD k m) = mn v k i m := by
  induction k with
  | zero =>
    intro i m
    rfl
  | succ k ih =>
    intro i m
    show v i ^ (m % 64) * ecM v (i + 1) (ecD k (m / 64)) = v i ^ (m % 64) * mn v k (i + 1) (m / 64)
    rw [ih]
abbrev FP := List (Nat × Int)
def fE (v : Nat → Int) : FP → Int
  | [] => 0
  | t :: p => t.2 * mn v 9 0 t.1 + fE v p
def fO : FP → Bool
  | [] => true
  | t :: p => okm 9 t.1 && fO p
theorem fE_L (v : Nat → Int) (p : FP) : ecE v (ecL p) = fE v p := by
  induction p with
  | nil => rfl
  | cons t p ih =>
    show t.2 * ecM v 0 (ecD 9 t.1) + ecE v (ecL p) = t.2 * mn v 9 0 t.1 + fE v p
    rw [ih, mn_D]
theorem fE_app (v : Nat → Int) (p q : FP) : fE v (p ++ q) = fE v p + fE v q := by
  induction p with
  | nil =>
    show fE v q = 0 + fE v q
    rw [Int.zero_add]
  | cons t p ih =>
    show t.2 * mn v 9 0 t.1 + fE v (p ++ q) = t.2 * mn v 9 0 t.1 + fE v p + fE v q
    rw [ih, Int.add_assoc]
theorem fO_app (p q : FP) : fO (p ++ q) = (fO p && fO q) := by
  induction p with
  | nil => rfl
  | cons t p ih =>
    show (okm 9 t.1 && fO (p ++ q)) = ((okm 9 t.1 && fO p) && fO q)
    rw [ih, Bool.and_assoc]
def fA : Nat → FP → FP → FP
  | 0, p, q => p ++ q
  | _ + 1, [], q => q
  | _ + 1, a :: p, [] => a :: p
  | n + 1, a :: p, b :: q => cond (Nat.ble b.1 a.1) (cond (Nat.ble a.1 b.1) (cond (ecZ (a.2 + b.2)) (fA n p q) ((a.1, a.2 + b.2) :: fA n p q)) (b :: fA n (a :: p) q)) (a :: fA n p (b :: q))
theorem fE_A (v : Nat → Int) (n : Nat) : ∀ p q : FP, fE v (fA n p q) = fE v p + fE v q := by
  induction n with
  | zero =>
    intro p q
    unfold fA
    exact fE_app v p q
  | succ n ih =>
    intro p q
    cases p with
    | nil =>
      unfold fA
      show fE v q = 0 + fE v q
      rw [Int.zero_add]
    | cons a p =>
      cases q with
      | nil =>
        unfold fA
        show fE v (a :: p) = fE v (a :: p) + 0
        rw [Int.add_zero]
      | cons b q =>
        unfold fA
        cases h1 : Nat.ble b.1 a.1 with
        | false =>
          show a.2 * mn v 9 0 a.1 + fE v (fA n p (b :: q)) = a.2 * mn v 9 0 a.1 + fE v p + fE v (b :: q)
          rw [ih, Int.add_assoc]
        | true =>
          cases h2 : Nat.ble a.1 b.1 with
          | false =>
            show b.2 * mn v 9 0 b.1 + fE v (fA n (a :: p) q) = fE v (a :: p) + (b.2 * mn v 9 0 b.1 + fE v q)
            rw [ih]
            exact Int.add_left_comm _ _ _
          | true =>
            have e : a.1 = b.1 := Nat.le_antisymm (Nat.le_of_ble_eq_true h2) (Nat.le_of_ble_eq_true h1)
            cases h3 : ecZ (a.2 + b.2) with
            | true =>
              have z : a.2 + b.2 = 0 := ecZ_eq h3
              show fE v (fA n p q) = (a.2 * mn v 9 0 a.1 + fE v p) + (b.2 * mn v 9 0 b.1 + fE v q)
              rw [ih, ← e]
              have hz : a.2 * mn v 9 0 a.1 + b.2 * mn v 9 0 a.1 = 0 := by rw [← Int.add_mul, z, Int.zero_mul]
              generalize a.2 * mn v 9 0 a.1 = x at hz
              generalize b.2 * mn v 9 0 a.1 = y at hz
              omega
            | false =>
              show (a.2 + b.2) * mn v 9 0 a.1 + fE v (fA n p q) = (a.2 * mn v 9 0 a.1 + fE v p) + (b.2 * mn v 9 0 b.1 + fE v q)
              rw [ih, ← e, Int.add_mul]
              generalize a.2 * mn v 9 0 a.1 = x
              generalize b.2 * mn v 9 0 a.1 = y
              omega
def fS (t : Nat × Int) : FP → FP
  | [] => []
  | u :: q => (t.1 + u.1, t.2 * u.2) :: fS t q
theorem fE_S (v : Nat → Int) {t : Nat × Int} (ht : okm 9 t.1 = true) (q : FP) : fO q = true → fE v (fS t q) = t.2 * mn v 9 0 t.1 * fE v q := by
  induction q with
  | nil =>
    intro _
    show (0 : Int) = t.2 * mn v 9 0 t.1 * 0
    rw [Int.mul_zero]
  | cons u q ih =>
    intro hq
    unfold fO at hq
    rw [Bool.and_eq_true] at hq
    show t.2 * u.2 * mn v 9 0 (t.1 + u.1) + fE v (fS t q) = t.2 * mn v 9 0 t.1 * (u.2 * mn v 9 0 u.1 + fE v q)
    rw [ih hq.2, mn_add v 9 0 t.1 u.1 ht hq.1]
    generalize mn v 9 0 t.1 = a
    generalize mn v 9 0 u.1 = b
    generalize fE v q = c
    grind
def fR : FP → FP → FP
  | [], _ => []
  | t :: p, q => fA 20000 (fS t q) (fR p q)
theorem fE_R (v : Nat → Int) (p q : FP) (hq : fO q = true) : fO p = true → fE v (fR p q) = fE v p * fE v q := by
  induction p with
  | nil =>
    intro _
    show (0 : Int) = 0 * fE v q
    rw [Int.zero_mul]
  | cons t p ih =>
    intro hp
    unfold fO at hp
    rw [Bool.and_eq_true] at hp
    show fE v (fA 20000 (fS t q) (fR p q)) = (t.2 * mn v 9 0 t.1 + fE v p) * fE v q
    rw [fE_A, fE_S v hp.1 q hq, ih hp.2, Int.add_mul]
def fX : Nat → FP → FP → FP
  | 0, p, q => fR p q
  | d + 1, p, q => fA 20000 (fX d (p.take (p.length / 2)) q) (fX d (p.drop (p.length / 2)) q)
theorem fO_td {p : FP} (n : Nat) (h : fO p = true) : fO (p.take n) = true ∧ fO (p.drop n) = true := by
  rw [← List.take_append_drop n p, fO_app, Bool.and_eq_true] at h
  exact h
theorem fE_td (v : Nat → Int) (p : FP) (n : Nat) : fE v (p.take n) + fE v (p.drop n) = fE v p := by
  rw [← fE_app, List.take_append_drop]
theorem fE_X (v : Nat → Int) (d : Nat) : ∀ (p q : FP), fO p = true → fO q = true → fE v (fX d p q) = fE v p * fE v q := by
  induction d with
  | zero =>
    intro p q hp hq
    exact fE_R v p q hq hp
  | succ d ih =>
    intro p q hp hq
    have h := fO_td (p.length / 2) hp
    show fE v (fA 20000 (fX d (p.take (p.length / 2)) q) (fX d (p.drop (p.length / 2)) q)) = _
    rw [fE_A, ih _ q h.1 hq, ih _ q h.2 hq, ← Int.add_mul, fE_td]
/-- two lists of terms are the same, term by term -/
def fQ : FP → FP → Bool
  | [], [] => true
  | [], _ :: _ => false
  | _ :: _, [] => false
  | a :: p, b :: q => Nat.beq a.1 b.1 && ecZ (a.2 + -b.2) && fQ p q
theorem fQ_e (v : Nat → Int) (p : FP) : ∀ q : FP, fQ p q = true → fE v p = fE v q := by
  induction p with
  | nil =>
    intro q h
    cases q with
    | nil => rfl
    | cons b q => exact absurd h (by show ¬ (false = true); decide)
  | cons a p ih =>
    intro q h
    cases q with
    | nil => exact absurd h (by show ¬ (false = true); decide)
    | cons b q =>
      unfold fQ at h
      rw [Bool.and_eq_true, Bool.and_eq_true] at h
      have h1 := Nat.eq_of_beq_eq_true h.1.1
      have h2 := ecZ_eq h.1.2
      have h3 : a.2 = b.2 := by omega
      show a.2 * mn v 9 0 a.1 + fE v p = b.2 * mn v 9 0 b.1 + fE v q
      rw [h1, h3, ih q h.2]
