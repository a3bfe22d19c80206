/-! sums of multiples of several points -/
def SM (P : Nat → P3) (m : Nat → Nat) : Nat → P3
  | 0 => PZ0
  | n + 1 => AD (SM P m n) (MU (P n) (m n))
def AC (P : Nat → P3) (n : Nat) : Prop := ∀ k, k < n → onC (P k)
theorem AC.lo {P : Nat → P3} {n : Nat} (h : AC P (n + 1)) : AC P n := fun k hk => h k (by omega)
theorem onC_SM {P : Nat → P3} {n : Nat} (h : AC P n) (m : Nat → Nat) : onC (SM P m n) := by
  induction n with
  | zero => exact onC_O
  | succ n ih => exact (ih h.lo).ad (onC_MU (h n (Nat.lt_succ_self n)) _)
theorem SM_ext {P : Nat → P3} {n : Nat} {m m' : Nat → Nat} (h : ∀ k, k < n → m k = m' k) : SM P m n = SM P m' n := by
  induction n with
  | zero => rfl
  | succ n ih =>
    unfold SM
    rw [ih (fun k hk => h k (by omega)), h n (Nat.lt_succ_self n)]
theorem SM_add {P : Nat → P3} {n : Nat} (h : AC P n) (m m' : Nat → Nat) : PE (AD (SM P m n) (SM P m' n)) (SM P (fun k => m k + m' k) n) := by
  induction n with
  | zero => exact AD_O onC_O
  | succ n ih =>
    have hn := h n (Nat.lt_succ_self n)
    exact (AD_4 (onC_SM h.lo m) (onC_MU hn _) (onC_SM h.lo m') (onC_MU hn _)).tr ((ih h.lo).ad2 (MU_add hn (m n) (m' n)))
theorem SM_0 {P : Nat → P3} {n : Nat} (h : AC P n) : PE (SM P (fun _ => 0) n) PZ0 := by
  induction n with
  | zero => exact PE.rf _
  | succ n ih => exact (AD_O (onC_SM h.lo _)).tr (ih h.lo)
theorem SM_1 {P : Nat → P3} {n k : Nat} (h : AC P n) (hk : k < n) (a : Nat) : PE (SM P (fun j => if j = k then a else 0) n) (MU (P k) a) := by
  induction n with
  | zero => omega
  | succ n ih =>
    have hn := h n (Nat.lt_succ_self n)
    by_cases e : k = n
    · subst e
      show PE (AD (SM P (fun j => if j = k then a else 0) k) (MU (P k) (if k = k then a else 0))) _
      rw [if_pos rfl, SM_ext (m' := fun _ => 0) (fun j hj => if_neg (by omega))]
      exact ((SM_0 h.lo).ad _).tr (O_AD (onC_MU hn a))
    · show PE (AD (SM P (fun j => if j = k then a else 0) n) (MU (P n) (if n = k then a else 0))) _
      rw [if_neg (fun q => e q.symm)]
      exact (AD_O (onC_SM h.lo _)).tr (ih h.lo (by omega))
/-- R is the sum of z k times P k -/
def RSm (P : Nat → P3) (n : Nat) (z : Nat → Int) (R : P3) : Prop := onC R ∧ ∃ m m' : Nat → Nat, (∀ k, k < n → z k = (m k : Int) - (m' k : Int)) ∧ PE (AD R (SM P m' n)) (SM P m n)
theorem RSm_O {P : Nat → P3} {n : Nat} (hP : AC P n) : RSm P n (fun _ => 0) PZ0 := ⟨onC_O, fun _ => 0, fun _ => 0, fun _ _ => rfl, O_AD (onC_SM hP _)⟩
theorem RSm.ext {P : Nat → P3} {n : Nat} {z z' : Nat → Int} {R : P3} (h : RSm P n z R) (e : ∀ k, k < n → z k = z' k) : RSm P n z' R := by
  obtain ⟨h1, m, m', hz, h2⟩ := h
  exact ⟨h1, m, m', fun k hk => (e k hk).symm.trans (hz k hk), h2⟩
theorem RSm.cg {P : Nat → P3} {n : Nat} {z : Nat → Int} {R R' : P3} (h : RSm P n z R) (e : PE R' R) : RSm P n z R' := by
  obtain ⟨h1, m, m', hz, h2⟩ := h
  exact ⟨e.on h1, m, m', hz, (e.ad _).tr h2⟩
theorem RSm.add {P : Nat → P3} {n : Nat} {z z' : Nat → Int} {R R' : P3} (hP : AC P n) (h : RSm P n z R) (h' : RSm P n z' R') : RSm P n (fun k => z k + z' k) (AD R R') := by
  obtain ⟨h1, m, n1, hz, h2⟩ := h
  obtain ⟨h1', m', n1', hz', h2'⟩ := h'
  refine ⟨h1.ad h1', fun k => m k + m' k, fun k => n1 k + n1' k, fun k hk => ?_, ?_⟩
  · show z k + z' k = ((m k + m' k : Nat) : Int) - ((n1 k + n1' k : Nat) : Int)
    rw [hz k hk, hz' k hk]
    omega
  · have e1 := (PE.rf (AD R R')).ad2 (SM_add hP n1 n1').sy
    have e2 := AD_4 h1 h1' (onC_SM hP n1) (onC_SM hP n1')
    exact ((e1.tr e2).tr (h2.ad2 h2')).tr (SM_add hP m m')
theorem RSm.db {P : Nat → P3} {n : Nat} {z : Nat → Int} {R : P3} (hP : AC P n) (h : RSm P n z R) : RSm P n (fun k => 2 * z k) (DB R) :=
  ((RSm.add hP h h).cg (DB_PE h.1)).ext (fun k _ => by omega)
theorem RSm_1 {P : Nat → P3} {n k : Nat} {w : Int} {R : P3} (hP : AC P n) (hk : k < n) (h : RP (P k) w R) : RSm P n (fun j => if j = k then w else 0) R := by
  obtain ⟨h1, m, m', hz, h2⟩ := h
  refine ⟨h1, fun j => if j = k then m else 0, fun j => if j = k then m' else 0, fun j _ => ?_, ?_⟩
  · by_cases e : j = k
    · simp only [e, if_true]
      exact hz
    · simp only [e, if_false]
      rfl
  · exact (((PE.rf R).ad2 (SM_1 hP hk m')).tr h2).tr (SM_1 hP hk m).sy
theorem RSm.un {P : Nat → P3} {n : Nat} {z : Nat → Int} {R R' : P3} (hP : AC P n) (h : RSm P n z R) (h' : RSm P n z R') : PE R R' := by
  obtain ⟨h1, m, n1, hz, h2⟩ := h
  obtain ⟨h1', m', n1', hz', h2'⟩ := h'
  refine AD_can h1 h1' (onC_SM hP (fun k => n1 k + n1' k)) ?_
  have k : ∀ {X : P3} {a b c : Nat → Nat}, onC X → PE (AD X (SM P a n)) (SM P b n) → PE (AD X (SM P (fun k => a k + c k) n)) (SM P (fun k => b k + c k) n) := by
    intro X a b c hX hE
    have e1 := (PE.rf X).ad2 (SM_add hP a c).sy
    have e2 := (AD_as hX (onC_SM hP a) (onC_SM hP c)).sy
    exact ((e1.tr e2).tr (hE.ad _)).tr (SM_add hP b c)
  have a1 := k (c := n1') h1 h2
  have a2 := k (c := n1) h1' h2'
  rw [SM_ext (P := P) (n := n) (m := fun k => n1' k + n1 k) (m' := fun k => n1 k + n1' k) (fun k _ => Nat.add_comm _ _)] at a2
  rw [SM_ext (P := P) (n := n) (m := fun k => m k + n1' k) (m' := fun k => m' k + n1 k) (fun k hk => by
    have e1 := hz k hk
    have e2 := hz' k hk
    omega)] at a1
  exact a1.tr a2.sy
