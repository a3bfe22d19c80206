/-! multiples of multiples -/
theorem RP.mu {G P : P3} {c : Int} (hG : onC G) (h : RP G c P) (m : Nat) : RP G ((m : Int) * c) (MU P m) := by
  induction m with
  | zero =>
    rw [show ((0 : Nat) : Int) * c = 0 from Int.zero_mul c]
    exact RP_O G
  | succ m ih =>
    rw [show ((m + 1 : Nat) : Int) = (m : Int) + 1 from rfl, Int.add_mul, Int.one_mul]
    exact RP.add hG ih h
def SZ9 (z c : Nat → Int) : Nat → Int
  | 0 => 0
  | n + 1 => SZ9 z c n + z n * c n
theorem SZ9_sub {z m m' c : Nat → Int} {n : Nat} (h : ∀ k, k < n → z k = m k - m' k) : SZ9 m c n + -(SZ9 m' c n) = SZ9 z c n := by
  induction n with
  | zero => rfl
  | succ n ih =>
    show SZ9 m c n + m n * c n + -(SZ9 m' c n + m' n * c n) = SZ9 z c n + z n * c n
    rw [← ih (fun k hk => h k (by omega)), h n (by omega), Int.sub_mul]
    omega
theorem SM_RP {G : P3} (hG : onC G) {P : Nat → P3} {c : Nat → Int} {n : Nat} (h : ∀ k, k < n → RP G (c k) (P k)) (m : Nat → Nat) : RP G (SZ9 (fun k => (m k : Int)) c n) (SM P m n) := by
  induction n with
  | zero => exact RP_O G
  | succ n ih => exact RP.add hG (ih (fun k hk => h k (by omega))) ((h n (by omega)).mu hG (m n))
theorem RSm_RP {G : P3} (hG : onC G) {P : Nat → P3} {c z : Nat → Int} {n : Nat} {R : P3} (h : ∀ k, k < n → RP G (c k) (P k)) (hR : RSm P n z R) : RP G (SZ9 z c n) R := by
  obtain ⟨h1, m, m', hz, h2⟩ := hR
  have a := SM_RP hG h m
  have a' := SM_RP hG h m'
  have hS := a'.1
  have ny : PE (AD (NG (SM P m' n)) (SM P m' n)) PZ0 := by
    rw [AD_cm]
    exact AD_ng hS
  have e : PE R (AD (SM P m n) (NG (SM P m' n))) := AD_can h1 (a.1.ad hS.ng) hS (h2.tr ((AD_as a.1 hS.ng hS).tr (((PE.rf _).ad2 ny).tr (AD_O a.1))).sy)
  have r := (RP.add hG a (a'.ng hG)).cg e
  rw [SZ9_sub hz] at r
  exact r
/-- four windows of 64 bits -/
theorem win4 {s : Nat} (h : s < 2 ^ 256) : SZ9 (fun k => ((s / 2 ^ (64 * k) % 2 ^ 64 : Nat) : Int)) (fun k => ((2 ^ (64 * k) : Nat) : Int)) 4 = (s : Int) := by
  show 0 + ((s / 2 ^ (64 * 0) % 2 ^ 64 : Nat) : Int) * ((2 ^ (64 * 0) : Nat) : Int) + ((s / 2 ^ (64 * 1) % 2 ^ 64 : Nat) : Int) * ((2 ^ (64 * 1) : Nat) : Int) + ((s / 2 ^ (64 * 2) % 2 ^ 64 : Nat) : Int) * ((2 ^ (64 * 2) : Nat) : Int) + ((s / 2 ^ (64 * 3) % 2 ^ 64 : Nat) : Int) * ((2 ^ (64 * 3) : Nat) : Int) = (s : Int)
  have e0 : (2 : Nat) ^ (64 * 0) = 1 := rfl
  have e1 : (2 : Nat) ^ (64 * 1) = 18446744073709551616 := rfl
  have e2 : (2 : Nat) ^ (64 * 2) = 340282366920938463463374607431768211456 := rfl
  have e3 : (2 : Nat) ^ (64 * 3) = 6277101735386680763835789423207666416102355444464034512896 := rfl
  have e5 : (2 : Nat) ^ 256 = 115792089237316195423570985008687907853269984665640564039457584007913129639936 := rfl
  rw [e5] at h
  rw [e0, e1, e2, e3]
  omega
