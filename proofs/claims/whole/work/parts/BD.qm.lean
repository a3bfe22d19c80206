/-! the model's numbers modulo Q -/
theorem PP_Q : PP 0 14 = QJ := by decide +kernel
theorem w0_ : WH 0 14 := Or.inl ⟨rfl, rfl⟩
/-- a number of the model modulo Q -/
def MQ9 (fd : Nat → Int64) (s : Nat) (X : Int) : Prop := NV fd s (X % QJ)
theorem MQ9.off {fd fd' : Nat → Int64} {s r : Nat} {X : Int} (h : MQ9 fd s X) (ho : ∀ j, (j < 14 * r ∨ 14 * r + 14 ≤ j) → fd' j = fd j) (hne : s ≠ r) : MQ9 fd' s X := NV.off h ho hne
theorem MQ9.sm {fd fd' : Nat → Int64} {s : Nat} {X : Int} {P : Nat → Prop} (h : MQ9 fd s X) (hS : SAME fd fd' P) (hs : ¬ P s) : MQ9 fd' s X := (hS.sv hs (Nat.le_refl 14)).trans h
theorem MQ9.cg {fd : Nat → Int64} {s : Nat} {X Y : Int} (h : MQ9 fd s X) (e : X = Y) : MQ9 fd s Y := e ▸ h
theorem qq_lt {x y : Int} (hx : 0 ≤ x ∧ x < QJ) (hy : 0 ≤ y ∧ y < QJ) : 0 ≤ x + y ∧ x + y < 268435456 ^ 14 ∧ 0 ≤ x - y + QJ ∧ x - y + QJ < 268435456 ^ 14 := by
  have h : 2 * QJ < 268435456 ^ 14 := QJ_2
  omega
theorem mq_pr (X Y : Int) : ((X % QJ) * (Y % QJ)) % QJ = (X * Y) % QJ := (Int.mul_emod X Y QJ).symm
theorem mq_ad (X Y : Int) : ((X % QJ) + (Y % QJ)) % QJ = (X + Y) % QJ := (Int.add_emod X Y QJ).symm
theorem mq_ls (X Y : Int) : ((X % QJ) - (Y % QJ) + QJ) % QJ = (X - Y) % QJ := by rw [Int.add_emod_right, ← Int.sub_emod]
theorem M_Model_product (l : Launch) (g : WG) (n0 : Nat → Prop) (mo r a b : Nat) (th pw td wr : Int32) (fd : Nat → Int64) (hr1 : r < 170) (ha : a < 170) (hb1 : b < 170) (fa : Nat → Int64) (hAT : (∀ j, j ≤ 14 → PP 0 14 ∣ VL (fun k => fa (210 * 0 + 14 * j + k)) 14 - 268435456 ^ (14 + j))) (X Y : Int) (hx : MQ9 fd a X) (hy : MQ9 fd b Y) : Ctr l y_Model_product (.code y_Model_product prog_11_method_17_code 9 none) 2 51 0 0 n0 g [.ref mo, .int (nI r), .int (nI a), .int (nI b)] (fun H => MS g n0 H mo th pw td wr 0 14 fd ∧ AJ g H (mo + 4) 420 fa) (QV (fun H H' => KJ g (fun q => q = mo + 1 ∨ q = mo + 5) H H' ∧ ∃ fd', MS g n0 H' mo th pw td wr 0 14 fd' ∧ (∀ j, (j < 14 * r ∨ 14 * r + 14 ≤ j) → fd' j = fd j) ∧ MQ9 fd' r (X * Y))) :=
  (V_Model_product l g n0 mo r a b th pw td wr 0 14 w0_ fd hr1 ha hb1 fa hAT).imp (fun _ h => h) (fun v H H' h _ => ⟨h.1, by
    obtain ⟨hk, fd', hm, hpv, hv⟩ := h.2
    have hxx := qq_lt (qm_r X) (qm_r Y)
    rw [show SV fd a 14 = X % QJ from hx, show SV fd b 14 = Y % QJ from hy, PP_Q] at hv
    refine ⟨hk, fd', hm, hpv.1, ?_⟩
    exact (hv).trans (mq_pr X Y)⟩)
theorem M_Model_add (l : Launch) (g : WG) (n0 : Nat → Prop) (mo r a b : Nat) (th pw td wr : Int32) (fd : Nat → Int64) (hr1 : r < 170) (ha : a < 170) (hb1 : b < 170) (X Y : Int) (hx : MQ9 fd a X) (hy : MQ9 fd b Y) : Ctr l y_Model_add (.code y_Model_add prog_11_method_15_code 5 none) 2 51 0 0 n0 g [.ref mo, .int (nI r), .int (nI a), .int (nI b)] (fun H => MS g n0 H mo th pw td wr 0 14 fd) (QV (fun H H' => KJ g (fun q => q = mo + 1 ∨ q = mo + 5) H H' ∧ ∃ fd', MS g n0 H' mo th pw td wr 0 14 fd' ∧ (∀ j, (j < 14 * r ∨ 14 * r + 14 ≤ j) → fd' j = fd j) ∧ MQ9 fd' r (X + Y))) :=
  (c_Model_add l g n0 mo r a b th pw td wr 0 14 w0_ fd hr1 ha hb1).imp (fun _ h => h) (fun v H H' h _ => ⟨h.1, by
    obtain ⟨hk, fd', hm, hpv, hv⟩ := h.2
    have hxx := qq_lt (qm_r X) (qm_r Y)
    rw [show SV fd a 14 = X % QJ from hx, show SV fd b 14 = Y % QJ from hy, PP_Q] at hv
    refine ⟨hk, fd', hm, hpv.1, ?_⟩
    exact (hv hxx.1 hxx.2.1).trans (mq_ad X Y)⟩)
theorem M_Model_less (l : Launch) (g : WG) (n0 : Nat → Prop) (mo r a b : Nat) (th pw td wr : Int32) (fd : Nat → Int64) (hr1 : r < 170) (ha : a < 170) (hb1 : b < 170) (X Y : Int) (hx : MQ9 fd a X) (hy : MQ9 fd b Y) : Ctr l y_Model_less (.code y_Model_less prog_11_method_16_code 5 none) 2 51 0 0 n0 g [.ref mo, .int (nI r), .int (nI a), .int (nI b)] (fun H => MS g n0 H mo th pw td wr 0 14 fd) (QV (fun H H' => KJ g (fun q => q = mo + 1 ∨ q = mo + 5) H H' ∧ ∃ fd', MS g n0 H' mo th pw td wr 0 14 fd' ∧ (∀ j, (j < 14 * r ∨ 14 * r + 14 ≤ j) → fd' j = fd j) ∧ MQ9 fd' r (X - Y))) :=
  (c_Model_less l g n0 mo r a b th pw td wr 0 14 w0_ fd hr1 ha hb1).imp (fun _ h => h) (fun v H H' h _ => ⟨h.1, by
    obtain ⟨hk, fd', hm, hpv, hv⟩ := h.2
    have hxx := qq_lt (qm_r X) (qm_r Y)
    rw [show SV fd a 14 = X % QJ from hx, show SV fd b 14 = Y % QJ from hy, PP_Q] at hv
    refine ⟨hk, fd', hm, hpv.1, ?_⟩
    exact (hv hxx.2.2.1 hxx.2.2.2).trans (mq_ls X Y)⟩)
