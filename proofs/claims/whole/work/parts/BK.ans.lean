/-! the answer of point -/
theorem RSm_one {P : Nat → P3} {z : Nat → Int} {R : P3} (hP : AC P 1) (h : RSm P 1 z R) : RP (P 0) (z 0) R := by
  obtain ⟨h1, m, m', hz, h2⟩ := h
  have h0 := hP 0 (by decide)
  exact ⟨h1, m 0, m' 0, hz 0 (by decide), ((PE.rf R).ad2 (O_AD (onC_MU h0 (m' 0))).sy).tr (h2.tr (O_AD (onC_MU h0 (m 0))))⟩
theorem GD.cg {P P' : P3} (e : PE P P') : GD P ↔ GD P' := ⟨fun g T h => g T (h.bs e.sy), fun g T h => g T (h.bs e)⟩
theorem MU_O (n : Nat) : PE (MU PZ0 n) PZ0 := by
  induction n with
  | zero => exact PE.rf _
  | succ n ih => exact (AD_O (onC_MU onC_O n)).tr ih
theorem GD_O {P : P3} (e : PE P PZ0) : GD P := by
  intro T h
  obtain ⟨h1, m, n, hz, h2⟩ := h.bs e
  have k : PE T PZ0 := (AD_O h1).sy.tr (((PE.rf T).ad2 (MU_O n).sy).tr (h2.tr (MU_O m)))
  exact k.z.mpr (cq.rf 0)
def PA9 (t : Nat → Nat) (ts n : Nat) : Prop := ∃ r P, RD9 t ts r P ∧ ((r ≠ 0 ∧ n = r) ∨ (r = 0 ∧ GD P ∧ n = 0) ∨ (r = 0 ∧ ¬ GD P ∧ n = 6))
theorem PA9.un {t : Nat → Nat} {ts n n' : Nat} (h : PA9 t ts n) (h' : PA9 t ts n') : n = n' := by
  obtain ⟨r, P, h1, h2⟩ := h
  obtain ⟨r', P', h1', h2'⟩ := h'
  obtain ⟨e1, e2⟩ := h1.un h1'
  subst e1
  rcases h2 with ⟨a, b⟩ | ⟨a, b, c⟩ | ⟨a, b, c⟩ <;> rcases h2' with ⟨a', b'⟩ | ⟨a', b', c'⟩ | ⟨a', b', c'⟩ <;> first | omega | exact absurd ((GD.cg (e2 a)).mp b) b' | exact absurd ((GD.cg (e2 a)).mpr b') b
theorem RD9.le {t : Nat → Nat} {ts r : Nat} {P : P3} (h : RD9 t ts r P) : r ≤ 5 := by
  rcases h with ⟨_, h⟩ | ⟨_, _, h⟩ | ⟨_, _, _, ⟨_, h, _⟩ | ⟨_, h⟩⟩ | ⟨_, _, _, ⟨_, h⟩ | ⟨_, _, _, ⟨_, h, _⟩ | ⟨_, h⟩⟩⟩ <;> omega
theorem PA9.le {t : Nat → Nat} {ts n : Nat} (h : PA9 t ts n) : n ≤ 6 := by
  obtain ⟨r, P, h1, h2⟩ := h
  have := h1.le
  omega
theorem DO.sd {x : Int32} (h : DO x) : sd x := by
  have k : ∀ j : Fin 4, nI (2 * j.val + 1) = nI (2 * j.val + 8) - nI 7 ∧ 0 - nI (2 * j.val + 1) = nI (6 - 2 * j.val) - nI 7 := by decide +kernel
  rcases h with h | ⟨j, hj, h | h⟩
  · rw [h]; exact sd_0
  · exact ⟨2 * j + 8, by omega, h.trans (k ⟨j, hj⟩).1⟩
  · exact ⟨6 - 2 * j, by omega, h.trans (k ⟨j, hj⟩).2⟩
theorem LPt.fr {g : WG} {S : Nat → Prop} {H H' : Heap} {x y z : Nat} {P : P3} (h : LPt g H x y z P) (hk : FRM S H H') (h1 : ¬ S x) (h2 : ¬ S y) (h3 : ¬ S z) : LPt g H' x y z P := ⟨h.1.imp (fun f hf => ⟨AJ.off hk h1 hf.1, hf.2⟩), h.2.1.imp (fun f hf => ⟨AJ.off hk h2 hf.1, hf.2⟩), h.2.2.imp (fun f hf => ⟨AJ.off hk h3 hf.1, hf.2⟩)⟩
theorem RN_256 : RN < 2 ^ 256 := by decide +kernel
theorem kR_rn : RV kR ((RN : Nat) : Int) := by rw [← RI_N]; exact kR_rv
