/-! what the desk holds -/
def kPX (b q : Nat) : Prop := q = b + 168 ∨ (b + 170 ≤ q ∧ q ≤ b + 173) ∨ q = b + 175 ∨ q = b + 466 ∨ (b + 496 ≤ q ∧ q ≤ b + 498) ∨ (b + 34 ≤ q ∧ q ≤ b + 147)
def kCW (b q : Nat) : Prop := kE5 b q ∨ kPX b q
theorem kCW_lt {b q : Nat} (h : kCW b q) : q < b + 510 := by unfold kCW kE5 kPX at h; omega
/-- what a call leaves beside the desk's values: below the desk, the model, the tape, the text -/
def kS (b q : Nat) : Prop := q < b ∨ (b + 501 ≤ q ∧ q ≤ b + 509) ∨ q = b + 149 ∨ q = b + 151
theorem kS_lt {b q : Nat} (h : kS b q) : q < b + 510 := by unfold kS at h; omega
def kB (b q : Nat) : Prop := q < b ∨ (b + 501 ≤ q ∧ q ≤ b + 509) ∨ q = b + 149
theorem kB_S {b q : Nat} (h : kB b q) : kS b q := by unfold kB at h; unfold kS; omega
def kU (b q : Nat) : Prop := q < b ∨ (b + 501 ≤ q ∧ q ≤ b + 509) ∨ q = b + 151 ∨ kCW b q
theorem kU_lt {b q : Nat} (h : kU b q) : q < b + 510 := by unfold kU kCW kE5 kPX at h; omega
theorem k149_lt {b : Nat} : b + 149 < b + 510 := by omega
def kWr (b q : Nat) : Prop := nD b q ∧ q ≠ b + 149 ∧ q ≠ b + 151
theorem LG.growX {g : WG} {s0 : State} {H H' : Heap} {b pn tn wn : Nat} {mr mq : Int64} (h : LG g s0 H b pn tn wn mr mq) (hb0 : s0.heap.size ≤ b) (hs : H.size ≤ H'.size) (he : ∀ q, q < H.size → H'[q]? = H[q]?) : LG g s0 H' b pn tn wn mr mq ∧ ∀ q, q < b + 510 → H'[q]? = H[q]? :=
  ⟨(h.grow hb0 hs he).1, fun q hq => he q (Nat.lt_of_lt_of_le hq (Nat.le_trans (Nat.add_le_add_left (by decide) b) h.2.1))⟩
theorem LG.storeX {g : WG} {s0 : State} {H H' : Heap} {b pn tn wn : Nat} {mr mq : Int64} {f : Nat → Int64} (h : LG g s0 H b pn tn wn mr mq) (hb0 : s0.heap.size ≤ b) (hk : KJ g (fun q => q = b + 510) H H') (hA : AJ g H' (b + 510) 1 f) : LG g s0 H' b pn tn wn mr mq ∧ ∀ q, q < b + 510 → H'[q]? = H[q]? :=
  ⟨(h.store hb0 hk hA).1, fun q hq => hk.off (show ¬ q = b + 510 by omega)⟩
theorem LG.callX {g : WG} {S : Nat → Prop} {s0 : State} {H H' : Heap} {b pn tn wn pn2 tn2 wn2 : Nat} {mr mq : Int64} (h : LG g s0 H b pn tn wn mr mq) (hb0 : s0.heap.size ≤ b) (f : FRM S H H') (hS : ∀ q, S q → kWr b q) (d : DX0 g H' b pn2 mr mq ∧ RW9 g H' (b + 148) (b + 149) tn2 ∧ RW9 g H' (b + 150) (b + 151) wn2 ∧ pn2 ≤ 16 ∧ tn2 ≤ 96 ∧ wn2 ≤ 96) : LG g s0 H' b pn2 tn2 wn2 mr mq ∧ ∀ q, kS b q → H'[q]? = H[q]? :=
  ⟨⟨fun q hq => (f.2 q (fun k => by have := (hS q k).1.1; omega)).trans (h.1 q hq), by rw [f.1]; exact h.2.1, ⟨FRM.rf, d⟩, h.2.2.2.imp (fun f9 hf => AJ.off f (fun k => by have := (hS _ k).1.2; omega) hf)⟩, fun q hq => f.2 q (fun k => by have h9 := hS q k; unfold kWr nD at h9; unfold kS at hq; omega)⟩
theorem LG.callF {g : WG} {s0 : State} {H H' : Heap} {b pn tn wn pn2 tn2 wn2 : Nat} {mr mq : Int64} (h : LG g s0 H b pn tn wn mr mq) (hb0 : s0.heap.size ≤ b) (d : DSF g H H' b pn2 tn2 wn2 mr mq) : LG g s0 H' b pn2 tn2 wn2 mr mq ∧ ∀ q, kU b q → H'[q]? = H[q]? :=
  ⟨⟨fun q hq => (d.1.2 q (by omega)).trans (h.1 q hq), by rw [d.1.1]; exact h.2.1, ⟨FRM.rf, d.2⟩, h.2.2.2.imp (fun f hf => AJ.off d.1 (by omega) hf)⟩, fun q hq => d.1.2 q (by unfold kU kCW kE5 kPX at hq; omega)⟩
theorem nfs_W {b : Nat} : ∀ q, nFS b q → kWr b q := by
  intro q h
  unfold nFS kSW kW at h
  unfold kWr nD
  omega
theorem nfs_510 {b : Nat} : ¬ nFS b (b + 510) := fun h => by have := (nfs_W _ h).1.2; omega
theorem LG.callS {g : WG} {s0 : State} {H H' : Heap} {b pn tn wn pn2 tn2 wn2 : Nat} {mr mq : Int64} (h : LG g s0 H b pn tn wn mr mq) (hb0 : s0.heap.size ≤ b) (d : DSS g H H' b pn2 tn2 wn2 mr mq) : LG g s0 H' b pn2 tn2 wn2 mr mq ∧ ∀ q, kS b q → H'[q]? = H[q]? := h.callX hb0 d.1 nfs_W d.2
theorem LPt.eq3 {g : WG} {H H' : Heap} {x y z : Nat} {P : P3} (h : LPt g H x y z P) (h1 : H'[x]? = H[x]?) (h2 : H'[y]? = H[y]?) (h3 : H'[z]? = H[z]?) : LPt g H' x y z P := ⟨h.1.imp (fun f hf => ⟨hf.1.eq h1, hf.2⟩), h.2.1.imp (fun f hf => ⟨hf.1.eq h2, hf.2⟩), h.2.2.imp (fun f hf => ⟨hf.1.eq h3, hf.2⟩)⟩
theorem CX.eqP {g : WG} {H H' : Heap} {b : Nat} (h : CX g H b) (he : ∀ q, kPX b q → H'[q]? = H[q]?) : CX g H' b := ⟨h.1.eqE (fun q k => he q (by unfold kE at k; unfold kPX; omega)), h.2.1.eq3 (he _ (by unfold kPX; omega)) (he _ (by unfold kPX; omega)) (he _ (by unfold kPX; omega)), h.2.2.imp (fun f hf => ⟨hf.1.eq (he _ (by unfold kPX; omega)), hf.2⟩)⟩
theorem PTS.eqP {g : WG} {H H' : Heap} {b : Nat} {P : Nat → P3} (h : PTS g H b P) (he : ∀ q, kPX b q → H'[q]? = H[q]?) : PTS g H' b P := fun k hk => ⟨(h k hk).1.eq3 (he _ (by unfold kPX kPA1; omega)) (he _ (by unfold kPX kPA2; omega)) (he _ (by unfold kPX kPA3; omega)), (h k hk).2⟩
theorem PWS.eqP {g : WG} {H H' : Heap} {b pn : Nat} {V : Nat → P3} (h : PWS g H b pn V) (hp : pn ≤ 16) (he : ∀ q, kPX b q → H'[q]? = H[q]?) : PWS g H' b pn V := fun k hk => ⟨(h k hk).1.eq3 (he _ (by unfold kPX kPW1; omega)) (he _ (by unfold kPX kPW2; omega)) (he _ (by unfold kPX kPW3; omega)), (h k hk).2⟩
/-- the rows laid down for good, the scalars, the points, the powers -/
def CW (g : WG) (H : Heap) (b pn : Nat) (A : Nat → Int) (P V : Nat → P3) : Prop := CR g H b ∧ CX g H b ∧ SCA g H b A ∧ PTS g H b P ∧ PWS g H b pn V
theorem CW.eqC {g : WG} {H H' : Heap} {b pn : Nat} {A : Nat → Int} {P V : Nat → P3} (h : CW g H b pn A P V) (hp : pn ≤ 16) (he : ∀ q, kCW b q → H'[q]? = H[q]?) : CW g H' b pn A P V := ⟨h.1.eqE (fun q k => he q (Or.inl k)), h.2.1.eqP (fun q k => he q (Or.inr k)), h.2.2.1.eqE (fun q k => he q (Or.inl k)), h.2.2.2.1.eqP (fun q k => he q (Or.inr k)), h.2.2.2.2.eqP hp (fun q k => he q (Or.inr k))⟩
/-- a call that set scalars -/
theorem CW.sc {g : WG} {H H' : Heap} {b pn : Nat} {A A' : Nat → Int} {P V : Nat → P3} (h : CW g H b pn A P V) (f : FRM (nFS b) H H') (hp : pn ≤ 16) (hcr : CR g H' b) (hsa : SCA g H' b A') : CW g H' b pn A' P V := by
  have he : ∀ q, kPX b q → H'[q]? = H[q]? := fun q k => f.2 q (by unfold kPX at k; unfold nFS kSW kW; omega)
  exact ⟨hcr, h.2.1.eqP he, hsa, h.2.2.2.1.eqP he, h.2.2.2.2.eqP hp he⟩
def updT (P : Nat → P3) (k : Nat) (T : P3) : Nat → P3 := fun j => if j = k then T else P j
theorem PTS.set {g : WG} {S : Nat → Prop} {H H' : Heap} {b k : Nat} {P : Nat → P3} {T : P3} (h : PTS g H b P) (f : FRM S H H') (hS : ∀ q, S q → kPX b q → q = kPA1 b k ∨ q = kPA2 b k ∨ q = kPA3 b k) (hT : LPt g H' (kPA1 b k) (kPA2 b k) (kPA3 b k) T) (hon : onC T) (hk : k < 12) : PTS g H' b (updT P k T) := by
  intro j hj
  unfold updT
  by_cases e : j = k
  · rw [if_pos e, e]
    exact ⟨hT, hon⟩
  · rw [if_neg e]
    have n1 : ∀ q, (q = kPA1 b j ∨ q = kPA2 b j ∨ q = kPA3 b j) → ¬ S q := fun q h9 s => by
      have h8 := hS q s (by unfold kPX; unfold kPA1 kPA2 kPA3 at h9; omega)
      unfold kPA1 kPA2 kPA3 at h9 h8
      omega
    exact ⟨(h j hj).1.eq3 (f.2 _ (n1 _ (Or.inl rfl))) (f.2 _ (n1 _ (Or.inr (Or.inl rfl)))) (f.2 _ (n1 _ (Or.inr (Or.inr rfl)))), (h j hj).2⟩
/-- a call that set a point -/
theorem CW.pt {g : WG} {S : Nat → Prop} {H H' : Heap} {b pn k : Nat} {A : Nat → Int} {P V : Nat → P3} {T : P3} (h : CW g H b pn A P V) (f : FRM S H H') (hS : ∀ q, S q → kCW b q → q = kPA1 b k ∨ q = kPA2 b k ∨ q = kPA3 b k) (hT : LPt g H' (kPA1 b k) (kPA2 b k) (kPA3 b k) T) (hon : onC T) (hk : k < 12) (hp : pn ≤ 16) : CW g H' b pn A (updT P k T) V := by
  have he : ∀ q, kCW b q → ¬ (b + 34 ≤ q ∧ q ≤ b + 83) → H'[q]? = H[q]? := fun q c n => f.2 q (fun s => n (by have h9 := hS q s c; unfold kPA1 kPA2 kPA3 at h9; omega))
  refine ⟨h.1.eqE (fun q c => he q (Or.inl c) (by unfold kE5 at c; omega)), ⟨h.2.1.1.eqE (fun q c => he q (Or.inr (by unfold kE at c; unfold kPX; omega)) (by unfold kE at c; omega)), h.2.1.2.1.eq3 (he _ (Or.inr (by unfold kPX; omega)) (by omega)) (he _ (Or.inr (by unfold kPX; omega)) (by omega)) (he _ (Or.inr (by unfold kPX; omega)) (by omega)), h.2.1.2.2.imp (fun f9 hf => ⟨hf.1.eq (he _ (Or.inr (by unfold kPX; omega)) (by omega)), hf.2⟩)⟩, h.2.2.1.eqE (fun q c => he q (Or.inl c) (by unfold kE5 at c; omega)), h.2.2.2.1.set f (fun q s c => hS q s (Or.inr c)) hT hon hk, fun j hj => ⟨(h.2.2.2.2 j hj).1.eq3 (he _ (Or.inr (by unfold kPX kPW1; omega)) (by unfold kPW1; omega)) (he _ (Or.inr (by unfold kPX kPW2; omega)) (by unfold kPW2; omega)) (he _ (Or.inr (by unfold kPX kPW3; omega)) (by unfold kPW3; omega)), (h.2.2.2.2 j hj).2⟩⟩
theorem pq_W {b k : Nat} (hk : k < 12) : ∀ q, kPQ b k q → kWr b q := by
  intro q h
  unfold kPQ kPS kPA1 kPA2 kPA3 at h
  unfold kWr nD
  omega
theorem pq_C {b k : Nat} : ∀ q, kPQ b k q → kCW b q → q = kPA1 b k ∨ q = kPA2 b k ∨ q = kPA3 b k := by
  intro q h c
  rcases h with h | h
  · unfold kPS at h
    unfold kCW kE5 kPX at c
    omega
  · exact h
theorem ps_W {b : Nat} : ∀ q, kPS b q → kWr b q := by
  intro q h
  unfold kPS at h
  unfold kWr nD
  omega
theorem ps_C {b : Nat} : ∀ q, kPS b q → ¬ kCW b q := by
  intro q h c
  unfold kPS at h
  unfold kCW kE5 kPX at c
  omega
theorem pn_W {b : Nat} : ∀ q, kPN b q → kWr b q := by
  intro q h
  unfold kPN kPS at h
  unfold kWr nD
  omega
theorem pn_C {b : Nat} : ∀ q, kPN b q → ¬ kCW b q := by
  intro q h c
  unfold kPN kPS at h
  unfold kCW kE5 kPX at c
  omega
theorem pt_W {b k : Nat} (hk : k < 12) : ∀ q, kPT b k q → kWr b q := by
  intro q h
  rcases h with h | h
  · exact pn_W q h
  · unfold kPA1 kPA2 kPA3 at h
    unfold kWr nD
    omega
theorem pt_C {b k : Nat} : ∀ q, kPT b k q → kCW b q → q = kPA1 b k ∨ q = kPA2 b k ∨ q = kPA3 b k := fun q h c => h.elim (fun h => absurd c (pn_C q h)) id
theorem CW.fr {g : WG} {S : Nat → Prop} {H H' : Heap} {b pn : Nat} {A : Nat → Int} {P V : Nat → P3} (h : CW g H b pn A P V) (f : FRM S H H') (hS : ∀ q, S q → ¬ kCW b q) (hp : pn ≤ 16) : CW g H' b pn A P V := h.eqC hp (fun q c => f.2 q (fun s => hS q s c))
theorem CW.w4 {g : WG} {H : Heap} {b pn : Nat} {A : Nat → Int} {P V : Nat → P3} (h : CW g H b pn A P V) : CX g H b ∧ SCA g H b A ∧ PTS g H b P ∧ PWS g H b pn V := h.2
theorem RSm_on {P : Nat → P3} {n : Nat} {z : Nat → Int} {T : P3} (h : RSm P n z T) : onC T := h.1
/-- an answer that is true or false, as the law keeps it -/
def bL (r : Int32) : Int64 := if r = 0 then 0 else 1
theorem jn_on {w : Nat} {T P Q : P3} (h : (w = 0 ∧ PE T PZ0) ∨ (w = 1 ∧ T = G9) ∨ (w = 2 ∧ T = AD P Q) ∨ (w = 3 ∧ T = AD P (NG Q))) (hP : onC P) (hQ : onC Q) : onC T := by
  rcases h with ⟨_, h⟩ | ⟨_, h⟩ | ⟨_, h⟩ | ⟨_, h⟩
  · exact h.on onC_O
  · rw [h]; exact G9_on
  · rw [h]; exact hP.ad hQ
  · rw [h]; exact hP.ad hQ.ng
theorem su_W {b : Nat} : ∀ q, (kSU b q ∨ q = b) → kWr b q := by
  intro q h
  unfold kWr nD
  rcases h with h | h
  · unfold kSU kPS at h
    omega
  · omega
theorem CW.su {g : WG} {H H' : Heap} {b pn n : Nat} {A : Nat → Int} {P V : Nat → P3} {x : Int} (h : CW g H b pn A P V) (f : FRM (fun q => kSU b q ∨ q = b) H H') (hpr : PWR g H' b x n) (hn : n ≤ 16) : ∃ V', (∀ j, j < n → RP G9 (x ^ j % RI) (V' j)) ∧ CW g H' b n A P V' := by
  have he : ∀ q, kCW b q → ¬ (b + 84 ≤ q ∧ q ≤ b + 147) → H'[q]? = H[q]? := fun q c k => f.2 q (fun s => by
    unfold kCW kE5 kPX at c
    rcases s with s | s
    · unfold kSU kPS at s
      omega
    · omega)
  have hv : ∀ j, ∃ T, j < n → RP G9 (x ^ j % RI) T ∧ LPt g H' (kPW1 b j) (kPW2 b j) (kPW3 b j) T := fun j => by
    by_cases c : j < n
    · obtain ⟨T, h1, h2⟩ := hpr j c
      exact ⟨T, fun _ => ⟨h1, h2⟩⟩
    · exact ⟨PZ0, fun k => absurd k c⟩
  obtain ⟨V', hV⟩ := Classical.axiomOfChoice hv
  refine ⟨V', fun j hj => (hV j hj).1, h.1.eqE (fun q c => he q (Or.inl c) (by unfold kE5 at c; omega)), ⟨h.2.1.1.eqE (fun q c => he q (Or.inr (by unfold kE at c; unfold kPX; omega)) (by unfold kE at c; omega)), h.2.1.2.1.eq3 (he _ (Or.inr (by unfold kPX; omega)) (by omega)) (he _ (Or.inr (by unfold kPX; omega)) (by omega)) (he _ (Or.inr (by unfold kPX; omega)) (by omega)), h.2.1.2.2.imp (fun f9 hf => ⟨hf.1.eq (he _ (Or.inr (by unfold kPX; omega)) (by omega)), hf.2⟩)⟩, h.2.2.1.eqE (fun q c => he q (Or.inl c) (by unfold kE5 at c; omega)), fun k hk => ⟨(h.2.2.2.1 k hk).1.eq3 (he _ (Or.inr (by unfold kPX kPA1; omega)) (by unfold kPA1; omega)) (he _ (Or.inr (by unfold kPX kPA2; omega)) (by unfold kPA2; omega)) (he _ (Or.inr (by unfold kPX kPA3; omega)) (by unfold kPA3; omega)), (h.2.2.2.1 k hk).2⟩, fun j hj => ⟨(hV j hj).2, RP_on (hV j hj).1⟩⟩
theorem KW9.keep {g : WG} {H H' : Heap} {b : Nat} (h : KW9 g H H' b) : ∀ q, (kB b q ∨ kCW b q) → H'[q]? = H[q]? := by
  obtain ⟨H1, H2, h1, h2, h3⟩ := h
  intro q c
  have n1 : ¬ (q = b + 150 ∨ q = b + 151) := by unfold kB kCW kE5 kPX at c; omega
  have n2 : ¬ kWQ b q := by
    unfold kWQ
    rw [kFq_5]
    unfold kB kCW kE5 kPX at c
    omega
  exact (h3.2 q n1).trans ((h2.off n2).trans (h1.2 q n1))
/-- a byte of a long, as the two tapes hold it -/
def byN (v : Int64) (i : Nat) : Nat := (v >>> (((nI 8) * (nI i)).toInt64 &&& 63)).toBitVec.toNat % 256
theorem and255 (x : BitVec 32) : (x &&& 255#32).toNat = x.toNat % 256 := by
  rw [BitVec.toNat_and]
  exact Nat.and_two_pow_sub_one_eq_mod x.toNat 8
theorem nI_bv (k : Nat) : (nI k).toBitVec = BitVec.ofNat 32 k := rfl
theorem by_M (x : Int64) : (x &&& 255).toInt32 = nI (x.toBitVec.toNat % 256) := by
  apply Int32.toBitVec_inj.mp
  rw [nI_bv]
  show ((x &&& 255).toBitVec).signExtend 32 = _
  rw [BitVec.signExtend_eq_setWidth_of_le _ (by decide)]
  apply BitVec.eq_of_toNat_eq
  rw [BitVec.toNat_setWidth, BitVec.toNat_ofNat]
  congr 1
  show (x.toBitVec &&& 255#64).toNat = _
  rw [BitVec.toNat_and]
  exact Nat.and_two_pow_sub_one_eq_mod x.toBitVec.toNat 8
theorem s8a : ∀ b : BitVec 8, (b.signExtend 32).signExtend 8 = b := by decide +kernel
theorem s8b : ∀ b : BitVec 8, (b.signExtend 32).toNat % 256 = b.toNat := by decide +kernel
theorem by_C (x : Int64) : (vp_nar .byte x.toInt32.toInt8.toInt32) &&& 255 = nI (x.toBitVec.toNat % 256) := by
  apply Int32.toBitVec_inj.mp
  rw [nI_bv]
  apply BitVec.eq_of_toNat_eq
  show ((((((x.toBitVec.signExtend 32).signExtend 8).signExtend 32).signExtend 8).signExtend 32) &&& 255#32).toNat = _
  rw [and255, s8a, s8b, BitVec.toNat_ofNat, BitVec.signExtend_eq_setWidth_of_le _ (by decide), BitVec.signExtend_eq_setWidth_of_le _ (by decide), BitVec.toNat_setWidth, BitVec.toNat_setWidth]
  omega
/-- the row of R, and the two tapes, which hold the same bytes -/
def TR (g : WG) (H : Heap) (b tn : Nat) : Prop := AJ g H (b + 168) 14 kR ∧ ∃ (c m : Nat → Int32) (t : Nat → Nat), AB g H (b + 149) 96 c ∧ AI g H (b + 501 + 6) 96 m ∧ (∀ j, t j < 256) ∧ ∀ j, j < tn → c j &&& 255 = nI (t j) ∧ m j = nI (t j)
theorem TR.keep {g : WG} {H H' : Heap} {b tn : Nat} (h : TR g H b tn) (h1 : H'[b + 149]? = H[b + 149]?) (h2 : H'[b + 168]? = H[b + 168]?) (h3 : H'[b + 501 + 6]? = H[b + 501 + 6]?) : TR g H' b tn := by
  obtain ⟨hR, c, m, t, hc, hm, ht⟩ := h
  exact ⟨hR.eq h2, c, m, t, hc.eq h1, AI.eq hm h3, ht⟩
theorem TR.less {g : WG} {H : Heap} {b tn k : Nat} (h : TR g H b tn) (hk : k ≤ tn) : TR g H b k := by
  obtain ⟨hR, c, m, t, hc, hm, ht, hj⟩ := h
  exact ⟨hR, c, m, t, hc, hm, ht, fun j h => hj j (Nat.lt_of_lt_of_le h hk)⟩
theorem tr_feed {g : WG} {H : Heap} {b tn k : Nat} {c c' m m' : Nat → Int32} {t : Nat → Nat} {v : Int64} (hR : AJ g H (b + 168) 14 kR) (hc : AB g H (b + 149) 96 c') (hm : AI g H (b + 501 + 6) 96 m') (ht : ∀ j, t j < 256) (h : ∀ j, j < tn → c j &&& 255 = nI (t j) ∧ m j = nI (t j)) (hfc : fdC c v tn k c') (hfm : fdM m v tn k m') : TR g H b (tn + k) := by
  refine ⟨hR, c', m', fun j => if j < tn then t j else byN v (j - tn), hc, hm, fun j => ?_, fun j hj => ?_⟩
  · show (if j < tn then t j else byN v (j - tn)) < 256
    split
    · exact ht j
    · exact Nat.mod_lt _ (by decide)
  · show c' j &&& 255 = nI (if j < tn then t j else byN v (j - tn)) ∧ m' j = nI (if j < tn then t j else byN v (j - tn))
    by_cases e : j < tn
    · rw [if_pos e, hfc.1 j e, hfm.1 j e]
      exact h j e
    · obtain ⟨i, rfl⟩ : ∃ i, j = tn + i := ⟨j - tn, by omega⟩
      rw [if_neg e, hfc.2 i (by omega), hfm.2 i (by omega), show tn + i - tn = i by omega]
      exact ⟨by_C _, by_M _⟩
set_option maxHeartbeats 4000000 in
set_option maxRecDepth 100000 in
theorem XH_feed (l : Launch) (g : WG) (s0 : State) (hxs : XS l s0) (b pn tn wn : Nat) (mr mq : Int64) (hb0 : s0.heap.size ≤ b) (x1 : Int32) (v : Int64) (c9 : Nat → Int32) (hno : va_Nc "java/lang/IllegalStateException" "java/lang/IllegalArgumentException" s0) : CtrH l y_Law_feed (.codeWith y_Law_feed method_3_code 6 (some FieldType.int) [(0, 11, 14, 13), (0, 11, 18, 15)]) 8 128 1 6 (HXA s0) g s0 [.ref b, .int x1, .long v, .ref (b + 510)] (fun H => LG g s0 H b pn tn wn mr mq ∧ AB g H (b + 149) 96 c9) (QI (fun r H H' => ((((okC x1 (nI 1) (nI 8)) ∧ ((∃ k9, x1 = nI k9 ∧ tn + k9 ≤ 96 ∧ r = nI 0 ∧ AJ g H' (b + 510) 1 (fun _ => (nI (tn + k9)).toInt64) ∧ LG g s0 H' b pn (tn + k9) wn mr mq ∧ ∃ c', AB g H' (b + 149) 96 c' ∧ fdC c9 v tn k9 c') ∨ (¬ nI tn + x1 ≤ nI 96 ∧ r = nI 2 ∧ LG g s0 H' b pn tn wn mr mq ∧ AB g H' (b + 149) 96 c9)))) ∨ (¬ (okC x1 (nI 1) (nI 8)) ∧ r = nI 1 ∧ LG g s0 H' b pn tn wn mr mq ∧ AB g H' (b + 149) 96 c9)) ∧ ∀ q, kU b q → H'[q]? = H[q]?)) := by
  refine ctrH_mk l (lv0 := [(0, .ref b), (1, .int x1), (2, .long v), (4, .ref (b + 510))]) (by decide) (Nat.le_of_ble_eq_true rfl) rfl ?_
  intro p e s m below meth c ls E hw0 hr hlk hex hl hP
  obtain ⟨hP, hT⟩ := hP
  have hx := E.1
  have hb := E.2.1
  have hK := E.2.2.2.2.2
  have hF : ∀ q ∈ ([] : List Loc), HXA s0 q.base := fun q hq => absurd hq List.not_mem_nil
  have hold := hP.1
  have hd := hP.d
  have hbd := hd.2.2.2.2
  obtain ⟨f0, hA⟩ := hP.2.2.2
  by_cases hok : okC x1 (nI 1) (nI 8)
  · skip
    obtain ⟨k1, rfl, l1, q1⟩ := okC_nat (by decide) (by decide) hok
    by_cases hfit : nI tn + nI k1 ≤ nI 96
    · skip
      have hfit := feed_k hbd.2.1 q1 hfit
      refine lv_aload hx hb d_Law_feed_0 (lv_at hl 3 rfl) ?_
      refine lv_iconst (v := nI 0) hx hb d_Law_feed_2 (by decide) ?_
      refine lv_aload_n hx hb d_Law_feed_3 rfl (lv_at hl 0 rfl) ?_
      refine lv_iload_n hx hb d_Law_feed_4 rfl (lv_at hl 1 rfl) ?_
      refine lv_lload_n hx hb d_Law_feed_5 rfl (lv_at hl 2 rfl) ?_
      refine q_cV (rest := [.int (nI 0), .ref (b + 510)]) E ((X_Desk_feed l g b pn tn wn mr mq k1 v c9 l1 q1 hfit).up (nD_up hb0)) w_396 w_1 w_393 w_394 w_395 hd_Desk_feed rfl ⟨by decide, by decide⟩ (OB.recv E.2.2.2.2.2 (by rfl) hd.x.ob) (⟨⟨FRM.rf, hd.2⟩, hT⟩) hF hl.1 rfl (Nat.le_of_ble_eq_true rfl) d_Law_feed_6 ⟨by decide, by decide⟩ (qi (fun r0 H1 locs hq hF => ?_))
      obtain ⟨hr0, hq, c1, hc1, hcv⟩ := hq
      subst hr0
      have hg := hP.callF hb0 hq
      refine lv_i2l (v := (nI (tn + k1)).toInt64) hx hb d_Law_feed_9 rfl ?_
      refine q_last (N := 1) E (AJ.off hq.1 (by omega) hA) (Nat.le_trans hb0 (Nat.le_add_right _ _)) hF 0 rfl (by decide) (by decide) d_Law_feed_10 (fun H2 locs hq2 hA2 hF => ?_)
      have hg2 := hg.1.storeX hb0 hq2 hA2
      refine lv_goto (tgt := 22) hx hb d_Law_feed_11 (by decide) ?_
      refine lv_iconst (v := nI 0) hx hb d_Law_feed_22 (by decide) ?_
      refine W.widen (k := 1) (n := 6) (by decide) (by decide) ?_
      exact q_iret E hr hlk (⟨_, rfl, Or.inl ⟨hok, Or.inl ⟨_, rfl, hfit, rfl, hA2.one, hg2.1, _, hc1.eq (hg2.2 _ k149_lt), hcv⟩⟩, fun q h9 => (hg2.2 q (kU_lt h9)).trans (hg.2 q h9)⟩) hF d_Law_feed_23
    · skip
      refine lv_aload hx hb d_Law_feed_0 (lv_at hl 3 rfl) ?_
      refine lv_iconst (v := nI 0) hx hb d_Law_feed_2 (by decide) ?_
      refine lv_aload_n hx hb d_Law_feed_3 rfl (lv_at hl 0 rfl) ?_
      refine lv_iload_n hx hb d_Law_feed_4 rfl (lv_at hl 1 rfl) ?_
      refine lv_lload_n hx hb d_Law_feed_5 rfl (lv_at hl 2 rfl) ?_
      refine q_catch2 E hw0 (q_runVT (rest := [.int (nI 0), .ref (b + 510)]) E hw0 (t_Desk_feedG l g (HXA s0) s0 hxs b pn tn wn mr mq (nI k1) v hok.1 hok.2 hfit) w_396 w_1 w_393 w_394 w_395 hd_Desk_feed rfl ⟨by decide, by decide⟩ (OB.recv E.2.2.2.2.2 (by rfl) hd.x.ob) (⟨hold, hP.hx hb0, hd⟩) hl.1 rfl (Nat.le_of_ble_eq_true rfl) d_Law_feed_6 ⟨by decide, by decide⟩) hF hex (by decide) w_391 hno ⟨by decide, by decide⟩ (by decide) w_392 (fun xx H1 locs htq hF => ?_)
      have hg := hP.growX hb0 htq.1 htq.2.1
      refine lv_astore (lv' := [(5, .ref xx), (0, .ref b), (1, .int (nI k1)), (2, .long v), (4, .ref (b + 510))]) hx hb d_Law_feed_18 hl (by decide) rfl (fun ls hl => ?_)
      refine lv_iconst (v := nI 2) hx hb d_Law_feed_20 (by decide) ?_
      exact q_iret E hr hlk (⟨_, rfl, Or.inl ⟨hok, Or.inr ⟨hfit, rfl, hg.1, hT.eq (hg.2 _ k149_lt)⟩⟩, fun q h9 => hg.2 q (kU_lt h9)⟩) hF d_Law_feed_21
  · skip
    refine lv_aload hx hb d_Law_feed_0 (lv_at hl 3 rfl) ?_
    refine lv_iconst (v := nI 0) hx hb d_Law_feed_2 (by decide) ?_
    refine lv_aload_n hx hb d_Law_feed_3 rfl (lv_at hl 0 rfl) ?_
    refine lv_iload_n hx hb d_Law_feed_4 rfl (lv_at hl 1 rfl) ?_
    refine lv_lload_n hx hb d_Law_feed_5 rfl (lv_at hl 2 rfl) ?_
    refine q_catch E hw0 (q_runVT (rest := [.int (nI 0), .ref (b + 510)]) E hw0 (t_Desk_feed l g (HXA s0) s0 hxs b x1 v (okC_bad hok)) w_396 w_1 w_393 w_394 w_395 hd_Desk_feed rfl ⟨by decide, by decide⟩ (OB.recv E.2.2.2.2.2 (by rfl) hd.x.ob) (⟨hold, hP.hx hb0⟩) hl.1 rfl (Nat.le_of_ble_eq_true rfl) d_Law_feed_6 ⟨by decide, by decide⟩) hF hex ⟨by decide, by decide⟩ (by decide) w_391 (fun xx H1 locs htq hF => ?_)
    have hg := hP.growX hb0 htq.1 htq.2.1
    refine lv_astore (lv' := [(5, .ref xx), (0, .ref b), (1, .int x1), (2, .long v), (4, .ref (b + 510))]) hx hb d_Law_feed_14 hl (by decide) rfl (fun ls hl => ?_)
    refine lv_iconst (v := nI 1) hx hb d_Law_feed_16 (by decide) ?_
    exact q_iret E hr hlk (⟨_, rfl, Or.inr ⟨hok, rfl, hg.1, hT.eq (hg.2 _ k149_lt)⟩, fun q h9 => hg.2 q (kU_lt h9)⟩) hF d_Law_feed_17
set_option maxHeartbeats 4000000 in
set_option maxRecDepth 100000 in
theorem XH_number (l : Launch) (g : WG) (s0 : State) (hxs : XS l s0) (b pn tn wn : Nat) (mr mq : Int64) (hb0 : s0.heap.size ≤ b) (x1 : Int32) (A : Nat → Int) (P V : Nat → P3) (c9 : Nat → Int32) (t : Nat → Nat) (ht : ∀ j, t j < 256) (hct : ∀ j, j < tn → c9 j &&& 255 = nI (t j)) : CtrH l y_Law_number (.codeWith y_Law_number method_4_code 4 (some FieldType.int) [(0, 16, 19, 13)]) 8 126 1 6 (HXA s0) g s0 [.ref b, .int x1, .ref (b + 510)] (fun H => LG g s0 H b pn tn wn mr mq ∧ CW g H b pn A P V ∧ AB g H (b + 149) 96 c9) (QI (fun r H H' => (((okS x1 (nI 1)) ∧ r = nI 0 ∧ LG g s0 H' b pn 0 wn mr mq ∧ ∃ rb A', CW g H' b pn A' P V ∧ NC rb t tn (nt x1) A A' ∧ AJ g H' (b + 510) 1 (fun _ => bL rb)) ∨ (¬ (okS x1 (nI 1)) ∧ r = nI 1 ∧ LG g s0 H' b pn tn wn mr mq ∧ CW g H' b pn A P V)) ∧ ∀ q, kS b q → H'[q]? = H[q]?)) := by
  refine ctrH_mk l (lv0 := [(0, .ref b), (1, .int x1), (2, .ref (b + 510))]) (by decide) (Nat.le_of_ble_eq_true rfl) rfl ?_
  intro p e s m below meth c ls E hw0 hr hlk hex hl hP
  obtain ⟨hP, hT0⟩ := hP
  obtain ⟨hT, hc9⟩ := hT0
  have hx := E.1
  have hb := E.2.1
  have hK := E.2.2.2.2.2
  have hF : ∀ q ∈ ([] : List Loc), HXA s0 q.base := fun q hq => absurd hq List.not_mem_nil
  have hold := hP.1
  have hd := hP.d
  have hbd := hd.2.2.2.2
  obtain ⟨f0, hA⟩ := hP.2.2.2
  by_cases hok : okS x1 (nI 1)
  · skip
    obtain ⟨k1, rfl, q1⟩ := okS_nat (by decide) (by decide) hok
    rcases Nat.lt_or_ge 32 tn with h32 | h32
    · skip
      refine lv_aload_n hx hb d_Law_number_0 rfl (lv_at hl 2 rfl) ?_
      refine lv_iconst (v := nI 0) hx hb d_Law_number_1 (by decide) ?_
      refine lv_aload_n hx hb d_Law_number_2 rfl (lv_at hl 0 rfl) ?_
      refine lv_iload_n hx hb d_Law_number_3 rfl (lv_at hl 1 rfl) ?_
      refine q_cV (rest := [.int (nI 0), .ref (b + 510)]) E ((YR_Desk_number l g b pn tn wn mr mq k1 q1 hbd.2.1 h32).up (nD_up hb0)) w_491 w_1 w_488 w_489 w_490 hd_Desk_number rfl ⟨by decide, by decide⟩ (OB.recv E.2.2.2.2.2 (by rfl) hd.x.ob) hd hF hl.1 rfl (Nat.le_of_ble_eq_true rfl) d_Law_number_4 ⟨by decide, by decide⟩ (qi (fun r0 H1 locs hq hF => ?_))
      obtain ⟨hr0, hq, hN9⟩ := hq
      have hcr := hT.1.eqE (kNB_E hN9)
      obtain ⟨A1, hsa, hnb⟩ : ∃ A1, SCA g H1 b A1 ∧ NC r0 t tn (nt (nI k1)) A A1 := ⟨A, hT.2.2.1.eqE (kNB_E hN9), Or.inr ⟨h32, hr0, rfl⟩⟩
      have hg := hP.callS hb0 hq
      refine lv_if_eq (tgt := 14) hx hb d_Law_number_7 (by decide) (fun hz => ?_) (fun hz => ?_)
      · skip
        refine lv_lconst (v := 0) hx hb d_Law_number_14 (by decide) ?_
        refine q_last (N := 1) E (AJ.off hq.1 nfs_510 hA) (Nat.le_trans hb0 (Nat.le_add_right _ _)) hF 0 rfl (by decide) (by decide) d_Law_number_15 (fun H2 locs hq2 hA2 hF => ?_)
        have hg2 := hg.1.storeX hb0 hq2 hA2
        have hA3 : AJ g H2 (b + 510) 1 (fun _ => bL r0) := by
          rw [show bL r0 = 0 from if_pos hz]
          exact hA2.one
        refine lv_goto (tgt := 22) hx hb d_Law_number_16 (by decide) ?_
        refine lv_iconst (v := nI 0) hx hb d_Law_number_22 (by decide) ?_
        refine W.widen (k := 1) (n := 6) (by decide) (by decide) ?_
        exact q_iret E hr hlk (⟨_, rfl, Or.inl ⟨hok, rfl, hg2.1, r0, A1, (hT.sc hq.1 hbd.1 hcr hsa).eqC hbd.1 (fun q h => hg2.2 q (kCW_lt h)), hnb, hA3⟩, fun q h9 => (hg2.2 q (kS_lt h9)).trans (hg.2 q h9)⟩) hF d_Law_number_23
      · skip
        refine lv_lconst (v := 1) hx hb d_Law_number_10 (by decide) ?_
        refine lv_goto (tgt := 15) hx hb d_Law_number_11 (by decide) ?_
        refine q_last (N := 1) E (AJ.off hq.1 nfs_510 hA) (Nat.le_trans hb0 (Nat.le_add_right _ _)) hF 0 rfl (by decide) (by decide) d_Law_number_15 (fun H2 locs hq2 hA2 hF => ?_)
        have hg2 := hg.1.storeX hb0 hq2 hA2
        have hA3 : AJ g H2 (b + 510) 1 (fun _ => bL r0) := by
          rw [show bL r0 = 1 from if_neg hz]
          exact hA2.one
        refine lv_goto (tgt := 22) hx hb d_Law_number_16 (by decide) ?_
        refine lv_iconst (v := nI 0) hx hb d_Law_number_22 (by decide) ?_
        refine W.widen (k := 1) (n := 6) (by decide) (by decide) ?_
        exact q_iret E hr hlk (⟨_, rfl, Or.inl ⟨hok, rfl, hg2.1, r0, A1, (hT.sc hq.1 hbd.1 hcr hsa).eqC hbd.1 (fun q h => hg2.2 q (kCW_lt h)), hnb, hA3⟩, fun q h9 => (hg2.2 q (kS_lt h9)).trans (hg.2 q h9)⟩) hF d_Law_number_23
    · skip
      refine lv_aload_n hx hb d_Law_number_0 rfl (lv_at hl 2 rfl) ?_
      refine lv_iconst (v := nI 0) hx hb d_Law_number_1 (by decide) ?_
      refine lv_aload_n hx hb d_Law_number_2 rfl (lv_at hl 0 rfl) ?_
      refine lv_iload_n hx hb d_Law_number_3 rfl (lv_at hl 1 rfl) ?_
      refine q_cV (rest := [.int (nI 0), .ref (b + 510)]) E ((R_Desk_number l g b pn tn wn mr mq A k1 c9 t ht hct q1 h32).up (nD_up hb0)) w_491 w_1 w_488 w_489 w_490 hd_Desk_number rfl ⟨by decide, by decide⟩ (OB.recv E.2.2.2.2.2 (by rfl) hd.x.ob) (⟨hd, hc9, hT.1, hT.2.2.1⟩) hF hl.1 rfl (Nat.le_of_ble_eq_true rfl) d_Law_number_4 ⟨by decide, by decide⟩ (qi (fun r0 H1 locs hq hF => ?_))
      obtain ⟨hr0, hq, hcr⟩ := hq
      obtain ⟨A1, hsa, hnb⟩ : ∃ A1, SCA g H1 b A1 ∧ NC r0 t tn (nt (nI k1)) A A1 := by
        rw [nt_nI (by omega)]
        rcases hr0 with ⟨e, h1, h2⟩ | ⟨e, h1, h2⟩
        · exact ⟨_, h2, Or.inl ⟨h32, Or.inl ⟨e, h1, rfl⟩⟩⟩
        · exact ⟨_, h2, Or.inl ⟨h32, Or.inr ⟨e, h1, rfl⟩⟩⟩
      have hg := hP.callS hb0 hq
      refine lv_if_eq (tgt := 14) hx hb d_Law_number_7 (by decide) (fun hz => ?_) (fun hz => ?_)
      · skip
        refine lv_lconst (v := 0) hx hb d_Law_number_14 (by decide) ?_
        refine q_last (N := 1) E (AJ.off hq.1 nfs_510 hA) (Nat.le_trans hb0 (Nat.le_add_right _ _)) hF 0 rfl (by decide) (by decide) d_Law_number_15 (fun H2 locs hq2 hA2 hF => ?_)
        have hg2 := hg.1.storeX hb0 hq2 hA2
        have hA3 : AJ g H2 (b + 510) 1 (fun _ => bL r0) := by
          rw [show bL r0 = 0 from if_pos hz]
          exact hA2.one
        refine lv_goto (tgt := 22) hx hb d_Law_number_16 (by decide) ?_
        refine lv_iconst (v := nI 0) hx hb d_Law_number_22 (by decide) ?_
        refine W.widen (k := 1) (n := 6) (by decide) (by decide) ?_
        exact q_iret E hr hlk (⟨_, rfl, Or.inl ⟨hok, rfl, hg2.1, r0, A1, (hT.sc hq.1 hbd.1 hcr hsa).eqC hbd.1 (fun q h => hg2.2 q (kCW_lt h)), hnb, hA3⟩, fun q h9 => (hg2.2 q (kS_lt h9)).trans (hg.2 q h9)⟩) hF d_Law_number_23
      · skip
        refine lv_lconst (v := 1) hx hb d_Law_number_10 (by decide) ?_
        refine lv_goto (tgt := 15) hx hb d_Law_number_11 (by decide) ?_
        refine q_last (N := 1) E (AJ.off hq.1 nfs_510 hA) (Nat.le_trans hb0 (Nat.le_add_right _ _)) hF 0 rfl (by decide) (by decide) d_Law_number_15 (fun H2 locs hq2 hA2 hF => ?_)
        have hg2 := hg.1.storeX hb0 hq2 hA2
        have hA3 : AJ g H2 (b + 510) 1 (fun _ => bL r0) := by
          rw [show bL r0 = 1 from if_neg hz]
          exact hA2.one
        refine lv_goto (tgt := 22) hx hb d_Law_number_16 (by decide) ?_
        refine lv_iconst (v := nI 0) hx hb d_Law_number_22 (by decide) ?_
        refine W.widen (k := 1) (n := 6) (by decide) (by decide) ?_
        exact q_iret E hr hlk (⟨_, rfl, Or.inl ⟨hok, rfl, hg2.1, r0, A1, (hT.sc hq.1 hbd.1 hcr hsa).eqC hbd.1 (fun q h => hg2.2 q (kCW_lt h)), hnb, hA3⟩, fun q h9 => (hg2.2 q (kS_lt h9)).trans (hg.2 q h9)⟩) hF d_Law_number_23
  · skip
    refine lv_aload_n hx hb d_Law_number_0 rfl (lv_at hl 2 rfl) ?_
    refine lv_iconst (v := nI 0) hx hb d_Law_number_1 (by decide) ?_
    refine lv_aload_n hx hb d_Law_number_2 rfl (lv_at hl 0 rfl) ?_
    refine lv_iload_n hx hb d_Law_number_3 rfl (lv_at hl 1 rfl) ?_
    refine q_catch E hw0 (q_runVT (rest := [.int (nI 0), .ref (b + 510)]) E hw0 (t_Desk_number l g (HXA s0) s0 hxs b x1 (hok)) w_491 w_1 w_488 w_489 w_490 hd_Desk_number rfl ⟨by decide, by decide⟩ (OB.recv E.2.2.2.2.2 (by rfl) hd.x.ob) (⟨hold, hP.hx hb0⟩) hl.1 rfl (Nat.le_of_ble_eq_true rfl) d_Law_number_4 ⟨by decide, by decide⟩) hF hex ⟨by decide, by decide⟩ (by decide) w_391 (fun xx H1 locs htq hF => ?_)
    have hg := hP.growX hb0 htq.1 htq.2.1
    refine lv_astore_n (lv' := [(3, .ref xx), (0, .ref b), (1, .int x1), (2, .ref (b + 510))]) hx hb d_Law_number_19 rfl hl (by decide) rfl (fun ls hl => ?_)
    refine lv_iconst (v := nI 1) hx hb d_Law_number_20 (by decide) ?_
    exact q_iret E hr hlk (⟨_, rfl, Or.inr ⟨hok, rfl, hg.1, hT.eqC hbd.1 (fun q h => hg.2 q (kCW_lt h))⟩, fun q h9 => hg.2 q (kS_lt h9)⟩) hF d_Law_number_21
set_option maxHeartbeats 4000000 in
set_option maxRecDepth 100000 in
theorem XH_set (l : Launch) (g : WG) (s0 : State) (hxs : XS l s0) (b pn tn wn : Nat) (mr mq : Int64) (hb0 : s0.heap.size ≤ b) (x1 : Int32) (v : Int64) (hmr : mr = 268435455) (A : Nat → Int) (P V : Nat → P3) : CtrH l y_Law_set (.codeWith y_Law_set method_5_code 5 (some FieldType.int) [(0, 6, 9, 13)]) 8 127 1 6 (HXA s0) g s0 [.ref b, .int x1, .long v] (fun H => LG g s0 H b pn tn wn mr mq ∧ CW g H b pn A P V) (QI (fun r H H' => (((okS x1 (nI 1) ∧ ¬ v < 0) ∧ r = nI 0 ∧ LG g s0 H' b pn tn wn mr mq ∧ CW g H' b pn (fSet x1 v A) P V) ∨ (¬ (okS x1 (nI 1) ∧ ¬ v < 0) ∧ r = nI 1 ∧ LG g s0 H' b pn tn wn mr mq ∧ CW g H' b pn A P V)) ∧ ∀ q, kS b q → H'[q]? = H[q]?)) := by
  refine ctrH_mk l (lv0 := [(0, .ref b), (1, .int x1), (2, .long v)]) (by decide) (Nat.le_of_ble_eq_true rfl) rfl ?_
  intro p e s m below meth c ls E hw0 hr hlk hex hl hP
  obtain ⟨hP, hT⟩ := hP
  have hx := E.1
  have hb := E.2.1
  have hK := E.2.2.2.2.2
  have hF : ∀ q ∈ ([] : List Loc), HXA s0 q.base := fun q hq => absurd hq List.not_mem_nil
  have hold := hP.1
  have hd := hP.d
  have hbd := hd.2.2.2.2
  obtain ⟨f0, hA⟩ := hP.2.2.2
  by_cases hok : okS x1 (nI 1) ∧ ¬ v < 0
  · skip
    obtain ⟨k1, rfl, q1⟩ := okS_nat (by decide) (by decide) hok.1
    refine lv_aload_n hx hb d_Law_set_0 rfl (lv_at hl 0 rfl) ?_
    refine lv_iload_n hx hb d_Law_set_1 rfl (lv_at hl 1 rfl) ?_
    refine lv_lload_n hx hb d_Law_set_2 rfl (lv_at hl 2 rfl) ?_
    refine q_cV (rest := []) E ((R_Desk_set l g b pn tn wn mr mq hmr A k1 v q1 hok.2).up (nD_up hb0)) w_519 w_1 w_516 w_517 w_518 hd_Desk_set rfl ⟨by decide, by decide⟩ (OB.recv E.2.2.2.2.2 (by rfl) hd.x.ob) (⟨hd, hT.1, hT.2.2.1⟩) hF hl.1 rfl (Nat.le_of_ble_eq_true rfl) d_Law_set_3 ⟨by decide, by decide⟩ (qv (fun H1 locs hq hF => ?_))
    obtain ⟨hq, hcr, hsa⟩ := hq
    have hg := hP.callS hb0 hq
    refine lv_goto (tgt := 13) hx hb d_Law_set_6 (by decide) ?_
    refine lv_iconst (v := nI 0) hx hb d_Law_set_13 (by decide) ?_
    refine W.widen (k := 1) (n := 6) (by decide) (by decide) ?_
    exact q_iret E hr hlk (⟨_, rfl, Or.inl ⟨hok, rfl, hg.1, hT.sc hq.1 hbd.1 hcr (by unfold fSet; rw [nt_nI (by omega)]; exact hsa)⟩, hg.2⟩) hF d_Law_set_14
  · skip
    refine lv_aload_n hx hb d_Law_set_0 rfl (lv_at hl 0 rfl) ?_
    refine lv_iload_n hx hb d_Law_set_1 rfl (lv_at hl 1 rfl) ?_
    refine lv_lload_n hx hb d_Law_set_2 rfl (lv_at hl 2 rfl) ?_
    refine q_catch E hw0 (q_runVT (rest := []) E hw0 (t_Desk_set l g (HXA s0) s0 hxs b x1 v (nbn hok)) w_519 w_1 w_516 w_517 w_518 hd_Desk_set rfl ⟨by decide, by decide⟩ (OB.recv E.2.2.2.2.2 (by rfl) hd.x.ob) (⟨hold, hP.hx hb0⟩) hl.1 rfl (Nat.le_of_ble_eq_true rfl) d_Law_set_3 ⟨by decide, by decide⟩) hF hex ⟨by decide, by decide⟩ (by decide) w_391 (fun xx H1 locs htq hF => ?_)
    have hg := hP.growX hb0 htq.1 htq.2.1
    refine lv_astore (lv' := [(4, .ref xx), (0, .ref b), (1, .int x1), (2, .long v)]) hx hb d_Law_set_9 hl (by decide) rfl (fun ls hl => ?_)
    refine lv_iconst (v := nI 1) hx hb d_Law_set_11 (by decide) ?_
    exact q_iret E hr hlk (⟨_, rfl, Or.inr ⟨hok, rfl, hg.1, hT.eqC hbd.1 (fun q h => hg.2 q (kCW_lt h))⟩, fun q h9 => hg.2 q (kS_lt h9)⟩) hF d_Law_set_12
set_option maxHeartbeats 4000000 in
set_option maxRecDepth 100000 in
theorem XH_power (l : Launch) (g : WG) (s0 : State) (hxs : XS l s0) (b pn tn wn : Nat) (mr mq : Int64) (hb0 : s0.heap.size ≤ b) (x1 : Int32) (x2 : Int32) (v : Int64) (hmr : mr = 268435455) (A : Nat → Int) (P V : Nat → P3) : CtrH l y_Law_power (.codeWith y_Law_power method_8_code 6 (some FieldType.int) [(0, 7, 10, 13)]) 8 184 1 6 (HXA s0) g s0 [.ref b, .int x1, .int x2, .long v] (fun H => LG g s0 H b pn tn wn mr mq ∧ CW g H b pn A P V) (QI (fun r H H' => (((okS x1 (nI 1) ∧ okS x2 (nI 1) ∧ ¬ v < 0) ∧ r = nI 0 ∧ LG g s0 H' b pn tn wn mr mq ∧ CW g H' b pn (fPow x1 x2 v A) P V) ∨ (¬ (okS x1 (nI 1) ∧ okS x2 (nI 1) ∧ ¬ v < 0) ∧ r = nI 1 ∧ LG g s0 H' b pn tn wn mr mq ∧ CW g H' b pn A P V)) ∧ ∀ q, kS b q → H'[q]? = H[q]?)) := by
  refine ctrH_mk l (lv0 := [(0, .ref b), (1, .int x1), (2, .int x2), (3, .long v)]) (by decide) (Nat.le_of_ble_eq_true rfl) rfl ?_
  intro p e s m below meth c ls E hw0 hr hlk hex hl hP
  obtain ⟨hP, hT⟩ := hP
  have hx := E.1
  have hb := E.2.1
  have hK := E.2.2.2.2.2
  have hF : ∀ q ∈ ([] : List Loc), HXA s0 q.base := fun q hq => absurd hq List.not_mem_nil
  have hold := hP.1
  have hd := hP.d
  have hbd := hd.2.2.2.2
  obtain ⟨f0, hA⟩ := hP.2.2.2
  by_cases hok : okS x1 (nI 1) ∧ okS x2 (nI 1) ∧ ¬ v < 0
  · skip
    obtain ⟨k1, rfl, q1⟩ := okS_nat (by decide) (by decide) hok.1
    obtain ⟨k2, rfl, q2⟩ := okS_nat (by decide) (by decide) hok.2.1
    refine lv_aload_n hx hb d_Law_power_0 rfl (lv_at hl 0 rfl) ?_
    refine lv_iload_n hx hb d_Law_power_1 rfl (lv_at hl 1 rfl) ?_
    refine lv_iload_n hx hb d_Law_power_2 rfl (lv_at hl 2 rfl) ?_
    refine lv_lload_n hx hb d_Law_power_3 rfl (lv_at hl 3 rfl) ?_
    refine q_cV (rest := []) E ((R_Desk_power l g b pn tn wn mr mq hmr A k1 k2 v q1 q2 hok.2.2).up (nD_up hb0)) w_583 w_1 w_580 w_581 w_582 hd_Desk_power rfl ⟨by decide, by decide⟩ (OB.recv E.2.2.2.2.2 (by rfl) hd.x.ob) (⟨hd, hT.1, hT.2.2.1⟩) hF hl.1 rfl (Nat.le_of_ble_eq_true rfl) d_Law_power_4 ⟨by decide, by decide⟩ (qv (fun H1 locs hq hF => ?_))
    obtain ⟨hq, hcr, hsa⟩ := hq
    have hg := hP.callS hb0 hq
    refine lv_goto (tgt := 14) hx hb d_Law_power_7 (by decide) ?_
    refine lv_iconst (v := nI 0) hx hb d_Law_power_14 (by decide) ?_
    refine W.widen (k := 1) (n := 6) (by decide) (by decide) ?_
    exact q_iret E hr hlk (⟨_, rfl, Or.inl ⟨hok, rfl, hg.1, hT.sc hq.1 hbd.1 hcr (by unfold fPow; rw [nt_nI (by omega), nt_nI (by omega)]; exact hsa)⟩, hg.2⟩) hF d_Law_power_15
  · skip
    refine lv_aload_n hx hb d_Law_power_0 rfl (lv_at hl 0 rfl) ?_
    refine lv_iload_n hx hb d_Law_power_1 rfl (lv_at hl 1 rfl) ?_
    refine lv_iload_n hx hb d_Law_power_2 rfl (lv_at hl 2 rfl) ?_
    refine lv_lload_n hx hb d_Law_power_3 rfl (lv_at hl 3 rfl) ?_
    refine q_catch E hw0 (q_runVT (rest := []) E hw0 (t_Desk_power l g (HXA s0) s0 hxs b x1 x2 v ((nb hok).imp id nbn)) w_583 w_1 w_580 w_581 w_582 hd_Desk_power rfl ⟨by decide, by decide⟩ (OB.recv E.2.2.2.2.2 (by rfl) hd.x.ob) (⟨hold, hP.hx hb0⟩) hl.1 rfl (Nat.le_of_ble_eq_true rfl) d_Law_power_4 ⟨by decide, by decide⟩) hF hex ⟨by decide, by decide⟩ (by decide) w_391 (fun xx H1 locs htq hF => ?_)
    have hg := hP.growX hb0 htq.1 htq.2.1
    refine lv_astore (lv' := [(5, .ref xx), (0, .ref b), (1, .int x1), (2, .int x2), (3, .long v)]) hx hb d_Law_power_10 hl (by decide) rfl (fun ls hl => ?_)
    refine lv_iconst (v := nI 1) hx hb d_Law_power_12 (by decide) ?_
    exact q_iret E hr hlk (⟨_, rfl, Or.inr ⟨hok, rfl, hg.1, hT.eqC hbd.1 (fun q h => hg.2 q (kCW_lt h))⟩, fun q h9 => hg.2 q (kS_lt h9)⟩) hF d_Law_power_13
set_option maxHeartbeats 4000000 in
set_option maxRecDepth 100000 in
theorem XH_unity (l : Launch) (g : WG) (s0 : State) (hxs : XS l s0) (b pn tn wn : Nat) (mr mq : Int64) (hb0 : s0.heap.size ≤ b) (x1 : Int32) (x2 : Int32) (hmr : mr = 268435455) (A : Nat → Int) (P V : Nat → P3) : CtrH l y_Law_unity (.codeWith y_Law_unity method_9_code 4 (some FieldType.int) [(0, 6, 9, 13)]) 8 204 1 6 (HXA s0) g s0 [.ref b, .int x1, .int x2] (fun H => LG g s0 H b pn tn wn mr mq ∧ CW g H b pn A P V) (QI (fun r H H' => (((okS x1 (nI 1) ∧ okC x2 (nI 0) (nI 32)) ∧ r = nI 0 ∧ LG g s0 H' b pn tn wn mr mq ∧ CW g H' b pn (fUni x1 x2 A) P V) ∨ (¬ (okS x1 (nI 1) ∧ okC x2 (nI 0) (nI 32)) ∧ r = nI 1 ∧ LG g s0 H' b pn tn wn mr mq ∧ CW g H' b pn A P V)) ∧ ∀ q, kS b q → H'[q]? = H[q]?)) := by
  refine ctrH_mk l (lv0 := [(0, .ref b), (1, .int x1), (2, .int x2)]) (by decide) (Nat.le_of_ble_eq_true rfl) rfl ?_
  intro p e s m below meth c ls E hw0 hr hlk hex hl hP
  obtain ⟨hP, hT⟩ := hP
  have hx := E.1
  have hb := E.2.1
  have hK := E.2.2.2.2.2
  have hF : ∀ q ∈ ([] : List Loc), HXA s0 q.base := fun q hq => absurd hq List.not_mem_nil
  have hold := hP.1
  have hd := hP.d
  have hbd := hd.2.2.2.2
  obtain ⟨f0, hA⟩ := hP.2.2.2
  by_cases hok : okS x1 (nI 1) ∧ okC x2 (nI 0) (nI 32)
  · skip
    obtain ⟨k1, rfl, q1⟩ := okS_nat (by decide) (by decide) hok.1
    obtain ⟨k2, rfl, l2, q2⟩ := okC_nat (by decide) (by decide) hok.2
    refine lv_aload_n hx hb d_Law_unity_0 rfl (lv_at hl 0 rfl) ?_
    refine lv_iload_n hx hb d_Law_unity_1 rfl (lv_at hl 1 rfl) ?_
    refine lv_iload_n hx hb d_Law_unity_2 rfl (lv_at hl 2 rfl) ?_
    refine q_cV (rest := []) E ((R_Desk_unity l g b pn tn wn mr mq hmr A k1 k2 q1 q2).up (nD_up hb0)) w_596 w_1 w_593 w_594 w_595 hd_Desk_unity rfl ⟨by decide, by decide⟩ (OB.recv E.2.2.2.2.2 (by rfl) hd.x.ob) (⟨hd, hT.1, hT.2.2.1⟩) hF hl.1 rfl (Nat.le_of_ble_eq_true rfl) d_Law_unity_3 ⟨by decide, by decide⟩ (qv (fun H1 locs hq hF => ?_))
    obtain ⟨hq, hcr, hsa⟩ := hq
    have hg := hP.callS hb0 hq
    refine lv_goto (tgt := 12) hx hb d_Law_unity_6 (by decide) ?_
    refine lv_iconst (v := nI 0) hx hb d_Law_unity_12 (by decide) ?_
    refine W.widen (k := 1) (n := 6) (by decide) (by decide) ?_
    exact q_iret E hr hlk (⟨_, rfl, Or.inl ⟨hok, rfl, hg.1, hT.sc hq.1 hbd.1 hcr (by unfold fUni; rw [nt_nI (by omega), nt_nI (by omega)]; exact hsa)⟩, hg.2⟩) hF d_Law_unity_13
  · skip
    refine lv_aload_n hx hb d_Law_unity_0 rfl (lv_at hl 0 rfl) ?_
    refine lv_iload_n hx hb d_Law_unity_1 rfl (lv_at hl 1 rfl) ?_
    refine lv_iload_n hx hb d_Law_unity_2 rfl (lv_at hl 2 rfl) ?_
    refine q_catch E hw0 (q_runVT (rest := []) E hw0 (t_Desk_unity l g (HXA s0) s0 hxs b x1 x2 ((nb hok).imp id okC_bad)) w_596 w_1 w_593 w_594 w_595 hd_Desk_unity rfl ⟨by decide, by decide⟩ (OB.recv E.2.2.2.2.2 (by rfl) hd.x.ob) (⟨hold, hP.hx hb0⟩) hl.1 rfl (Nat.le_of_ble_eq_true rfl) d_Law_unity_3 ⟨by decide, by decide⟩) hF hex ⟨by decide, by decide⟩ (by decide) w_391 (fun xx H1 locs htq hF => ?_)
    have hg := hP.growX hb0 htq.1 htq.2.1
    refine lv_astore_n (lv' := [(3, .ref xx), (0, .ref b), (1, .int x1), (2, .int x2)]) hx hb d_Law_unity_9 rfl hl (by decide) rfl (fun ls hl => ?_)
    refine lv_iconst (v := nI 1) hx hb d_Law_unity_10 (by decide) ?_
    exact q_iret E hr hlk (⟨_, rfl, Or.inr ⟨hok, rfl, hg.1, hT.eqC hbd.1 (fun q h => hg.2 q (kCW_lt h))⟩, fun q h9 => hg.2 q (kS_lt h9)⟩) hF d_Law_unity_11
set_option maxHeartbeats 4000000 in
set_option maxRecDepth 100000 in
theorem XH_open (l : Launch) (g : WG) (s0 : State) (hxs : XS l s0) (b pn tn wn : Nat) (mr mq : Int64) (hb0 : s0.heap.size ≤ b) (x1 : Int32) (x2 : Int32) (x3 : Int32) (x4 : Int32) (hmr : mr = 268435455) (A : Nat → Int) (P V : Nat → P3) : CtrH l y_Law_open (.codeWith y_Law_open method_19_code 6 (some FieldType.int) [(0, 9, 12, 13)]) 8 185 1 6 (HXA s0) g s0 [.ref b, .int x1, .int x2, .int x3, .int x4] (fun H => LG g s0 H b pn tn wn mr mq ∧ CW g H b pn A P V) (QI (fun r H H' => (((okC x2 (nI 1) (nI 16) ∧ okS x1 x2 ∧ okS x3 (nI 1) ∧ okS x4 (nI 1)) ∧ r = nI 0 ∧ LG g s0 H' b pn tn wn mr mq ∧ CW g H' b pn (fOpen x1 x2 x3 x4 A) P V) ∨ (¬ (okC x2 (nI 1) (nI 16) ∧ okS x1 x2 ∧ okS x3 (nI 1) ∧ okS x4 (nI 1)) ∧ r = nI 1 ∧ LG g s0 H' b pn tn wn mr mq ∧ CW g H' b pn A P V)) ∧ ∀ q, kS b q → H'[q]? = H[q]?)) := by
  refine ctrH_mk l (lv0 := [(0, .ref b), (1, .int x1), (2, .int x2), (3, .int x3), (4, .int x4)]) (by decide) (Nat.le_of_ble_eq_true rfl) rfl ?_
  intro p e s m below meth c ls E hw0 hr hlk hex hl hP
  obtain ⟨hP, hT⟩ := hP
  have hx := E.1
  have hb := E.2.1
  have hK := E.2.2.2.2.2
  have hF : ∀ q ∈ ([] : List Loc), HXA s0 q.base := fun q hq => absurd hq List.not_mem_nil
  have hold := hP.1
  have hd := hP.d
  have hbd := hd.2.2.2.2
  obtain ⟨f0, hA⟩ := hP.2.2.2
  by_cases hok : okC x2 (nI 1) (nI 16) ∧ okS x1 x2 ∧ okS x3 (nI 1) ∧ okS x4 (nI 1)
  · skip
    obtain ⟨k2, rfl, l2, q2⟩ := okC_nat (by decide) (by decide) hok.1
    obtain ⟨k1, rfl, q1⟩ := okS_nat (by omega) (by omega) hok.2.1
    obtain ⟨k3, rfl, q3⟩ := okS_nat (by decide) (by decide) hok.2.2.1
    obtain ⟨k4, rfl, q4⟩ := okS_nat (by decide) (by decide) hok.2.2.2
    have hp9 : (2 : Nat) ^ 31 = 2147483648 := by decide
    refine lv_aload_n hx hb d_Law_open_0 rfl (lv_at hl 0 rfl) ?_
    refine lv_iload_n hx hb d_Law_open_1 rfl (lv_at hl 1 rfl) ?_
    refine lv_iload_n hx hb d_Law_open_2 rfl (lv_at hl 2 rfl) ?_
    refine lv_iload_n hx hb d_Law_open_3 rfl (lv_at hl 3 rfl) ?_
    refine lv_iload hx hb d_Law_open_4 (lv_at hl 4 rfl) ?_
    refine q_cV (rest := []) E ((R_Desk_open l g b pn tn wn mr mq hmr A k1 k2 k3 k4 l2 q2 q1 q3 q4).up (nD_up hb0)) w_848 w_1 w_845 w_846 w_847 hd_Desk_open rfl ⟨by decide, by decide⟩ (OB.recv E.2.2.2.2.2 (by rfl) hd.x.ob) (⟨hd, hT.1, hT.2.2.1⟩) hF hl.1 rfl (Nat.le_of_ble_eq_true rfl) d_Law_open_6 ⟨by decide, by decide⟩ (qv (fun H1 locs hq hF => ?_))
    obtain ⟨hq, hcr, hsa⟩ := hq
    have hg := hP.callS hb0 hq
    refine lv_goto (tgt := 16) hx hb d_Law_open_9 (by decide) ?_
    refine lv_iconst (v := nI 0) hx hb d_Law_open_16 (by decide) ?_
    refine W.widen (k := 1) (n := 6) (by decide) (by decide) ?_
    exact q_iret E hr hlk (⟨_, rfl, Or.inl ⟨hok, rfl, hg.1, hT.sc hq.1 hbd.1 hcr (by unfold fOpen; rw [nt_nI (by omega), nt_nI (by omega), nt_nI (by omega), nt_nI (by omega)]; exact hsa)⟩, hg.2⟩) hF d_Law_open_17
  · skip
    refine lv_aload_n hx hb d_Law_open_0 rfl (lv_at hl 0 rfl) ?_
    refine lv_iload_n hx hb d_Law_open_1 rfl (lv_at hl 1 rfl) ?_
    refine lv_iload_n hx hb d_Law_open_2 rfl (lv_at hl 2 rfl) ?_
    refine lv_iload_n hx hb d_Law_open_3 rfl (lv_at hl 3 rfl) ?_
    refine lv_iload hx hb d_Law_open_4 (lv_at hl 4 rfl) ?_
    refine q_catch E hw0 (q_runVT (rest := []) E hw0 (t_Desk_open l g (HXA s0) s0 hxs b x1 x2 x3 x4 ((nb hok).imp id (fun h => (nb h).imp id nb))) w_848 w_1 w_845 w_846 w_847 hd_Desk_open rfl ⟨by decide, by decide⟩ (OB.recv E.2.2.2.2.2 (by rfl) hd.x.ob) (⟨hold, hP.hx hb0⟩) hl.1 rfl (Nat.le_of_ble_eq_true rfl) d_Law_open_6 ⟨by decide, by decide⟩) hF hex ⟨by decide, by decide⟩ (by decide) w_391 (fun xx H1 locs htq hF => ?_)
    have hg := hP.growX hb0 htq.1 htq.2.1
    refine lv_astore (lv' := [(5, .ref xx), (0, .ref b), (1, .int x1), (2, .int x2), (3, .int x3), (4, .int x4)]) hx hb d_Law_open_12 hl (by decide) rfl (fun ls hl => ?_)
    refine lv_iconst (v := nI 1) hx hb d_Law_open_14 (by decide) ?_
    exact q_iret E hr hlk (⟨_, rfl, Or.inr ⟨hok, rfl, hg.1, hT.eqC hbd.1 (fun q h => hg.2 q (kCW_lt h))⟩, fun q h9 => hg.2 q (kS_lt h9)⟩) hF d_Law_open_15
set_option maxHeartbeats 4000000 in
set_option maxRecDepth 100000 in
theorem XH_transform (l : Launch) (g : WG) (s0 : State) (hxs : XS l s0) (b pn tn wn : Nat) (mr mq : Int64) (hb0 : s0.heap.size ≤ b) (x1 : Int32) (x2 : Int32) (x3 : Int32) (hmr : mr = 268435455) (A : Nat → Int) (P V : Nat → P3) : CtrH l y_Law_transform (.codeWith y_Law_transform method_21_code 5 (some FieldType.int) [(0, 7, 10, 13)]) 8 256 1 6 (HXA s0) g s0 [.ref b, .int x1, .int x2, .int x3] (fun H => LG g s0 H b pn tn wn mr mq ∧ CW g H b pn A P V) (QI (fun r H H' => (((okC x2 (nI 0) (nI 4) ∧ okS x1 (nI 1 <<< ((x2 &&& nI 7) &&& 31))) ∧ r = nI 0 ∧ LG g s0 H' b pn tn wn mr mq ∧ CW g H' b pn (fTr x1 x2 x3 A) P V) ∨ (¬ (okC x2 (nI 0) (nI 4) ∧ okS x1 (nI 1 <<< ((x2 &&& nI 7) &&& 31))) ∧ r = nI 1 ∧ LG g s0 H' b pn tn wn mr mq ∧ CW g H' b pn A P V)) ∧ ∀ q, kS b q → H'[q]? = H[q]?)) := by
  refine ctrH_mk l (lv0 := [(0, .ref b), (1, .int x1), (2, .int x2), (3, .int x3)]) (by decide) (Nat.le_of_ble_eq_true rfl) rfl ?_
  intro p e s m below meth c ls E hw0 hr hlk hex hl hP
  obtain ⟨hP, hT⟩ := hP
  have hx := E.1
  have hb := E.2.1
  have hK := E.2.2.2.2.2
  have hF : ∀ q ∈ ([] : List Loc), HXA s0 q.base := fun q hq => absurd hq List.not_mem_nil
  have hold := hP.1
  have hd := hP.d
  have hbd := hd.2.2.2.2
  obtain ⟨f0, hA⟩ := hP.2.2.2
  by_cases hok : okC x2 (nI 0) (nI 4) ∧ okS x1 (nI 1 <<< ((x2 &&& nI 7) &&& 31))
  · skip
    obtain ⟨k2, rfl, l2, q2⟩ := okC_nat (by decide) (by decide) hok.1
    have hs9 := hok.2
    rw [sh7 k2 (by omega)] at hs9
    obtain ⟨k1, rfl, q1⟩ := okS_nat (pw16 (by omega)).1 (Nat.le_trans (pw16 (by omega)).2 (by decide)) hs9
    have hp9 : (2 : Nat) ^ 31 = 2147483648 := by decide
    have hpk := Nat.two_pow_pos k2
    by_cases hb9 : x3 = 0
    · skip
      refine lv_aload_n hx hb d_Law_transform_0 rfl (lv_at hl 0 rfl) ?_
      refine lv_iload_n hx hb d_Law_transform_1 rfl (lv_at hl 1 rfl) ?_
      refine lv_iload_n hx hb d_Law_transform_2 rfl (lv_at hl 2 rfl) ?_
      refine lv_iload_n hx hb d_Law_transform_3 rfl (lv_at hl 3 rfl) ?_
      refine q_cV (rest := []) E ((R_Desk_transform0 l g b pn tn wn mr mq hmr A k1 k2 x3 hb9 (by omega) q1).up (nD_up hb0)) w_870 w_1 w_867 w_868 w_869 hd_Desk_transform rfl ⟨by decide, by decide⟩ (OB.recv E.2.2.2.2.2 (by rfl) hd.x.ob) (⟨hd, hT.1, hT.2.2.1⟩) hF hl.1 rfl (Nat.le_of_ble_eq_true rfl) d_Law_transform_4 ⟨by decide, by decide⟩ (qv (fun H1 locs hq hF => ?_))
      obtain ⟨hq, hcr, hsa⟩ := hq
      have hg := hP.callS hb0 hq
      refine lv_goto (tgt := 14) hx hb d_Law_transform_7 (by decide) ?_
      refine lv_iconst (v := nI 0) hx hb d_Law_transform_14 (by decide) ?_
      refine W.widen (k := 1) (n := 6) (by decide) (by decide) ?_
      exact q_iret E hr hlk (⟨_, rfl, Or.inl ⟨hok, rfl, hg.1, hT.sc hq.1 hbd.1 hcr (by unfold fTr; rw [if_pos hb9, nt_nI (by omega), nt_nI (by omega)]; exact hsa)⟩, hg.2⟩) hF d_Law_transform_15
    · skip
      refine lv_aload_n hx hb d_Law_transform_0 rfl (lv_at hl 0 rfl) ?_
      refine lv_iload_n hx hb d_Law_transform_1 rfl (lv_at hl 1 rfl) ?_
      refine lv_iload_n hx hb d_Law_transform_2 rfl (lv_at hl 2 rfl) ?_
      refine lv_iload_n hx hb d_Law_transform_3 rfl (lv_at hl 3 rfl) ?_
      refine q_cV (rest := []) E ((R_Desk_transform1 l g b pn tn wn mr mq hmr A k1 k2 x3 hb9 (by omega) q1).up (nD_up hb0)) w_870 w_1 w_867 w_868 w_869 hd_Desk_transform rfl ⟨by decide, by decide⟩ (OB.recv E.2.2.2.2.2 (by rfl) hd.x.ob) (⟨hd, hT.1, hT.2.2.1⟩) hF hl.1 rfl (Nat.le_of_ble_eq_true rfl) d_Law_transform_4 ⟨by decide, by decide⟩ (qv (fun H1 locs hq hF => ?_))
      obtain ⟨hq, hcr, hsa⟩ := hq
      have hg := hP.callS hb0 hq
      refine lv_goto (tgt := 14) hx hb d_Law_transform_7 (by decide) ?_
      refine lv_iconst (v := nI 0) hx hb d_Law_transform_14 (by decide) ?_
      refine W.widen (k := 1) (n := 6) (by decide) (by decide) ?_
      exact q_iret E hr hlk (⟨_, rfl, Or.inl ⟨hok, rfl, hg.1, hT.sc hq.1 hbd.1 hcr (by unfold fTr; rw [if_neg hb9, nt_nI (by omega), nt_nI (by omega)]; exact hsa)⟩, hg.2⟩) hF d_Law_transform_15
  · skip
    refine lv_aload_n hx hb d_Law_transform_0 rfl (lv_at hl 0 rfl) ?_
    refine lv_iload_n hx hb d_Law_transform_1 rfl (lv_at hl 1 rfl) ?_
    refine lv_iload_n hx hb d_Law_transform_2 rfl (lv_at hl 2 rfl) ?_
    refine lv_iload_n hx hb d_Law_transform_3 rfl (lv_at hl 3 rfl) ?_
    refine q_catch E hw0 (q_runVT (rest := []) E hw0 (t_Desk_transform l g (HXA s0) s0 hxs b x1 x2 x3 (bad_t hok)) w_870 w_1 w_867 w_868 w_869 hd_Desk_transform rfl ⟨by decide, by decide⟩ (OB.recv E.2.2.2.2.2 (by rfl) hd.x.ob) (⟨hold, hP.hx hb0⟩) hl.1 rfl (Nat.le_of_ble_eq_true rfl) d_Law_transform_4 ⟨by decide, by decide⟩) hF hex ⟨by decide, by decide⟩ (by decide) w_391 (fun xx H1 locs htq hF => ?_)
    have hg := hP.growX hb0 htq.1 htq.2.1
    refine lv_astore (lv' := [(4, .ref xx), (0, .ref b), (1, .int x1), (2, .int x2), (3, .int x3)]) hx hb d_Law_transform_10 hl (by decide) rfl (fun ls hl => ?_)
    refine lv_iconst (v := nI 1) hx hb d_Law_transform_12 (by decide) ?_
    exact q_iret E hr hlk (⟨_, rfl, Or.inr ⟨hok, rfl, hg.1, hT.eqC hbd.1 (fun q h => hg.2 q (kCW_lt h))⟩, fun q h9 => hg.2 q (kS_lt h9)⟩) hF d_Law_transform_13
set_option maxHeartbeats 4000000 in
set_option maxRecDepth 100000 in
theorem XH_lagrange (l : Launch) (g : WG) (s0 : State) (hxs : XS l s0) (b pn tn wn : Nat) (mr mq : Int64) (hb0 : s0.heap.size ≤ b) (x1 : Int32) (x2 : Int32) (x3 : Int32) (x4 : Int32) (hmr : mr = 268435455) (A : Nat → Int) (P V : Nat → P3) : CtrH l y_Law_lagrange (.codeWith y_Law_lagrange method_22_code 6 (some FieldType.int) [(0, 9, 12, 13)]) 8 232 1 6 (HXA s0) g s0 [.ref b, .int x1, .int x2, .int x3, .int x4] (fun H => LG g s0 H b pn tn wn mr mq ∧ CW g H b pn A P V) (QI (fun r H H' => (((okS x1 (nI 1) ∧ okC x2 (nI 0) (nI 4) ∧ ((0 : Int64).toInt ≤ x3.toInt64.toInt ∧ x3.toInt64.toInt ≤ ((nI 1 <<< ((x2 &&& nI 7) &&& 31)) - nI 1).toInt64.toInt) ∧ okS x4 (nI 1)) ∧ r = nI 0 ∧ LG g s0 H' b pn tn wn mr mq ∧ CW g H' b pn (fLag x1 x2 x3 x4 A) P V) ∨ (¬ (okS x1 (nI 1) ∧ okC x2 (nI 0) (nI 4) ∧ ((0 : Int64).toInt ≤ x3.toInt64.toInt ∧ x3.toInt64.toInt ≤ ((nI 1 <<< ((x2 &&& nI 7) &&& 31)) - nI 1).toInt64.toInt) ∧ okS x4 (nI 1)) ∧ r = nI 1 ∧ LG g s0 H' b pn tn wn mr mq ∧ CW g H' b pn A P V)) ∧ ∀ q, kS b q → H'[q]? = H[q]?)) := by
  refine ctrH_mk l (lv0 := [(0, .ref b), (1, .int x1), (2, .int x2), (3, .int x3), (4, .int x4)]) (by decide) (Nat.le_of_ble_eq_true rfl) rfl ?_
  intro p e s m below meth c ls E hw0 hr hlk hex hl hP
  obtain ⟨hP, hT⟩ := hP
  have hx := E.1
  have hb := E.2.1
  have hK := E.2.2.2.2.2
  have hF : ∀ q ∈ ([] : List Loc), HXA s0 q.base := fun q hq => absurd hq List.not_mem_nil
  have hold := hP.1
  have hd := hP.d
  have hbd := hd.2.2.2.2
  obtain ⟨f0, hA⟩ := hP.2.2.2
  by_cases hok : okS x1 (nI 1) ∧ okC x2 (nI 0) (nI 4) ∧ ((0 : Int64).toInt ≤ x3.toInt64.toInt ∧ x3.toInt64.toInt ≤ ((nI 1 <<< ((x2 &&& nI 7) &&& 31)) - nI 1).toInt64.toInt) ∧ okS x4 (nI 1)
  · skip
    obtain ⟨k1, rfl, q1⟩ := okS_nat (by decide) (by decide) hok.1
    obtain ⟨k2, rfl, l2, q2⟩ := okC_nat (by decide) (by decide) hok.2.1
    obtain ⟨k3, rfl, l3, q3⟩ := okC_nat (by decide) (Nat.lt_of_le_of_lt (Nat.sub_le _ _) (Nat.lt_of_le_of_lt (pw16 (show k2 < 5 by omega)).2 (by decide))) ((lag_C (show k2 < 5 by omega)).mp hok.2.2.1)
    obtain ⟨k4, rfl, q4⟩ := okS_nat (by decide) (by decide) hok.2.2.2
    have hp9 : (2 : Nat) ^ 31 = 2147483648 := by decide
    have hi9 := lag_i (show k2 < 5 by omega) q3
    have hp5 := (pw16 (show k2 < 5 by omega)).2
    refine lv_aload_n hx hb d_Law_lagrange_0 rfl (lv_at hl 0 rfl) ?_
    refine lv_iload_n hx hb d_Law_lagrange_1 rfl (lv_at hl 1 rfl) ?_
    refine lv_iload_n hx hb d_Law_lagrange_2 rfl (lv_at hl 2 rfl) ?_
    refine lv_iload_n hx hb d_Law_lagrange_3 rfl (lv_at hl 3 rfl) ?_
    refine lv_iload hx hb d_Law_lagrange_4 (lv_at hl 4 rfl) ?_
    refine q_cV (rest := []) E ((R_Desk_lagrange l g b pn tn wn mr mq hmr A k1 k2 k3 k4 (by omega) (lag_i (by omega) q3) q1 q4).up (nD_up hb0)) w_894 w_1 w_891 w_892 w_893 hd_Desk_lagrange rfl ⟨by decide, by decide⟩ (OB.recv E.2.2.2.2.2 (by rfl) hd.x.ob) (⟨hd, hT.1, hT.2.2.1⟩) hF hl.1 rfl (Nat.le_of_ble_eq_true rfl) d_Law_lagrange_6 ⟨by decide, by decide⟩ (qv (fun H1 locs hq hF => ?_))
    obtain ⟨hq, hcr, hsa⟩ := hq
    have hg := hP.callS hb0 hq
    refine lv_goto (tgt := 16) hx hb d_Law_lagrange_9 (by decide) ?_
    refine lv_iconst (v := nI 0) hx hb d_Law_lagrange_16 (by decide) ?_
    refine W.widen (k := 1) (n := 6) (by decide) (by decide) ?_
    exact q_iret E hr hlk (⟨_, rfl, Or.inl ⟨hok, rfl, hg.1, hT.sc hq.1 hbd.1 hcr (by unfold fLag; rw [nt_nI (by omega), nt_nI (by omega), nt_nI (by omega), nt_nI (by omega)]; exact hsa)⟩, hg.2⟩) hF d_Law_lagrange_17
  · skip
    refine lv_aload_n hx hb d_Law_lagrange_0 rfl (lv_at hl 0 rfl) ?_
    refine lv_iload_n hx hb d_Law_lagrange_1 rfl (lv_at hl 1 rfl) ?_
    refine lv_iload_n hx hb d_Law_lagrange_2 rfl (lv_at hl 2 rfl) ?_
    refine lv_iload_n hx hb d_Law_lagrange_3 rfl (lv_at hl 3 rfl) ?_
    refine lv_iload hx hb d_Law_lagrange_4 (lv_at hl 4 rfl) ?_
    refine q_catch E hw0 (q_runVT (rest := []) E hw0 (t_Desk_lagrange l g (HXA s0) s0 hxs b x1 x2 x3 x4 (bad_l hok)) w_894 w_1 w_891 w_892 w_893 hd_Desk_lagrange rfl ⟨by decide, by decide⟩ (OB.recv E.2.2.2.2.2 (by rfl) hd.x.ob) (⟨hold, hP.hx hb0⟩) hl.1 rfl (Nat.le_of_ble_eq_true rfl) d_Law_lagrange_6 ⟨by decide, by decide⟩) hF hex ⟨by decide, by decide⟩ (by decide) w_391 (fun xx H1 locs htq hF => ?_)
    have hg := hP.growX hb0 htq.1 htq.2.1
    refine lv_astore (lv' := [(5, .ref xx), (0, .ref b), (1, .int x1), (2, .int x2), (3, .int x3), (4, .int x4)]) hx hb d_Law_lagrange_12 hl (by decide) rfl (fun ls hl => ?_)
    refine lv_iconst (v := nI 1) hx hb d_Law_lagrange_14 (by decide) ?_
    exact q_iret E hr hlk (⟨_, rfl, Or.inr ⟨hok, rfl, hg.1, hT.eqC hbd.1 (fun q h => hg.2 q (kCW_lt h))⟩, fun q h9 => hg.2 q (kS_lt h9)⟩) hF d_Law_lagrange_15
set_option maxHeartbeats 4000000 in
set_option maxRecDepth 100000 in
theorem XH_reckon (l : Launch) (g : WG) (s0 : State) (hxs : XS l s0) (b pn tn wn : Nat) (mr mq : Int64) (hb0 : s0.heap.size ≤ b) (x1 x2 x3 x4 : Int32) (hmr : mr = 268435455) (A : Nat → Int) (P V : Nat → P3) (hno : va_Nc "java/lang/ArithmeticException" "java/lang/IllegalArgumentException" s0) : CtrH l y_Law_reckon (.codeWith y_Law_reckon method_7_code 6 (some FieldType.int) [(0, 9, 12, 13), (0, 9, 16, 33)]) 8 206 1 6 (HXA s0) g s0 [.ref b, .int x1, .int x2, .int x3, .int x4] (fun H => LG g s0 H b pn tn wn mr mq ∧ CW g H b pn A P V) (QI (fun r H H' => (((okC x1 (nI 0) (nI 3) ∧ okS x2 (nI 1) ∧ okS x3 (nI 1) ∧ okS x4 (nI 1)) ∧ ((¬ (nt x1 = 3 ∧ A (nt x4) = 0) ∧ r = nI 0 ∧ LG g s0 H' b pn tn wn mr mq ∧ CW g H' b pn (fRec x1 x2 x3 x4 A) P V) ∨ ((nt x1 = 3 ∧ A (nt x4) = 0) ∧ r = nI 2 ∧ LG g s0 H' b pn tn wn mr mq ∧ CW g H' b pn A P V))) ∨ (¬ (okC x1 (nI 0) (nI 3) ∧ okS x2 (nI 1) ∧ okS x3 (nI 1) ∧ okS x4 (nI 1)) ∧ r = nI 1 ∧ LG g s0 H' b pn tn wn mr mq ∧ CW g H' b pn A P V)) ∧ ∀ q, kS b q → H'[q]? = H[q]?)) := by
  refine ctrH_mk l (lv0 := [(0, .ref b), (1, .int x1), (2, .int x2), (3, .int x3), (4, .int x4)]) (by decide) (Nat.le_of_ble_eq_true rfl) rfl ?_
  intro p e s m below meth c ls E hw0 hr hlk hex hl hP
  obtain ⟨hP, hT⟩ := hP
  have hx := E.1
  have hb := E.2.1
  have hK := E.2.2.2.2.2
  have hF : ∀ q ∈ ([] : List Loc), HXA s0 q.base := fun q hq => absurd hq List.not_mem_nil
  have hold := hP.1
  have hd := hP.d
  have hbd := hd.2.2.2.2
  obtain ⟨f0, hA⟩ := hP.2.2.2
  by_cases hok : okC x1 (nI 0) (nI 3) ∧ okS x2 (nI 1) ∧ okS x3 (nI 1) ∧ okS x4 (nI 1)
  · skip
    obtain ⟨k1, rfl, l1, q1⟩ := okC_nat (by decide) (by decide) hok.1
    obtain ⟨k2, rfl, q2⟩ := okS_nat (by decide) (by decide) hok.2.1
    obtain ⟨k3, rfl, q3⟩ := okS_nat (by decide) (by decide) hok.2.2.1
    obtain ⟨k4, rfl, q4⟩ := okS_nat (by decide) (by decide) hok.2.2.2
    obtain ⟨f4, a4, v4, r4⟩ := hT.2.2.1 k4 q4
    match k1, q1 with
    | 0, _ =>
      refine lv_aload_n hx hb d_Law_reckon_0 rfl (lv_at hl 0 rfl) ?_
      refine lv_iload_n hx hb d_Law_reckon_1 rfl (lv_at hl 1 rfl) ?_
      refine lv_iload_n hx hb d_Law_reckon_2 rfl (lv_at hl 2 rfl) ?_
      refine lv_iload_n hx hb d_Law_reckon_3 rfl (lv_at hl 3 rfl) ?_
      refine lv_iload hx hb d_Law_reckon_4 (lv_at hl 4 rfl) ?_
      refine q_cV (rest := []) E ((R_Desk_reckon0 l g b pn tn wn mr mq hmr A k2 k3 k4 q2 q3 q4).up (nD_up hb0)) w_541 w_1 w_538 w_539 w_540 hd_Desk_reckon rfl ⟨by decide, by decide⟩ (OB.recv E.2.2.2.2.2 (by rfl) hd.x.ob) (⟨hd, hT.1, hT.2.2.1⟩) hF hl.1 rfl (Nat.le_of_ble_eq_true rfl) d_Law_reckon_6 ⟨by decide, by decide⟩ (qv (fun H1 locs hq hF => ?_))
      obtain ⟨hq, hcr, hsa⟩ := hq
      have hg := hP.callS hb0 hq
      refine lv_goto (tgt := 20) hx hb d_Law_reckon_9 (by decide) ?_
      refine lv_iconst (v := nI 0) hx hb d_Law_reckon_20 (by decide) ?_
      refine W.widen (k := 1) (n := 6) (by decide) (by decide) ?_
      exact q_iret E hr hlk (⟨_, rfl, Or.inl ⟨hok, Or.inl ⟨fun h => absurd h.1 (by rw [nt_nI (by decide)]; decide), rfl, hg.1, hT.sc hq.1 hbd.1 hcr (by unfold fRec; rw [nt_nI (by omega), nt_nI (by omega), nt_nI (by omega), nt_nI (by omega)]; exact hsa)⟩⟩, hg.2⟩) hF d_Law_reckon_21
    | 1, _ =>
      refine lv_aload_n hx hb d_Law_reckon_0 rfl (lv_at hl 0 rfl) ?_
      refine lv_iload_n hx hb d_Law_reckon_1 rfl (lv_at hl 1 rfl) ?_
      refine lv_iload_n hx hb d_Law_reckon_2 rfl (lv_at hl 2 rfl) ?_
      refine lv_iload_n hx hb d_Law_reckon_3 rfl (lv_at hl 3 rfl) ?_
      refine lv_iload hx hb d_Law_reckon_4 (lv_at hl 4 rfl) ?_
      refine q_cV (rest := []) E ((R_Desk_reckon1 l g b pn tn wn mr mq hmr A k2 k3 k4 q2 q3 q4).up (nD_up hb0)) w_541 w_1 w_538 w_539 w_540 hd_Desk_reckon rfl ⟨by decide, by decide⟩ (OB.recv E.2.2.2.2.2 (by rfl) hd.x.ob) (⟨hd, hT.1, hT.2.2.1⟩) hF hl.1 rfl (Nat.le_of_ble_eq_true rfl) d_Law_reckon_6 ⟨by decide, by decide⟩ (qv (fun H1 locs hq hF => ?_))
      obtain ⟨hq, hcr, hsa⟩ := hq
      have hg := hP.callS hb0 hq
      refine lv_goto (tgt := 20) hx hb d_Law_reckon_9 (by decide) ?_
      refine lv_iconst (v := nI 0) hx hb d_Law_reckon_20 (by decide) ?_
      refine W.widen (k := 1) (n := 6) (by decide) (by decide) ?_
      exact q_iret E hr hlk (⟨_, rfl, Or.inl ⟨hok, Or.inl ⟨fun h => absurd h.1 (by rw [nt_nI (by decide)]; decide), rfl, hg.1, hT.sc hq.1 hbd.1 hcr (by unfold fRec; rw [nt_nI (by omega), nt_nI (by omega), nt_nI (by omega), nt_nI (by omega)]; exact hsa)⟩⟩, hg.2⟩) hF d_Law_reckon_21
    | 2, _ =>
      refine lv_aload_n hx hb d_Law_reckon_0 rfl (lv_at hl 0 rfl) ?_
      refine lv_iload_n hx hb d_Law_reckon_1 rfl (lv_at hl 1 rfl) ?_
      refine lv_iload_n hx hb d_Law_reckon_2 rfl (lv_at hl 2 rfl) ?_
      refine lv_iload_n hx hb d_Law_reckon_3 rfl (lv_at hl 3 rfl) ?_
      refine lv_iload hx hb d_Law_reckon_4 (lv_at hl 4 rfl) ?_
      refine q_cV (rest := []) E ((R_Desk_reckon2 l g b pn tn wn mr mq hmr A k2 k3 k4 q2 q3 q4).up (nD_up hb0)) w_541 w_1 w_538 w_539 w_540 hd_Desk_reckon rfl ⟨by decide, by decide⟩ (OB.recv E.2.2.2.2.2 (by rfl) hd.x.ob) (⟨hd, hT.1, hT.2.2.1⟩) hF hl.1 rfl (Nat.le_of_ble_eq_true rfl) d_Law_reckon_6 ⟨by decide, by decide⟩ (qv (fun H1 locs hq hF => ?_))
      obtain ⟨hq, hcr, hsa⟩ := hq
      have hg := hP.callS hb0 hq
      refine lv_goto (tgt := 20) hx hb d_Law_reckon_9 (by decide) ?_
      refine lv_iconst (v := nI 0) hx hb d_Law_reckon_20 (by decide) ?_
      refine W.widen (k := 1) (n := 6) (by decide) (by decide) ?_
      exact q_iret E hr hlk (⟨_, rfl, Or.inl ⟨hok, Or.inl ⟨fun h => absurd h.1 (by rw [nt_nI (by decide)]; decide), rfl, hg.1, hT.sc hq.1 hbd.1 hcr (by unfold fRec; rw [nt_nI (by omega), nt_nI (by omega), nt_nI (by omega), nt_nI (by omega)]; exact hsa)⟩⟩, hg.2⟩) hF d_Law_reckon_21
    | 3, _ =>
      by_cases hz9 : A k4 = 0
      · skip
        have hz0 : AJ g s.heap (kSc b k4) 14 (fun _ => 0) := a4.ext (fun k hk => VL_zinv v4.1 (v4.2.trans hz9) k hk)
        refine lv_aload_n hx hb d_Law_reckon_0 rfl (lv_at hl 0 rfl) ?_
        refine lv_iload_n hx hb d_Law_reckon_1 rfl (lv_at hl 1 rfl) ?_
        refine lv_iload_n hx hb d_Law_reckon_2 rfl (lv_at hl 2 rfl) ?_
        refine lv_iload_n hx hb d_Law_reckon_3 rfl (lv_at hl 3 rfl) ?_
        refine lv_iload hx hb d_Law_reckon_4 (lv_at hl 4 rfl) ?_
        refine q_catch2 E hw0 (q_runVT (rest := []) E hw0 (t_Desk_reckonG l g (HXA s0) s0 hxs b pn tn wn mr mq k2 k3 k4 q2 q3 q4) w_541 w_1 w_538 w_539 w_540 hd_Desk_reckon rfl ⟨by decide, by decide⟩ (OB.recv E.2.2.2.2.2 (by rfl) hd.x.ob) (⟨hold, hP.hx hb0, hd, hz0⟩) hl.1 rfl (Nat.le_of_ble_eq_true rfl) d_Law_reckon_6 ⟨by decide, by decide⟩) hF hex (by decide) w_391 hno ⟨by decide, by decide⟩ (by decide) w_537 (fun xx H1 locs htq hF => ?_)
        have hg := hP.growX hb0 htq.1 htq.2.1
        refine lv_astore (lv' := [(5, .ref xx), (0, .ref b), (1, .int (nI 3)), (2, .int (nI k2)), (3, .int (nI k3)), (4, .int (nI k4))]) hx hb d_Law_reckon_16 hl (by decide) rfl (fun ls hl => ?_)
        refine lv_iconst (v := nI 2) hx hb d_Law_reckon_18 (by decide) ?_
        exact q_iret E hr hlk (⟨_, rfl, Or.inl ⟨hok, Or.inr ⟨⟨nt_nI (by decide), by rw [nt_nI (by omega)]; exact hz9⟩, rfl, hg.1, hT.eqC hbd.1 (fun q h => hg.2 q (kCW_lt h))⟩⟩, fun q h9 => hg.2 q (kS_lt h9)⟩) hF d_Law_reckon_19
      · skip
        refine lv_aload_n hx hb d_Law_reckon_0 rfl (lv_at hl 0 rfl) ?_
        refine lv_iload_n hx hb d_Law_reckon_1 rfl (lv_at hl 1 rfl) ?_
        refine lv_iload_n hx hb d_Law_reckon_2 rfl (lv_at hl 2 rfl) ?_
        refine lv_iload_n hx hb d_Law_reckon_3 rfl (lv_at hl 3 rfl) ?_
        refine lv_iload hx hb d_Law_reckon_4 (lv_at hl 4 rfl) ?_
        refine q_cV (rest := []) E ((R_Desk_reckon3 l g b pn tn wn mr mq hmr A k2 k3 k4 q2 q3 q4 hz9).up (nD_up hb0)) w_541 w_1 w_538 w_539 w_540 hd_Desk_reckon rfl ⟨by decide, by decide⟩ (OB.recv E.2.2.2.2.2 (by rfl) hd.x.ob) (⟨hd, hT.1, hT.2.2.1⟩) hF hl.1 rfl (Nat.le_of_ble_eq_true rfl) d_Law_reckon_6 ⟨by decide, by decide⟩ (qv (fun H1 locs hq hF => ?_))
        obtain ⟨hq, hcr, hsa⟩ := hq
        have hg := hP.callS hb0 hq
        refine lv_goto (tgt := 20) hx hb d_Law_reckon_9 (by decide) ?_
        refine lv_iconst (v := nI 0) hx hb d_Law_reckon_20 (by decide) ?_
        refine W.widen (k := 1) (n := 6) (by decide) (by decide) ?_
        exact q_iret E hr hlk (⟨_, rfl, Or.inl ⟨hok, Or.inl ⟨fun h => hz9 (by have h9 := h.2; rw [nt_nI (by omega)] at h9; exact h9), rfl, hg.1, hT.sc hq.1 hbd.1 hcr (by unfold fRec; rw [nt_nI (by omega), nt_nI (by omega), nt_nI (by omega), nt_nI (by omega)]; exact hsa)⟩⟩, hg.2⟩) hF d_Law_reckon_21
  · skip
    refine lv_aload_n hx hb d_Law_reckon_0 rfl (lv_at hl 0 rfl) ?_
    refine lv_iload_n hx hb d_Law_reckon_1 rfl (lv_at hl 1 rfl) ?_
    refine lv_iload_n hx hb d_Law_reckon_2 rfl (lv_at hl 2 rfl) ?_
    refine lv_iload_n hx hb d_Law_reckon_3 rfl (lv_at hl 3 rfl) ?_
    refine lv_iload hx hb d_Law_reckon_4 (lv_at hl 4 rfl) ?_
    refine q_catch E hw0 (q_runVT (rest := []) E hw0 (t_Desk_reckon l g (HXA s0) s0 hxs b x1 x2 x3 x4 ((nb hok).imp id (fun h => (nb h).imp id nb))) w_541 w_1 w_538 w_539 w_540 hd_Desk_reckon rfl ⟨by decide, by decide⟩ (OB.recv E.2.2.2.2.2 (by rfl) hd.x.ob) (⟨hold, hP.hx hb0⟩) hl.1 rfl (Nat.le_of_ble_eq_true rfl) d_Law_reckon_6 ⟨by decide, by decide⟩) hF hex ⟨by decide, by decide⟩ (by decide) w_391 (fun xx H1 locs htq hF => ?_)
    have hg := hP.growX hb0 htq.1 htq.2.1
    refine lv_astore (lv' := [(5, .ref xx), (0, .ref b), (1, .int x1), (2, .int x2), (3, .int x3), (4, .int x4)]) hx hb d_Law_reckon_12 hl (by decide) rfl (fun ls hl => ?_)
    refine lv_iconst (v := nI 1) hx hb d_Law_reckon_14 (by decide) ?_
    exact q_iret E hr hlk (⟨_, rfl, Or.inr ⟨hok, rfl, hg.1, hT.eqC hbd.1 (fun q h => hg.2 q (kCW_lt h))⟩, fun q h9 => hg.2 q (kS_lt h9)⟩) hF d_Law_reckon_15
set_option maxHeartbeats 4000000 in
set_option maxRecDepth 100000 in
theorem XH_word (l : Launch) (g : WG) (s0 : State) (hxs : XS l s0) (b pn tn wn : Nat) (mr mq : Int64) (hb0 : s0.heap.size ≤ b) (x1 x2 : Int32) (hmr : mr = 268435455) (A : Nat → Int) (P V : Nat → P3) : CtrH l y_Law_word (.codeWith y_Law_word method_6_code 5 (some FieldType.int) [(0, 9, 12, 13)]) 8 130 1 6 (HXA s0) g s0 [.ref b, .int x1, .int x2, .ref (b + 510)] (fun H => LG g s0 H b pn tn wn mr mq ∧ CW g H b pn A P V) (QI (fun r H H' => (((okS x1 (nI 1) ∧ okC x2 (nI 0) (nI 7)) ∧ r = nI 0 ∧ LG g s0 H' b pn tn wn mr mq ∧ CW g H' b pn A P V ∧ (∃ (E : Nat) (rw9 : Int64), (E : Int) = A (nt x1) ∧ rw9.toInt = ((E / 2 ^ (32 * nt x2) % 2 ^ 32 : Nat) : Int) ∧ AJ g H' (b + 510) 1 (fun _ => rw9))) ∨ (¬ (okS x1 (nI 1) ∧ okC x2 (nI 0) (nI 7)) ∧ r = nI 1 ∧ LG g s0 H' b pn tn wn mr mq ∧ CW g H' b pn A P V)) ∧ ∀ q, kS b q → H'[q]? = H[q]?)) := by
  refine ctrH_mk l (lv0 := [(0, .ref b), (1, .int x1), (2, .int x2), (3, .ref (b + 510))]) (by decide) (Nat.le_of_ble_eq_true rfl) rfl ?_
  intro p e s m below meth c ls E hw0 hr hlk hex hl hP
  obtain ⟨hP, hT⟩ := hP
  have hx := E.1
  have hb := E.2.1
  have hK := E.2.2.2.2.2
  have hF : ∀ q ∈ ([] : List Loc), HXA s0 q.base := fun q hq => absurd hq List.not_mem_nil
  have hold := hP.1
  have hd := hP.d
  have hbd := hd.2.2.2.2
  obtain ⟨f0, hA⟩ := hP.2.2.2
  by_cases hok : okS x1 (nI 1) ∧ okC x2 (nI 0) (nI 7)
  · skip
    obtain ⟨k1, rfl, q1⟩ := okS_nat (by decide) (by decide) hok.1
    obtain ⟨k2, rfl, l2, q2⟩ := okC_nat (by decide) (by decide) hok.2
    refine lv_aload_n hx hb d_Law_word_0 rfl (lv_at hl 3 rfl) ?_
    refine lv_iconst (v := nI 0) hx hb d_Law_word_1 (by decide) ?_
    refine lv_aload_n hx hb d_Law_word_2 rfl (lv_at hl 0 rfl) ?_
    refine lv_iload_n hx hb d_Law_word_3 rfl (lv_at hl 1 rfl) ?_
    refine lv_iload_n hx hb d_Law_word_4 rfl (lv_at hl 2 rfl) ?_
    refine q_cV (rest := [.int (nI 0), .ref (b + 510)]) E ((R_Desk_word l g b pn tn wn mr mq hmr A k1 k2 q1 (by omega)).up (nD_up hb0)) w_531 w_1 w_528 w_529 w_530 hd_Desk_word rfl ⟨by decide, by decide⟩ (OB.recv E.2.2.2.2.2 (by rfl) hd.x.ob) (⟨hd, hT.1, hT.2.2.1⟩) hF hl.1 rfl (Nat.le_of_ble_eq_true rfl) d_Law_word_5 ⟨by decide, by decide⟩ (ql (fun rw9 H1 locs hq hF => ?_))
    obtain ⟨⟨E8, hE, hrw⟩, hq, hH⟩ := hq
    subst hH
    refine q_last (N := 1) E (hA) (Nat.le_trans hb0 (Nat.le_add_right _ _)) hF 0 rfl (by decide) (by decide) d_Law_word_8 (fun H2 locs hq2 hA2 hF => ?_)
    have hg2 := hP.storeX hb0 hq2 hA2
    refine lv_goto (tgt := 16) hx hb d_Law_word_9 (by decide) ?_
    refine lv_iconst (v := nI 0) hx hb d_Law_word_16 (by decide) ?_
    refine W.widen (k := 1) (n := 6) (by decide) (by decide) ?_
    exact q_iret E hr hlk (⟨_, rfl, Or.inl ⟨hok, rfl, hg2.1, hT.eqC hbd.1 (fun q h => hg2.2 q (kCW_lt h)), E8, rw9, by rw [nt_nI (by omega)]; exact hE, by rw [nt_nI (by omega)]; exact hrw, hA2.one⟩, fun q h9 => hg2.2 q (kS_lt h9)⟩) hF d_Law_word_17
  · skip
    refine lv_aload_n hx hb d_Law_word_0 rfl (lv_at hl 3 rfl) ?_
    refine lv_iconst (v := nI 0) hx hb d_Law_word_1 (by decide) ?_
    refine lv_aload_n hx hb d_Law_word_2 rfl (lv_at hl 0 rfl) ?_
    refine lv_iload_n hx hb d_Law_word_3 rfl (lv_at hl 1 rfl) ?_
    refine lv_iload_n hx hb d_Law_word_4 rfl (lv_at hl 2 rfl) ?_
    refine q_catch E hw0 (q_runVT (rest := [.int (nI 0), .ref (b + 510)]) E hw0 (t_Desk_word l g (HXA s0) s0 hxs b x1 x2 ((nb hok).imp id bad_w)) w_531 w_1 w_528 w_529 w_530 hd_Desk_word rfl ⟨by decide, by decide⟩ (OB.recv E.2.2.2.2.2 (by rfl) hd.x.ob) (⟨hold, hP.hx hb0⟩) hl.1 rfl (Nat.le_of_ble_eq_true rfl) d_Law_word_5 ⟨by decide, by decide⟩) hF hex ⟨by decide, by decide⟩ (by decide) w_391 (fun xx H1 locs htq hF => ?_)
    have hg := hP.growX hb0 htq.1 htq.2.1
    refine lv_astore (lv' := [(4, .ref xx), (0, .ref b), (1, .int x1), (2, .int x2), (3, .ref (b + 510))]) hx hb d_Law_word_12 hl (by decide) rfl (fun ls hl => ?_)
    refine lv_iconst (v := nI 1) hx hb d_Law_word_14 (by decide) ?_
    exact q_iret E hr hlk (⟨_, rfl, Or.inr ⟨hok, rfl, hg.1, hT.eqC hbd.1 (fun q h => hg.2 q (kCW_lt h))⟩, fun q h9 => hg.2 q (kS_lt h9)⟩) hF d_Law_word_15
set_option maxHeartbeats 4000000 in
set_option maxRecDepth 100000 in
theorem L_Desk_look (l : Launch) (g : WG) (b pn tn wn : Nat) (mr mq : Int64) (w0 : Nat) (hw : w0 < 3) : Ctr l y_Desk_look (.code y_Desk_look prog_1_method_22_code 2 (some FieldType.int)) 0 0 0 0 (nD b) g [.ref b, .int (nI w0)] (fun H => DS g H H b pn tn wn mr mq) (QI (fun r H H' => (w0 = 0 → r = nI pn) ∧ (w0 = 1 → r = nI tn) ∧ (w0 = 2 → r = nI wn) ∧ H' = H)) := by
  refine ctr_mk l (lv0 := [(0, .ref b), (1, .int (nI w0))]) (by decide) (Nat.le_of_ble_eq_true rfl) rfl ?_
  intro p e s m below meth c ls E hr hlk hnm hl hP
  have hx := E.1
  have hb := E.2.1
  have hK := E.2.2.2.2.2
  have hF : ∀ q ∈ ([] : List Loc), nD b q.base := fun q hq => absurd hq List.not_mem_nil
  have hd := hP
  match w0, hw with
  | 0, _ =>
    refine lv_iload_n hx hb d_Desk_look_0 rfl (lv_at hl 1 rfl) ?_
    refine lv_if_ne (tgt := 9) hx hb d_Desk_look_1 (by decide) (fun h9 => absurd (by decide) h9) (fun _ => ?_)
    refine lv_aload_n hx hb d_Desk_look_4 rfl (lv_at hl 0 rfl) ?_
    refine q_get (C := "KateDesk") (T := T_Desk) (N := 16) (ci := 5) E hd.x.ob in_Desk rfl 8 (by decide) w_347 rfl rfl d_Desk_look_5 ?_
    exact q_iret E hr hlk (⟨_, rfl, fun _ => rfl, fun h => absurd h (by decide), fun h => absurd h (by decide), rfl⟩) hF d_Desk_look_8
  | 1, _ =>
    refine lv_iload_n hx hb d_Desk_look_0 rfl (lv_at hl 1 rfl) ?_
    refine lv_if_ne (tgt := 9) hx hb d_Desk_look_1 (by decide) (fun _ => ?_) (fun h9 => absurd h9 (by decide))
    refine lv_iload_n hx hb d_Desk_look_9 rfl (lv_at hl 1 rfl) ?_
    refine lv_iconst (v := nI 1) hx hb d_Desk_look_10 (by decide) ?_
    refine lv_icmp_ne (tgt := 22) hx hb d_Desk_look_11 (by decide) (fun h9 => absurd (by decide) h9) (fun _ => ?_)
    refine lv_aload_n hx hb d_Desk_look_14 rfl (lv_at hl 0 rfl) ?_
    refine q_get (C := "KateDesk") (T := T_Desk) (N := 16) (ci := 5) E hd.x.ob in_Desk rfl 9 (by decide) w_348 rfl rfl d_Desk_look_15 ?_
    refine q_get (C := "KateDesk$Row") (T := T_Row) (N := 2) (ci := 3) E hd.tp.1 in_Row rfl 1 (by decide) w_74 rfl rfl d_Desk_look_18 ?_
    exact q_iret E hr hlk (⟨_, rfl, fun h => absurd h (by decide), fun _ => rfl, fun h => absurd h (by decide), rfl⟩) hF d_Desk_look_21
  | 2, _ =>
    refine lv_iload_n hx hb d_Desk_look_0 rfl (lv_at hl 1 rfl) ?_
    refine lv_if_ne (tgt := 9) hx hb d_Desk_look_1 (by decide) (fun _ => ?_) (fun h9 => absurd h9 (by decide))
    refine lv_iload_n hx hb d_Desk_look_9 rfl (lv_at hl 1 rfl) ?_
    refine lv_iconst (v := nI 1) hx hb d_Desk_look_10 (by decide) ?_
    refine lv_icmp_ne (tgt := 22) hx hb d_Desk_look_11 (by decide) (fun _ => ?_) (fun h9 => absurd h9 (by decide))
    refine lv_iload_n hx hb d_Desk_look_22 rfl (lv_at hl 1 rfl) ?_
    refine lv_iconst (v := nI 2) hx hb d_Desk_look_23 (by decide) ?_
    refine lv_icmp_ne (tgt := 35) hx hb d_Desk_look_24 (by decide) (fun h9 => absurd (by decide) h9) (fun _ => ?_)
    refine lv_aload_n hx hb d_Desk_look_27 rfl (lv_at hl 0 rfl) ?_
    refine q_get (C := "KateDesk") (T := T_Desk) (N := 16) (ci := 5) E hd.x.ob in_Desk rfl 10 (by decide) w_349 rfl rfl d_Desk_look_28 ?_
    refine q_get (C := "KateDesk$Row") (T := T_Row) (N := 2) (ci := 3) E hd.wr.1 in_Row rfl 1 (by decide) w_74 rfl rfl d_Desk_look_31 ?_
    exact q_iret E hr hlk (⟨_, rfl, fun h => absurd h (by decide), fun h => absurd h (by decide), fun _ => rfl, rfl⟩) hF d_Desk_look_34
set_option maxHeartbeats 4000000 in
set_option maxRecDepth 100000 in
theorem XH_times (l : Launch) (g : WG) (s0 : State) (hxs : XS l s0) (b pn tn wn : Nat) (mr mq : Int64) (hb0 : s0.heap.size ≤ b) (x1 : Int32) (x2 : Int32) (x3 : Int32) (hmr : mr = 268435455) (hmq : mq = 268238845) (A : Nat → Int) (P V : Nat → P3) : CtrH l y_Law_times (.codeWith y_Law_times method_14_code 5 (some FieldType.int) [(0, 7, 10, 13)]) 8 257 1 6 (HXA s0) g s0 [.ref b, .int x1, .int x2, .int x3] (fun H => LG g s0 H b pn tn wn mr mq ∧ CW g H b pn A P V) (QI (fun r H H' => (((okP x1 (nI 1) ∧ okS x2 (nI 1) ∧ okP x3 (nI 1)) ∧ r = nI 0 ∧ LG g s0 H' b pn tn wn mr mq ∧ ∃ k1 k2 k3 T, x1 = nI k1 ∧ x2 = nI k2 ∧ x3 = nI k3 ∧ (k1 < 12 ∧ k2 < 32 ∧ k3 < 12) ∧ RP (P k3) (A k2) T ∧ CW g H' b pn A (updT P k1 T) V) ∨ (¬ (okP x1 (nI 1) ∧ okS x2 (nI 1) ∧ okP x3 (nI 1)) ∧ r = nI 1 ∧ LG g s0 H' b pn tn wn mr mq ∧ CW g H' b pn A P V)) ∧ ∀ q, kS b q → H'[q]? = H[q]?)) := by
  refine ctrH_mk l (lv0 := [(0, .ref b), (1, .int x1), (2, .int x2), (3, .int x3)]) (by decide) (Nat.le_of_ble_eq_true rfl) rfl ?_
  intro p e s m below meth c ls E hw0 hr hlk hex hl hP
  obtain ⟨hP, hT⟩ := hP
  have hx := E.1
  have hb := E.2.1
  have hK := E.2.2.2.2.2
  have hF : ∀ q ∈ ([] : List Loc), HXA s0 q.base := fun q hq => absurd hq List.not_mem_nil
  have hold := hP.1
  have hd := hP.d
  have hbd := hd.2.2.2.2
  obtain ⟨f0, hA⟩ := hP.2.2.2
  by_cases hok : okP x1 (nI 1) ∧ okS x2 (nI 1) ∧ okP x3 (nI 1)
  · skip
    obtain ⟨k1, rfl, q1⟩ := okP_nat (by decide) (by decide) hok.1
    obtain ⟨k2, rfl, q2⟩ := okS_nat (by decide) (by decide) hok.2.1
    obtain ⟨k3, rfl, q3⟩ := okP_nat (by decide) (by decide) hok.2.2
    refine lv_aload_n hx hb d_Law_times_0 rfl (lv_at hl 0 rfl) ?_
    refine lv_iload_n hx hb d_Law_times_1 rfl (lv_at hl 1 rfl) ?_
    refine lv_iload_n hx hb d_Law_times_2 rfl (lv_at hl 2 rfl) ?_
    refine lv_iload_n hx hb d_Law_times_3 rfl (lv_at hl 3 rfl) ?_
    refine q_cV (rest := []) E ((L_Desk_times l g b pn tn wn mr mq P V A hmq k1 k2 k3 q1 q2 q3).up (nD_up hb0)) w_788 w_1 w_785 w_786 w_787 hd_Desk_times rfl ⟨by decide, by decide⟩ (OB.recv E.2.2.2.2.2 (by rfl) hd.x.ob) (⟨hd, hT.w4⟩) hF hl.1 rfl (Nat.le_of_ble_eq_true rfl) d_Law_times_4 ⟨by decide, by decide⟩ (qv (fun H1 locs hq hF => ?_))
    obtain ⟨T, hT9, hLT, hq⟩ := hq
    have hf9 := hq.1.frq (fun q h => h)
    have hg := hP.callX hb0 hf9 (pq_W q1) hq.2
    refine lv_goto (tgt := 14) hx hb d_Law_times_7 (by decide) ?_
    refine lv_iconst (v := nI 0) hx hb d_Law_times_14 (by decide) ?_
    refine W.widen (k := 1) (n := 6) (by decide) (by decide) ?_
    exact q_iret E hr hlk (⟨_, rfl, Or.inl ⟨hok, rfl, hg.1, k1, k2, k3, T, rfl, rfl, rfl, ⟨q1, q2, q3⟩, hT9, hT.pt hf9 pq_C hLT (RP_on hT9) q1 hbd.1⟩, hg.2⟩) hF d_Law_times_15
  · skip
    refine lv_aload_n hx hb d_Law_times_0 rfl (lv_at hl 0 rfl) ?_
    refine lv_iload_n hx hb d_Law_times_1 rfl (lv_at hl 1 rfl) ?_
    refine lv_iload_n hx hb d_Law_times_2 rfl (lv_at hl 2 rfl) ?_
    refine lv_iload_n hx hb d_Law_times_3 rfl (lv_at hl 3 rfl) ?_
    refine q_catch E hw0 (q_runVT (rest := []) E hw0 (t_Desk_times l g (HXA s0) s0 hxs b x1 x2 x3 ((nb hok).imp id nb)) w_788 w_1 w_785 w_786 w_787 hd_Desk_times rfl ⟨by decide, by decide⟩ (OB.recv E.2.2.2.2.2 (by rfl) hd.x.ob) (⟨hold, hP.hx hb0⟩) hl.1 rfl (Nat.le_of_ble_eq_true rfl) d_Law_times_4 ⟨by decide, by decide⟩) hF hex ⟨by decide, by decide⟩ (by decide) w_391 (fun xx H1 locs htq hF => ?_)
    have hg := hP.growX hb0 htq.1 htq.2.1
    refine lv_astore (lv' := [(4, .ref xx), (0, .ref b), (1, .int x1), (2, .int x2), (3, .int x3)]) hx hb d_Law_times_10 hl (by decide) rfl (fun ls hl => ?_)
    refine lv_iconst (v := nI 1) hx hb d_Law_times_12 (by decide) ?_
    exact q_iret E hr hlk (⟨_, rfl, Or.inr ⟨hok, rfl, hg.1, hT.eqC hbd.1 (fun q h => hg.2 q (kCW_lt h))⟩, fun q h9 => hg.2 q (kS_lt h9)⟩) hF d_Law_times_13
set_option maxHeartbeats 4000000 in
set_option maxRecDepth 100000 in
theorem XH_join (l : Launch) (g : WG) (s0 : State) (hxs : XS l s0) (b pn tn wn : Nat) (mr mq : Int64) (hb0 : s0.heap.size ≤ b) (x1 : Int32) (x2 : Int32) (x3 : Int32) (x4 : Int32) (hmr : mr = 268435455) (hmq : mq = 268238845) (A : Nat → Int) (P V : Nat → P3) : CtrH l y_Law_join (.codeWith y_Law_join method_13_code 6 (some FieldType.int) [(0, 9, 12, 13)]) 8 211 1 6 (HXA s0) g s0 [.ref b, .int x1, .int x2, .int x3, .int x4] (fun H => LG g s0 H b pn tn wn mr mq ∧ CW g H b pn A P V) (QI (fun r H H' => (((okC x1 (nI 0) (nI 3) ∧ okP x2 (nI 1) ∧ okP x3 (nI 1) ∧ okP x4 (nI 1)) ∧ r = nI 0 ∧ LG g s0 H' b pn tn wn mr mq ∧ ∃ k1 k2 k3 k4 T, x1 = nI k1 ∧ x2 = nI k2 ∧ x3 = nI k3 ∧ x4 = nI k4 ∧ (k1 < 4 ∧ k2 < 12 ∧ k3 < 12 ∧ k4 < 12) ∧ ((k1 = 0 ∧ PE T PZ0) ∨ (k1 = 1 ∧ T = G9) ∨ (k1 = 2 ∧ T = AD (P k3) (P k4)) ∨ (k1 = 3 ∧ T = AD (P k3) (NG (P k4)))) ∧ CW g H' b pn A (updT P k2 T) V) ∨ (¬ (okC x1 (nI 0) (nI 3) ∧ okP x2 (nI 1) ∧ okP x3 (nI 1) ∧ okP x4 (nI 1)) ∧ r = nI 1 ∧ LG g s0 H' b pn tn wn mr mq ∧ CW g H' b pn A P V)) ∧ ∀ q, kS b q → H'[q]? = H[q]?)) := by
  refine ctrH_mk l (lv0 := [(0, .ref b), (1, .int x1), (2, .int x2), (3, .int x3), (4, .int x4)]) (by decide) (Nat.le_of_ble_eq_true rfl) rfl ?_
  intro p e s m below meth c ls E hw0 hr hlk hex hl hP
  obtain ⟨hP, hT⟩ := hP
  have hx := E.1
  have hb := E.2.1
  have hK := E.2.2.2.2.2
  have hF : ∀ q ∈ ([] : List Loc), HXA s0 q.base := fun q hq => absurd hq List.not_mem_nil
  have hold := hP.1
  have hd := hP.d
  have hbd := hd.2.2.2.2
  obtain ⟨f0, hA⟩ := hP.2.2.2
  by_cases hok : okC x1 (nI 0) (nI 3) ∧ okP x2 (nI 1) ∧ okP x3 (nI 1) ∧ okP x4 (nI 1)
  · skip
    obtain ⟨k1, rfl, l1, q1⟩ := okC_nat (by decide) (by decide) hok.1
    obtain ⟨k2, rfl, q2⟩ := okP_nat (by decide) (by decide) hok.2.1
    obtain ⟨k3, rfl, q3⟩ := okP_nat (by decide) (by decide) hok.2.2.1
    obtain ⟨k4, rfl, q4⟩ := okP_nat (by decide) (by decide) hok.2.2.2
    refine lv_aload_n hx hb d_Law_join_0 rfl (lv_at hl 0 rfl) ?_
    refine lv_iload_n hx hb d_Law_join_1 rfl (lv_at hl 1 rfl) ?_
    refine lv_iload_n hx hb d_Law_join_2 rfl (lv_at hl 2 rfl) ?_
    refine lv_iload_n hx hb d_Law_join_3 rfl (lv_at hl 3 rfl) ?_
    refine lv_iload hx hb d_Law_join_4 (lv_at hl 4 rfl) ?_
    refine q_cV (rest := []) E ((L_Desk_join l g b pn tn wn mr mq P V A hmq k1 k2 k3 k4 (by omega) q2 q3 q4).up (nD_up hb0)) w_779 w_1 w_776 w_777 w_778 hd_Desk_join rfl ⟨by decide, by decide⟩ (OB.recv E.2.2.2.2.2 (by rfl) hd.x.ob) (⟨hd, hT.w4⟩) hF hl.1 rfl (Nat.le_of_ble_eq_true rfl) d_Law_join_6 ⟨by decide, by decide⟩ (qv (fun H1 locs hq hF => ?_))
    obtain ⟨T, hT9, hLT, hq⟩ := hq
    have hf9 := hq.1.frq (fun q h => h)
    have hg := hP.callX hb0 hf9 (pq_W q2) hq.2
    refine lv_goto (tgt := 16) hx hb d_Law_join_9 (by decide) ?_
    refine lv_iconst (v := nI 0) hx hb d_Law_join_16 (by decide) ?_
    refine W.widen (k := 1) (n := 6) (by decide) (by decide) ?_
    exact q_iret E hr hlk (⟨_, rfl, Or.inl ⟨hok, rfl, hg.1, k1, k2, k3, k4, T, rfl, rfl, rfl, rfl, ⟨by omega, q2, q3, q4⟩, hT9, hT.pt hf9 pq_C hLT (jn_on hT9 (hT.2.2.2.1 k3 q3).2 (hT.2.2.2.1 k4 q4).2) q2 hbd.1⟩, hg.2⟩) hF d_Law_join_17
  · skip
    refine lv_aload_n hx hb d_Law_join_0 rfl (lv_at hl 0 rfl) ?_
    refine lv_iload_n hx hb d_Law_join_1 rfl (lv_at hl 1 rfl) ?_
    refine lv_iload_n hx hb d_Law_join_2 rfl (lv_at hl 2 rfl) ?_
    refine lv_iload_n hx hb d_Law_join_3 rfl (lv_at hl 3 rfl) ?_
    refine lv_iload hx hb d_Law_join_4 (lv_at hl 4 rfl) ?_
    refine q_catch E hw0 (q_runVT (rest := []) E hw0 (t_Desk_join l g (HXA s0) s0 hxs b x1 x2 x3 x4 ((nb hok).imp id (fun h => (nb h).imp id nb))) w_779 w_1 w_776 w_777 w_778 hd_Desk_join rfl ⟨by decide, by decide⟩ (OB.recv E.2.2.2.2.2 (by rfl) hd.x.ob) (⟨hold, hP.hx hb0⟩) hl.1 rfl (Nat.le_of_ble_eq_true rfl) d_Law_join_6 ⟨by decide, by decide⟩) hF hex ⟨by decide, by decide⟩ (by decide) w_391 (fun xx H1 locs htq hF => ?_)
    have hg := hP.growX hb0 htq.1 htq.2.1
    refine lv_astore (lv' := [(5, .ref xx), (0, .ref b), (1, .int x1), (2, .int x2), (3, .int x3), (4, .int x4)]) hx hb d_Law_join_12 hl (by decide) rfl (fun ls hl => ?_)
    refine lv_iconst (v := nI 1) hx hb d_Law_join_14 (by decide) ?_
    exact q_iret E hr hlk (⟨_, rfl, Or.inr ⟨hok, rfl, hg.1, hT.eqC hbd.1 (fun q h => hg.2 q (kCW_lt h))⟩, fun q h9 => hg.2 q (kS_lt h9)⟩) hF d_Law_join_15
set_option maxHeartbeats 4000000 in
set_option maxRecDepth 100000 in
theorem XH_combine (l : Launch) (g : WG) (s0 : State) (hxs : XS l s0) (b pn tn wn : Nat) (mr mq : Int64) (hb0 : s0.heap.size ≤ b) (x1 : Int32) (x2 : Int32) (x3 : Int32) (x4 : Int32) (hmr : mr = 268435455) (hmq : mq = 268238845) (A : Nat → Int) (P V : Nat → P3) : CtrH l y_Law_combine (.codeWith y_Law_combine method_15_code 6 (some FieldType.int) [(0, 9, 12, 13)]) 8 259 1 6 (HXA s0) g s0 [.ref b, .int x1, .int x2, .int x3, .int x4] (fun H => LG g s0 H b pn tn wn mr mq ∧ CW g H b pn A P V) (QI (fun r H H' => (((okP x1 (nI 1) ∧ okC x4 (nI 0) (nI 12) ∧ okS x2 x4 ∧ okP x3 x4) ∧ r = nI 0 ∧ LG g s0 H' b pn tn wn mr mq ∧ ∃ k1 k2 k3 k4 T, x1 = nI k1 ∧ x2 = nI k2 ∧ x3 = nI k3 ∧ x4 = nI k4 ∧ (k1 < 12 ∧ k4 ≤ 12 ∧ (0 < k4 → k2 + k4 ≤ 32) ∧ (0 < k4 → k3 + k4 ≤ 12)) ∧ RSm (fun t => P (k3 + t)) k4 (fun t => A (k2 + t)) T ∧ CW g H' b pn A (updT P k1 T) V) ∨ (¬ (okP x1 (nI 1) ∧ okC x4 (nI 0) (nI 12) ∧ okS x2 x4 ∧ okP x3 x4) ∧ r = nI 1 ∧ LG g s0 H' b pn tn wn mr mq ∧ CW g H' b pn A P V)) ∧ ∀ q, kS b q → H'[q]? = H[q]?)) := by
  refine ctrH_mk l (lv0 := [(0, .ref b), (1, .int x1), (2, .int x2), (3, .int x3), (4, .int x4)]) (by decide) (Nat.le_of_ble_eq_true rfl) rfl ?_
  intro p e s m below meth c ls E hw0 hr hlk hex hl hP
  obtain ⟨hP, hT⟩ := hP
  have hx := E.1
  have hb := E.2.1
  have hK := E.2.2.2.2.2
  have hF : ∀ q ∈ ([] : List Loc), HXA s0 q.base := fun q hq => absurd hq List.not_mem_nil
  have hold := hP.1
  have hd := hP.d
  have hbd := hd.2.2.2.2
  obtain ⟨f0, hA⟩ := hP.2.2.2
  by_cases hok : okP x1 (nI 1) ∧ okC x4 (nI 0) (nI 12) ∧ okS x2 x4 ∧ okP x3 x4
  · skip
    obtain ⟨k1, rfl, q1⟩ := okP_nat (by decide) (by decide) hok.1
    obtain ⟨k4, rfl, l4, q4⟩ := okC_nat (by decide) (by decide) hok.2.1
    obtain ⟨k2, rfl, q2⟩ := comb_S q4 hok.2.2.1
    obtain ⟨k3, rfl, q3⟩ := comb_P q4 hok.2.2.2
    refine lv_aload_n hx hb d_Law_combine_0 rfl (lv_at hl 0 rfl) ?_
    refine lv_iload_n hx hb d_Law_combine_1 rfl (lv_at hl 1 rfl) ?_
    refine lv_iload_n hx hb d_Law_combine_2 rfl (lv_at hl 2 rfl) ?_
    refine lv_iload_n hx hb d_Law_combine_3 rfl (lv_at hl 3 rfl) ?_
    refine lv_iload hx hb d_Law_combine_4 (lv_at hl 4 rfl) ?_
    refine q_cV (rest := []) E ((L_Desk_combine l g b pn tn wn mr mq P V A hmq k1 k2 k3 k4 q1 q4 q2 q3).up (nD_up hb0)) w_795 w_1 w_792 w_793 w_794 hd_Desk_combine rfl ⟨by decide, by decide⟩ (OB.recv E.2.2.2.2.2 (by rfl) hd.x.ob) (⟨hd, hT.w4⟩) hF hl.1 rfl (Nat.le_of_ble_eq_true rfl) d_Law_combine_6 ⟨by decide, by decide⟩ (qv (fun H1 locs hq hF => ?_))
    obtain ⟨T, hT9, hLT, hq⟩ := hq
    have hf9 := hq.1.frq (fun q h => h)
    have hg := hP.callX hb0 hf9 (pq_W q1) hq.2
    refine lv_goto (tgt := 16) hx hb d_Law_combine_9 (by decide) ?_
    refine lv_iconst (v := nI 0) hx hb d_Law_combine_16 (by decide) ?_
    refine W.widen (k := 1) (n := 6) (by decide) (by decide) ?_
    exact q_iret E hr hlk (⟨_, rfl, Or.inl ⟨hok, rfl, hg.1, k1, k2, k3, k4, T, rfl, rfl, rfl, rfl, ⟨q1, q4, q2, q3⟩, hT9, hT.pt hf9 pq_C hLT (RSm_on hT9) q1 hbd.1⟩, hg.2⟩) hF d_Law_combine_17
  · skip
    refine lv_aload_n hx hb d_Law_combine_0 rfl (lv_at hl 0 rfl) ?_
    refine lv_iload_n hx hb d_Law_combine_1 rfl (lv_at hl 1 rfl) ?_
    refine lv_iload_n hx hb d_Law_combine_2 rfl (lv_at hl 2 rfl) ?_
    refine lv_iload_n hx hb d_Law_combine_3 rfl (lv_at hl 3 rfl) ?_
    refine lv_iload hx hb d_Law_combine_4 (lv_at hl 4 rfl) ?_
    refine q_catch E hw0 (q_runVT (rest := []) E hw0 (t_Desk_combine l g (HXA s0) s0 hxs b x1 x2 x3 x4 ((nb hok).imp id (fun h => (nb h).imp id nb))) w_795 w_1 w_792 w_793 w_794 hd_Desk_combine rfl ⟨by decide, by decide⟩ (OB.recv E.2.2.2.2.2 (by rfl) hd.x.ob) (⟨hold, hP.hx hb0⟩) hl.1 rfl (Nat.le_of_ble_eq_true rfl) d_Law_combine_6 ⟨by decide, by decide⟩) hF hex ⟨by decide, by decide⟩ (by decide) w_391 (fun xx H1 locs htq hF => ?_)
    have hg := hP.growX hb0 htq.1 htq.2.1
    refine lv_astore (lv' := [(5, .ref xx), (0, .ref b), (1, .int x1), (2, .int x2), (3, .int x3), (4, .int x4)]) hx hb d_Law_combine_12 hl (by decide) rfl (fun ls hl => ?_)
    refine lv_iconst (v := nI 1) hx hb d_Law_combine_14 (by decide) ?_
    exact q_iret E hr hlk (⟨_, rfl, Or.inr ⟨hok, rfl, hg.1, hT.eqC hbd.1 (fun q h => hg.2 q (kCW_lt h))⟩, fun q h9 => hg.2 q (kS_lt h9)⟩) hF d_Law_combine_15
set_option maxHeartbeats 4000000 in
set_option maxRecDepth 100000 in
theorem XH_same (l : Launch) (g : WG) (s0 : State) (hxs : XS l s0) (b pn tn wn : Nat) (mr mq : Int64) (hb0 : s0.heap.size ≤ b) (x1 : Int32) (x2 : Int32) (hmr : mr = 268435455) (hmq : mq = 268238845) (A : Nat → Int) (P V : Nat → P3) : CtrH l y_Law_same (.codeWith y_Law_same method_16_code 5 (some FieldType.int) [(0, 17, 20, 13)]) 8 203 1 6 (HXA s0) g s0 [.ref b, .int x1, .int x2, .ref (b + 510)] (fun H => LG g s0 H b pn tn wn mr mq ∧ CW g H b pn A P V) (QI (fun r H H' => (((okP x1 (nI 1) ∧ okP x2 (nI 1)) ∧ r = nI 0 ∧ LG g s0 H' b pn tn wn mr mq ∧ ∃ k1 k2 rb, x1 = nI k1 ∧ x2 = nI k2 ∧ (k1 < 12 ∧ k2 < 12) ∧ ((rb = 1 ∧ PE (P k1) (P k2)) ∨ (rb = 0 ∧ ¬ PE (P k1) (P k2))) ∧ AJ g H' (b + 510) 1 (fun _ => bL rb) ∧ CW g H' b pn A P V) ∨ (¬ (okP x1 (nI 1) ∧ okP x2 (nI 1)) ∧ r = nI 1 ∧ LG g s0 H' b pn tn wn mr mq ∧ CW g H' b pn A P V)) ∧ ∀ q, kS b q → H'[q]? = H[q]?)) := by
  refine ctrH_mk l (lv0 := [(0, .ref b), (1, .int x1), (2, .int x2), (3, .ref (b + 510))]) (by decide) (Nat.le_of_ble_eq_true rfl) rfl ?_
  intro p e s m below meth c ls E hw0 hr hlk hex hl hP
  obtain ⟨hP, hT⟩ := hP
  have hx := E.1
  have hb := E.2.1
  have hK := E.2.2.2.2.2
  have hF : ∀ q ∈ ([] : List Loc), HXA s0 q.base := fun q hq => absurd hq List.not_mem_nil
  have hold := hP.1
  have hd := hP.d
  have hbd := hd.2.2.2.2
  obtain ⟨f0, hA⟩ := hP.2.2.2
  by_cases hok : okP x1 (nI 1) ∧ okP x2 (nI 1)
  · skip
    obtain ⟨k1, rfl, q1⟩ := okP_nat (by decide) (by decide) hok.1
    obtain ⟨k2, rfl, q2⟩ := okP_nat (by decide) (by decide) hok.2
    refine lv_aload_n hx hb d_Law_same_0 rfl (lv_at hl 3 rfl) ?_
    refine lv_iconst (v := nI 0) hx hb d_Law_same_1 (by decide) ?_
    refine lv_aload_n hx hb d_Law_same_2 rfl (lv_at hl 0 rfl) ?_
    refine lv_iload_n hx hb d_Law_same_3 rfl (lv_at hl 1 rfl) ?_
    refine lv_iload_n hx hb d_Law_same_4 rfl (lv_at hl 2 rfl) ?_
    refine q_cV (rest := [.int (nI 0), .ref (b + 510)]) E ((L_Desk_same l g b pn tn wn mr mq P V A hmq k1 k2 q1 q2).up (nD_up hb0)) w_806 w_1 w_803 w_804 w_805 hd_Desk_same rfl ⟨by decide, by decide⟩ (OB.recv E.2.2.2.2.2 (by rfl) hd.x.ob) (⟨hd, hT.w4⟩) hF hl.1 rfl (Nat.le_of_ble_eq_true rfl) d_Law_same_5 ⟨by decide, by decide⟩ (qi (fun r0 H1 locs hq hF => ?_))
    obtain ⟨hr0, hq⟩ := hq
    have hf9 := hq.1.frq (fun q h => h)
    have hg := hP.callX hb0 hf9 ps_W hq.2
    have hc9 := hT.fr hf9 ps_C hbd.1
    refine lv_if_eq (tgt := 15) hx hb d_Law_same_8 (by decide) (fun hz => ?_) (fun hz => ?_)
    · skip
      refine lv_lconst (v := 0) hx hb d_Law_same_15 (by decide) ?_
      refine q_last (N := 1) E (AJ.off hf9 (fun k => by have := (ps_W _ k).1.2; omega) hA) (Nat.le_trans hb0 (Nat.le_add_right _ _)) hF 0 rfl (by decide) (by decide) d_Law_same_16 (fun H2 locs hq2 hA2 hF => ?_)
      have hg2 := hg.1.storeX hb0 hq2 hA2
      have hA3 : AJ g H2 (b + 510) 1 (fun _ => bL r0) := by
        rw [show bL r0 = 0 from if_pos hz]
        exact hA2.one
      refine lv_goto (tgt := 24) hx hb d_Law_same_17 (by decide) ?_
      refine lv_iconst (v := nI 0) hx hb d_Law_same_24 (by decide) ?_
      refine W.widen (k := 1) (n := 6) (by decide) (by decide) ?_
      exact q_iret E hr hlk (⟨_, rfl, Or.inl ⟨hok, rfl, hg2.1, k1, k2, r0, rfl, rfl, ⟨q1, q2⟩, hr0, hA3, hc9.eqC hbd.1 (fun q h => hg2.2 q (kCW_lt h))⟩, fun q h9 => (hg2.2 q (kS_lt h9)).trans (hg.2 q h9)⟩) hF d_Law_same_25
    · skip
      refine lv_lconst (v := 1) hx hb d_Law_same_11 (by decide) ?_
      refine lv_goto (tgt := 16) hx hb d_Law_same_12 (by decide) ?_
      refine q_last (N := 1) E (AJ.off hf9 (fun k => by have := (ps_W _ k).1.2; omega) hA) (Nat.le_trans hb0 (Nat.le_add_right _ _)) hF 0 rfl (by decide) (by decide) d_Law_same_16 (fun H2 locs hq2 hA2 hF => ?_)
      have hg2 := hg.1.storeX hb0 hq2 hA2
      have hA3 : AJ g H2 (b + 510) 1 (fun _ => bL r0) := by
        rw [show bL r0 = 1 from if_neg hz]
        exact hA2.one
      refine lv_goto (tgt := 24) hx hb d_Law_same_17 (by decide) ?_
      refine lv_iconst (v := nI 0) hx hb d_Law_same_24 (by decide) ?_
      refine W.widen (k := 1) (n := 6) (by decide) (by decide) ?_
      exact q_iret E hr hlk (⟨_, rfl, Or.inl ⟨hok, rfl, hg2.1, k1, k2, r0, rfl, rfl, ⟨q1, q2⟩, hr0, hA3, hc9.eqC hbd.1 (fun q h => hg2.2 q (kCW_lt h))⟩, fun q h9 => (hg2.2 q (kS_lt h9)).trans (hg.2 q h9)⟩) hF d_Law_same_25
  · skip
    refine lv_aload_n hx hb d_Law_same_0 rfl (lv_at hl 3 rfl) ?_
    refine lv_iconst (v := nI 0) hx hb d_Law_same_1 (by decide) ?_
    refine lv_aload_n hx hb d_Law_same_2 rfl (lv_at hl 0 rfl) ?_
    refine lv_iload_n hx hb d_Law_same_3 rfl (lv_at hl 1 rfl) ?_
    refine lv_iload_n hx hb d_Law_same_4 rfl (lv_at hl 2 rfl) ?_
    refine q_catch E hw0 (q_runVT (rest := [.int (nI 0), .ref (b + 510)]) E hw0 (t_Desk_same l g (HXA s0) s0 hxs b x1 x2 (nb hok)) w_806 w_1 w_803 w_804 w_805 hd_Desk_same rfl ⟨by decide, by decide⟩ (OB.recv E.2.2.2.2.2 (by rfl) hd.x.ob) (⟨hold, hP.hx hb0⟩) hl.1 rfl (Nat.le_of_ble_eq_true rfl) d_Law_same_5 ⟨by decide, by decide⟩) hF hex ⟨by decide, by decide⟩ (by decide) w_391 (fun xx H1 locs htq hF => ?_)
    have hg := hP.growX hb0 htq.1 htq.2.1
    refine lv_astore (lv' := [(4, .ref xx), (0, .ref b), (1, .int x1), (2, .int x2), (3, .ref (b + 510))]) hx hb d_Law_same_20 hl (by decide) rfl (fun ls hl => ?_)
    refine lv_iconst (v := nI 1) hx hb d_Law_same_22 (by decide) ?_
    exact q_iret E hr hlk (⟨_, rfl, Or.inr ⟨hok, rfl, hg.1, hT.eqC hbd.1 (fun q h => hg.2 q (kCW_lt h))⟩, fun q h9 => hg.2 q (kS_lt h9)⟩) hF d_Law_same_23
set_option maxHeartbeats 4000000 in
set_option maxRecDepth 100000 in
theorem XH_checks (l : Launch) (g : WG) (s0 : State) (hxs : XS l s0) (b pn tn wn : Nat) (mr mq : Int64) (hb0 : s0.heap.size ≤ b) (x1 : Int32) (x2 : Int32) (x3 : Int32) (x4 : Int32) (x5 : Int32) (hmr : mr = 268435455) (hmq : mq = 268238845) (A : Nat → Int) (P V : Nat → P3) : CtrH l y_Law_checks (.codeWith y_Law_checks method_20_code 8 (some FieldType.int) [(0, 23, 26, 13)]) 8 259 1 6 (HXA s0) g s0 [.ref b, .int x1, .int x2, .int x3, .int x4, .int x5, .ref (b + 510)] (fun H => LG g s0 H b pn tn wn mr mq ∧ CW g H b pn A P V) (QI (fun r H H' => (((okP x1 (nI 1) ∧ okP x2 (nI 1) ∧ okS x3 (nI 1) ∧ okS x4 (nI 1) ∧ okS x5 (nI 1)) ∧ r = nI 0 ∧ LG g s0 H' b pn tn wn mr mq ∧ ∃ k1 k2 k3 k4 k5 rb, x1 = nI k1 ∧ x2 = nI k2 ∧ x3 = nI k3 ∧ x4 = nI k4 ∧ x5 = nI k5 ∧ (k1 < 12 ∧ k2 < 12 ∧ k3 < 32 ∧ k4 < 32 ∧ k5 < 32) ∧ (∃ T, RSm (fun t => if t = 0 then G9 else P k2) 2 (fun t => if t = 0 then A k4 else (A k5 - A k3 + RI) % RI) T ∧ ((rb = 1 ∧ PE (P k1) T) ∨ (rb = 0 ∧ ¬ PE (P k1) T))) ∧ AJ g H' (b + 510) 1 (fun _ => bL rb) ∧ CW g H' b pn A P V) ∨ (¬ (okP x1 (nI 1) ∧ okP x2 (nI 1) ∧ okS x3 (nI 1) ∧ okS x4 (nI 1) ∧ okS x5 (nI 1)) ∧ r = nI 1 ∧ LG g s0 H' b pn tn wn mr mq ∧ CW g H' b pn A P V)) ∧ ∀ q, kS b q → H'[q]? = H[q]?)) := by
  refine ctrH_mk l (lv0 := [(0, .ref b), (1, .int x1), (2, .int x2), (3, .int x3), (4, .int x4), (5, .int x5), (6, .ref (b + 510))]) (by decide) (Nat.le_of_ble_eq_true rfl) rfl ?_
  intro p e s m below meth c ls E hw0 hr hlk hex hl hP
  obtain ⟨hP, hT⟩ := hP
  have hx := E.1
  have hb := E.2.1
  have hK := E.2.2.2.2.2
  have hF : ∀ q ∈ ([] : List Loc), HXA s0 q.base := fun q hq => absurd hq List.not_mem_nil
  have hold := hP.1
  have hd := hP.d
  have hbd := hd.2.2.2.2
  obtain ⟨f0, hA⟩ := hP.2.2.2
  by_cases hok : okP x1 (nI 1) ∧ okP x2 (nI 1) ∧ okS x3 (nI 1) ∧ okS x4 (nI 1) ∧ okS x5 (nI 1)
  · skip
    obtain ⟨k1, rfl, q1⟩ := okP_nat (by decide) (by decide) hok.1
    obtain ⟨k2, rfl, q2⟩ := okP_nat (by decide) (by decide) hok.2.1
    obtain ⟨k3, rfl, q3⟩ := okS_nat (by decide) (by decide) hok.2.2.1
    obtain ⟨k4, rfl, q4⟩ := okS_nat (by decide) (by decide) hok.2.2.2.1
    obtain ⟨k5, rfl, q5⟩ := okS_nat (by decide) (by decide) hok.2.2.2.2
    refine lv_aload hx hb d_Law_checks_0 (lv_at hl 6 rfl) ?_
    refine lv_iconst (v := nI 0) hx hb d_Law_checks_2 (by decide) ?_
    refine lv_aload_n hx hb d_Law_checks_3 rfl (lv_at hl 0 rfl) ?_
    refine lv_iload_n hx hb d_Law_checks_4 rfl (lv_at hl 1 rfl) ?_
    refine lv_iload_n hx hb d_Law_checks_5 rfl (lv_at hl 2 rfl) ?_
    refine lv_iload_n hx hb d_Law_checks_6 rfl (lv_at hl 3 rfl) ?_
    refine lv_iload hx hb d_Law_checks_7 (lv_at hl 4 rfl) ?_
    refine lv_iload hx hb d_Law_checks_9 (lv_at hl 5 rfl) ?_
    refine q_cV (rest := [.int (nI 0), .ref (b + 510)]) E ((L_Desk_checks l g b pn tn wn mr mq P V A hmq hmr k1 k2 k3 k4 k5 q1 q2 q3 q4 q5).up (nD_up hb0)) w_863 w_1 w_860 w_861 w_862 hd_Desk_checks rfl ⟨by decide, by decide⟩ (OB.recv E.2.2.2.2.2 (by rfl) hd.x.ob) (⟨hd, hT.w4⟩) hF hl.1 rfl (Nat.le_of_ble_eq_true rfl) d_Law_checks_11 ⟨by decide, by decide⟩ (qi (fun r0 H1 locs hq hF => ?_))
    obtain ⟨hr0, hq⟩ := hq
    have hf9 := hq.1.frq (fun q h => h)
    have hg := hP.callX hb0 hf9 ps_W hq.2
    have hc9 := hT.fr hf9 ps_C hbd.1
    refine lv_if_eq (tgt := 21) hx hb d_Law_checks_14 (by decide) (fun hz => ?_) (fun hz => ?_)
    · skip
      refine lv_lconst (v := 0) hx hb d_Law_checks_21 (by decide) ?_
      refine q_last (N := 1) E (AJ.off hf9 (fun k => by have := (ps_W _ k).1.2; omega) hA) (Nat.le_trans hb0 (Nat.le_add_right _ _)) hF 0 rfl (by decide) (by decide) d_Law_checks_22 (fun H2 locs hq2 hA2 hF => ?_)
      have hg2 := hg.1.storeX hb0 hq2 hA2
      have hA3 : AJ g H2 (b + 510) 1 (fun _ => bL r0) := by
        rw [show bL r0 = 0 from if_pos hz]
        exact hA2.one
      refine lv_goto (tgt := 30) hx hb d_Law_checks_23 (by decide) ?_
      refine lv_iconst (v := nI 0) hx hb d_Law_checks_30 (by decide) ?_
      refine W.widen (k := 1) (n := 6) (by decide) (by decide) ?_
      exact q_iret E hr hlk (⟨_, rfl, Or.inl ⟨hok, rfl, hg2.1, k1, k2, k3, k4, k5, r0, rfl, rfl, rfl, rfl, rfl, ⟨q1, q2, q3, q4, q5⟩, hr0, hA3, hc9.eqC hbd.1 (fun q h => hg2.2 q (kCW_lt h))⟩, fun q h9 => (hg2.2 q (kS_lt h9)).trans (hg.2 q h9)⟩) hF d_Law_checks_31
    · skip
      refine lv_lconst (v := 1) hx hb d_Law_checks_17 (by decide) ?_
      refine lv_goto (tgt := 22) hx hb d_Law_checks_18 (by decide) ?_
      refine q_last (N := 1) E (AJ.off hf9 (fun k => by have := (ps_W _ k).1.2; omega) hA) (Nat.le_trans hb0 (Nat.le_add_right _ _)) hF 0 rfl (by decide) (by decide) d_Law_checks_22 (fun H2 locs hq2 hA2 hF => ?_)
      have hg2 := hg.1.storeX hb0 hq2 hA2
      have hA3 : AJ g H2 (b + 510) 1 (fun _ => bL r0) := by
        rw [show bL r0 = 1 from if_neg hz]
        exact hA2.one
      refine lv_goto (tgt := 30) hx hb d_Law_checks_23 (by decide) ?_
      refine lv_iconst (v := nI 0) hx hb d_Law_checks_30 (by decide) ?_
      refine W.widen (k := 1) (n := 6) (by decide) (by decide) ?_
      exact q_iret E hr hlk (⟨_, rfl, Or.inl ⟨hok, rfl, hg2.1, k1, k2, k3, k4, k5, r0, rfl, rfl, rfl, rfl, rfl, ⟨q1, q2, q3, q4, q5⟩, hr0, hA3, hc9.eqC hbd.1 (fun q h => hg2.2 q (kCW_lt h))⟩, fun q h9 => (hg2.2 q (kS_lt h9)).trans (hg.2 q h9)⟩) hF d_Law_checks_31
  · skip
    refine lv_aload hx hb d_Law_checks_0 (lv_at hl 6 rfl) ?_
    refine lv_iconst (v := nI 0) hx hb d_Law_checks_2 (by decide) ?_
    refine lv_aload_n hx hb d_Law_checks_3 rfl (lv_at hl 0 rfl) ?_
    refine lv_iload_n hx hb d_Law_checks_4 rfl (lv_at hl 1 rfl) ?_
    refine lv_iload_n hx hb d_Law_checks_5 rfl (lv_at hl 2 rfl) ?_
    refine lv_iload_n hx hb d_Law_checks_6 rfl (lv_at hl 3 rfl) ?_
    refine lv_iload hx hb d_Law_checks_7 (lv_at hl 4 rfl) ?_
    refine lv_iload hx hb d_Law_checks_9 (lv_at hl 5 rfl) ?_
    refine q_catch E hw0 (q_runVT (rest := [.int (nI 0), .ref (b + 510)]) E hw0 (t_Desk_checks l g (HXA s0) s0 hxs b x1 x2 x3 x4 x5 ((nb hok).imp id (fun h => (nb h).imp id (fun h => (nb h).imp id nb)))) w_863 w_1 w_860 w_861 w_862 hd_Desk_checks rfl ⟨by decide, by decide⟩ (OB.recv E.2.2.2.2.2 (by rfl) hd.x.ob) (⟨hold, hP.hx hb0⟩) hl.1 rfl (Nat.le_of_ble_eq_true rfl) d_Law_checks_11 ⟨by decide, by decide⟩) hF hex ⟨by decide, by decide⟩ (by decide) w_391 (fun xx H1 locs htq hF => ?_)
    have hg := hP.growX hb0 htq.1 htq.2.1
    refine lv_astore (lv' := [(7, .ref xx), (0, .ref b), (1, .int x1), (2, .int x2), (3, .int x3), (4, .int x4), (5, .int x5), (6, .ref (b + 510))]) hx hb d_Law_checks_26 hl (by decide) rfl (fun ls hl => ?_)
    refine lv_iconst (v := nI 1) hx hb d_Law_checks_28 (by decide) ?_
    exact q_iret E hr hlk (⟨_, rfl, Or.inr ⟨hok, rfl, hg.1, hT.eqC hbd.1 (fun q h => hg.2 q (kCW_lt h))⟩, fun q h9 => hg.2 q (kS_lt h9)⟩) hF d_Law_checks_29
set_option maxHeartbeats 4000000 in
set_option maxRecDepth 100000 in
theorem XH_point (l : Launch) (g : WG) (s0 : State) (hxs : XS l s0) (b pn tn wn : Nat) (mr mq : Int64) (hb0 : s0.heap.size ≤ b) (x1 : Int32) (hmr : mr = 268435455) (hmq : mq = 268238845) (A : Nat → Int) (P V : Nat → P3) (c9 : Nat → Int32) (t : Nat → Nat) (ht : ∀ j, t j < 256) (hct : ∀ j, j < tn → c9 j &&& 255 = nI (t j)) : CtrH l y_Law_point (.codeWith y_Law_point method_10_code 4 (some FieldType.int) [(0, 9, 12, 13)]) 8 277 1 6 (HXA s0) g s0 [.ref b, .int x1, .ref (b + 510)] (fun H => LG g s0 H b pn tn wn mr mq ∧ CW g H b pn A P V ∧ AB g H (b + 149) 96 c9) (QI (fun r H H' => (((okP x1 (nI 1)) ∧ r = nI 0 ∧ LG g s0 H' b pn 0 wn mr mq ∧ ∃ k1 n T, x1 = nI k1 ∧ k1 < 12 ∧ PAT t tn n T ∧ AJ g H' (b + 510) 1 (fun _ => (nI n).toInt64) ∧ ((n = 0 ∧ CW g H' b pn A (updT P k1 T) V) ∨ (n ≠ 0 ∧ CW g H' b pn A P V))) ∨ (¬ (okP x1 (nI 1)) ∧ r = nI 1 ∧ LG g s0 H' b pn tn wn mr mq ∧ CW g H' b pn A P V)) ∧ ∀ q, kS b q → H'[q]? = H[q]?)) := by
  refine ctrH_mk l (lv0 := [(0, .ref b), (1, .int x1), (2, .ref (b + 510))]) (by decide) (Nat.le_of_ble_eq_true rfl) rfl ?_
  intro p e s m below meth c ls E hw0 hr hlk hex hl hP
  obtain ⟨hP, hT, hc9⟩ := hP
  have hx := E.1
  have hb := E.2.1
  have hK := E.2.2.2.2.2
  have hF : ∀ q ∈ ([] : List Loc), HXA s0 q.base := fun q hq => absurd hq List.not_mem_nil
  have hold := hP.1
  have hd := hP.d
  have hbd := hd.2.2.2.2
  obtain ⟨f0, hA⟩ := hP.2.2.2
  by_cases hok : okP x1 (nI 1)
  · skip
    obtain ⟨k1, rfl, q1⟩ := okP_nat (by decide) (by decide) hok
    refine lv_aload_n hx hb d_Law_point_0 rfl (lv_at hl 2 rfl) ?_
    refine lv_iconst (v := nI 0) hx hb d_Law_point_1 (by decide) ?_
    refine lv_aload_n hx hb d_Law_point_2 rfl (lv_at hl 0 rfl) ?_
    refine lv_iload_n hx hb d_Law_point_3 rfl (lv_at hl 1 rfl) ?_
    refine q_cV (rest := [.int (nI 0), .ref (b + 510)]) E ((P_Desk_point l g b pn tn wn mr mq k1 c9 t ht hct hmq q1 hbd.2.1).up (nD_up hb0)) w_619 w_1 w_616 w_617 w_618 hd_Desk_point rfl ⟨by decide, by decide⟩ (OB.recv E.2.2.2.2.2 (by rfl) hd.x.ob) (⟨hd, hc9, hT.2.1.1⟩) hF hl.1 rfl (Nat.le_of_ble_eq_true rfl) d_Law_point_4 ⟨by decide, by decide⟩ (qi (fun r0 H1 locs hq hF => ?_))
    obtain ⟨n9, T, hr0, hpa, hq, hfq⟩ := hq
    subst hr0
    have hf9 : FRM (kPT b k1) s.heap H1 := hfq.elim (fun h => h.2.1) (fun h => h.2.mono (fun q h => Or.inl h))
    have hg := hP.callX hb0 hf9 (pt_W q1) hq.2
    have hc8 : (n9 = 0 ∧ CW g H1 b pn A (updT P k1 T) V) ∨ (n9 ≠ 0 ∧ CW g H1 b pn A P V) := by
      rcases hfq with ⟨e, hf, hL⟩ | ⟨e, hf⟩
      · subst e
        exact Or.inl ⟨rfl, hT.pt hf pt_C hL hpa.on q1 hbd.1⟩
      · exact Or.inr ⟨e, hT.fr hf pn_C hbd.1⟩
    refine lv_i2l (v := (nI n9).toInt64) hx hb d_Law_point_7 rfl ?_
    refine q_last (N := 1) E (AJ.off hf9 (fun k => by have := (pt_W q1 _ k).1.2; omega) hA) (Nat.le_trans hb0 (Nat.le_add_right _ _)) hF 0 rfl (by decide) (by decide) d_Law_point_8 (fun H2 locs hq2 hA2 hF => ?_)
    have hg2 := hg.1.storeX hb0 hq2 hA2
    have hA3 : AJ g H2 (b + 510) 1 (fun _ => (nI n9).toInt64) := hA2.one
    have he9 : ∀ q, kCW b q → _ := fun q h => hg2.2 q (kCW_lt h)
    refine lv_goto (tgt := 15) hx hb d_Law_point_9 (by decide) ?_
    refine lv_iconst (v := nI 0) hx hb d_Law_point_15 (by decide) ?_
    refine W.widen (k := 1) (n := 6) (by decide) (by decide) ?_
    exact q_iret E hr hlk (⟨_, rfl, Or.inl ⟨hok, rfl, hg2.1, k1, n9, T, rfl, q1, hpa, hA3, hc8.imp (fun h => ⟨h.1, h.2.eqC hbd.1 he9⟩) (fun h => ⟨h.1, h.2.eqC hbd.1 he9⟩)⟩, fun q h9 => (hg2.2 q (kS_lt h9)).trans (hg.2 q h9)⟩) hF d_Law_point_16
  · skip
    refine lv_aload_n hx hb d_Law_point_0 rfl (lv_at hl 2 rfl) ?_
    refine lv_iconst (v := nI 0) hx hb d_Law_point_1 (by decide) ?_
    refine lv_aload_n hx hb d_Law_point_2 rfl (lv_at hl 0 rfl) ?_
    refine lv_iload_n hx hb d_Law_point_3 rfl (lv_at hl 1 rfl) ?_
    refine q_catch E hw0 (q_runVT (rest := [.int (nI 0), .ref (b + 510)]) E hw0 (t_Desk_point l g (HXA s0) s0 hxs b x1 (hok)) w_619 w_1 w_616 w_617 w_618 hd_Desk_point rfl ⟨by decide, by decide⟩ (OB.recv E.2.2.2.2.2 (by rfl) hd.x.ob) (⟨hold, hP.hx hb0⟩) hl.1 rfl (Nat.le_of_ble_eq_true rfl) d_Law_point_4 ⟨by decide, by decide⟩) hF hex ⟨by decide, by decide⟩ (by decide) w_391 (fun xx H1 locs htq hF => ?_)
    have hg := hP.growX hb0 htq.1 htq.2.1
    refine lv_astore_n (lv' := [(3, .ref xx), (0, .ref b), (1, .int x1), (2, .ref (b + 510))]) hx hb d_Law_point_12 rfl hl (by decide) rfl (fun ls hl => ?_)
    refine lv_iconst (v := nI 1) hx hb d_Law_point_13 (by decide) ?_
    exact q_iret E hr hlk (⟨_, rfl, Or.inr ⟨hok, rfl, hg.1, hT.eqC hbd.1 (fun q h => hg.2 q (kCW_lt h))⟩, fun q h9 => hg.2 q (kS_lt h9)⟩) hF d_Law_point_14
set_option maxHeartbeats 4000000 in
set_option maxRecDepth 100000 in
theorem XH_setup (l : Launch) (g : WG) (s0 : State) (hxs : XS l s0) (b pn tn wn : Nat) (mr mq : Int64) (hb0 : s0.heap.size ≤ b) (x1 : Int32) (x2 : Int32) (hmr : mr = 268435455) (hmq : mq = 268238845) (A : Nat → Int) (P V : Nat → P3) : CtrH l y_Law_setup (.codeWith y_Law_setup method_17_code 4 (some FieldType.int) [(0, 6, 9, 13)]) 8 259 1 6 (HXA s0) g s0 [.ref b, .int x1, .int x2] (fun H => LG g s0 H b pn tn wn mr mq ∧ CW g H b pn A P V) (QI (fun r H H' => (((okS x1 (nI 1) ∧ okC x2 (nI 1) (nI 16)) ∧ r = nI 0 ∧ ∃ k1 k2 V', x1 = nI k1 ∧ x2 = nI k2 ∧ k1 < 32 ∧ k2 ≤ 16 ∧ LG g s0 H' b k2 tn wn mr mq ∧ (∀ j, j < k2 → RP G9 (A k1 ^ j % RI) (V' j)) ∧ CW g H' b k2 A P V') ∨ (¬ (okS x1 (nI 1) ∧ okC x2 (nI 1) (nI 16)) ∧ r = nI 1 ∧ LG g s0 H' b pn tn wn mr mq ∧ CW g H' b pn A P V)) ∧ ∀ q, kS b q → H'[q]? = H[q]?)) := by
  refine ctrH_mk l (lv0 := [(0, .ref b), (1, .int x1), (2, .int x2)]) (by decide) (Nat.le_of_ble_eq_true rfl) rfl ?_
  intro p e s m below meth c ls E hw0 hr hlk hex hl hP
  obtain ⟨hP, hT⟩ := hP
  have hx := E.1
  have hb := E.2.1
  have hK := E.2.2.2.2.2
  have hF : ∀ q ∈ ([] : List Loc), HXA s0 q.base := fun q hq => absurd hq List.not_mem_nil
  have hold := hP.1
  have hd := hP.d
  have hbd := hd.2.2.2.2
  obtain ⟨f0, hA⟩ := hP.2.2.2
  by_cases hok : okS x1 (nI 1) ∧ okC x2 (nI 1) (nI 16)
  · skip
    obtain ⟨k1, rfl, q1⟩ := okS_nat (by decide) (by decide) hok.1
    obtain ⟨k2, rfl, l2, q2⟩ := okC_nat (by decide) (by decide) hok.2
    refine lv_aload_n hx hb d_Law_setup_0 rfl (lv_at hl 0 rfl) ?_
    refine lv_iload_n hx hb d_Law_setup_1 rfl (lv_at hl 1 rfl) ?_
    refine lv_iload_n hx hb d_Law_setup_2 rfl (lv_at hl 2 rfl) ?_
    refine q_cV (rest := []) E ((L_Desk_setup l g b pn tn wn mr mq hmq hmr A k1 k2 q1 l2 q2).up (nD_up hb0)) w_822 w_1 w_819 w_820 w_821 hd_Desk_setup rfl ⟨by decide, by decide⟩ (OB.recv E.2.2.2.2.2 (by rfl) hd.x.ob) (⟨hd, hT.1, hT.2.1, hT.2.2.1⟩) hF hl.1 rfl (Nat.le_of_ble_eq_true rfl) d_Law_setup_3 ⟨by decide, by decide⟩ (qv (fun H1 locs hq hF => ?_))
    obtain ⟨hpr, hf9, hq⟩ := hq
    have hg := hP.callX hb0 hf9 su_W hq
    obtain ⟨V1, hv1, hv2⟩ := hT.su hf9 hpr q2
    refine lv_goto (tgt := 12) hx hb d_Law_setup_6 (by decide) ?_
    refine lv_iconst (v := nI 0) hx hb d_Law_setup_12 (by decide) ?_
    refine W.widen (k := 1) (n := 6) (by decide) (by decide) ?_
    exact q_iret E hr hlk (⟨_, rfl, Or.inl ⟨hok, rfl, k1, k2, V1, rfl, rfl, q1, q2, hg.1, hv1, hv2⟩, hg.2⟩) hF d_Law_setup_13
  · skip
    refine lv_aload_n hx hb d_Law_setup_0 rfl (lv_at hl 0 rfl) ?_
    refine lv_iload_n hx hb d_Law_setup_1 rfl (lv_at hl 1 rfl) ?_
    refine lv_iload_n hx hb d_Law_setup_2 rfl (lv_at hl 2 rfl) ?_
    refine q_catch E hw0 (q_runVT (rest := []) E hw0 (t_Desk_setup l g (HXA s0) s0 hxs b x1 x2 (nb hok)) w_822 w_1 w_819 w_820 w_821 hd_Desk_setup rfl ⟨by decide, by decide⟩ (OB.recv E.2.2.2.2.2 (by rfl) hd.x.ob) (⟨hold, hP.hx hb0⟩) hl.1 rfl (Nat.le_of_ble_eq_true rfl) d_Law_setup_3 ⟨by decide, by decide⟩) hF hex ⟨by decide, by decide⟩ (by decide) w_391 (fun xx H1 locs htq hF => ?_)
    have hg := hP.growX hb0 htq.1 htq.2.1
    refine lv_astore_n (lv' := [(3, .ref xx), (0, .ref b), (1, .int x1), (2, .int x2)]) hx hb d_Law_setup_9 rfl hl (by decide) rfl (fun ls hl => ?_)
    refine lv_iconst (v := nI 1) hx hb d_Law_setup_10 (by decide) ?_
    exact q_iret E hr hlk (⟨_, rfl, Or.inr ⟨hok, rfl, hg.1, hT.eqC hbd.1 (fun q h => hg.2 q (kCW_lt h))⟩, fun q h9 => hg.2 q (kS_lt h9)⟩) hF d_Law_setup_11
set_option maxHeartbeats 4000000 in
set_option maxRecDepth 100000 in
theorem XH_bytes (l : Launch) (g : WG) (s0 : State) (hxs : XS l s0) (b pn tn wn : Nat) (mr mq : Int64) (hb0 : s0.heap.size ≤ b) (x1 : Int32) (x2 : Int32) (hmr : mr = 268435455) (hmq : mq = 268238845) (A : Nat → Int) (P V : Nat → P3) : CtrH l y_Law_bytes (.codeWith y_Law_bytes method_11_code 4 (some FieldType.int) [(0, 6, 9, 13)]) 8 229 1 6 (HXA s0) g s0 [.ref b, .int x1, .int x2] (fun H => LG g s0 H b pn tn wn mr mq ∧ CW g H b pn A P V) (QI (fun r H H' => (((okP x1 (nI 1)) ∧ r = nI 0 ∧ ∃ k1 n tb c9, x1 = nI k1 ∧ k1 < 12 ∧ LG g s0 H' b pn tn n mr mq ∧ AB g H' (b + 151) 96 c9 ∧ TX9 (P k1) x2 n tb ∧ (∀ j, j < n → c9 j &&& 255 = nI (tb j)) ∧ CW g H' b pn A P V) ∨ (¬ (okP x1 (nI 1)) ∧ r = nI 1 ∧ LG g s0 H' b pn tn wn mr mq ∧ CW g H' b pn A P V ∧ ∀ q, kS b q → H'[q]? = H[q]?)) ∧ ∀ q, kB b q → H'[q]? = H[q]?)) := by
  refine ctrH_mk l (lv0 := [(0, .ref b), (1, .int x1), (2, .int x2)]) (by decide) (Nat.le_of_ble_eq_true rfl) rfl ?_
  intro p e s m below meth c ls E hw0 hr hlk hex hl hP
  obtain ⟨hP, hT⟩ := hP
  have hx := E.1
  have hb := E.2.1
  have hK := E.2.2.2.2.2
  have hF : ∀ q ∈ ([] : List Loc), HXA s0 q.base := fun q hq => absurd hq List.not_mem_nil
  have hold := hP.1
  have hd := hP.d
  have hbd := hd.2.2.2.2
  obtain ⟨f0, hA⟩ := hP.2.2.2
  by_cases hok : okP x1 (nI 1)
  · skip
    obtain ⟨k1, rfl, q1⟩ := okP_nat (by decide) (by decide) hok
    refine lv_aload_n hx hb d_Law_bytes_0 rfl (lv_at hl 0 rfl) ?_
    refine lv_iload_n hx hb d_Law_bytes_1 rfl (lv_at hl 1 rfl) ?_
    refine lv_iload_n hx hb d_Law_bytes_2 rfl (lv_at hl 2 rfl) ?_
    refine q_cV (rest := []) E ((L_Desk_bytes l g b pn tn wn mr mq P V A hmq k1 x2 q1).up (nD_up hb0)) w_737 w_1 w_734 w_735 w_736 hd_Desk_bytes rfl ⟨by decide, by decide⟩ (OB.recv E.2.2.2.2.2 (by rfl) hd.x.ob) (⟨hd, hT.w4⟩) hF hl.1 rfl (Nat.le_of_ble_eq_true rfl) d_Law_bytes_3 ⟨by decide, by decide⟩ (qv (fun H1 locs hq hF => ?_))
    obtain ⟨n9, tb9, c9, hq, hkw, hAB, hTX, hcj⟩ := hq
    have hg := hP.call hb0 hq
    have hkb := hkw.keep
    refine lv_goto (tgt := 12) hx hb d_Law_bytes_6 (by decide) ?_
    refine lv_iconst (v := nI 0) hx hb d_Law_bytes_12 (by decide) ?_
    refine W.widen (k := 1) (n := 6) (by decide) (by decide) ?_
    exact q_iret E hr hlk (⟨_, rfl, Or.inl ⟨hok, rfl, k1, n9, tb9, c9, rfl, q1, hg.1, hAB, hTX, hcj, hT.eqC hbd.1 (fun q h => hkb q (Or.inr h))⟩, fun q h9 => hkb q (Or.inl h9)⟩) hF d_Law_bytes_13
  · skip
    refine lv_aload_n hx hb d_Law_bytes_0 rfl (lv_at hl 0 rfl) ?_
    refine lv_iload_n hx hb d_Law_bytes_1 rfl (lv_at hl 1 rfl) ?_
    refine lv_iload_n hx hb d_Law_bytes_2 rfl (lv_at hl 2 rfl) ?_
    refine q_catch E hw0 (q_runVT (rest := []) E hw0 (t_Desk_bytes l g (HXA s0) s0 hxs b x1 x2 (hok)) w_737 w_1 w_734 w_735 w_736 hd_Desk_bytes rfl ⟨by decide, by decide⟩ (OB.recv E.2.2.2.2.2 (by rfl) hd.x.ob) (⟨hold, hP.hx hb0⟩) hl.1 rfl (Nat.le_of_ble_eq_true rfl) d_Law_bytes_3 ⟨by decide, by decide⟩) hF hex ⟨by decide, by decide⟩ (by decide) w_391 (fun xx H1 locs htq hF => ?_)
    have hg := hP.growX hb0 htq.1 htq.2.1
    refine lv_astore_n (lv' := [(3, .ref xx), (0, .ref b), (1, .int x1), (2, .int x2)]) hx hb d_Law_bytes_9 rfl hl (by decide) rfl (fun ls hl => ?_)
    refine lv_iconst (v := nI 1) hx hb d_Law_bytes_10 (by decide) ?_
    exact q_iret E hr hlk (⟨_, rfl, Or.inr ⟨hok, rfl, hg.1, hT.eqC hbd.1 (fun q h => hg.2 q (kCW_lt h)), fun q h9 => hg.2 q (kS_lt h9)⟩, fun q h9 => hg.2 q (kS_lt (kB_S h9))⟩) hF d_Law_bytes_11
set_option maxHeartbeats 4000000 in
set_option maxRecDepth 100000 in
theorem XH_out (l : Launch) (g : WG) (s0 : State) (hxs : XS l s0) (b pn tn wn : Nat) (mr mq : Int64) (hb0 : s0.heap.size ≤ b) (x1 : Int32) (hmr : mr = 268435455) (hmq : mq = 268238845) (A : Nat → Int) (P V : Nat → P3) (c9 : Nat → Int32) (t : Nat → Nat) (hct : ∀ j, j < wn → c9 j &&& 255 = nI (t j)) : CtrH l y_Law_out (.codeWith y_Law_out method_12_code 4 (some FieldType.int) [(0, 8, 11, 55)]) 8 128 1 6 (HXA s0) g s0 [.ref b, .int x1, .ref (b + 510)] (fun H => LG g s0 H b pn tn wn mr mq ∧ CW g H b pn A P V ∧ AB g H (b + 151) 96 c9) (QI (fun r H H' => (((¬ x1 < 0 ∧ x1 < nI wn) ∧ r = nI 0 ∧ LG g s0 H' b pn tn wn mr mq ∧ CW g H' b pn A P V ∧ ∃ k1, x1 = nI k1 ∧ k1 < wn ∧ AJ g H' (b + 510) 1 (fun _ => OU9 t k1 wn 8)) ∨ (¬ (¬ x1 < 0 ∧ x1 < nI wn) ∧ r = nI 1 ∧ LG g s0 H' b pn tn wn mr mq ∧ CW g H' b pn A P V)) ∧ ∀ q, kS b q → H'[q]? = H[q]?)) := by
  refine ctrH_mk l (lv0 := [(0, .ref b), (1, .int x1), (2, .ref (b + 510))]) (by decide) (Nat.le_of_ble_eq_true rfl) rfl ?_
  intro p e s m below meth c ls E hw0 hr hlk hex hl hP
  obtain ⟨hP, hT, hc9⟩ := hP
  have hx := E.1
  have hb := E.2.1
  have hK := E.2.2.2.2.2
  have hF : ∀ q ∈ ([] : List Loc), HXA s0 q.base := fun q hq => absurd hq List.not_mem_nil
  have hold := hP.1
  have hd := hP.d
  have hbd := hd.2.2.2.2
  obtain ⟨f0, hA⟩ := hP.2.2.2
  by_cases hok : ¬ x1 < 0 ∧ x1 < nI wn
  · skip
    obtain ⟨k1, hk1, rfl⟩ := nI_of hok.1
    have hk2 : k1 < wn := (nI_ltI hk1 (by omega)).mp hok.2
    refine lv_aload_n hx hb d_Law_out_0 rfl (lv_at hl 2 rfl) ?_
    refine lv_iconst (v := nI 0) hx hb d_Law_out_1 (by decide) ?_
    refine lv_aload_n hx hb d_Law_out_2 rfl (lv_at hl 0 rfl) ?_
    refine lv_iload_n hx hb d_Law_out_3 rfl (lv_at hl 1 rfl) ?_
    refine q_cV (rest := [.int (nI 0), .ref (b + 510)]) E ((L_Desk_out l g b pn tn wn mr mq k1 c9 t hct hk2 hbd.2.2).up (nD_up hb0)) w_756 w_1 w_753 w_754 w_755 hd_Desk_out rfl ⟨by decide, by decide⟩ (OB.recv E.2.2.2.2.2 (by rfl) hd.x.ob) (⟨hd, hc9⟩) hF hl.1 rfl (Nat.le_of_ble_eq_true rfl) d_Law_out_4 ⟨by decide, by decide⟩ (ql (fun r0 H1 locs hq hF => ?_))
    obtain ⟨hr0, hq⟩ := hq
    subst hq
    subst hr0
    refine q_last (N := 1) E hA (Nat.le_trans hb0 (Nat.le_add_right _ _)) hF 0 rfl (by decide) (by decide) d_Law_out_7 (fun H2 locs hq2 hA2 hF => ?_)
    have hg2 := hP.storeX hb0 hq2 hA2
    refine lv_goto (tgt := 14) hx hb d_Law_out_8 (by decide) ?_
    refine lv_iconst (v := nI 0) hx hb d_Law_out_14 (by decide) ?_
    refine W.widen (k := 1) (n := 6) (by decide) (by decide) ?_
    exact q_iret E hr hlk (⟨_, rfl, Or.inl ⟨hok, rfl, hg2.1, hT.eqC hbd.1 (fun q h => hg2.2 q (kCW_lt h)), k1, rfl, hk2, hA2.one⟩, fun q h9 => hg2.2 q (kS_lt h9)⟩) hF d_Law_out_15
  · skip
    refine lv_aload_n hx hb d_Law_out_0 rfl (lv_at hl 2 rfl) ?_
    refine lv_iconst (v := nI 0) hx hb d_Law_out_1 (by decide) ?_
    refine lv_aload_n hx hb d_Law_out_2 rfl (lv_at hl 0 rfl) ?_
    refine lv_iload_n hx hb d_Law_out_3 rfl (lv_at hl 1 rfl) ?_
    refine q_catch E hw0 (q_runVT (rest := [.int (nI 0), .ref (b + 510)]) E hw0 (t_Desk_outG l g (HXA s0) s0 hxs b pn tn wn mr mq x1 (fun h1 h2 => hok ⟨h1, h2⟩)) w_756 w_1 w_753 w_754 w_755 hd_Desk_out rfl ⟨by decide, by decide⟩ (OB.recv E.2.2.2.2.2 (by rfl) hd.x.ob) (⟨hold, hP.hx hb0, hd⟩) hl.1 rfl (Nat.le_of_ble_eq_true rfl) d_Law_out_4 ⟨by decide, by decide⟩) hF hex ⟨by decide, by decide⟩ (by decide) w_752 (fun xx H1 locs htq hF => ?_)
    have hg := hP.growX hb0 htq.1 htq.2.1
    refine lv_astore_n (lv' := [(3, .ref xx), (0, .ref b), (1, .int x1), (2, .ref (b + 510))]) hx hb d_Law_out_11 rfl hl (by decide) rfl (fun ls hl => ?_)
    refine lv_iconst (v := nI 1) hx hb d_Law_out_12 (by decide) ?_
    exact q_iret E hr hlk (⟨_, rfl, Or.inr ⟨hok, rfl, hg.1, hT.eqC hbd.1 (fun q h => hg.2 q (kCW_lt h))⟩, fun q h9 => hg.2 q (kS_lt h9)⟩) hF d_Law_out_13
set_option maxHeartbeats 4000000 in
set_option maxRecDepth 100000 in
theorem XH_look (l : Launch) (g : WG) (s0 : State) (hxs : XS l s0) (b pn tn wn : Nat) (mr mq : Int64) (hb0 : s0.heap.size ≤ b) (x1 : Int32) (hmr : mr = 268435455) (hmq : mq = 268238845) (A : Nat → Int) (P V : Nat → P3) : CtrH l y_Law_look (.codeWith y_Law_look method_23_code 4 (some FieldType.int) [(0, 9, 12, 13)]) 8 125 1 6 (HXA s0) g s0 [.ref b, .int x1, .ref (b + 510)] (fun H => LG g s0 H b pn tn wn mr mq ∧ CW g H b pn A P V) (QI (fun r H H' => (((okC x1 (nI 0) (nI 2)) ∧ r = nI 0 ∧ AJ g H' (b + 510) 1 (fun _ => (lookV x1 pn tn wn).toInt64) ∧ LG g s0 H' b pn tn wn mr mq ∧ CW g H' b pn A P V) ∨ (¬ (okC x1 (nI 0) (nI 2)) ∧ r = nI 1 ∧ LG g s0 H' b pn tn wn mr mq ∧ CW g H' b pn A P V)) ∧ ∀ q, kS b q → H'[q]? = H[q]?)) := by
  refine ctrH_mk l (lv0 := [(0, .ref b), (1, .int x1), (2, .ref (b + 510))]) (by decide) (Nat.le_of_ble_eq_true rfl) rfl ?_
  intro p e s m below meth c ls E hw0 hr hlk hex hl hP
  obtain ⟨hP, hT⟩ := hP
  have hx := E.1
  have hb := E.2.1
  have hK := E.2.2.2.2.2
  have hF : ∀ q ∈ ([] : List Loc), HXA s0 q.base := fun q hq => absurd hq List.not_mem_nil
  have hold := hP.1
  have hd := hP.d
  have hbd := hd.2.2.2.2
  obtain ⟨f0, hA⟩ := hP.2.2.2
  by_cases hok : okC x1 (nI 0) (nI 2)
  · skip
    obtain ⟨k1, rfl, l1, q1⟩ := okC_nat (by decide) (by decide) hok
    refine lv_aload_n hx hb d_Law_look_0 rfl (lv_at hl 2 rfl) ?_
    refine lv_iconst (v := nI 0) hx hb d_Law_look_1 (by decide) ?_
    refine lv_aload_n hx hb d_Law_look_2 rfl (lv_at hl 0 rfl) ?_
    refine lv_iload_n hx hb d_Law_look_3 rfl (lv_at hl 1 rfl) ?_
    refine q_cV (rest := [.int (nI 0), .ref (b + 510)]) E ((L_Desk_look l g b pn tn wn mr mq k1 (by omega)).up (nD_up hb0)) w_905 w_1 w_902 w_903 w_904 hd_Desk_look rfl ⟨by decide, by decide⟩ (OB.recv E.2.2.2.2.2 (by rfl) hd.x.ob) hd hF hl.1 rfl (Nat.le_of_ble_eq_true rfl) d_Law_look_4 ⟨by decide, by decide⟩ (qi (fun r0 H1 locs hq hF => ?_))
    obtain ⟨l_0, l_1, l_2, hq⟩ := hq
    have hv9 := look_v (show k1 ≤ 2 by omega) l_0 l_1 l_2
    have hq := hq.symm
    subst hq
    refine lv_i2l (v := r0.toInt64) hx hb d_Law_look_7 rfl ?_
    refine q_last (N := 1) E hA (Nat.le_trans hb0 (Nat.le_add_right _ _)) hF 0 rfl (by decide) (by decide) d_Law_look_8 (fun H2 locs hq2 hA2 hF => ?_)
    have hg2 := hP.storeX hb0 hq2 hA2
    refine lv_goto (tgt := 15) hx hb d_Law_look_9 (by decide) ?_
    refine lv_iconst (v := nI 0) hx hb d_Law_look_15 (by decide) ?_
    refine W.widen (k := 1) (n := 6) (by decide) (by decide) ?_
    exact q_iret E hr hlk (⟨_, rfl, Or.inl ⟨hok, rfl, hv9 ▸ hA2.one, hg2.1, hT.eqC hbd.1 (fun q h => hg2.2 q (kCW_lt h))⟩, fun q h9 => hg2.2 q (kS_lt h9)⟩) hF d_Law_look_16
  · skip
    refine lv_aload_n hx hb d_Law_look_0 rfl (lv_at hl 2 rfl) ?_
    refine lv_iconst (v := nI 0) hx hb d_Law_look_1 (by decide) ?_
    refine lv_aload_n hx hb d_Law_look_2 rfl (lv_at hl 0 rfl) ?_
    refine lv_iload_n hx hb d_Law_look_3 rfl (lv_at hl 1 rfl) ?_
    refine q_catch E hw0 (q_runVT (rest := [.int (nI 0), .ref (b + 510)]) E hw0 (t_Desk_look l g (HXA s0) s0 hxs b x1 (⟨fun e9 => hok (by rw [e9]; exact okC_of (k := 0) (by decide) (by decide) (by decide)), fun e9 => hok (by rw [e9]; exact okC_of (k := 1) (by decide) (by decide) (by decide)), fun e9 => hok (by rw [e9]; exact okC_of (k := 2) (by decide) (by decide) (by decide))⟩)) w_905 w_1 w_902 w_903 w_904 hd_Desk_look rfl ⟨by decide, by decide⟩ (OB.recv E.2.2.2.2.2 (by rfl) hd.x.ob) (⟨hold, hP.hx hb0⟩) hl.1 rfl (Nat.le_of_ble_eq_true rfl) d_Law_look_4 ⟨by decide, by decide⟩) hF hex ⟨by decide, by decide⟩ (by decide) w_391 (fun xx H1 locs htq hF => ?_)
    have hg := hP.growX hb0 htq.1 htq.2.1
    refine lv_astore_n (lv' := [(3, .ref xx), (0, .ref b), (1, .int x1), (2, .ref (b + 510))]) hx hb d_Law_look_12 rfl hl (by decide) rfl (fun ls hl => ?_)
    refine lv_iconst (v := nI 1) hx hb d_Law_look_13 (by decide) ?_
    exact q_iret E hr hlk (⟨_, rfl, Or.inr ⟨hok, rfl, hg.1, hT.eqC hbd.1 (fun q h => hg.2 q (kCW_lt h))⟩, fun q h9 => hg.2 q (kS_lt h9)⟩) hF d_Law_look_14
set_option maxHeartbeats 4000000 in
set_option maxRecDepth 100000 in
theorem XH_commit (l : Launch) (g : WG) (s0 : State) (hxs : XS l s0) (b pn tn wn : Nat) (mr mq : Int64) (hb0 : s0.heap.size ≤ b) (x1 x2 x3 : Int32) (hmr : mr = 268435455) (hmq : mq = 268238845) (A : Nat → Int) (P V : Nat → P3) (hno : va_Nc "java/lang/IllegalStateException" "java/lang/IllegalArgumentException" s0) : CtrH l y_Law_commit (.codeWith y_Law_commit method_18_code 5 (some FieldType.int) [(0, 7, 10, 13), (0, 7, 14, 15)]) 8 258 1 6 (HXA s0) g s0 [.ref b, .int x1, .int x2, .int x3] (fun H => LG g s0 H b pn tn wn mr mq ∧ CW g H b pn A P V) (QI (fun r H H' => (((okP x1 (nI 1) ∧ okC x3 (nI 0) (nI 16) ∧ okS x2 x3) ∧ ((x3 ≤ nI pn ∧ r = nI 0 ∧ LG g s0 H' b pn tn wn mr mq ∧ ∃ k1 k2 k3 T, x1 = nI k1 ∧ x2 = nI k2 ∧ x3 = nI k3 ∧ (k1 < 12 ∧ k3 ≤ 16 ∧ k3 ≤ pn ∧ (0 < k3 → k2 + k3 ≤ 32)) ∧ RSm (fun t => V t) k3 (fun t => A (k2 + t)) T ∧ CW g H' b pn A (updT P k1 T) V) ∨ (¬ x3 ≤ nI pn ∧ r = nI 2 ∧ LG g s0 H' b pn tn wn mr mq ∧ CW g H' b pn A P V))) ∨ (¬ (okP x1 (nI 1) ∧ okC x3 (nI 0) (nI 16) ∧ okS x2 x3) ∧ r = nI 1 ∧ LG g s0 H' b pn tn wn mr mq ∧ CW g H' b pn A P V)) ∧ ∀ q, kS b q → H'[q]? = H[q]?)) := by
  refine ctrH_mk l (lv0 := [(0, .ref b), (1, .int x1), (2, .int x2), (3, .int x3)]) (by decide) (Nat.le_of_ble_eq_true rfl) rfl ?_
  intro p e s m below meth c ls E hw0 hr hlk hex hl hP
  obtain ⟨hP, hT⟩ := hP
  have hx := E.1
  have hb := E.2.1
  have hK := E.2.2.2.2.2
  have hF : ∀ q ∈ ([] : List Loc), HXA s0 q.base := fun q hq => absurd hq List.not_mem_nil
  have hold := hP.1
  have hd := hP.d
  have hbd := hd.2.2.2.2
  obtain ⟨f0, hA⟩ := hP.2.2.2
  by_cases hok : okP x1 (nI 1) ∧ okC x3 (nI 0) (nI 16) ∧ okS x2 x3
  · skip
    obtain ⟨k1, rfl, q1⟩ := okP_nat (by decide) (by decide) hok.1
    obtain ⟨k3, rfl, l3, q3⟩ := okC_nat (by decide) (by decide) hok.2.1
    obtain ⟨k2, rfl, q2⟩ := comb_S16 q3 hok.2.2
    by_cases hpn : nI k3 ≤ nI pn
    · skip
      have hnp : k3 ≤ pn := (nI_leI (by omega) (by omega)).mp hpn
      refine lv_aload_n hx hb d_Law_commit_0 rfl (lv_at hl 0 rfl) ?_
      refine lv_iload_n hx hb d_Law_commit_1 rfl (lv_at hl 1 rfl) ?_
      refine lv_iload_n hx hb d_Law_commit_2 rfl (lv_at hl 2 rfl) ?_
      refine lv_iload_n hx hb d_Law_commit_3 rfl (lv_at hl 3 rfl) ?_
      refine q_cV (rest := []) E ((L_Desk_commit l g b pn tn wn mr mq P V A hmq k1 k2 k3 q1 q3 q2 hnp hbd.1).up (nD_up hb0)) w_840 w_1 w_837 w_838 w_839 hd_Desk_commit rfl ⟨by decide, by decide⟩ (OB.recv E.2.2.2.2.2 (by rfl) hd.x.ob) (⟨hd, hT.w4⟩) hF hl.1 rfl (Nat.le_of_ble_eq_true rfl) d_Law_commit_4 ⟨by decide, by decide⟩ (qv (fun H1 locs hq hF => ?_))
      obtain ⟨T, hT9, hLT, hq⟩ := hq
      have hf9 := hq.1.frq (fun q h => h)
      have hg := hP.callX hb0 hf9 (pq_W q1) hq.2
      refine lv_goto (tgt := 18) hx hb d_Law_commit_7 (by decide) ?_
      refine lv_iconst (v := nI 0) hx hb d_Law_commit_18 (by decide) ?_
      refine W.widen (k := 1) (n := 6) (by decide) (by decide) ?_
      exact q_iret E hr hlk (⟨_, rfl, Or.inl ⟨hok, Or.inl ⟨hpn, rfl, hg.1, k1, k2, k3, T, rfl, rfl, rfl, ⟨q1, q3, hnp, q2⟩, hT9, hT.pt hf9 pq_C hLT (RSm_on hT9) q1 hbd.1⟩⟩, hg.2⟩) hF d_Law_commit_19
    · skip
      refine lv_aload_n hx hb d_Law_commit_0 rfl (lv_at hl 0 rfl) ?_
      refine lv_iload_n hx hb d_Law_commit_1 rfl (lv_at hl 1 rfl) ?_
      refine lv_iload_n hx hb d_Law_commit_2 rfl (lv_at hl 2 rfl) ?_
      refine lv_iload_n hx hb d_Law_commit_3 rfl (lv_at hl 3 rfl) ?_
      refine q_catch2 E hw0 (q_runVT (rest := []) E hw0 (t_Desk_commitG l g (HXA s0) s0 hxs b pn tn wn mr mq (nI k1) (nI k2) (nI k3) hok.1 hok.2.1 hok.2.2 hpn) w_840 w_1 w_837 w_838 w_839 hd_Desk_commit rfl ⟨by decide, by decide⟩ (OB.recv E.2.2.2.2.2 (by rfl) hd.x.ob) (⟨hold, hP.hx hb0, hd⟩) hl.1 rfl (Nat.le_of_ble_eq_true rfl) d_Law_commit_4 ⟨by decide, by decide⟩) hF hex (by decide) w_391 hno ⟨by decide, by decide⟩ (by decide) w_392 (fun xx H1 locs htq hF => ?_)
      have hg := hP.growX hb0 htq.1 htq.2.1
      refine lv_astore (lv' := [(4, .ref xx), (0, .ref b), (1, .int (nI k1)), (2, .int (nI k2)), (3, .int (nI k3))]) hx hb d_Law_commit_14 hl (by decide) rfl (fun ls hl => ?_)
      refine lv_iconst (v := nI 2) hx hb d_Law_commit_16 (by decide) ?_
      exact q_iret E hr hlk (⟨_, rfl, Or.inl ⟨hok, Or.inr ⟨hpn, rfl, hg.1, hT.eqC hbd.1 (fun q h => hg.2 q (kCW_lt h))⟩⟩, fun q h9 => hg.2 q (kS_lt h9)⟩) hF d_Law_commit_17
  · skip
    refine lv_aload_n hx hb d_Law_commit_0 rfl (lv_at hl 0 rfl) ?_
    refine lv_iload_n hx hb d_Law_commit_1 rfl (lv_at hl 1 rfl) ?_
    refine lv_iload_n hx hb d_Law_commit_2 rfl (lv_at hl 2 rfl) ?_
    refine lv_iload_n hx hb d_Law_commit_3 rfl (lv_at hl 3 rfl) ?_
    refine q_catch E hw0 (q_runVT (rest := []) E hw0 (t_Desk_commit l g (HXA s0) s0 hxs b x1 x2 x3 ((nb hok).imp id nb)) w_840 w_1 w_837 w_838 w_839 hd_Desk_commit rfl ⟨by decide, by decide⟩ (OB.recv E.2.2.2.2.2 (by rfl) hd.x.ob) (⟨hold, hP.hx hb0⟩) hl.1 rfl (Nat.le_of_ble_eq_true rfl) d_Law_commit_4 ⟨by decide, by decide⟩) hF hex ⟨by decide, by decide⟩ (by decide) w_391 (fun xx H1 locs htq hF => ?_)
    have hg := hP.growX hb0 htq.1 htq.2.1
    refine lv_astore (lv' := [(4, .ref xx), (0, .ref b), (1, .int x1), (2, .int x2), (3, .int x3)]) hx hb d_Law_commit_10 hl (by decide) rfl (fun ls hl => ?_)
    refine lv_iconst (v := nI 1) hx hb d_Law_commit_12 (by decide) ?_
    exact q_iret E hr hlk (⟨_, rfl, Or.inr ⟨hok, rfl, hg.1, hT.eqC hbd.1 (fun q h => hg.2 q (kCW_lt h))⟩, fun q h9 => hg.2 q (kS_lt h9)⟩) hF d_Law_commit_13
