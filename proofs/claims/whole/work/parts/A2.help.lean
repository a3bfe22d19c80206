theorem nj_c {b c : Nat} (h : c ≤ 500 ∧ ¬ (148 ≤ c ∧ c ≤ 151) ∧ ¬ (445 ≤ c ∧ c ≤ 460) ∧ c ≠ 168 ∧ ¬ (170 ≤ c ∧ c ≤ 173) ∧ c ≠ 175 ∧ c ≠ 466) : nJ b (b + c) := by unfold nJ nD kE; omega
theorem nj_Fr {b k : Nat} (hk : k < 6) : fdn (nJ b) k (kFr b k) := by
  match k, hk with
  | 0, _ => exact trivial
  | 1, _ => exact trivial
  | 2, _ => exact trivial
  | 3, _ => exact trivial
  | 4, _ => exact trivial
  | 5, _ =>
    show nJ b (kFr b 5)
    unfold nJ nD kFr kE
    rw [if_neg (by decide)]
    omega
theorem nj_Fq {b k : Nat} (hk : k < 6) : fdn (nJ b) k (kFq b k) := by
  match k, hk with
  | 0, _ => exact trivial
  | 1, _ => exact trivial
  | 2, _ => exact trivial
  | 3, _ => exact trivial
  | 4, _ => exact trivial
  | 5, _ =>
    show nJ b (kFq b 5)
    unfold nJ nD kFq kE
    rw [if_neg (by decide)]
    omega
theorem nj_X {b k : Nat} (hk : k < 9) : nJ b (kX b k) := by unfold nJ nD kX kE; omega
theorem nj_Y {b k : Nat} (hk : k < 7) : nJ b (kY b k) := by unfold nJ nD kY kE; omega
theorem nj_V {b k : Nat} (hk : k < 16) : nJ b (kV b k) := by unfold nJ nD kV kE; omega
theorem nj_Sc {b k : Nat} (hk : k < 32) : nJ b (kSc b k) := by unfold nJ nD kSc kE; omega
theorem nj_O {b k : Nat} (hk : k < 64) : nJ b (kO1 b k) ∧ nJ b (kO2 b k) ∧ nJ b (kO3 b k) := by unfold nJ nD kO1 kO2 kO3 kE; omega
theorem nj_PA {b k : Nat} (hk : k < 12) : nJ b (kPA1 b k) ∧ nJ b (kPA2 b k) ∧ nJ b (kPA3 b k) := by unfold nJ nD kPA1 kPA2 kPA3 kE; omega
theorem nj_PW {b k : Nat} (hk : k < 16) : nJ b (kPW1 b k) ∧ nJ b (kPW2 b k) ∧ nJ b (kPW3 b k) := by unfold nJ nD kPW1 kPW2 kPW3 kE; omega
theorem ds_start {g : WG} {n0 : Nat → Prop} {H : Heap} {b : Nat} {mr mq : Int64} (h : DK g n0 H b 0 0 0 mr mq) (hdi : ∀ j, j < 16 → AB g H (b + 444 + 1 + j) 257 (fun _ => 0)) (hfj : ∀ k, k < 4 → J14 g n0 H (b + 465 + 1 + k)) : DS g H H b 0 0 0 mr mq := by
  have fq := h.su.2.1.2.1.toA (n1 := nJ b) (fun k hk => nj_Fq hk)
  have fr := h.fr.toA (n1 := nJ b) (fun k hk => nj_Fr hk)
  have cv : CV g (nJ b) H (b + 176) (b + 169) (kFq b) mq (kX b) := ⟨h.su.2.1.1, fq, fun k hk => ⟨nj_X hk, (h.su.2.1.2.2 k hk).2⟩⟩
  exact ⟨FRM.rf, ⟨h.ob, fr, ⟨h.su.1, cv, h.su.2.2.1.toA (nj_c (by decide)) (nj_c (by decide)) (nj_c (by decide)), h.su.2.2.2.1, fun k hk => (h.su.2.2.2.2.1 k hk).toA (nj_O hk).1 (nj_O hk).2.1 (nj_O hk).2.2⟩, h.su.2.2.2.2.2.1, fun k hk => ⟨_, hdi k hk, fun _ _ => sd_0⟩, ⟨h.po.1, fr, fun k hk => ⟨nj_Y hk, (h.po.2.2.1 k hk).2⟩, h.po.2.2.2.1, fun k hk => ⟨nj_V hk, (h.po.2.2.2.2 k hk).2⟩⟩, ⟨h.rs.1, fun k hk => ⟨nj_Sc hk, (h.rs.2 k hk).2⟩⟩, h.pa, fun k hk => (h.pt k hk).toA (nj_PA hk).1 (nj_PA hk).2.1 (nj_PA hk).2.2, h.pw, fun k hk => (h.pq k hk).toA (nj_PW hk).1 (nj_PW hk).2.1 (nj_PW hk).2.2, h.hp.toA (nj_c (by decide)) (nj_c (by decide)) (nj_c (by decide)), h.mu.toA (nj_c (by decide)) (nj_c (by decide)) (nj_c (by decide)), ⟨nj_c (by decide), h.hs.2⟩, ⟨nj_c (by decide), h.fa.2⟩, ⟨h.fm, cv, ⟨trivial, (hfj 0 (by decide)).2⟩, ⟨nj_c (by decide), (hfj 1 (by decide)).2⟩, ⟨nj_c (by decide), (hfj 2 (by decide)).2⟩, ⟨nj_c (by decide), (hfj 3 (by decide)).2⟩⟩, h.ge.toA (nj_c (by decide)) (nj_c (by decide)) (nj_c (by decide))⟩, ⟨h.tp, h.tc⟩, ⟨h.wr, h.wc⟩, by decide, by decide, by decide⟩
theorem DS.onD {g : WG} {H0 H H' : Heap} {b p t w : Nat} {mr mq : Int64} (d : DS g H0 H b p t w mr mq) (he : ∀ q, nD b q → H'[q]? = H[q]?) : DS g H' H' b p t w mr mq :=
  ⟨FRM.rf, d.x.on (fun q h => he q h.1), ⟨d.tp.1.eq (he _ (nd_148 (by decide))), d.tp.2.imp (fun f hf => hf.eq (he _ (nd_148 (by decide))))⟩, ⟨d.wr.1.eq (he _ (nd_148 (by decide))), d.wr.2.imp (fun f hf => hf.eq (he _ (nd_148 (by decide))))⟩, d.2.2.2.2⟩
theorem DS.fr {g : WG} {H0 H : Heap} {b p t w : Nat} {mr mq : Int64} (d : DS g H0 H b p t w mr mq) : FRM (nD b) H0 H := d.1.mono (fun q h => h.1)
/-- what no call but feed changes, of the desk and beside it -/
def kT (b q : Nat) : Prop := q < b ∨ ((b + 501 ≤ q ∧ q ≤ b + 509) ∨ q = b + 149 ∨ kE b q)
theorem kT_nF {b q : Nat} (h : kT b q) : ¬ nF b q := by unfold nF nD kE; unfold kT kE at h; omega
theorem kt_510 {b q : Nat} (h : kT b q) : ¬ q = b + 510 := by unfold kT kE at h; omega
theorem kt_lt {b q n : Nat} (h : kT b q) (hn : b + 511 ≤ n) : q < n := by unfold kT kE at h; omega
/-- the law's world but for the model: the desk, and the row of one answer -/
def LG (g : WG) (s0 : State) (H : Heap) (b pn tn wn : Nat) (mr mq : Int64) : Prop := OLD s0 H ∧ b + 511 ≤ H.size ∧ DS g H H b pn tn wn mr mq ∧ ∃ f, AJ g H (b + 510) 1 f
section LGR
variable {g : WG} {s0 : State} {H H' : Heap} {b pn tn wn pn2 tn2 wn2 : Nat} {mr mq : Int64}
theorem LG.d (h : LG g s0 H b pn tn wn mr mq) : DS g H H b pn tn wn mr mq := h.2.2.1
theorem LG.hx (h : LG g s0 H b pn tn wn mr mq) (hb0 : s0.heap.size ≤ b) : HXA s0 H.size := Nat.le_trans hb0 (Nat.le_trans (Nat.le_add_right _ _) h.2.1)
theorem old_nd {b q : Nat} (h : q < b) : ¬ nD b q := fun k => Nat.lt_irrefl _ (Nat.lt_of_lt_of_le h k.1)
theorem nd_lt {b q n : Nat} (h : nD b q) (hn : b + 511 ≤ n) : q < n := by unfold nD at h; omega
theorem km_lt {b q n : Nat} (h : kM b q) (hn : b + 511 ≤ n) : q < n := by unfold kM at h; omega
theorem nd_n510 {b q : Nat} (h : nD b q) : ¬ q = b + 510 := by unfold nD at h; omega
theorem LG.call (h : LG g s0 H b pn tn wn mr mq) (hb0 : s0.heap.size ≤ b) (d : DS g H H' b pn2 tn2 wn2 mr mq) : LG g s0 H' b pn2 tn2 wn2 mr mq ∧ ∀ q, kT b q → H'[q]? = H[q]? :=
  ⟨⟨fun q hq => (d.fr.2 q (old_nd (Nat.lt_of_lt_of_le hq hb0))).trans (h.1 q hq), by rw [d.1.1]; exact h.2.1, ⟨FRM.rf, d.2⟩, h.2.2.2.imp (fun f hf => AJ.off d.fr nD_510 hf)⟩, fun q hq => d.1.2 q (kT_nF hq)⟩
theorem LG.store {f : Nat → Int64} (h : LG g s0 H b pn tn wn mr mq) (hb0 : s0.heap.size ≤ b) (hk : KJ g (fun q => q = b + 510) H H') (hA : AJ g H' (b + 510) 1 f) : LG g s0 H' b pn tn wn mr mq ∧ ∀ q, kT b q → H'[q]? = H[q]? :=
  ⟨⟨fun q hq => (hk.off (show ¬ q = b + 510 by omega)).trans (h.1 q hq), by rw [hk.1]; exact h.2.1, h.d.onD (fun q hq => hk.off (nd_n510 hq)), f, hA⟩, fun q hq => hk.off (kt_510 hq)⟩
theorem LG.grow (h : LG g s0 H b pn tn wn mr mq) (hb0 : s0.heap.size ≤ b) (hs : H.size ≤ H'.size) (he : ∀ q, q < H.size → H'[q]? = H[q]?) : LG g s0 H' b pn tn wn mr mq ∧ ∀ q, kT b q → H'[q]? = H[q]? :=
  ⟨⟨fun q hq => (he q (Nat.lt_of_lt_of_le hq (h.hx hb0))).trans (h.1 q hq), Nat.le_trans h.2.1 hs, h.d.onD (fun q hq => he q (nd_lt hq h.2.1)), h.2.2.2.imp (fun f hf => hf.eq (he _ (Nat.lt_of_lt_of_le (Nat.add_lt_add_left (by decide) b) h.2.1)))⟩, fun q hq => he q (kt_lt hq h.2.1)⟩
end LGR
theorem feed_k {tn : Nat} {k : Nat} (ht : tn ≤ 96) (hk : k ≤ 8) (h : nI tn + nI k ≤ nI 96) : tn + k ≤ 96 := by
  rw [nI_add] at h
  exact (nI_leI (by omega) (by decide)).mp h
theorem comb_S16 {x : Int32} {n : Nat} (hn : n ≤ 16) (h : okS x (nI n)) : ∃ k, x = nI k ∧ (0 < n → k + n ≤ 32) := by
  by_cases h0 : 0 < n
  · obtain ⟨k, e, q⟩ := okS_nat h0 (by omega) h
    exact ⟨k, e, fun _ => q⟩
  · obtain ⟨k, e⟩ := nI_sur x
    exact ⟨k, e, fun h => absurd h h0⟩