/-! the rows of the desk lie apart -/
theorem xa_d (b : Nat) : XA (kFq b) (kX b) := ⟨fun i j hi hj hn => by unfold kX; omega, fun i hi => by unfold kFq kX; rw [if_pos rfl]; omega, fun i hi => by unfold kFq kX; rw [if_neg (by decide)]; omega, by unfold kFq; rw [if_pos rfl, if_neg (by decide)]; omega⟩
theorem kFq_0 (b : Nat) : kFq b 0 = b + 175 := by unfold kFq; rw [if_pos rfl]
theorem kFq_5 (b : Nat) : kFq b 5 = b + 174 := by unfold kFq; rw [if_neg (by decide)]
theorem kFq_r {b k : Nat} (hk : k < 6) : (k = 5 ∧ kFq b k = b + 174) ∨ (k < 5 ∧ (b + 170 ≤ kFq b k ∧ kFq b k ≤ b + 173 ∨ kFq b k = b + 175)) := by unfold kFq; split <;> omega
theorem sap_d (b : Nat) : SAP (kFq b) (kX b) (kO1 b) (kO2 b) (kO3 b) (b + 462) (b + 463) (b + 464) := by
  refine ⟨xa_d b, ?_, ?_, ?_, ?_, ?_, ?_, ?_, ?_, ?_, ?_⟩
  · intro k i hk hi; unfold kO1 kO2 kO3 kX; omega
  · intro k hk; rw [kFq_0]; unfold kO1 kO2 kO3; omega
  · intro k hk; rw [kFq_5]; unfold kO1 kO2 kO3; omega
  · intro j k hj hk; unfold kO1 kO2 kO3; omega
  · intro j k hj hk hn; unfold kO1 kO2 kO3; omega
  · intro i hi; unfold kX; omega
  · rw [kFq_0]; omega
  · rw [kFq_5]; omega
  · omega
  · intro k hk; unfold kO1 kO2 kO3; omega
theorem fap_d (b : Nat) : FAP (kFq b) (kX b) (b + 466) (b + 467) (b + 468) (b + 469) := by
  refine ⟨xa_d b, ?_, ?_, ?_, ?_, ?_⟩
  · rw [kFq_0]; omega
  · rw [kFq_5]; omega
  · omega
  · intro i hi; unfold kX; omega
  · rw [kFq_5]; have := kFq_r (b := b) (k := 1) (by decide); omega
theorem pap_d (b : Nat) : PAP (kFq b) (kX b) (b + 466) (b + 467) (b + 468) (b + 469) (b + 153) (b + 154) (b + 155) := by
  refine ⟨?_, ?_, ?_, ?_, ?_, ?_, ?_, ?_⟩
  · omega
  · intro i hi; unfold kX; omega
  · intro k hk; have := kFq_r (b := b) hk; omega
  · omega
  · omega
  · omega
  · omega
  · intro k hk; have := kFq_r (b := b) (show k < 6 by omega); rw [kFq_5]; refine ⟨?_, ?_, ?_, ?_, ?_⟩ <;> first | omega | (intro i hi; unfold kX; omega)
theorem kx_nJ {b i : Nat} (hi : i < 9) : nJ b (kX b i) := by unfold nJ nD kX kE; omega
theorem k5_nJ {b : Nat} : nJ b (kFq b 5) := by rw [kFq_5]; unfold nJ nD kE; omega
theorem ko_nJ {b k : Nat} (hk : k < 64) : nJ b (kO1 b k) ∧ nJ b (kO2 b k) ∧ nJ b (kO3 b k) := by unfold nJ nD kO1 kO2 kO3 kE; omega
theorem kc_nJ {b c : Nat} (h : c ≤ 500 ∧ ¬ (148 ≤ c ∧ c ≤ 151) ∧ ¬ (445 ≤ c ∧ c ≤ 460) ∧ c ≠ 168 ∧ ¬ (170 ≤ c ∧ c ≤ 173) ∧ c ≠ 175 ∧ c ≠ 466) : nJ b (b + c) := by unfold nJ nD kE; omega
theorem ft_nJ {b q : Nat} (h : (fun q => (∃ i, i < 9 ∧ q = kX b i) ∨ q = kFq b 5 ∨ q = (b + 462) ∨ q = (b + 463) ∨ q = (b + 464) ∨ ∃ k, 0 * 4 ≤ k ∧ k < 0 * 4 + 4 ∧ (q = kO1 b k ∨ q = kO2 b k ∨ q = kO3 b k)) q) : nJ b q := by
  rcases h with ⟨i, hi, rfl⟩ | rfl | rfl | rfl | rfl | ⟨k, h1, h2, rfl | rfl | rfl⟩
  · exact kx_nJ hi
  · exact k5_nJ
  · exact kc_nJ (by decide)
  · exact kc_nJ (by decide)
  · exact kc_nJ (by decide)
  · exact (ko_nJ (by omega)).1
  · exact (ko_nJ (by omega)).2.1
  · exact (ko_nJ (by omega)).2.2
theorem ftot_nJ {b q : Nat} (h : (fun q => (∃ i, i < 9 ∧ q = kX b i) ∨ q = kFq b 5 ∨ q = (b + 462) ∨ q = (b + 463) ∨ q = (b + 464) ∨ q = (b + 157) ∨ q = (b + 158) ∨ q = (b + 159)) q) : nJ b q := by
  rcases h with ⟨i, hi, rfl⟩ | rfl | rfl | rfl | rfl | rfl | rfl | rfl
  · exact kx_nJ hi
  · exact k5_nJ
  all_goals exact kc_nJ (by decide)
theorem srd_nJ {b q : Nat} (h : (fun q => (∃ i, i < 9 ∧ q = kX b i) ∨ q = kFq b 5 ∨ q = (b + 467) ∨ q = (b + 468) ∨ q = (b + 469) ∨ q = (b + 153) ∨ q = (b + 154) ∨ q = (b + 155)) q) : nJ b q := by
  rcases h with ⟨i, hi, rfl⟩ | rfl | rfl | rfl | rfl | rfl | rfl | rfl
  · exact kx_nJ hi
  · exact k5_nJ
  all_goals exact kc_nJ (by decide)
/-- the constants: R, the field of Q, the forms' exponent -/
def CQ (g : WG) (H : Heap) (b : Nat) : Prop := AJ g H (b + 168) 14 kR ∧ AJ g H (b + 175) 14 kQ ∧ (∃ f, AJ g H (b + 170) 14 f ∧ RV f WQ) ∧ (∃ f, AJ g H (b + 171) 14 f ∧ RV f 1) ∧ (∃ f, AJ g H (b + 172) 14 f ∧ RV f W2Q) ∧ ∃ f, AJ g H (b + 466) 14 f ∧ RV f ((E9Q : Nat) : Int)
theorem CQ.eqE {g : WG} {H H' : Heap} {b : Nat} (h : CQ g H b) (he : ∀ q, kE b q → H'[q]? = H[q]?) : CQ g H' b := ⟨h.1.eq (he _ (by unfold kE; omega)), h.2.1.eq (he _ (by unfold kE; omega)), h.2.2.1.imp (fun f hf => ⟨hf.1.eq (he _ (by unfold kE; omega)), hf.2⟩), h.2.2.2.1.imp (fun f hf => ⟨hf.1.eq (he _ (by unfold kE; omega)), hf.2⟩), h.2.2.2.2.1.imp (fun f hf => ⟨hf.1.eq (he _ (by unfold kE; omega)), hf.2⟩), h.2.2.2.2.2.imp (fun f hf => ⟨hf.1.eq (he _ (by unfold kE; omega)), hf.2⟩)⟩
theorem ke_nF {b q : Nat} (h : kE b q) : ¬ nF b q := fun k => k.2.2 h
theorem CQ.ds {g : WG} {H0 H : Heap} {b p t w : Nat} {mr mq : Int64} (h : CQ g H0 b) (d : DS g H0 H b p t w mr mq) : CQ g H b := h.eqE (fun q hq => d.1.2 q (ke_nF hq))
