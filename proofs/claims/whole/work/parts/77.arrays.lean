section KRA
variable {p : Program} {l : Launch} {e : Env} {R : Room} {s : State} {m : MethodId} {args : Array Value} {below : List Frame} {meth : Method} {c : Code} {H : Heap} {locs : List Loc} {cells slots : Nat} {Q : State → Prop}
variable {cc : ByteArray} {nL : Nat} {pc : Nat} {ls : Array Slot} {rest : List Value} {g : WG} {own : String} {n0 : Nat → Prop} {a : Nat}
/-- anewarray of points -/
theorem q_newP {index : Nat} (E : EV p m c cc nL s args own g) {n : Int32} {N : Nat} (hn : ¬ n < 0) (hN : n.toNatClampNeg = N) (hN4 : N * 4 ≤ 536870912) (hcl : Cond.classLink own index "KateDesk$Point" ∈ BW) (hc : cells + 1 ≤ R.cells) (hs : slots + N ≤ R.slots) {h : Nat} (hh : H.size = h) (hdg : decode cc pc = .ok (.anewarray index, 3))
    (kk : ∀ H' : Heap, H'.size = h + 1 → (∀ q, q < h → H'[q]? = H[q]?) → H'[h]? = some (arrV g.2.2.2.2.1 N (fun _ => .null)) → W p l e R s m args below meth c H' locs (cells + 1) (slots + N) Q (F0 m (pc + 3) ls (.ref h :: rest))) : W p l e R s m args below meth c H locs cells slots Q (F0 m pc ls (.int n :: rest)) := by
  subst hN
  subst hh
  refine W.anew E.1 E.2.1 E.2.2.2.1 (E.2.2.2.2.1 _ hcl) (va_AO.use E.2.2.2.2.2.2.1) rfl hdg rfl hn hN4 hc hs fun cA kA comp f1 f2 f3 f4 => ?_
  obtain ⟨_, _, _, _, _, g1⟩ := (E.2.2.2.2.2.1.2 3 _ rfl).2
  have hcA : cA = g.2.2.2.2.1 := Option.some.inj (f1.symm.trans g1)
  subst hcA
  refine kk _ (by rw [Array.size_push]) (fun q hq => by rw [Array.getElem?_push, if_neg (Nat.ne_of_lt hq)]) (by rw [Array.getElem?_push_size, ← arrV_new])
/-- aastore of a point -/
theorem q_aastP (E : EV p m c cc nL s args own g) {N v : Nat} {f : Nat → Value} {fs : List Value} (hA : H[a]? = some (arrV g.2.2.2.2.1 N f)) (hv : OB g H v 2 fs) (ha : n0 a) (hF : ∀ q ∈ locs, n0 q.base) {i : Int32} (k : Nat) (hi : i = nI k) (hk : k < N) (hN : N < 2 ^ 31) (hdg : decode cc pc = .ok (.aastore, 1))
    (kk : ∀ (H' : Heap) (locs' : List Loc), H'.size = H.size → (∀ q, q ≠ a → H'[q]? = H[q]?) → H'[a]? = some (arrV g.2.2.2.2.1 N (updV f k (.ref v))) → (∀ q ∈ locs', n0 q.base) → W p l e R s m args below meth c H' locs' cells slots Q (F0 m (pc + 1) ls rest)) : W p l e R s m args below meth c H locs cells slots Q (F0 m pc ls (.ref v :: .int i :: .ref a :: rest)) := by
  subst hi
  have hcl : (nI k).toNatClampNeg = k := nI_clamp (Nat.lt_trans hk hN)
  obtain ⟨r', hr', cellV, g1, g2, g3, -⟩ := hv
  have hcls := (E.2.2.2.2.2.1.1 2 _ rfl).2
  obtain ⟨kA, comp, k1, k2, k3, -⟩ := (E.2.2.2.2.2.1.2 3 _ rfl).2
  have hcomp : comp = g.1.1 2 := Option.some.inj (k3.symm.trans hcls.1)
  subst hcomp
  obtain ⟨kC, hkC, -⟩ := hcls.2
  refine W.aast E.1 E.2.1 hA (fun q h => by cases h) (fun h => by cases h) k1 k2 rfl hkC ⟨nI_pos (Nat.lt_trans hk hN), by show _ < (arrV _ _ _).slots.size; rw [arrV_size, hcl]; exact hk⟩ g1 (fun q h => by rw [g3] at h; cases h) (by rw [g2]; exact hkC) (by rw [g2]; exact va_assign hcls) rfl rfl hdg fun H1 e1 z oq => ?_
  refine kk H1 _ z oq (by rw [e1, hcl, arrV_store]) (fun q hq => ?_)
  rcases List.mem_append.mp hq with h | h
  · exact hF q h
  · rw [List.mem_singleton.mp h]
    exact ha
theorem outer_arrV0 (cA : ClassId) (N h0 : Nat) : ∀ i, Jvm.Free.Multi.outerC cA N h0 i = arrV cA N (fun j => if j < i then .ref (h0 + 1 + j) else .null)
  | 0 => by
    simp only [Jvm.Free.Multi.outerC]
    rw [arrV_new]
    rfl
  | i + 1 => by
    rw [Jvm.Free.Multi.outerC, outer_arrV0 cA N h0 i, arrV_store]
    congr 1
    funext j
    simp only [updV]
    by_cases e : j = i
    · subst e
      simp
    · rw [if_neg e]
      by_cases h1 : j < i
      · rw [if_pos h1, if_pos (by omega)]
      · rw [if_neg h1, if_neg (by omega)]
theorem outer_arrV (cA : ClassId) (N h0 : Nat) : Jvm.Free.Multi.outerC cA N h0 N = arrV cA N (fun j => .ref (h0 + 1 + j)) := (outer_arrV0 cA N h0 N).trans (arrV_ext (fun j hj => if_pos hj))
theorem q_ma {ty : FieldType} {cO cI : ClassId} {v0 : Value} {index : Nat} (E : EV p m c cc nL s args own g) {n k : Int32} {N M : Nat} (hn : ¬ n < 0) (hk : ¬ k < 0) (hN : n.toNatClampNeg = N) (hM : k.toNatClampNeg = M) (hb : N ≤ 1000) (hb2 : M ≤ 1000) (hv : defaultValue ty = v0) (hdf : fits ty v0 = true) (hdd : v0.isDefault = true)
    (hcl : Cond.classLink own index ("[" ++ (FieldType.array ty).toString) ∈ BW) (hao : (Cond.arrayOver (.array ty)).before args s = true) (hac : Cond.arrayClass ty ∈ BW) (hO : s.vm.findClass ("[" ++ (FieldType.array ty).toString) = some cO) (hI : s.vm.findClass (FieldType.array ty).toString = some cI)
    (hc : cells + (1 + N) ≤ R.cells) (hs : slots + (N + N * M) ≤ R.slots) {h : Nat} (hh : H.size = h) (hdg : decode cc pc = .ok (.multianewarray index 2, 4))
    (kk : ∀ H' : Heap, H'.size = h + 1 + N → (∀ q, q < h → H'[q]? = H[q]?) → H'[h]? = some (arrV cO N (fun j => .ref (h + 1 + j))) → (∀ j, j < N → H'[h + 1 + j]? = some (arrV cI M (fun _ => v0))) → W p l e R s m args below meth c H' locs (cells + 1 + N) (slots + N + N * M) Q (F0 m (pc + 4) ls (.ref h :: rest))) : W p l e R s m args below meth c H locs cells slots Q (F0 m pc ls (.int k :: .int n :: rest)) := by
  subst hN
  subst hM
  subst hh
  subst hv
  intro T hT X
  have cb : componentBytes ty ≤ 8 := by cases ty <;> simp [componentBytes]
  have kb : k.toNatClampNeg * componentBytes ty ≤ 536870912 := Nat.le_trans (Nat.mul_le_mul hb2 cb) (by decide)
  obtain ⟨vm₁, cA, comp, hW, hfA, hfC, -, -, X1, st⟩ := X.multianewarray2F E.1 (own := own) (index := index) (ty := ty) E.2.2.2.1 (E.2.2.2.2.1 _ hcl) hao (E.2.2.2.2.1 _ hac) (g := F0 m pc ls (.int k :: .int n :: rest)) rfl (by rw [E.2.1]; exact hdg) rfl hn hk (by omega) kb (by omega) hdf hdd hc hs
  have e1 : cA = cO := Option.some.inj (hfA.symm.trans hO)
  have e2 : comp = cI := Option.some.inj (hfC.symm.trans hI)
  subst e1
  subst e2
  obtain ⟨f1, f2, f3, f4⟩ := Jvm.Free.Multi.fill_facts (T.setVm vm₁) cA comp n.toNatClampNeg k.toNatClampNeg (defaultValue ty) n.toNatClampNeg
  have fo := fun (a : Addr) (ha : a < T.heap.size) => Jvm.Free.Multi.fill_old (T.setVm vm₁) cA comp n.toNatClampNeg k.toNatClampNeg (defaultValue ty) (a := a) ha n.toNatClampNeg
  have fi := fun (j : Nat) (hj : j < n.toNatClampNeg) => Jvm.Free.Multi.fill_inner (T.setVm vm₁) cA comp n.toNatClampNeg k.toNatClampNeg (defaultValue ty) n.toNatClampNeg j hj
  have eh : (T.setVm vm₁).heap = H := hT
  rw [eh, outer_arrV] at f2
  rw [eh] at f1
  rw [hT] at st
  have fo2 : ∀ q, q < H.size → (Jvm.Free.Multi.fill (T.setVm vm₁) cA comp n.toNatClampNeg k.toNatClampNeg (defaultValue ty) n.toNatClampNeg).heap[q]? = H[q]? := fun q hq => by
    have h9 := fo q (by rw [hT]; exact hq)
    rw [eh] at h9
    exact h9
  obtain ⟨t, a1, b1⟩ := kk _ f1 fo2 f2 (fun j hj => by
    have := fi j hj
    rw [eh] at this
    rw [this, Jvm.Free.Multi.innerC, arrV_new]) _ rfl X1
  exact ⟨t, st t a1, b1⟩
theorem q_maJ {index : Nat} (E : EV p m c cc nL s args own g) {n k : Int32} {N M : Nat} (hn : ¬ n < 0) (hk : ¬ k < 0) (hN : n.toNatClampNeg = N) (hM : k.toNatClampNeg = M) (hb : N ≤ 1000) (hb2 : M ≤ 1000) (hcl : Cond.classLink own index "[[J" ∈ BW) (hc : cells + (1 + N) ≤ R.cells) (hs : slots + (N + N * M) ≤ R.slots) {h : Nat} (hh : H.size = h) (hdg : decode cc pc = .ok (.multianewarray index 2, 4))
    (kk : ∀ H' : Heap, H'.size = h + 1 + N → (∀ q, q < h → H'[q]? = H[q]?) → AR g.2.2.2.2.2.1 H' h N (fun j => h + 1 + j) → (∀ j, j < N → AJ g H' (h + 1 + j) M (fun _ => 0)) → W p l e R s m args below meth c H' locs (cells + 1 + N) (slots + N + N * M) Q (F0 m (pc + 4) ls (.ref h :: rest))) : W p l e R s m args below meth c H locs cells slots Q (F0 m pc ls (.int k :: .int n :: rest)) :=
  q_ma (ty := .long) E hn hk hN hM hb hb2 rfl rfl rfl hcl E.2.2.2.2.2.2.2.1 w_64 (E.2.2.2.2.2.1.2 4 _ rfl).2 (E.2.2.2.2.2.1.2 0 _ rfl).2 hc hs hh hdg kk
theorem q_maB {index : Nat} (E : EV p m c cc nL s args own g) {n k : Int32} {N M : Nat} (hn : ¬ n < 0) (hk : ¬ k < 0) (hN : n.toNatClampNeg = N) (hM : k.toNatClampNeg = M) (hb : N ≤ 1000) (hb2 : M ≤ 1000) (hcl : Cond.classLink own index "[[B" ∈ BW) (hc : cells + (1 + N) ≤ R.cells) (hs : slots + (N + N * M) ≤ R.slots) {h : Nat} (hh : H.size = h) (hdg : decode cc pc = .ok (.multianewarray index 2, 4))
    (kk : ∀ H' : Heap, H'.size = h + 1 + N → (∀ q, q < h → H'[q]? = H[q]?) → AR g.2.2.2.2.2.2 H' h N (fun j => h + 1 + j) → (∀ j, j < N → AB g H' (h + 1 + j) M (fun _ => 0)) → W p l e R s m args below meth c H' locs (cells + 1 + N) (slots + N + N * M) Q (F0 m (pc + 4) ls (.ref h :: rest))) : W p l e R s m args below meth c H locs cells slots Q (F0 m pc ls (.int k :: .int n :: rest)) :=
  q_ma (ty := .byte) E hn hk hN hM hb hb2 rfl rfl rfl hcl E.2.2.2.2.2.2.2.2 w_80 (E.2.2.2.2.2.1.2 5 _ rfl).2 (E.2.2.2.2.2.1.2 1 _ rfl).2 hc hs hh hdg kk
theorem q_aret {Qp : Option Value → Heap → Heap → Prop} {rt : FieldType} {v : Nat} (E : EV p m c cc nL s args own g) (hr : meth.sig.returnType = some rt) (hrt : (∃ n, rt = .object n) ∨ ∃ t, rt = .array t) (hlk : meth.locks = false) (hq : Qp (some (.ref v)) s.heap H) (hF : ∀ q ∈ locs, n0 q.base) (hdg : decode cc pc = .ok (.areturn, 1)) : W p l e R s m args below meth c H locs cells slots (MQ below (QcP Qp) args s cells slots (fun q => n0 q)) (F0 m pc ls [.ref v]) :=
  W.aret E.1 E.2.1 hr hrt (Or.inr ⟨v, rfl⟩) (fun t ht _ => ⟨some (.ref v), rfl, by rw [ht]; exact hq⟩) hF hdg hlk
end KRA
/-- a point as its constructor leaves it -/
def PZ (g : WG) (H : Heap) (o : Nat) : Prop := OB g H o 2 [.ref (o + 1), .ref (o + 2), .ref (o + 3)] ∧ AJ g H (o + 1) 14 (fun _ => 0) ∧ AJ g H (o + 2) 14 (vp_updL (fun _ => 0) 0 1) ∧ AJ g H (o + 3) 14 (fun _ => 0)
theorem PZ.on {g : WG} {H H' : Heap} {o : Nat} (h : PZ g H o) (he : ∀ q, o ≤ q → q < o + 4 → H'[q]? = H[q]?) : PZ g H' o := ⟨h.1.eq (he _ (by omega) (by omega)), h.2.1.eq (he _ (by omega) (by omega)), h.2.2.1.eq (he _ (by omega) (by omega)), h.2.2.2.eq (he _ (by omega) (by omega))⟩
