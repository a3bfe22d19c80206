
theorem i_inc (i : Nat) : nI i + Int32.ofInt 1 = nI (i + 1) := nI_1 i
theorem i_dec (x : Int32) : x + Int32.ofInt (-1) = x - 1 := by rw [Int32.sub_eq_add_neg]; rfl
section KR2
variable {p : Program} {l : Launch} {e : Env} {R : Room} {s : State} {m : MethodId} {args : Array Value} {below : List Frame} {meth : Method} {c : Code} {H : Heap} {locs : List Loc} {cells slots : Nat} {Q : State → Prop}
variable {cc : ByteArray} {nL : Nat} {pc : Nat} {ls : Array Slot} {rest : List Value} {g : WG} {own : String} {n0 : Nat → Prop} {a : Nat}
theorem q_alen (E : EV p m c cc nL s args own g) {N : Nat} {f : Nat → Int64} (hA : AJ g H a N f) (hdg : decode cc pc = .ok (.arraylength, 1))
    (kk : W p l e R s m args below meth c H locs cells slots Q (F0 m (pc + 1) ls (.int (nI N) :: rest))) : W p l e R s m args below meth c H locs cells slots Q (F0 m pc ls (.ref a :: rest)) :=
  W.alen E.1 E.2.1 hA ((E.2.2.2.2.2.1.2 0 _ rfl).1 N (fun j => .long (f j))) (by rw [arrV_size]; rfl) rfl rfl hdg kk
theorem q_alenB (E : EV p m c cc nL s args own g) {N : Nat} {f : Nat → Int32} (hA : AB g H a N f) (hdg : decode cc pc = .ok (.arraylength, 1))
    (kk : W p l e R s m args below meth c H locs cells slots Q (F0 m (pc + 1) ls (.int (nI N) :: rest))) : W p l e R s m args below meth c H locs cells slots Q (F0 m pc ls (.ref a :: rest)) :=
  W.alen E.1 E.2.1 hA ((E.2.2.2.2.2.1.2 1 _ rfl).1 N (fun j => .int (f j))) (by rw [arrV_size]; rfl) rfl rfl hdg kk
theorem q_aald (E : EV p m c cc nL s args own g) {t : Nat} {cA : ClassId} {ty : FieldType} (ht : (ATS g)[t]? = some (cA, ty)) (hty : ty.isReference = true) {N : Nat} {f : Nat → Nat} (hA : AR cA H a N f) {i : Int32} (k : Nat) (hi : i = nI k) (hk : k < N) (hN : N < 2 ^ 31) (hdg : decode cc pc = .ok (.aaload, 1))
    (kk : W p l e R s m args below meth c H locs cells slots Q (F0 m (pc + 1) ls (.ref (f k) :: rest))) : W p l e R s m args below meth c H locs cells slots Q (F0 m pc ls (.int i :: .ref a :: rest)) := by
  subst hi
  have hc : (nI k).toNatClampNeg = k := nI_clamp (Nat.lt_trans hk hN)
  exact W.aald (v := .ref (f k)) (ty := ty) E.1 E.2.1 hA ((E.2.2.2.2.2.1.2 t _ ht).1 N (fun j => .ref (f j))) hty (fun q => by cases q) (by show ¬ (nI k < 0 ∨ (arrV _ _ _).slots.size ≤ _); rw [arrV_size]; exact nI_in hk hN) (by show (arrV _ _ _).slots[_]? = _; rw [hc, arrV_read _ _ hk]) rfl rfl hdg kk
theorem q_bald (E : EV p m c cc nL s args own g) {N : Nat} {f : Nat → Int32} (hA : AB g H a N f) {i : Int32} (k : Nat) (hi : i = nI k) (hk : k < N) (hN : N < 2 ^ 31) (hdg : decode cc pc = .ok (.baload, 1))
    (kk : W p l e R s m args below meth c H locs cells slots Q (F0 m (pc + 1) ls (.int (f k) :: rest))) : W p l e R s m args below meth c H locs cells slots Q (F0 m pc ls (.int i :: .ref a :: rest)) := by
  subst hi
  have hc : (nI k).toNatClampNeg = k := nI_clamp (Nat.lt_trans hk hN)
  exact W.bald (v := .int (f k)) E.1 E.2.1 hA ((E.2.2.2.2.2.1.2 1 _ rfl).1 N (fun j => .int (f j))) (fun q => by cases q) (by show ¬ (nI k < 0 ∨ (arrV _ _ _).slots.size ≤ _); rw [arrV_size]; exact nI_in hk hN) (by show (arrV _ _ _).slots[_]? = _; rw [hc, arrV_read _ _ hk]) rfl rfl hdg kk
theorem q_bast (E : EV p m c cc nL s args own g) {N : Nat} {f : Nat → Int32} (hA : AB g H a N f) (ha : n0 a) (hF : ∀ q ∈ locs, n0 q.base) {i x : Int32} (k : Nat) (hi : i = nI k) (hk : k < N) (hN : N < 2 ^ 31) (hdg : decode cc pc = .ok (.bastore, 1))
    (kk : ∀ (H' : Heap) (locs' : List Loc), KJ g (fun q => q = a) H H' → AB g H' a N (upd f k (vp_nar .byte x)) → (∀ q ∈ locs', n0 q.base) → W p l e R s m args below meth c H' locs' cells slots Q (F0 m (pc + 1) ls rest)) : W p l e R s m args below meth c H locs cells slots Q (F0 m pc ls (.int x :: .int i :: .ref a :: rest)) := by
  subst hi
  have hc : (nI k).toNatClampNeg = k := nI_clamp (Nat.lt_trans hk hN)
  refine W.bast E.1 E.2.1 hA ((E.2.2.2.2.2.1.2 1 _ rfl).1 N (fun j => .int (f j))) (fun q => by cases q) (by show ¬ (nI k < 0 ∨ (arrV _ _ _).slots.size ≤ _); rw [arrV_size]; exact nI_in hk hN) rfl rfl hdg fun H1 e1 z oq => ?_
  have hA1 : AB g H1 a N (upd f k (vp_nar .byte x)) := by
    unfold AB
    rw [e1, hc, arrV_store]
    congr 2
    funext q
    by_cases hq : q = k
    · subst hq
      simp [updV, upd, vp_nar]
      try rfl
    · simp [updV, upd, hq]
  refine kk H1 _ ⟨z, fun q => if h : q = a then by subst h; exact Or.inr ⟨rfl, Or.inr ⟨E.2.2.2.2.2.jb, N, f, _, hA, hA1⟩⟩ else Or.inl (oq q h)⟩ hA1 (fun q hq => ?_)
  rcases List.mem_append.mp hq with h | h
  · exact hF q h
  · rw [List.mem_singleton.mp h]
    exact ha
/-- System.arraycopy(src, 0, dst, 0, 14) of two rows of 14 -/
theorem q_copy (E : EV p m c cc nL s args own g) {b : Nat} {f h : Nat → Int64} (hA : AJ g H b 14 f) (hB : AJ g H a 14 h) (ha : n0 a) (hF : ∀ q ∈ locs, n0 q.base) {index : Nat} (hlink : Cond.methodLink own index arraycopyName ∈ BW) (hls : ls.size = nL)
    (hframes : 1 ≤ R.frames) (hlocals : (rest.map fun v => v.category).sum + (nativeFrameWords "java/lang/System" "arraycopy" 5 + 11) ≤ R.locals) (hdg : decode cc pc = .ok (.invokestatic index, 3))
    (kk : ∀ (H' : Heap) (locs' : List Loc), KJ g (fun q => q = a) H H' → AJ g H' a 14 f → (∀ q ∈ locs', n0 q.base) → W p l e R s m args below meth c H' locs' cells slots Q (F0 m (pc + 3) ls rest)) : W p l e R s m args below meth c H locs cells slots Q (F0 m pc ls (.int (nI 14) :: .int (nI 0) :: .ref a :: .int (nI 0) :: .ref b :: rest)) := by
  obtain ⟨hexec, hb, hml, hown, hts, hK⟩ := E
  intro T hT X
  have c14 : (nI 14).toNatClampNeg = 14 := nI_clamp (by decide)
  have c0 : (nI 0).toNatClampNeg = 0 := nI_clamp (by decide)
  have hc0 : H[b]? = some (vp_cell g.2.1 (14, .inr (.inl f))) := hA
  have hc1 : H[a]? = some (vp_cell g.2.1 (14, .inr (.inl h))) := hB
  obtain ⟨-, k0, hk0, cm0, hkk0⟩ := (hK.1.2 0 _ rfl).1 14 (fun j => .long (f j))
  obtain ⟨-, k1, hk1, cm1, hkk1⟩ := (hK.1.2 0 _ rfl).1 14 (fun j => .long (h j))
  obtain ⟨vm', X', step⟩ := X.arraycopy hexec hown (hts _ hlink) (hts _ w_149) (hts _ w_148) (hts _ w_10) (src := b) (dst := a) (cs := vp_cell g.2.1 (14, .inr (.inl f))) (cd := vp_cell g.2.1 (14, .inr (.inl h))) (srcPos := nI 0) (destPos := nI 0) (n := nI 14) (by rw [hT]; exact hc0) (by rw [hT]; exact hc1)
    (fun _ h => by cases h) (fun _ h => by cases h) (fun h => by cases h) (fun h => by cases h) hk0 hk1 hkk0 hkk1 (by simp [refKind]) (by decide) (by decide) (by decide)
    (by show ¬ _ > ((arrV g.2.1 14 (fun j => .long (f j))).slots.size : Int); rw [arrV_size]; decide)
    (by show ¬ _ > ((arrV g.2.1 14 (fun j => .long (h j))).slots.size : Int); rw [arrV_size]; decide)
    (fun vm₁ _ i hi => by
      have e : (vp_cell g.2.1 (14, .inr (.inl f))).slots.getD ((nI 0).toNatClampNeg + i) .null = .long (f ((nI 0).toNatClampNeg + i)) := by
        show (arrV g.2.1 14 (fun j => .long (f j))).slots.getD _ _ = _
        rw [Array.getD_eq_getD_getElem?, arrV_read _ _ (by rw [c14] at hi; rw [c0]; omega)]
        rfl
      refine ⟨?_, ?_⟩
      · rw [e]
        rfl
      · rw [e]
        exact trivial)
    (g := F0 m pc ls (.int (nI 14) :: .int (nI 0) :: .ref a :: .int (nI 0) :: .ref b :: rest)) rfl (by rw [hml, ← hls]) (rest := rest) rfl (by rw [hb]; exact hdg) hframes (by show 2 * 0 + _ + _ ≤ _; omega)
  have e1 : copied (vp_cell g.2.1 (14, .inr (.inl f))) (vp_cell g.2.1 (14, .inr (.inl h))) (nI 0) (nI 0) (nI 14) = vp_cell g.2.1 (14, .inr (.inl f)) := by
    have e2 : copied (vp_cell g.2.1 (14, .inr (.inl f))) (vp_cell g.2.1 (14, .inr (.inl h))) (nI 0) (nI 0) (nI 14) = vp_cell g.2.1 (14, .inr (.inl (va_cpy f h (nI 0).toNatClampNeg (nI 0).toNatClampNeg (nI 14).toNatClampNeg))) := va_copied (fun z => .long z) g.2.1 g.2.1 f h (by rw [c0, c14]; exact Nat.le_refl _)
    refine e2.trans ?_
    rw [vp_cell_l, vp_cell_l]
    refine arrV_ext (fun j hj => ?_)
    rw [c0, c14]
    simp [va_cpy, hj]
  rw [e1] at X' step
  have hl : a < H.size := (Array.getElem?_eq_some_iff.mp hc1).1
  have hheap : ((T.setVm vm').setCell a (vp_cell g.2.1 (14, .inr (.inl f)))).heap = H.setIfInBounds a (vp_cell g.2.1 (14, .inr (.inl f))) := by rw [← hT]; rfl
  have oq : ∀ q : Nat, q ≠ a → (H.setIfInBounds a (vp_cell g.2.1 (14, .inr (.inl f))))[q]? = H[q]? := fun q hq => by simp [Array.getElem?_setIfInBounds, Ne.symm hq]
  have hA1 : AJ g (H.setIfInBounds a (vp_cell g.2.1 (14, .inr (.inl f)))) a 14 f := by
    show (H.setIfInBounds a _)[a]? = some _
    simp [Array.getElem?_setIfInBounds, hl]
    rfl
  obtain ⟨t, a1, b1⟩ := kk _ _ ⟨by simp, fun q => by
      by_cases hq : q = a
      · subst hq
        exact Or.inr ⟨rfl, Or.inl ⟨14, h, f, hB, hA1⟩⟩
      · exact Or.inl (oq q hq)⟩ hA1 (fun q hq => by
      rcases List.mem_append.mp hq with h | h
      · exact hF q h
      · obtain ⟨z, -, hz⟩ := List.mem_map.mp h
        rw [← hz]
        exact ha) _ hheap X'
  exact ⟨t, step t a1, b1⟩
end KR2
