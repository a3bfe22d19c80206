section KRO
variable {p : Program} {l : Launch} {e : Env} {R : Room} {s : State} {m : MethodId} {args : Array Value} {below : List Frame} {meth : Method} {c : Code} {H : Heap} {locs : List Loc} {cells slots : Nat} {Q : State → Prop}
variable {cc : ByteArray} {nL : Nat} {pc : Nat} {ls : Array Slot} {rest : List Value} {g : WG} {own : String} {n0 : Nat → Prop} {a : Nat}
/-- new: the object stands at the heap's end, its fields their defaults -/
theorem q_new {C : String} {T : u_T} {N ci index : Nat} (E : EV p m c cc nL s args own g) (hin : ∀ w ∈ u_ws C T N, w ∈ BW) (ty0 : Nat → FieldType) (hty : ∀ k, k < N → parseFieldDescriptor (T k).2.2.1 = some (ty0 k)) (hc : CL[ci]? = some (C, T, N)) (hcl : Cond.classLink own index C ∈ BW) (hinst : Cond.instantiable C N ∈ BW) (hini : Cond.initialized C ∈ BW) {fs : List Value} (hfs : ∀ j, j < N → defaultValue (ty0 j) = vp_V fs j) (hcells : cells + 1 ≤ R.cells) (hslots : slots + N ≤ R.slots) {h : Nat} (hh : H.size = h) (hdg : decode cc pc = .ok (.new index, 3))
    (kk : ∀ H' : Heap, H'.size = h + 1 → (∀ q, q < h → H'[q]? = H[q]?) → OB g H' h ci fs → W p l e R s m args below meth c H' locs (cells + 1) (slots + N) Q (F0 m (pc + 3) ls (.ref h :: rest))) : W p l e R s m args below meth c H locs cells slots Q (F0 m pc ls rest) := by
  subst hh
  have hKn := E.2.2.2.2.2.1.1 ci _ hc
  refine W.newcK E.1 E.2.1 E.2.2.2.1 (E.2.2.2.2.1 _ hcl) (E.2.2.2.2.1 _ hinst) (E.2.2.2.2.1 _ hini) rfl hdg hcells hslots hKn.2.1 rfl fun H1 kC hkC e1 z1 o1 => ?_
  exact kk H1 z1 o1 ⟨_, hc, (u_born ty0 E.2.2.2.2.1 hin hKn hkC e1 hty).to hfs⟩
end KRO
