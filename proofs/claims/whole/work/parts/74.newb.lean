section KRB
variable {p : Program} {l : Launch} {e : Env} {R : Room} {s : State} {m : MethodId} {args : Array Value} {below : List Frame} {meth : Method} {c : Code} {H : Heap} {locs : List Loc} {cells slots : Nat} {Q : State → Prop}
variable {cc : ByteArray} {nL : Nat} {pc : Nat} {ls : Array Slot} {rest : List Value} {g : WG} {own : String} {n0 : Nat → Prop} {a : Nat}
theorem q_newB (E : EV p m c cc nL s args own g) {n : Int32} (N : Nat) (hn : n = nI N) (hN : N ≤ 10000) (harr : Cond.arrayClass .byte ∈ BW) (hc : cells + 1 ≤ R.cells) (hs : slots + N ≤ R.slots) {h : Nat} (hh : H.size = h) (hdg : decode cc pc = .ok (.newarray .byte, 2))
    (kk : ∀ H' : Heap, H'.size = h + 1 → (∀ q, q < h → H'[q]? = H[q]?) → AB g H' h N (fun _ => 0) → W p l e R s m args below meth c H' locs (cells + 1) (slots + N) Q (F0 m (pc + 2) ls (.ref h :: rest))) : W p l e R s m args below meth c H locs cells slots Q (F0 m pc ls (.int n :: rest)) := by
  subst hn
  refine va_newaK E.1 E.2.1 (atype := .byte) (E.2.2.2.2.1 _ harr) rfl hdg rfl (nI_pos (by omega)) (nI_clamp (by omega)) (by show N * 1 ≤ _; omega) hc hs hh fun H1 cA e1 z1 o1 hAr hNm => ?_
  have hcA : cA = g.2.2.1 := Option.some.inj (hNm.symm.trans (E.2.2.2.2.2.1.2 1 _ rfl).2)
  subst hcA
  exact kk H1 z1 o1 e1
end KRB
