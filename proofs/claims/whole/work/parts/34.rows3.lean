
/-- nothing outside S changed, nothing was made -/
def FRM (S : Nat → Prop) (H H' : Heap) : Prop := H'.size = H.size ∧ ∀ q, ¬ S q → H'[q]? = H[q]?
theorem FRM.rf {S : Nat → Prop} {H : Heap} : FRM S H H := ⟨rfl, fun _ _ => rfl⟩
theorem FRM.tr {S : Nat → Prop} {H H1 H2 : Heap} (h : FRM S H H1) (h' : FRM S H1 H2) : FRM S H H2 := ⟨h'.1.trans h.1, fun q hq => (h'.2 q hq).trans (h.2 q hq)⟩
theorem FRM.mono {S S' : Nat → Prop} {H H' : Heap} (h : FRM S H H') (hs : ∀ q, S q → S' q) : FRM S' H H' := ⟨h.1, fun q hq => h.2 q (fun a => hq (hs q a))⟩
theorem KJ.frm {g : WG} {S : Nat → Prop} {H H' : Heap} (h : KJ g S H H') : FRM S H H' := ⟨h.1, fun _ hq => h.off hq⟩
theorem OB.off {g : WG} {S : Nat → Prop} {H H' : Heap} (h : FRM S H H') {a ci : Nat} {fs : List Value} (ha : ¬ S a) (ho : OB g H a ci fs) : OB g H' a ci fs := by
  obtain ⟨r, hc, cell, h1, h2, h3⟩ := ho
  exact ⟨r, hc, cell, by rw [h.2 a ha]; exact h1, h2, h3⟩
theorem AB.off {g : WG} {S : Nat → Prop} {H H' : Heap} (h : FRM S H H') {a N : Nat} {f : Nat → Int32} (ha : ¬ S a) (hA : AB g H a N f) : AB g H' a N f := by
  unfold AB at hA ⊢
  rw [h.2 a ha]
  exact hA
theorem AJ.off {g : WG} {S : Nat → Prop} {H H' : Heap} (h : FRM S H H') {a N : Nat} {f : Nat → Int64} (ha : ¬ S a) (hA : AJ g H a N f) : AJ g H' a N f := by
  unfold AJ at hA ⊢
  rw [h.2 a ha]
  exact hA
theorem ob_neB {g : WG} {H : Heap} {U : State} (hK : KW g U) {a b ci N : Nat} {fs : List Value} {f : Nat → Int32} (ho : OB g H a ci fs) (hA : AB g H b N f) : a ≠ b := by
  intro e
  subst e
  obtain ⟨r, hc, cell, h1, h2, h3⟩ := ho
  have e : cell = arrV g.2.2.1 N (fun j => .int (f j)) := Option.some.inj (h1.symm.trans hA)
  exact kw_ne hK (t := 1) hc rfl (by rw [← h2, e]; rfl)
section KR3
variable {p : Program} {l : Launch} {e : Env} {R : Room} {s : State} {m : MethodId} {args : Array Value} {below : List Frame} {meth : Method} {c : Code} {H : Heap} {locs : List Loc} {cells slots : Nat} {Q : State → Prop}
variable {cc : ByteArray} {nL : Nat} {pc : Nat} {ls : Array Slot} {rest : List Value} {g : WG} {own : String} {n0 : Nat → Prop} {a : Nat}
theorem q_put {ref C : String} {T : u_T} {N ci index : Nat} (E : EV p m c cc nL s args own g) {fs : List Value} (ho : OB g H a ci fs) (hin : ∀ w ∈ u_ws C T N, w ∈ BW) (ty0 : Nat → FieldType) (hty : ∀ k, k < N → parseFieldDescriptor (T k).2.2.1 = some (ty0 k)) (hnm : ∀ a, a < N → ∀ b, b < N → a ≠ b → (T a).2.1 ≠ (T b).2.1) (hc : CL[ci]? = some (C, T, N)) (k : Nat) (hk : k < N) (hl : Cond.fieldLink own index ref (T k).2.1 (T k).2.2.1 ∈ BW) (hsame : (T k).1 = ref) (hfin : (T k).2.2.2 = false) {ty : FieldType} {v : Value} (hd : parseFieldDescriptor (T k).2.2.1 = some ty) (hn : narrow ty v = v) (hfit : fits ty v = true) (hlen : k < fs.length) (ha : n0 a) (hF : ∀ q ∈ locs, n0 q.base)
    (hdg : decode cc pc = .ok (.putfield index, 3)) (kk : ∀ (H' : Heap) (locs' : List Loc), FRM (fun q => q = a) H H' → OB g H' a ci (fs.set k v) → (∀ q ∈ locs', n0 q.base) → W p l e R s m args below meth c H' locs' cells slots Q (F0 m (pc + 3) ls rest)) : W p l e R s m args below meth c H locs cells slots Q (F0 m pc ls (v :: .ref a :: rest)) := by
  obtain ⟨hexec, hb, -, hown, hts, hKW⟩ := E
  have hap := va_apart (own := own) hts hin ty0 hty hnm hKW.1 hc
  obtain ⟨r, h1, cell, q1, q2, q3, q4⟩ := ho
  have hr : r = (C, T, N) := Option.some.inj (h1.symm.trans hc)
  subst hr
  obtain ⟨hS, hfc, kC, hkC, hkind⟩ := hKW.1.1 ci _ hc
  obtain ⟨cf, kf, fi, f, hi, hsl⟩ := hS k hk
  have hlay := hts _ (hin _ (u_in_lay hk))
  unfold u_lay at hlay
  rw [if_neg (by rw [hfin]; decide)] at hlay
  have hst := (u_facts hfc hkC (u_lays hts hin hk) hi).1
  have h6 := u_store hfc hkC hkind hlay hi hd hn hfit
  refine W.putK hexec hb (f := f) ⟨hown, hts _ hl, ⟨_, _, _, by rw [← hsame]; exact hi⟩, hst⟩ (by rw [q2]; exact h6) q1 q3 (by rw [hsl]; exact k2_hasslot (q4 k hk)) rfl rfl hdg fun H' e1 e2 e3 => ?_
  rw [hsl] at e1
  refine kk H' _ ⟨e2, e3⟩ ⟨_, hc, t_OB.to (V := updV (vp_V fs) k v) ⟨_, e1, q2, q3, t_set q4 hap hk v⟩ (fun j _ => vp_updV_set hlen v j)⟩ (fun q hq => ?_)
  rcases List.mem_append.mp hq with h | h
  · exact hF q h
  · rw [List.mem_singleton.mp h]
    exact ha
theorem q_putF {ref C : String} {T : u_T} {N ci index : Nat} (E : EV p m c cc nL s args own g) {fs : List Value} (ho : OB g H a ci fs) (hin : ∀ w ∈ u_ws C T N, w ∈ BW) (ty0 : Nat → FieldType) (hty : ∀ k, k < N → parseFieldDescriptor (T k).2.2.1 = some (ty0 k)) (hnm : ∀ a, a < N → ∀ b, b < N → a ≠ b → (T a).2.1 ≠ (T b).2.1) (hc : CL[ci]? = some (C, T, N)) (k : Nat) (hk : k < N) (hl : Cond.fieldLink own index ref (T k).2.1 (T k).2.2.1 ∈ BW) (hsame : (T k).1 = ref) (hfin : (T k).2.2.2 = true) (hin2 : meth.name = "<init>") (hdecl : (T k).1 = own) {ty : FieldType} {v : Value} (hd : parseFieldDescriptor (T k).2.2.1 = some ty) (hn : narrow ty v = v) (hfit : fits ty v = true) (hlen : k < fs.length) (ha : n0 a) (hF : ∀ q ∈ locs, n0 q.base)
    (hdg : decode cc pc = .ok (.putfield index, 3)) (kk : ∀ (H' : Heap) (locs' : List Loc), FRM (fun q => q = a) H H' → OB g H' a ci (fs.set k v) → (∀ q ∈ locs', n0 q.base) → W p l e R s m args below meth c H' locs' cells slots Q (F0 m (pc + 3) ls rest)) : W p l e R s m args below meth c H locs cells slots Q (F0 m pc ls (v :: .ref a :: rest)) := by
  obtain ⟨hexec, hb, -, hown, hts, hKW⟩ := E
  have hap := va_apart (own := own) hts hin ty0 hty hnm hKW.1 hc
  obtain ⟨r, h1, cell, q1, q2, q3, q4⟩ := ho
  have hr : r = (C, T, N) := Option.some.inj (h1.symm.trans hc)
  subst hr
  obtain ⟨hS, hfc, kC, hkC, hkind⟩ := hKW.1.1 ci _ hc
  obtain ⟨cf, kf, fi, f, hi, hsl⟩ := hS k hk
  have hlay := hts _ (hin _ (u_in_lay hk))
  unfold u_lay at hlay
  rw [if_pos hfin] at hlay
  have hst := (u_facts hfc hkC (u_lays hts hin hk) hi).1
  have hcf : m.cls = cf := by
    obtain ⟨_, _, c', _, _, _, -, -, hf', -, -, -, hown2, -⟩ := Cond.laysFinal_spec hlay
    have e1 : c' = cf := by have := hi.symm.trans hf'; simp at this; exact this.1.symm
    rw [hdecl] at hown2
    rw [← e1]; exact Option.some.inj (hown.symm.trans hown2)
  have h6 := u_fits hfc hkC hkind (Or.inr hlay) hi hd hn hfit
  refine W.putFinK hexec hb hown (hts _ hl) (show s.fieldFound? ref _ _ = some _ by rw [← hsame]; exact hi) hst hcf hin2 (by rw [q2]; exact h6) q1 q3 (by rw [hsl]; exact k2_hasslot (q4 k hk)) rfl rfl hdg fun H' e1 e2 e3 => ?_
  rw [hsl] at e1
  refine kk H' _ ⟨e2, e3⟩ ⟨_, hc, t_OB.to (V := updV (vp_V fs) k v) ⟨_, e1, q2, q3, t_set q4 hap hk v⟩ (fun j _ => vp_updV_set hlen v j)⟩ (fun q hq => ?_)
  rcases List.mem_append.mp hq with h | h
  · exact hF q h
  · rw [List.mem_singleton.mp h]
    exact ha
end KR3
theorem Ctr.area {l : Launch} {y : MethodName} {cw : Cond} {fr lo mc ms : Nat} {n0 n1 : Nat → Prop} {g : WG} {av : List Value} {P : Heap → Prop} {Qp : Option Value → Heap → Heap → Prop} (h : Ctr l y cw fr lo mc ms n0 g av P Qp) (hn : ∀ q, n0 q → n1 q) : Ctr l y cw fr lo mc ms n1 g av P Qp := by
  intro p e ha hc hk s m args below hf happ hP hK
  obtain ⟨n, o, h1, h2, h3, h4, L, h5, h6⟩ := h p e ha hc hk s m args below hf happ hP hK
  exact ⟨n, o, h1, h2, h3, h4, L, h5, fun q hq => hn _ (h6 q hq)⟩
theorem CtrT.area {l : Launch} {y : MethodName} {cw : Cond} {fr lo mc ms : Nat} {n0 n1 : Nat → Prop} {g : WG} {s0 : State} {av : List Value} {P : Heap → Prop} {QT : Nat → Heap → Heap → Prop} (h : CtrT l y cw fr lo mc ms n0 g s0 av P QT) (hn : ∀ q, n0 q → n1 q) : CtrT l y cw fr lo mc ms n1 g s0 av P QT := by
  intro p e ha hc hk s m args below hf happ hP hK
  obtain ⟨n, o, h1, h2, h3, x, h4, h5, h6, L, h7, h8⟩ := h p e ha hc hk s m args below hf happ hP hK
  exact ⟨n, o, h1, h2, h3, x, h4, h5, h6, L, h7, fun q hq => hn _ (h8 q hq)⟩
