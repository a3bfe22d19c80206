theorem heap_same {st t : State} {L : List Loc} {mc ms : Nat} {n0 : Nat → Prop} (h : st.sameButNew ({ t with vm := st.vm } : State) L mc ms) (hL : ∀ q ∈ L, n0 q.base) : st.heap.size ≤ t.heap.size ∧ ∀ q, q < st.heap.size → ¬ n0 q → t.heap[q]? = st.heap[q]? := by
  obtain ⟨-, h1, -, -, -, h6⟩ := h
  refine ⟨h1, fun q hq hn => ?_⟩
  obtain ⟨c, hc⟩ : ∃ c, st.heap[q]? = some c := ⟨st.heap[q], Array.getElem?_eq_getElem hq⟩
  obtain ⟨c', g1, g2, g3, g4⟩ := h6 q c hc
  have g1 : t.heap[q]? = some c' := g1
  rw [g1, hc]
  have es : c'.slots = c.slots := Array.ext_getElem? (fun i => g4 i (fun hm => hn (hL _ hm)))
  rw [g2, es]
/-- what a contract's frame says of heaps -/
def FRQ (n0 : Nat → Prop) (H H' : Heap) : Prop := H.size ≤ H'.size ∧ ∀ q, q < H.size → ¬ n0 q → H'[q]? = H[q]?
theorem Ctr.imp {l : Launch} {y : MethodName} {cw : Cond} {fr lo mc ms : Nat} {n0 n1 : Nat → Prop} {g : WG} {av : List Value} {P : Heap → Prop} {Qp Qp' : Option Value → Heap → Heap → Prop} (h : Ctr l y cw fr lo mc ms n0 g av P Qp) (hn : ∀ q, n0 q → n1 q) (hq : ∀ v H H', Qp v H H' → FRQ n0 H H' → Qp' v H H') : Ctr l y cw fr lo mc ms n1 g av P Qp' := by
  intro p e ha hc hk s m args below hf happ hP hK
  obtain ⟨n, o, h1, h2, h3, ⟨r, hr, hq0⟩, L, hFE, hL⟩ := h p e ha hc hk s m args below hf happ hP hK
  exact ⟨n, o, h1, h2, h3, ⟨r, hr, hq _ _ _ hq0 (heap_same hFE.2.2 hL)⟩, L, hFE, fun q hq => hn _ (hL q hq)⟩
theorem Ctr.up {l : Launch} {y : MethodName} {cw : Cond} {fr lo mc ms : Nat} {n0 n1 : Nat → Prop} {g : WG} {av : List Value} {P : Heap → Prop} {Qp : Option Value → Heap → Heap → Prop} (h : Ctr l y cw fr lo mc ms n0 g av P Qp) (hn : ∀ q, n0 q → n1 q) : Ctr l y cw fr lo mc ms n1 g av P Qp := h.imp hn (fun _ _ _ h _ => h)
/-- a contract of a method with handlers -/
def CtrH (l : Launch) (y : MethodName) (cw : Cond) (fr lo mc ms : Nat) (n0 : Nat → Prop) (g : WG) (s0 : State) (av : List Value) (P : Heap → Prop) (Qp : Option Value → Heap → Heap → Prop) : Prop :=
  Met l y (cw :: BW) { frames := fr, cells := mc, slots := ms, locals := lo } (va_Pc av (fun U => KW g U ∧ s0.WarmedH U.vm ∧ P U.heap)) (QcP Qp) mc ms (fun q => n0 q)
def tab4 (c : Code) : List (Nat × Nat × Nat × Nat) := c.exceptionTable.toList.map (fun h => (h.startPc, h.endPc, h.handlerPc, h.catchType))
theorem ctrH_mk (l : Launch) {y : MethodName} {cc : ByteArray} {nL : Nat} {ret : Option FieldType} {hh : List (Nat × Nat × Nat × Nat)} {fr lo mc ms : Nat} {n0 : Nat → Prop} {g : WG} {s0 : State} {av : List Value} {P : Heap → Prop} {Qp : Option Value → Heap → Heap → Prop} {lv0 : List (Nat × Value)}
    (hy : plainName y.cls = true) (hsz : (lg_sl av).length ≤ nL) (hlv : lv_args 0 av = lv0)
    (body : ∀ (p : Program) (e : Env) (s : State) (m : MethodId) (below : List Frame) (meth : Method) (c : Code) (ls : Array Slot), EV p m c cc nL s av.toArray y.cls g → s0.WarmedH s.vm → meth.sig.returnType = ret → meth.locks = false → tab4 c = hh → lv_has ls nL lv0 → P s.heap →
      W p l e { frames := fr, cells := mc, slots := ms, locals := lo } s m av.toArray below meth c s.heap [] 0 0 (MQ below (QcP Qp) av.toArray s mc ms (fun q => n0 q)) (F0 m 0 ls [])) :
    CtrH l y (.codeWith y cc nL ret hh) fr lo mc ms n0 g s0 av P Qp := by
  refine va_MetW (cc := cc) (maxL := nL) (ret := ret) (hh := hh) hy rfl ?_
  intro p e s m args below meth c s₁ B hml hv
  obtain ⟨rfl, hK, hW, hP⟩ := hv
  have hts := atoms_spec (ws := Cond.codeWith y cc nL ret hh :: BW) B.pre
  have hl := lv_entry av (n := nL) hsz
  rw [lg_entry_eq]
  rw [hlv] at hl
  obtain ⟨m9, meth9, c9, hn9, h1, h2, h3, h4, h5, h6, h7, -⟩ := Cond.codeWith_spec (hts _ List.mem_cons_self)
  cases B.named.symm.trans hn9
  cases B.method.symm.trans h1
  cases (Stand.of_body B).code.symm.trans h2
  exact body p e s m below meth c _ ⟨B.exec, B.bytes, hml, findClass_of_methodNamed B.named, fun w hw => hts w (List.mem_cons_of_mem _ hw), hK⟩ hW B.returns B.notSynchronized h5 hl hP
section KRH
variable {p : Program} {l : Launch} {e : Env} {R : Room} {s : State} {m : MethodId} {args : Array Value} {below : List Frame} {meth : Method} {c : Code} {H : Heap} {locs : List Loc} {cells slots : Nat} {Q : State → Prop}
variable {cc : ByteArray} {nL : Nat} {pc : Nat} {ls : Array Slot} {rest : List Value} {g : WG} {own : String} {n0 : Nat → Prop} {a : Nat} {s0 : State}
/-- invokestatic of a method with handlers -/
theorem q_cSH {index maxL fr lo mc ms n : Nat} {y : MethodName} {bytes : ByteArray} {ret : Option FieldType} {hh : List (Nat × Nat × Nat × Nat)} {As st0 : List Value} {P : Heap → Prop} {Qp : Option Value → Heap → Heap → Prop} (E : EV p m c cc nL s args own g) (hw0 : s0.WarmedH s.vm)
    (hM : CtrH l y (.codeWith y bytes maxL ret hh) fr lo mc ms n0 g s0 As P Qp) (hcw : Cond.codeWith y bytes maxL ret hh ∈ BW) (hini : Cond.initialized y.cls ∈ BW) (hl : Cond.methodLink own index y ∈ BW) (him : Cond.static y ∈ BW)
    (hd : y.cls ≠ "java/lang/invoke/MethodHandle" ∧ y.cls ≠ "java/lang/invoke/VarHandle" ∧ (parseMethodDescriptor y.desc).map (fun d => d.parameters.length) = some n) (hn : As.length = n) (hR : fr + 1 ≤ R.frames ∧ 8 + (maxL + 11) + lo ≤ R.locals)
    (hP : P H) (hF : ∀ q ∈ locs, n0 q.base) (hls : ls.size = nL) (hst : st0 = As.reverse ++ rest) (hW : (rest.map fun v => v.category).sum ≤ 8) (hdg : decode cc pc = .ok (.invokestatic index, 3)) (hf : cells + mc ≤ R.cells ∧ slots + ms ≤ R.slots)
    (kk : ∀ (v : Option Value) (H' : Heap) (locs' : List Loc), Qp v H H' → (∀ q ∈ locs', n0 q.base) → W p l e R s m args below meth c H' locs' (cells + mc) (slots + ms) Q (F0 m (pc + 3) ls (v.toList ++ rest))) : W p l e R s m args below meth c H locs cells slots Q (F0 m pc ls st0) := by
  have hp := q_preW (g := g) (H := H) (s := s) (av := As) E.2.2.2.2.2 hw0 hP
  have hws : ∀ w ∈ (Cond.codeWith y bytes maxL ret hh :: BW), ∀ (a' : Array Value) (U : State), s.WarmedH U.vm → w.before a' U = true := by
    intro w hw a' U hW'
    have hb : w ∈ BW := by
      rcases List.mem_cons.mp hw with rfl | hw
      · exact hcw
      · exact hw
    exact word_at hW' (good_of_word (bw_good _ hb)) (E.2.2.2.2.1 _ hb)
  have hK : Back l R p e below s args y 3 8 (PreOf R mc ms (va_Pc As (fun U => KW g U ∧ s0.WarmedH U.vm ∧ P U.heap))) (PostOf (QcP Qp) mc ms (fun q => n0 q)) := va_backW (bytes := bytes) (maxL := maxL) (ret := ret) (hh := hh) hM hp.1 rfl rfl hR.1 hR.2 hws List.mem_cons_self (fun a' U hW' => word_at hW' (good_of_word (bw_good _ hini)) (E.2.2.2.2.1 _ hini))
  obtain ⟨hx, hb, hml, hown, hts, hKW⟩ := E
  intro T hT X
  obtain ⟨mk, methM, cM, hnamed, hmethM, -, -, -, -, -, -, hsigM⟩ := Cond.codeWith_spec (hts _ hcw)
  have hstatic : methM.isStatic = true := Cond.static_spec hnamed hmethM (hts _ him)
  obtain ⟨kP, hkP, -⟩ := className_of_methodNamed hnamed
  have hinitP : kP.init = .initialized := Cond.initialized_spec (findClass_of_methodNamed hnamed) hkP (hts _ hini)
  have hlen : As.length = methM.sig.parameters.length := by
    have h2 := hd.2.2
    rw [hsigM] at h2
    exact hn.trans (Option.some.inj h2).symm
  obtain ⟨vm₁, X₁, hstep₁⟩ := X.invokestatic hx hown (hts _ hl) hnamed hmethM hstatic hkP hinitP ⟨hd.1, hd.2.1⟩ (g := F0 m pc ls st0) rfl (argsL := As) (rest := rest) hlen hst (by rw [hb]; exact hdg)
  obtain ⟨v, ⟨U', l2, c2, s2⟩, X', ⟨g', mk', t, L, e1, e2, ⟨r, hr1, hq⟩, h1, hL, h2, h3⟩, hsteps⟩ := hK m meth c ⟨T.setVm vm₁, locs, cells, slots⟩ (F0 m pc ls rest) (.invokestatic index) mk As.toArray X₁ rfl (hls.trans hml.symm) (by rw [hb]; exact hdg) (lv_room (ls := ls) hW) (X₁.named hnamed)
    ⟨hf.1, hf.2, hp.2 (T.setVm vm₁) hT X₁.warmed⟩
  dsimp only [Pt.U, Pt.locs, Pt.cells, Pt.slots] at X' e1 e2 h1 h2 h3 hsteps hq
  subst h1; subst h2; subst h3
  have hv : v = r := by injection hr1
  subst hv
  have hq' : Qp v T.heap t.heap := hq
  rw [hT] at hq'
  obtain ⟨t2, a1, b1⟩ := kk v t.heap (locs ++ L) hq' (fun q hq => (List.mem_append.mp hq).elim (hF q) (hL q)) U' e1 X'
  exact ⟨t2, hstep₁ _ fun acts => by rw [doInvoke_state]; exact hsteps.trans a1, b1⟩
theorem tab_1 {c : Code} {q : Nat × Nat × Nat × Nat} {qs : List (Nat × Nat × Nat × Nat)} (h : tab4 c = q :: qs) : ∃ x rs, c.exceptionTable.toList = x :: rs ∧ (x.startPc, x.endPc, x.handlerPc, x.catchType) = q := by
  unfold tab4 at h
  cases hc : c.exceptionTable.toList with
  | nil => rw [hc] at h; cases h
  | cons x rs => rw [hc] at h; exact ⟨x, rs, rfl, (List.cons.inj h).1⟩
theorem tab_2 {c : Code} {q q2 : Nat × Nat × Nat × Nat} {qs : List (Nat × Nat × Nat × Nat)} (h : tab4 c = q :: q2 :: qs) : ∃ x x2 rs, c.exceptionTable.toList = [x] ++ x2 :: rs ∧ (x.startPc, x.endPc, x.handlerPc, x.catchType) = q ∧ (x2.startPc, x2.endPc, x2.handlerPc, x2.catchType) = q2 := by
  unfold tab4 at h
  cases hc : c.exceptionTable.toList with
  | nil => rw [hc] at h; cases h
  | cons x rs =>
    rw [hc] at h
    cases rs with
    | nil => cases (List.cons.inj h).2
    | cons x2 rs => exact ⟨x, x2, rs, rfl, (List.cons.inj h).1, (List.cons.inj (List.cons.inj h).2).1⟩
/-- a call throws, and the first handler takes it -/
theorem q_catch {X : String} {mc ms sp ep hp ct : Nat} {qs : List (Nat × Nat × Nat × Nat)} {st0 : List Value} (E : EV p m c cc nL s args own g) (hw0 : s0.WarmedH s.vm) (hr : ThrownRun p l e R s m args below meth c H locs cells slots mc ms n0 (F0 m pc ls st0) rest (TQ s0 X)) (hF : ∀ q ∈ locs, n0 q.base)
    (hex : tab4 c = (sp, ep, hp, ct) :: qs) (hcov : sp ≤ pc ∧ pc < ep) (hct : ct ≠ 0) (hl : Cond.classLink own ct X ∈ BW)
    (kk : ∀ (x : Nat) (H' : Heap) (locs' : List Loc), TQ s0 X x H H' → (∀ q ∈ locs', n0 q.base) → W p l e R s m args below meth c H' locs' (cells + mc) (slots + ms) Q (F0 m hp ls [.ref x])) : W p l e R s m args below meth c H locs cells slots Q (F0 m pc ls st0) := by
  intro T hT Y
  obtain ⟨x, T', L, Y', hL, hq, st⟩ := hr T hT Y
  obtain ⟨r, rs, ht, he⟩ := tab_1 hex
  obtain ⟨e1, e2⟩ := Prod.mk.inj he
  obtain ⟨e2, e3⟩ := Prod.mk.inj e2
  obtain ⟨e3, e4⟩ := Prod.mk.inj e3
  obtain ⟨h1, h2, cell, hc1, hc2, hc3⟩ := id hq
  have hfx : s.vm.findClass X = some cell.cls := by rw [hw0.alike.findClass]; exact hc2
  obtain ⟨hend, hk0⟩ := Y'.catches_of_link E.2.2.2.1 (x := r) (by rw [e4]; exact hct) (by rw [e4]; exact E.2.2.2.2.1 _ hl) hfx (va_asg s.vm cell.cls)
  obtain ⟨vm', Y2, st2⟩ := Y'.caughtThrough x (g := F0 m pc ls rest) rfl hc1 (by rw [hc3]; rfl) hk0 [] r rs ht (fun y hy => absurd hy List.not_mem_nil) (by simp only [covers, e1, e2]; simpa using hcov) hend
  obtain ⟨t2, a1, b1⟩ := kk x T'.heap (locs ++ L) hq (fun q hq => (List.mem_append.mp hq).elim (hF q) (hL q)) (T'.setVm vm') rfl Y2
  refine ⟨t2, st _ ?_, b1⟩
  have h9 := st2 t2 (by rw [e3]; exact a1)
  rw [← Y'.pushThrowing_eq] at h9
  exact h9
/-- a call throws, the first handler doesn't take it, the second does -/
theorem q_catch2 {X X1 : String} {mc ms sp ep hp ct sp1 ep1 hp1 ct1 : Nat} {qs : List (Nat × Nat × Nat × Nat)} {st0 : List Value} (E : EV p m c cc nL s args own g) (hw0 : s0.WarmedH s.vm) (hr : ThrownRun p l e R s m args below meth c H locs cells slots mc ms n0 (F0 m pc ls st0) rest (TQ s0 X)) (hF : ∀ q ∈ locs, n0 q.base)
    (hex : tab4 c = (sp1, ep1, hp1, ct1) :: (sp, ep, hp, ct) :: qs) (hct1 : ct1 ≠ 0) (hl1 : Cond.classLink own ct1 X1 ∈ BW) (hno : va_Nc X X1 s0) (hcov : sp ≤ pc ∧ pc < ep) (hct : ct ≠ 0) (hl : Cond.classLink own ct X ∈ BW)
    (kk : ∀ (x : Nat) (H' : Heap) (locs' : List Loc), TQ s0 X x H H' → (∀ q ∈ locs', n0 q.base) → W p l e R s m args below meth c H' locs' (cells + mc) (slots + ms) Q (F0 m hp ls [.ref x])) : W p l e R s m args below meth c H locs cells slots Q (F0 m pc ls st0) := by
  intro T hT Y
  obtain ⟨x, T', L, Y', hL, hq, st⟩ := hr T hT Y
  obtain ⟨r1, r, rs, ht, he1, he⟩ := tab_2 hex
  obtain ⟨e1, e2⟩ := Prod.mk.inj he
  obtain ⟨e2, e3⟩ := Prod.mk.inj e2
  obtain ⟨e3, e4⟩ := Prod.mk.inj e3
  have d4 : r1.catchType = ct1 := (Prod.mk.inj (Prod.mk.inj (Prod.mk.inj he1).2).2).2
  obtain ⟨h1, h2, cell, hc1, hc2, hc3⟩ := id hq
  have hfx : s.vm.findClass X = some cell.cls := by rw [hw0.alike.findClass]; exact hc2
  obtain ⟨hend, hk0⟩ := Y'.catches_of_link E.2.2.2.1 (x := r) (by rw [e4]; exact hct) (by rw [e4]; exact E.2.2.2.2.1 _ hl) hfx (va_asg s.vm cell.cls)
  have hpl : e.platform.magicAccessors = ({} : Platform).magicAccessors := by rw [Y.admits.platform]
  obtain ⟨c', hc', hcl⟩ := Cond.classLink_spec E.2.2.2.1 (E.2.2.2.2.1 _ hl1) e.platform hpl
  obtain ⟨cX, tX, n1, n2, n3⟩ := va_Nc.moved (U := s) hw0.alike hno
  have ecx : cX = cell.cls := Option.some.inj (n1.symm.trans hfx)
  have etx : tX = c' := Option.some.inj (n2.symm.trans hc')
  subst ecx
  subst etx
  obtain ⟨vm', Y2, st2⟩ := Y'.caughtThrough x (g := F0 m pc ls rest) rfl hc1 (by rw [hc3]; rfl) hk0 [r1] r rs ht (fun y hy => by
    rw [List.mem_singleton.mp hy]
    exact Or.inr ⟨by rw [d4]; exact hct1, _, by rw [d4]; exact hcl, n3⟩) (by simp only [covers, e1, e2]; simpa using hcov) hend
  obtain ⟨t2, a1, b1⟩ := kk x T'.heap (locs ++ L) hq (fun q hq => (List.mem_append.mp hq).elim (hF q) (hL q)) (T'.setVm vm') rfl Y2
  refine ⟨t2, st _ ?_, b1⟩
  have h9 := st2 t2 (by rw [e3]; exact a1)
  rw [← Y'.pushThrowing_eq] at h9
  exact h9
end KRH
