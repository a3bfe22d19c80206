
/-- the end of a method that throws -/
def MQT (below : List Frame) (QT : Nat → Heap → Heap → Prop) (s : State) (mc ms : Nat) (n0 : Nat → Prop) : State → Prop := fun t =>
  ∃ x, t.status = .running ∧ Ended t below (.threw x) ∧ QT x s.heap t.heap ∧ s.WarmedH t.vm ∧ ∃ L, s.sameButNew ({ t with vm := s.vm } : State) L mc ms ∧ ∀ q ∈ L, n0 q.base
/-- a contract of a method that throws; s0: the state at the law's entry, which these states came from -/
def CtrT (l : Launch) (y : MethodName) (cw : Cond) (fr lo mc ms : Nat) (n0 : Nat → Prop) (g : WG) (s0 : State) (av : List Value) (P : Heap → Prop) (QT : Nat → Heap → Heap → Prop) : Prop :=
  MetFree l y (headSpec (cw :: BW) { frames := fr, cells := mc, slots := ms, locals := lo }) (va_Pc av (fun U => KW g U ∧ s0.WarmedH U.vm ∧ P U.heap)) (fun _ _ _ _ _ => True)
    (fun _ st o t => ∃ x, o = .threw x ∧ QT x st.heap t.heap ∧ st.WarmedH t.vm ∧ ∃ L, st.sameButNew ({ t with vm := st.vm } : State) L mc ms ∧ ∀ q ∈ L, n0 q.base)
theorem ctrT_mk (l : Launch) {y : MethodName} {cc : ByteArray} {nL : Nat} {ret : Option FieldType} {fr lo mc ms : Nat} {n0 : Nat → Prop} {g : WG} {s0 : State} {av : List Value} {P : Heap → Prop} {QT : Nat → Heap → Heap → Prop} {lv0 : List (Nat × Value)}
    (hy : plainName y.cls = true) (hsz : (lg_sl av).length ≤ nL) (hlv : lv_args 0 av = lv0)
    (body : ∀ (p : Program) (e : Env) (s : State) (m : MethodId) (below : List Frame) (meth : Method) (c : Code) (ls : Array Slot), EV p m c cc nL s av.toArray y.cls g → s0.WarmedH s.vm → meth.locks = false → c.exceptionTable.toList = [] → lv_has ls nL lv0 → P s.heap →
      W p l e { frames := fr, cells := mc, slots := ms, locals := lo } s m av.toArray below meth c s.heap [] 0 0 (MQT below QT s mc ms n0) (F0 m 0 ls [])) :
    CtrT l y (.code y cc nL ret) fr lo mc ms n0 g s0 av P QT := by
  refine MetFree.of_bodyS (code := cc) (maxLocals := nL) (ret := ret) hy ?_ ?_
  · intro args s m h hn
    obtain ⟨meth, c, h1, h2, h3, h4, h5, h6, -, -⟩ := Cond.code_spec hn (atoms_spec (ws := Cond.code y cc nL ret :: BW) h _ List.mem_cons_self)
    exact ⟨meth, c, h1, h2, h3, h4, h5, h6⟩
  · intro p e s m args below meth c s₁ B hml hv _
    obtain ⟨rfl, hK, hw0, hP⟩ := hv
    have hts := atoms_spec (ws := Cond.code y cc nL ret :: BW) B.pre
    have hl := lv_entry av (n := nL) hsz
    rw [hlv] at hl
    have hnh := B.noHandlers (hts _ List.mem_cons_self)
    have hh0 : s₁.heap = s.heap := by rw [B.state]; rfl
    have hbody := body p e s m below meth c _ ⟨B.exec, B.bytes, hml, findClass_of_methodNamed B.named, fun w hw => hts w (List.mem_cons_of_mem _ hw), hK⟩ hw0 B.notSynchronized (by simpa using hnh) hl hP
    rw [← lg_entry_eq] at hbody
    obtain ⟨t, a1, x, b1, b2, b3, b4, b5⟩ := hbody s₁ hh0 (Stand.of_body B)
    exact ⟨t, .threw x, a1, b1, b2, x, rfl, b3, b4, b5⟩
/-- a call that throws comes back so -/
def BackT (l : Launch) (R : Room) (p : Program) (e : Env) (below : List Frame) (s : State) (sargs : Array Value) (y : MethodName) (len W : Nat)
    (Pre : Pt → Array Value → Prop) (Post : Pt → Array Value → Nat → Pt → Prop) : Prop :=
  ∀ (m : MethodId) (meth : Method) (c : Code) (A : Pt) (g : JFrame) (ig : Instr) (mk : MethodId) (a : Array Value),
    Stand p l e R s m sargs below meth c A.U A.locs A.cells A.slots → g.method = m → g.locals.size = c.maxLocals → decode c.code g.pc = .ok (ig, len) →
    2 * g.monitorRoom + (g.stack.map fun v => v.category).sum ≤ W → A.U.methodNamed? y = some mk → Pre A a →
    ∃ (x : Nat) (B : Pt), Stand p l e R s m sargs below meth c B.U B.locs B.cells B.slots ∧ Post A a x B ∧
      Steps p.tables e below (doInvoke e (A.U.setTop g) [] mk a).1 ((B.U.setTop g).pushFrame (.throwing x))
theorem backT_of {l : Launch} {R : Room} {p : Program} {e : Env} {below : List Frame} {s : State} {sargs : Array Value} {y : MethodName} {len W : Nat} {fr lo mc ms : Nat} {n0 : Nat → Prop} {g0 : WG} {s0 : State} {av : List Value} {P : Heap → Prop} {QT : Nat → Heap → Heap → Prop} {bytes : ByteArray} {maxL : Nat} {ret : Option FieldType}
    (hM : CtrT l y (.code y bytes maxL ret) fr lo mc ms n0 g0 s0 av P QT)
    (hframes : fr + 1 ≤ R.frames) (hlocals : W + (maxL + 11) + lo ≤ R.locals)
    (hws : ∀ w ∈ (Cond.code y bytes maxL ret :: BW), ∀ a' U, s.WarmedH U.vm → w.before a' U = true) (hinit : ∀ a' U, s.WarmedH U.vm → (Cond.initialized y.cls).before a' U = true) :
    BackT l R p e below s sargs y len W (fun A a => A.cells + mc ≤ R.cells ∧ A.slots + ms ≤ R.slots ∧ va_Pc av (fun U => KW g0 U ∧ s0.WarmedH U.vm ∧ P U.heap) a A.U)
      (fun A a x B => QT x A.U.heap B.U.heap ∧ (∃ L, B.locs = A.locs ++ L ∧ ∀ q ∈ L, n0 q.base) ∧ B.cells = A.cells + mc ∧ B.slots = A.slots + ms) := by
  intro m meth c A g ig mk a X hg hsize hdg hW hn hp
  obtain ⟨U, Ls, c0, sl0⟩ := A
  dsimp only [Pt.U, Pt.locs, Pt.cells, Pt.slots] at X hn hp ⊢
  have hw := hws _ List.mem_cons_self a U X.warmed
  obtain ⟨methY, cY, hmY, hcY, -, hlY, -, -, -, -⟩ := Cond.code_spec hn hw
  obtain ⟨kY, hkY, -⟩ := className_of_methodNamed hn
  have hinitY : kY.init = .initialized := Cond.initialized_spec (findClass_of_methodNamed hn) hkY (hinit a U X.warmed)
  have h : At U g.method c below := by rw [hg]; exact X.here
  have happ : (headSpec (Cond.code y bytes maxL ret :: BW) { frames := fr, cells := mc, slots := ms, locals := lo }).appliesLoose y e.platform (U.calling g mk a) = true :=
    Spec.appliesLoose_calling (g := g) h hdg hn hkY hinitY
      (X.room_calling (g := g) (R' := { frames := fr, cells := mc, slots := ms, locals := lo }) hsize hmY hcY hframes (by rw [hlY]; dsimp only; omega) hp.1 hp.2.1) (atoms_intro fun w hw => hws w hw _ _ X.warmed)
  obtain ⟨mid, hmid⟩ := h.above
  have hfr : (U.setTop g).frames = (.java g :: mid) ++ below := by rw [State.frames_setTop' g h.top, hmid]; rfl
  obtain ⟨q0, q1, q2, q3⟩ := hp.2.2
  obtain ⟨o, s₂, hsteps, -, hend, x, rfl, hq, hW₂, L, hsame, hL⟩ := Steps.callFree hM p X.admits X.cas X.clock (acts := []) hfr happ (show va_Pc av (fun U => KW g0 U ∧ s0.WarmedH U.vm ∧ P U.heap) a (U.calling g mk a) from ⟨q0, KW.moved (u := U) (U := U.calling g mk a) (Vm.Alike.refl U.vm) q1, q2, q3⟩) trivial
  rw [State.frames_setTop' g h.top] at hend
  obtain ⟨g₀, hg0⟩ := X.frames_eq
  have htl : U.frames.tail = below := by rw [hg0]; rfl
  have hend2 : Ended s₂ (.java g :: below) (.threw x) := by
    rw [htl] at hend
    exact hend
  obtain ⟨T', X', hW', hsame', rfl⟩ := X.outOfThrown hg (mk := mk) (a := a) hend2 hW₂ hsame
  refine ⟨x, ⟨T', Ls ++ L, c0 + mc, sl0 + ms⟩, X', ⟨?_, ⟨L, rfl, hL⟩, rfl, rfl⟩, hsteps⟩
  have e1 : ((T'.setTop g).pushFrame (.throwing x)).heap = T'.heap := Stand.throwing_heap T' g x
  have e2 : QT x U.heap ((T'.setTop g).pushFrame (.throwing x)).heap := hq
  rw [e1] at e2
  exact e2

section KT
variable {p : Program} {l : Launch} {e : Env} {R : Room} {s : State} {m : MethodId} {args : Array Value} {below : List Frame} {meth : Method} {c : Code} {H : Heap} {locs : List Loc} {cells slots : Nat} {Q : State → Prop}
variable {cc : ByteArray} {nL : Nat} {pc : Nat} {ls : Array Slot} {rest : List Value} {g : WG} {own : String} {n0 : Nat → Prop} {a : Nat} {s0 : State}
theorem kd_ws {y : MethodName} {bytes : ByteArray} {maxL : Nat} {ret : Option FieldType} (E : EV p m c cc nL s args own g) (hcw : Cond.code y bytes maxL ret ∈ BW) : ∀ w ∈ (Cond.code y bytes maxL ret :: BW), ∀ (a' : Array Value) (U : State), s.WarmedH U.vm → w.before a' U = true := by
  intro w hw a' U hW
  have hb : w ∈ BW := by
    rcases List.mem_cons.mp hw with rfl | hw
    · exact hcw
    · exact hw
  exact word_at hW (good_of_word (bw_good _ hb)) (E.2.2.2.2.1 _ hb)
/-- what a throwing call brings: the frame with the note laid on it -/
def ThrownRun (p : Program) (l : Launch) (e : Env) (R : Room) (s : State) (m : MethodId) (args : Array Value) (below : List Frame) (meth : Method) (c : Code) (H : Heap) (locs : List Loc) (cells slots mc ms : Nat) (n0 : Nat → Prop) (g : JFrame) (rest : List Value) (QT : Nat → Heap → Heap → Prop) : Prop :=
  ∀ T : State, T.heap = H → Stand p l e R s m args below meth c T locs cells slots → ∃ (x : Nat) (T' : State) (L : List Loc), Stand p l e R s m args below meth c T' (locs ++ L) (cells + mc) (slots + ms) ∧ (∀ q ∈ L, n0 q.base) ∧ QT x H T'.heap ∧
    ∀ target, Steps p.tables e below ((T'.setTop { g with stack := rest }).pushFrame (.throwing x)) target → Steps p.tables e below (T.setTop g) target
theorem q_runST {index maxL fr lo mc ms n : Nat} {y : MethodName} {bytes : ByteArray} {ret : Option FieldType} {As st0 : List Value} {P : Heap → Prop} {QT : Nat → Heap → Heap → Prop} (E : EV p m c cc nL s args own g) (hw0 : s0.WarmedH s.vm)
    (hM : CtrT l y (.code y bytes maxL ret) fr lo mc ms n0 g s0 As P QT) (hcw : Cond.code y bytes maxL ret ∈ BW) (hini : Cond.initialized y.cls ∈ BW) (hl : Cond.methodLink own index y ∈ BW) (him : Cond.static y ∈ BW)
    (hd : y.cls ≠ "java/lang/invoke/MethodHandle" ∧ y.cls ≠ "java/lang/invoke/VarHandle" ∧ (parseMethodDescriptor y.desc).map (fun d => d.parameters.length) = some n) (hn : As.length = n) (hR : fr + 1 ≤ R.frames ∧ 8 + (maxL + 11) + lo ≤ R.locals)
    (hP : P H) (hls : ls.size = nL) (hst : st0 = As.reverse ++ rest) (hW : (rest.map fun v => v.category).sum ≤ 8) (hdg : decode cc pc = .ok (.invokestatic index, 3)) (hf : cells + mc ≤ R.cells ∧ slots + ms ≤ R.slots) :
    ThrownRun p l e R s m args below meth c H locs cells slots mc ms n0 (F0 m pc ls st0) rest QT := by
  intro T hT X
  have hK := backT_of (p := p) (e := e) (below := below) (s := s) (sargs := args) (len := 3) (W := 8) hM hR.1 hR.2 (kd_ws E hcw) (fun a' U hW' => word_at hW' (good_of_word (bw_good _ hini)) (E.2.2.2.2.1 _ hini))
  obtain ⟨hx, hb, hml, hown, hts, hKW⟩ := E
  obtain ⟨mk, hnamed⟩ := Cond.code_named (hts _ hcw)
  obtain ⟨methM, cM, hmethM, -, -, -, -, -, -, hsigM⟩ := Cond.code_spec hnamed (hts _ hcw)
  have hstatic : methM.isStatic = true := Cond.static_spec hnamed hmethM (hts _ him)
  obtain ⟨kP, hkP, -⟩ := className_of_methodNamed hnamed
  have hinitP : kP.init = .initialized := Cond.initialized_spec (findClass_of_methodNamed hnamed) hkP (hts _ hini)
  have hlen : As.length = methM.sig.parameters.length := by
    have h2 := hd.2.2
    rw [hsigM] at h2
    exact hn.trans (Option.some.inj h2).symm
  obtain ⟨vm₁, X₁, hstep₁⟩ := X.invokestatic hx hown (hts _ hl) hnamed hmethM hstatic hkP hinitP ⟨hd.1, hd.2.1⟩ (g := F0 m pc ls st0) rfl (argsL := As) (rest := rest) hlen hst (by rw [hb]; exact hdg)
  obtain ⟨x, ⟨T', l2, c2, sl2⟩, X', ⟨hq, ⟨L, e1, hL⟩, e2, e3⟩, hsteps⟩ := hK m meth c ⟨T.setVm vm₁, locs, cells, slots⟩ (F0 m pc ls rest) (.invokestatic index) mk As.toArray X₁ rfl (hls.trans hml.symm) (by rw [hb]; exact hdg) (lv_room (ls := ls) hW) (X₁.named hnamed)
    ⟨hf.1, hf.2, rfl, KW.moved X₁.warmed.alike hKW, State.WarmedH.trans hw0 X₁.warmed, by show P T.heap; rw [hT]; exact hP⟩
  dsimp only [Pt.U, Pt.locs, Pt.cells, Pt.slots] at X' hq e1 e2 e3 hsteps
  subst e1; subst e2; subst e3
  refine ⟨x, T', L, X', hL, ?_, fun target h => hstep₁ _ fun acts => by rw [doInvoke_state]; exact hsteps.trans h⟩
  have hq' : QT x T.heap T'.heap := hq
  rw [hT] at hq'
  exact hq'
theorem q_runVT {index maxL fr lo mc ms n b : Nat} {y : MethodName} {bytes : ByteArray} {ret : Option FieldType} {As st0 : List Value} {P : Heap → Prop} {QT : Nat → Heap → Heap → Prop} (E : EV p m c cc nL s args own g) (hw0 : s0.WarmedH s.vm)
    (hM : CtrT l y (.code y bytes maxL ret) fr lo mc ms n0 g s0 (.ref b :: As) P QT) (hcw : Cond.code y bytes maxL ret ∈ BW) (hini : Cond.initialized y.cls ∈ BW) (hl : Cond.methodLink own index y ∈ BW) (him : Cond.instanceMethod y ∈ BW) (hsel : Cond.selects y.cls y y ∈ BW)
    (hd : y.cls ≠ "java/lang/invoke/MethodHandle" ∧ y.cls ≠ "java/lang/invoke/VarHandle" ∧ (parseMethodDescriptor y.desc).map (fun d => d.parameters.length) = some n) (hn : As.length = n) (hR : fr + 1 ≤ R.frames ∧ 8 + (maxL + 11) + lo ≤ R.locals)
    (hrecv : ∃ cell : Cell, H[b]? = some cell ∧ cell.vm.isStatics = false ∧ s.vm.findClass y.cls = some cell.cls) (hP : P H) (hls : ls.size = nL) (hst : st0 = As.reverse ++ .ref b :: rest) (hW : (rest.map fun v => v.category).sum ≤ 8) (hdg : decode cc pc = .ok (.invokevirtual index, 3)) (hf : cells + mc ≤ R.cells ∧ slots + ms ≤ R.slots) :
    ThrownRun p l e R s m args below meth c H locs cells slots mc ms n0 (F0 m pc ls st0) rest QT := by
  intro T hT X
  have hK := backT_of (p := p) (e := e) (below := below) (s := s) (sargs := args) (len := 3) (W := 8) hM hR.1 hR.2 (kd_ws E hcw) (fun a' U hW' => word_at hW' (good_of_word (bw_good _ hini)) (E.2.2.2.2.1 _ hini))
  obtain ⟨hx, hb, hml, hown, hts, hKW⟩ := E
  obtain ⟨cellB, hcB, hoB, hclB⟩ := hrecv
  obtain ⟨mk, methM, hnamed, hmethM, hstM, habM⟩ := Cond.instanceMethod_spec (hts _ him)
  obtain ⟨methM', cM, hmethM', -, -, -, -, -, -, hsigM⟩ := Cond.code_spec hnamed (hts _ hcw)
  cases hmethM.symm.trans hmethM'
  obtain ⟨c2, r2, m2, q1, q2, q3, q4, kP, hkP, hkPi⟩ := Cond.selects_spec (hts _ hsel)
  cases hclB.symm.trans q1
  cases (State.methodFound?_of_named hnamed ⟨hd.1, hd.2.1⟩).symm.trans q2
  cases hnamed.symm.trans q3
  have hselP : selectMethod e.platform s.vm cellB.cls mk = .method mk := by rw [Launch.admits_selectMethod X.admits]; exact q4
  have hlen : As.length = methM.sig.parameters.length := by
    have h2 := hd.2.2
    rw [hsigM] at h2
    exact hn.trans (Option.some.inj h2).symm
  obtain ⟨vm₁, X₁, hstep₁⟩ := X.invokevirtual hx hown (hts _ hl) hnamed hmethM hstM hkP hkPi ⟨hd.1, hd.2.1⟩ (a := b) (cell := cellB) (by rw [hT]; exact hcB)
    (fun z h => by rw [h] at hoB; cases hoB) hselP hmethM habM hkP hkPi (g := F0 m pc ls st0) rfl (argsL := As) (rest := rest) hlen hst (by rw [hb]; exact hdg)
  obtain ⟨x, ⟨T', l2, c2, sl2⟩, X', ⟨hq, ⟨L, e1, hL⟩, e2, e3⟩, hsteps⟩ := hK m meth c ⟨T.setVm vm₁, locs, cells, slots⟩ (F0 m pc ls rest) (.invokevirtual index) mk (Value.ref b :: As).toArray X₁ rfl (hls.trans hml.symm) (by rw [hb]; exact hdg) (lv_room (ls := ls) hW) (X₁.named hnamed)
    ⟨hf.1, hf.2, rfl, KW.moved X₁.warmed.alike hKW, State.WarmedH.trans hw0 X₁.warmed, by show P T.heap; rw [hT]; exact hP⟩
  dsimp only [Pt.U, Pt.locs, Pt.cells, Pt.slots] at X' hq e1 e2 e3 hsteps
  subst e1; subst e2; subst e3
  refine ⟨x, T', L, X', hL, ?_, fun target h => hstep₁ _ fun acts => by rw [doInvoke_state]; exact hsteps.trans h⟩
  have hq' : QT x T.heap T'.heap := hq
  rw [hT] at hq'
  exact hq'
/-- the note passes through a method without handlers -/
theorem q_leave {mc ms mc1 ms1 : Nat} {st0 : List Value} {QT QT1 : Nat → Heap → Heap → Prop} (hr : ThrownRun p l e R s m args below meth c H locs cells slots mc ms n0 (F0 m pc ls st0) rest QT) (hlk : meth.locks = false) (hnh : c.exceptionTable.toList = []) (hF : ∀ q ∈ locs, n0 q.base)
    (hq : ∀ x H', QT x H H' → QT1 x s.heap H') (h1 : cells + mc = mc1) (h2 : slots + ms = ms1) : W p l e R s m args below meth c H locs cells slots (MQT below QT1 s mc1 ms1 n0) (F0 m pc ls st0) := by
  intro T hT X
  obtain ⟨x, T', L, X', hL, hqq, st⟩ := hr T hT X
  subst h1; subst h2
  obtain ⟨hw, hrun, hend, hW, hsame⟩ := X'.leaveThrown x (g := { (F0 m pc ls st0) with stack := rest }) rfl rfl rfl (by rw [hnh]; exact fun _ h => absurd h List.not_mem_nil) hlk
  refine ⟨_, st _ hw, x, hrun, hend, ?_, hW, locs ++ L, hsame, fun q h => (List.mem_append.mp h).elim (hF q) (hL q)⟩
  exact hq x _ hqq
/-- athrow in a method without handlers -/
theorem q_athrow {QT1 : Nat → Heap → Heap → Prop} {x : Nat} (hx : p.tables.exec = Jvm.exec) (hb : c.code = cc) (hlk : meth.locks = false) (hnh : c.exceptionTable.toList = []) (hF : ∀ q ∈ locs, n0 q.base)
    (hq : QT1 x s.heap H) (hdg : decode cc pc = .ok (.athrow, 1)) : W p l e R s m args below meth c H locs cells slots (MQT below QT1 s cells slots n0) (F0 m pc ls (.ref x :: rest)) := by
  intro T hT X
  obtain ⟨hw, hrun, hend, hW, hsame⟩ := X.athrowLeaves hx (g := F0 m pc ls (.ref x :: rest)) rfl rfl rfl (by rw [hnh]; exact fun _ h => absurd h List.not_mem_nil) (a := x) (rest := rest) rfl (by rw [hb]; exact hdg) hlk
  exact ⟨_, hw, x, hrun, hend, by rw [← hT] at hq; exact hq, hW, locs, hsame, hF⟩
end KT
