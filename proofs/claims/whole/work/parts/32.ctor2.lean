
section KC2
variable {p : Program} {l : Launch} {e : Env} {R : Room} {s : State} {m₀ : MethodId} {args : Array Value} {below : List Frame} {meth : Method} {c : Code} {U : State} {cells slots : Nat}
set_option maxHeartbeats 2000000 in
/-- the constructors above a new exception, run on a cell that is new: it keeps its class; nothing else changes -/
theorem kd_ctor (X : Stand p l e R s m₀ args below meth c U [] cells slots) (hexec : p.tables.exec = Jvm.exec) (htr : e.platform.stackTraces = false) {own cls : String} {ic : Nat} {bytes : ByteArray}
    (hown : s.vm.findClass own = some m₀.cls) (hnot : cls ≠ "java/lang/invoke/MethodHandle" ∧ cls ≠ "java/lang/invoke/VarHandle")
    (hA : ∀ w ∈ Bundle.throwableAtoms, w.before args s = true) (hA2 : ∀ w ∈ Bundle.throwableSAtoms, w.before args s = true) (hA3 : ∀ w ∈ kd_rest cls, w.before args s = true) (hch : kd_chain cls e.platform s)
    (hl : (Cond.methodLink own ic (Bundle.initS cls)).before args s = true) (hi : (Cond.instanceMethod (Bundle.initS cls)).before args s = true) (hc : (Cond.code (Bundle.initS cls) bytes 2 none).before args s = true)
    {a : Addr} {cX : ClassId} {kX : Class} (hfoundX : s.vm.findClass cls = some cX) (hkX : s.vm.classes[cX]? = some kX) (hcell : U.heap[a]? = some (freshCell cX kX)) (hnew : s.heap.size ≤ a)
    {msg : Value} (hmsg : msg.isRef = true) {g : JFrame} (hg : g.method = m₀) (hsize : g.locals.size = c.maxLocals) {rest : List Value} (hstack : g.stack = msg :: .ref a :: rest)
    (hd : decode c.code g.pc = .ok (.invokespecial ic, 3)) (hRf : 5 < R.frames) (hRl : 2 * g.monitorRoom + (rest.map fun v => v.category).sum + 81 ≤ R.locals) :
    ∃ (vm' : Vm) (cell' : Cell) (L : List Loc), Stand p l e R s m₀ args below meth c ((U.setVm vm').setCell a cell') L cells slots ∧ cell'.cls = cX ∧ cell'.vm = .none ∧ (∀ y ∈ L, y.base = a) ∧
      ∀ target, Steps p.tables e below (((U.setVm vm').setCell a cell').setTop { g with pc := g.pc + 3, stack := rest }) target → Steps p.tables e below (U.setTop g) target := by
  have howns : e.platform.frameOwnsMonitors = true := by rw [X.admits.platform]
  have hfin : e.platform.finalization = false := by rw [X.admits.platform]
  have hpl : e.platform.magicAccessors = ({} : Platform).magicAccessors := by rw [X.admits.platform]
  have r : ∀ w, w ∈ kd_rest cls → w.holds args s none s [] = true := fun w hw => hA3 w hw
  obtain ⟨T, Z0, L, -, Y⟩ := ThrowableC.of_atoms (args := args) howns hfin hpl hA
  obtain ⟨Z, M, LZ, LM, hnZ⟩ := Init0T.ofS_atoms (args := args) hpl L Y hA2
  obtain ⟨P1, Ps, hlen, L1, hL, hP1m, hlink1, hlink⟩ := hch _ hnZ
  have hfound : s.vm.findClass cls = some P1.m.cls := findClass_of_methodNamed hP1m
  obtain rfl : cX = P1.m.cls := Option.some.inj (hfoundX.symm.trans hfound)
  obtain ⟨c1, kX', hc1, hk, hord, -, -, -⟩ := Cond.instantiable_spec (r (.instantiable cls 6) (by simp [kd_rest]))
  obtain rfl : c1 = P1.m.cls := Option.some.inj (hc1.symm.trans hfound)
  obtain rfl : kX = kX' := Option.some.inj (hkX.symm.trans hk)
  have sel : ∀ (y : MethodName) (q : MethodId), (Cond.selects cls y y).holds args s none s [] = true → s.methodNamed? y = some q → (y.cls ≠ "java/lang/invoke/MethodHandle" ∧ y.cls ≠ "java/lang/invoke/VarHandle") → selectMethod e.platform s.vm P1.m.cls q = .method q := by
    intro y q hs hq hy
    obtain ⟨c2, r2, m2, q1, q2, q3, q4, -⟩ := Cond.selects_spec hs
    obtain rfl : c2 = P1.m.cls := Option.some.inj (q1.symm.trans hfound)
    obtain rfl : r2 = q := Option.some.inj (q2.symm.trans (State.methodFound?_of_named hq hy))
    obtain rfl : m2 = r2 := Option.some.inj (q3.symm.trans hq)
    rw [Launch.admits_selectMethod X.admits]
    exact q4
  have hsel0 := sel Bundle.tFill0 T.fill0 (r _ (by simp [kd_rest])) Y.fill0 (by decide)
  have hselF := sel Bundle.tFill T.fill (r _ (by simp [kd_rest])) Y.fill (by decide)
  obtain ⟨cellS0, hcS0, hiss⟩ := Y.statics
  obtain ⟨u0, hu0⟩ := Cond.staticRefV Y.unassigned L.unassignedStatic L.statics hcS0 hiss (r (.isRef (.static Bundle.tN "UNASSIGNED_STACK" Bundle.steD)) (by simp [kd_rest]))
  obtain ⟨sen, hsen⟩ := Cond.staticRefV Y.sentinel L.sentinelStatic L.statics hcS0 hiss (r (.isRef (.static Bundle.tN "SUPPRESSED_SENTINEL" Bundle.listD)) (by simp [kd_rest]))
  obtain ⟨ci198, i198, fB, hk198, hg198, ha198, hsB, -, hnB, htB, hffB⟩ := Cond.ownField (t := .object "java/lang/Object") Y.found L.cls (by decide +kernel) (r (.fieldLink Bundle.tN 198 Bundle.tN "backtrace" "Ljava/lang/Object;") (by simp [kd_rest])) (r (.lays Bundle.tN Bundle.tN "backtrace" "Ljava/lang/Object;") (by simp [kd_rest])) e.platform hpl
  obtain ⟨cellS, hcS', heS, -, hkeep⟩ := X.same.2.2.2.2.2 T.aS cellS0 hcS0
  have hcellS : U.heap[T.aS]? = some cellS := hcS'
  have hknownS : cellS.vm ≠ .unknown := by
    rw [heS]
    intro hu
    rw [show cellS0.vm = .unknown from hu] at hiss
    cases hiss
  have hneS : T.aS ≠ a := Nat.ne_of_lt (Nat.lt_of_lt_of_le (Array.getElem?_eq_some_iff.mp hcS0).1 hnew)
  obtain ⟨iM, hffM⟩ := Y.msg
  obtain ⟨tyC, dC, hdC, hdnC⟩ := Cond.laysAt hfound hk Y.cause (r (.lays cls Bundle.tN "cause" "Ljava/lang/Throwable;") (by simp [kd_rest]))
  obtain ⟨tyS, dS, hdS, hdnS⟩ := Cond.laysAt hfound hk Y.stack (r (.lays cls Bundle.tN "stackTrace" Bundle.steD) (by simp [kd_rest]))
  obtain ⟨tyP, dP, hdP, hdnP⟩ := Cond.laysAt hfound hk Y.supp (r (.lays cls Bundle.tN "suppressedExceptions" Bundle.listD) (by simp [kd_rest]))
  obtain ⟨tyM, -, -, -⟩ := Cond.laysAt hfound hk hffM (r (.lays cls Bundle.tN "detailMessage" "Ljava/lang/String;") (by simp [kd_rest]))
  obtain ⟨tyB, dB, hdB, hdnB⟩ := Cond.laysAt hfound hk hffB (r (.lays cls Bundle.tN "backtrace" "Ljava/lang/Object;") (by simp [kd_rest]))
  have bC := Cond.laysApart hdB hdC hdnB hdnC (by rw [hnB, Y.causeName]; decide)
  have bS := Cond.laysApart hdB hdS hdnB hdnS (by rw [hnB, Y.stackName]; decide)
  have bP := Cond.laysApart hdB hdP hdnB hdnP (by rw [hnB, Y.suppName]; decide)
  have hskip : SkipFacts T e.platform s (fun u => u) u0 ((preparedCellV T.toThrowableT (freshCell P1.m.cls kX) a u0 sen).withEntry U.cur) :=
    ⟨{ ci198 := ci198, i198 := i198, fBack := fB }, ⟨hk198, hg198, ha198, hsB⟩, by
      have := fresh_default (c := P1.m.cls) tyB
      rw [htB] at this
      simpa [preparedCellV, Cell.setSlot, Cell.withEntry, Array.getElem?_setIfInBounds, bC, bS, bP, bC.symm, bS.symm, bP.symm, defaultValue] using this, fun _ _ => rfl⟩
  obtain ⟨tm, methC, cdC, kC, vm₁, hnC, -, -, -, -, -, -, -, hW₁, st1⟩ := Steps.initColdS (tb := p.tables) (e := e) (below := below) (s := s) (U := U) X.here hexec X.warmed hpl hown (t := Bundle.initS cls) rfl rfl hnot hl hi hc (f := g) hg (a := a) (msg := msg) (rest := rest) hstack hd
  obtain rfl : tm = P1.m := Option.some.inj (hnC.symm.trans hP1m)
  have X₁ := X.noted hW₁
  obtain ⟨vm₂, X₂, st2⟩ := X₁.ctorMessageOffV hexec (g := { g with stack := rest }) hg hsize T L Z LZ M LM (P1 :: Ps)
    (fun P hP => by rcases List.mem_cons.mp hP with rfl | hP; exact L1; exact hL P hP) ⟨hlink1, hlink⟩ (u0 := u0) (sen := sen) (self := a) hmsg (cell := freshCell P1.m.cls kX) (cellS := cellS)
    hcell (fun _ => by simp) (by simp) rfl rfl hsel0 hselF hcellS hneS hknownS (by rw [hkeep _ List.not_mem_nil]; exact hu0) (by rw [hkeep _ List.not_mem_nil]; exact hsen)
    (Takes.of_laid hk hord tyC (by rw [Y.causeType]; rfl)) (Takes.of_laid hk hord tyS (by rw [Y.stackType]; exact fits_refV_array _ u0)) (Takes.of_laid hk hord tyP (by rw [Y.suppType]; exact fits_refV_object _ sen))
    (Takes.of_laid hk hord tyM (by rw [Y.msgType]; exact fits_refV_object _ ⟨msg, hmsg⟩)) Y.objLocals hskip htr [] hd
    (by simp only [List.length_cons, hlen]; omega) (by simp only [List.length_cons, hlen]; omega)
  refine ⟨vm₂, plainBareV T.toThrowableT (freshCell P1.m.cls kX) a u0 sen msg, _, X₂, rfl, rfl, ?_, fun target h => st1 _ (fun acts => ?_)⟩
  · intro y hy
    simp only [List.nil_append, List.mem_cons, List.not_mem_nil, or_false] at hy
    rcases hy with rfl | rfl | rfl | rfl | rfl <;> rfl
  · rw [doInvoke_state]
    exact st2 _ h
end KC2
section KC3
variable {p : Program} {l : Launch} {e : Env} {R : Room} {s : State} {m : MethodId} {args : Array Value} {below : List Frame} {meth : Method} {c : Code} {H : Heap} {locs : List Loc} {cells slots : Nat} {Q : State → Prop}
variable {cc : ByteArray} {nL : Nat} {pc : Nat} {ls : Array Slot} {rest : List Value} {g : WG} {own : String} {n0 : Nat → Prop} {a : Nat} {s0 : State}
/-- the words on an exception class, at a state -/
def kd_XC (cls : String) (bytes : ByteArray) (s : State) (args : Array Value) : Prop :=
  (cls ≠ "java/lang/invoke/MethodHandle" ∧ cls ≠ "java/lang/invoke/VarHandle") ∧ (∀ w ∈ Bundle.throwableAtoms, w.before args s = true) ∧ (∀ w ∈ Bundle.throwableSAtoms, w.before args s = true) ∧ (∀ w ∈ kd_rest cls, w.before args s = true) ∧ (∀ pl : Platform, pl.magicAccessors = ({} : Platform).magicAccessors → kd_chain cls pl s) ∧
  (Cond.instanceMethod (Bundle.initS cls)).before args s = true ∧ (Cond.code (Bundle.initS cls) bytes 2 none).before args s = true
theorem q_ctor {cls : String} {ic : Nat} {bytes : ByteArray} {cX : ClassId} {kX : Class} {msg : Value} (E : EV p m c cc nL s args own g) (hfl : l.flags = flags0) (hX : kd_XC cls bytes s args) (hl : Cond.methodLink own ic (Bundle.initS cls) ∈ BW)
    (hfx : s.vm.findClass cls = some cX) (hkX : s.vm.classes[cX]? = some kX) (hcell : H[a]? = some (freshCell cX kX)) (hnew : s.heap.size ≤ a) (hmsg : msg.isRef = true) (hls : ls.size = nL) (hdg : decode cc pc = .ok (.invokespecial ic, 3)) (hRf : 5 < R.frames) (hRl : (rest.map fun v => v.category).sum + 81 ≤ R.locals)
    (kk : ∀ (H' : Heap) (L : List Loc) (cell : Cell), H'.size = H.size → H'[a]? = some cell → cell.cls = cX → cell.vm = .none → (∀ q, q ≠ a → H'[q]? = H[q]?) → (∀ y ∈ L, y.base = a) → W p l e R s m args below meth c H' L cells slots Q (F0 m (pc + 3) ls rest)) :
    W p l e R s m args below meth c H [] cells slots Q (F0 m pc ls (msg :: .ref a :: rest)) := by
  intro T hT X
  obtain ⟨hnot, hA, hA2, hA3, hch, hi, hc⟩ := hX
  have hpl : e.platform.magicAccessors = ({} : Platform).magicAccessors := by rw [X.admits.platform]
  have htr : e.platform.stackTraces = false := by
    rw [X.admits.platform]
    show l.stackTraces = false
    unfold Launch.stackTraces
    rw [hfl]
    decide +kernel
  obtain ⟨vm', cell', L, X', h1, h2, h3, st⟩ := kd_ctor X E.1 htr E.2.2.2.1 hnot hA hA2 hA3 (hch _ hpl) (E.2.2.2.2.1 _ hl) hi hc hfx hkX (by rw [hT]; exact hcell) hnew hmsg (g := F0 m pc ls (msg :: .ref a :: rest)) rfl (hls.trans E.2.2.1.symm) (rest := rest) rfl (by rw [E.2.1]; exact hdg) hRf (by show 2 * 0 + _ + _ ≤ _; omega)
  have hlt : a < (T.setVm vm').heap.size := by
    show a < T.heap.size
    rw [hT]
    exact (Array.getElem?_eq_some_iff.mp hcell).1
  obtain ⟨t, a1, b1⟩ := kk ((T.setVm vm').setCell a cell').heap L cell' (by rw [size_setCell]; show T.heap.size = _; rw [hT]) (heapAt_setCell_self _ hlt) h1 h2 (fun q hq => by rw [heapAt_setCell_ne _ (Ne.symm hq)]; show T.heap[q]? = _; rw [hT]) h3 _ rfl X'
  exact ⟨t, st t a1, b1⟩
end KC3
section KC4
variable {s : State} {args : Array Value}
theorem kd_xc_iae (hts : ∀ w ∈ BW, w.before args s = true) (hx0 : ∀ w ∈ kd_XL, w.before args s = true) : kd_XC "java/lang/IllegalArgumentException" prog_14_method_2_code s args := ⟨by decide, kd_thr hts hx0, kd_thrS hts, kd_rest_iae hts hx0, fun pl hpl => kd_ch_iae hts hx0 hpl, (hts _ w_441), (hts _ w_442)⟩
theorem kd_xc_ise (hts : ∀ w ∈ BW, w.before args s = true) (hx0 : ∀ w ∈ kd_XL, w.before args s = true) : kd_XC "java/lang/IllegalStateException" prog_15_method_2_code s args := ⟨by decide, kd_thr hts hx0, kd_thrS hts, kd_rest_ise hts hx0, fun pl hpl => kd_ch_ise hts hx0 hpl, (hts _ w_476), (hts _ w_477)⟩
theorem kd_xc_are (hts : ∀ w ∈ BW, w.before args s = true) (hx0 : ∀ w ∈ kd_XL, w.before args s = true) : kd_XC "java/lang/ArithmeticException" prog_12_method_2_code s args := ⟨by decide, kd_thr hts hx0, kd_thrS hts, kd_rest_are hts hx0, fun pl hpl => kd_ch_are hts hx0 hpl, (hts _ w_560), (hts _ w_561)⟩
theorem kd_xc_nse (hts : ∀ w ∈ BW, w.before args s = true) (hx0 : ∀ w ∈ kd_XL, w.before args s = true) : kd_XC "java/util/NoSuchElementException" prog_24_method_4_code s args := ⟨by decide, kd_thr hts hx0, kd_thrS hts, kd_rest_nse hts hx0, fun pl hpl => kd_ch_nse hts hx0 hpl, (hts _ w_768), (hts _ w_769)⟩
end KC4
