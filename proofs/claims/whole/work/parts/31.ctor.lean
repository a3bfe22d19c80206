
/-- the words on exceptions that a state's heap, or the tables' order, decide -/
def kd_XL : List Cond := [.declares (Bundle.initS "java/lang/RuntimeException"), .declares (Bundle.initS "java/lang/Exception"), .declares (Bundle.initS "java/lang/Throwable"),
  .castable "java/lang/IllegalArgumentException" "java/lang/IllegalArgumentException", .castable "java/lang/IllegalStateException" "java/lang/IllegalStateException", .castable "java/lang/ArithmeticException" "java/lang/ArithmeticException", .castable "java/util/NoSuchElementException" "java/util/NoSuchElementException",
  .laysStatic Bundle.tN "UNASSIGNED_STACK" Bundle.steD, .laysStatic Bundle.tN "SUPPRESSED_SENTINEL" Bundle.listD, .isRef (.static Bundle.tN "UNASSIGNED_STACK" Bundle.steD), .isRef (.static Bundle.tN "SUPPRESSED_SENTINEL" Bundle.listD)]
theorem kd_ls {V s : State} {C n d : String} {A A' : Array Value} (hv : V.vm = s.vm) (ho : ∀ q, q < V.heap.size → s.heap[q]? = V.heap[q]?) (h : (Cond.laysStatic C n d).before A V = true) : (Cond.laysStatic C n d).before A' s = true := by
  have hff : s.fieldFound? C n d = V.fieldFound? C n d := by unfold State.fieldFound?; rw [hv]
  simp only [Cond.before, Cond.holds, Cond.value] at h ⊢
  rw [hff, ← hv]
  cases hc : V.vm.findClass C with
  | none => simp [hc] at h
  | some c =>
    cases hf : V.fieldFound? C n d with
    | none => simp [hc, hf] at h
    | some x =>
      obtain ⟨c', k, i, f⟩ := x
      simp only [hc, hf] at h ⊢
      cases hk : k.statics with
      | none => simp [hk] at h
      | some a =>
        simp only [hk, Option.bind_some] at h ⊢
        cases ha : V.heap[a]? with
        | none => simp [ha] at h
        | some cell =>
          rw [ho a (Array.getElem?_eq_some_iff.mp ha).1, ha]
          rw [ha] at h
          exact h
theorem kd_is {V s : State} {C n d : String} {A A' : Array Value} (hv : V.vm = s.vm) (ho : ∀ q, q < V.heap.size → s.heap[q]? = V.heap[q]?) (h : (Cond.isRef (.static C n d)).before A V = true) : (Cond.isRef (.static C n d)).before A' s = true := by
  have hff : s.fieldNamed? C n d true = V.fieldNamed? C n d true := by unfold State.fieldNamed? State.fieldFound?; rw [hv]
  have he : (Term.static C n d).eval A V none [] V = (Term.static C n d).eval A' s none [] s ∨ (Term.static C n d).eval A V none [] V = none := by
    simp only [Term.eval]
    rw [hff]
    cases hf : V.fieldNamed? C n d true with
    | none => exact Or.inl rfl
    | some x =>
      obtain ⟨c', k, i⟩ := x
      cases hk : k.statics with
      | none => exact Or.inl (by simp [hk])
      | some a =>
        cases ha : V.heap[a]? with
        | none => exact Or.inr (by simp [hk, ha])
        | some cell => exact Or.inl (by simp [hk, ha, ho a (Array.getElem?_eq_some_iff.mp ha).1])
  simp only [Cond.before, Cond.holds, Cond.value] at h ⊢
  rcases he with he | he
  · rw [← he]; exact h
  · rw [he] at h; simp at h
/-- they hold wherever the machine came to from a state in which they held, if the old cells are as they were -/
theorem kd_XL.at {s0 s : State} {args : Array Value} (h : ∀ w ∈ kd_XL, w.before #[] s0 = true) (hW : s0.WarmedH s.vm) (ho : ∀ q, q < s0.heap.size → s.heap[q]? = s0.heap[q]?) : ∀ w ∈ kd_XL, w.before args s = true := by
  have tb : ∀ w : Cond, w.onTables = true → w.warmOk s0 → w.before #[] s0 = true → w.before args s = true := fun w h1 h2 h3 => va_tabs h1 (rfl : (s0.setVm s.vm).vm = s.vm) (Cond.before_warmed hW w h2 h3)
  have ls : ∀ C n d, (Cond.laysStatic C n d).before #[] s0 = true → (Cond.laysStatic C n d).before args s = true := fun C n d h3 => kd_ls (V := s0.setVm s.vm) rfl ho (Cond.before_warmed hW (.laysStatic C n d) rfl h3)
  have is : ∀ C n d, (Cond.isRef (.static C n d)).before #[] s0 = true → (Cond.isRef (.static C n d)).before args s = true := fun C n d h3 => kd_is (V := s0.setVm s.vm) rfl ho (Cond.before_warmed hW (.isRef (.static C n d)) rfl h3)
  unfold kd_XL at h ⊢
  refine List.forall_mem_cons.mpr ⟨tb _ rfl trivial (h _ (by simp)), List.forall_mem_cons.mpr ⟨tb _ rfl trivial (h _ (by simp)), List.forall_mem_cons.mpr ⟨tb _ rfl trivial (h _ (by simp)), List.forall_mem_cons.mpr ⟨tb _ rfl trivial (h _ (by simp)), List.forall_mem_cons.mpr ⟨tb _ rfl trivial (h _ (by simp)), List.forall_mem_cons.mpr ⟨tb _ rfl trivial (h _ (by simp)), List.forall_mem_cons.mpr ⟨tb _ rfl trivial (h _ (by simp)), List.forall_mem_cons.mpr ⟨ls _ _ _ (h _ (by simp)), List.forall_mem_cons.mpr ⟨ls _ _ _ (h _ (by simp)), List.forall_mem_cons.mpr ⟨is _ _ _ (h _ (by simp)), List.forall_mem_cons.mpr ⟨is _ _ _ (h _ (by simp)), fun _ h => absurd h List.not_mem_nil⟩⟩⟩⟩⟩⟩⟩⟩⟩⟩⟩
def kd_rest (X : String) : List Cond :=
  [.instantiable X 6, .castable X X, .selects X Bundle.tFill0 Bundle.tFill0, .selects X Bundle.tFill Bundle.tFill,
   .lays X Bundle.tN "cause" "Ljava/lang/Throwable;", .lays X Bundle.tN "stackTrace" Bundle.steD, .lays X Bundle.tN "suppressedExceptions" Bundle.listD, .lays X Bundle.tN "detailMessage" "Ljava/lang/String;",
   .isRef (.static Bundle.tN "UNASSIGNED_STACK" Bundle.steD), .isRef (.static Bundle.tN "SUPPRESSED_SENTINEL" Bundle.listD),
   .fieldLink Bundle.tN 198 Bundle.tN "backtrace" "Ljava/lang/Object;", .lays Bundle.tN Bundle.tN "backtrace" "Ljava/lang/Object;", .lays X Bundle.tN "backtrace" "Ljava/lang/Object;"]
/-- the chain of constructors above X, two classes between it and Throwable -/
def kd_chain (X : String) (pl : Platform) (s : State) : Prop := ∀ top, s.methodNamed? (Bundle.initS Bundle.tN) = some top → ∃ (P1 : PassC) (Ps : List PassC), Ps.length = 2 ∧ P1.LinksS pl s ∧ (∀ P, P ∈ Ps → P.LinksS pl s) ∧ s.methodNamed? (Bundle.initS X) = some P1.m ∧ P1.sup = firstOf top (Ps.map (·.toPassT)) ∧ PassesOn top (Ps.map (·.toPassT))
section KC
variable {s : State} {args : Array Value}

theorem kd_thr (hts : ∀ w ∈ BW, w.before args s = true) (hx0 : ∀ w ∈ kd_XL, w.before args s = true) : ∀ w ∈ Bundle.throwableAtoms, w.before args s = true := List.forall_mem_cons.mpr ⟨(hts _ w_16), List.forall_mem_cons.mpr ⟨(hts _ w_419), List.forall_mem_cons.mpr ⟨(hts _ w_428), List.forall_mem_cons.mpr ⟨(hts _ w_433), List.forall_mem_cons.mpr ⟨(hts _ w_436), List.forall_mem_cons.mpr ⟨(hts _ w_438), List.forall_mem_cons.mpr ⟨(hts _ w_420), List.forall_mem_cons.mpr ⟨(hts _ w_421), List.forall_mem_cons.mpr ⟨(hts _ w_31), List.forall_mem_cons.mpr ⟨(hts _ w_32), List.forall_mem_cons.mpr ⟨(hts _ w_422), List.forall_mem_cons.mpr ⟨(hts _ w_427), List.forall_mem_cons.mpr ⟨(hts _ w_434), List.forall_mem_cons.mpr ⟨(hts _ w_454), List.forall_mem_cons.mpr ⟨(hts _ w_409), List.forall_mem_cons.mpr ⟨(hts _ w_455), List.forall_mem_cons.mpr ⟨(hts _ w_411), List.forall_mem_cons.mpr ⟨(hts _ w_456), List.forall_mem_cons.mpr ⟨(hts _ w_413), List.forall_mem_cons.mpr ⟨(hts _ w_423), List.forall_mem_cons.mpr ⟨(hx0 _ (by simp [kd_XL])), List.forall_mem_cons.mpr ⟨(hts _ w_425), List.forall_mem_cons.mpr ⟨(hx0 _ (by simp [kd_XL])), List.forall_mem_cons.mpr ⟨(hts _ w_415), fun _ h => absurd h List.not_mem_nil⟩⟩⟩⟩⟩⟩⟩⟩⟩⟩⟩⟩⟩⟩⟩⟩⟩⟩⟩⟩⟩⟩⟩⟩
theorem kd_thrS (hts : ∀ w ∈ BW, w.before args s = true) : ∀ w ∈ Bundle.throwableSAtoms, w.before args s = true := List.forall_mem_cons.mpr ⟨(hts _ w_450), List.forall_mem_cons.mpr ⟨(hts _ w_451), List.forall_mem_cons.mpr ⟨(hts _ w_453), List.forall_mem_cons.mpr ⟨(hts _ w_415), fun _ h => absurd h List.not_mem_nil⟩⟩⟩⟩
theorem kd_rest_iae (hts : ∀ w ∈ BW, w.before args s = true) (hx0 : ∀ w ∈ kd_XL, w.before args s = true) : ∀ w ∈ kd_rest "java/lang/IllegalArgumentException", w.before args s = true := List.forall_mem_cons.mpr ⟨(hts _ w_398), List.forall_mem_cons.mpr ⟨(hx0 _ (by simp [kd_XL])), List.forall_mem_cons.mpr ⟨(hts _ w_406), List.forall_mem_cons.mpr ⟨(hts _ w_407), List.forall_mem_cons.mpr ⟨(hts _ w_408), List.forall_mem_cons.mpr ⟨(hts _ w_410), List.forall_mem_cons.mpr ⟨(hts _ w_412), List.forall_mem_cons.mpr ⟨(hts _ w_414), List.forall_mem_cons.mpr ⟨(hx0 _ (by simp [kd_XL])), List.forall_mem_cons.mpr ⟨(hx0 _ (by simp [kd_XL])), List.forall_mem_cons.mpr ⟨(hts _ w_418), List.forall_mem_cons.mpr ⟨(hts _ w_417), List.forall_mem_cons.mpr ⟨(hts _ w_416), fun _ h => absurd h List.not_mem_nil⟩⟩⟩⟩⟩⟩⟩⟩⟩⟩⟩⟩⟩
theorem kd_rest_ise (hts : ∀ w ∈ BW, w.before args s = true) (hx0 : ∀ w ∈ kd_XL, w.before args s = true) : ∀ w ∈ kd_rest "java/lang/IllegalStateException", w.before args s = true := List.forall_mem_cons.mpr ⟨(hts _ w_466), List.forall_mem_cons.mpr ⟨(hx0 _ (by simp [kd_XL])), List.forall_mem_cons.mpr ⟨(hts _ w_468), List.forall_mem_cons.mpr ⟨(hts _ w_431), List.forall_mem_cons.mpr ⟨(hts _ w_469), List.forall_mem_cons.mpr ⟨(hts _ w_470), List.forall_mem_cons.mpr ⟨(hts _ w_471), List.forall_mem_cons.mpr ⟨(hts _ w_472), List.forall_mem_cons.mpr ⟨(hx0 _ (by simp [kd_XL])), List.forall_mem_cons.mpr ⟨(hx0 _ (by simp [kd_XL])), List.forall_mem_cons.mpr ⟨(hts _ w_418), List.forall_mem_cons.mpr ⟨(hts _ w_417), List.forall_mem_cons.mpr ⟨(hts _ w_473), fun _ h => absurd h List.not_mem_nil⟩⟩⟩⟩⟩⟩⟩⟩⟩⟩⟩⟩⟩
theorem kd_rest_are (hts : ∀ w ∈ BW, w.before args s = true) (hx0 : ∀ w ∈ kd_XL, w.before args s = true) : ∀ w ∈ kd_rest "java/lang/ArithmeticException", w.before args s = true := List.forall_mem_cons.mpr ⟨(hts _ w_550), List.forall_mem_cons.mpr ⟨(hx0 _ (by simp [kd_XL])), List.forall_mem_cons.mpr ⟨(hts _ w_552), List.forall_mem_cons.mpr ⟨(hts _ w_430), List.forall_mem_cons.mpr ⟨(hts _ w_553), List.forall_mem_cons.mpr ⟨(hts _ w_554), List.forall_mem_cons.mpr ⟨(hts _ w_555), List.forall_mem_cons.mpr ⟨(hts _ w_556), List.forall_mem_cons.mpr ⟨(hx0 _ (by simp [kd_XL])), List.forall_mem_cons.mpr ⟨(hx0 _ (by simp [kd_XL])), List.forall_mem_cons.mpr ⟨(hts _ w_418), List.forall_mem_cons.mpr ⟨(hts _ w_417), List.forall_mem_cons.mpr ⟨(hts _ w_557), fun _ h => absurd h List.not_mem_nil⟩⟩⟩⟩⟩⟩⟩⟩⟩⟩⟩⟩⟩
theorem kd_rest_nse (hts : ∀ w ∈ BW, w.before args s = true) (hx0 : ∀ w ∈ kd_XL, w.before args s = true) : ∀ w ∈ kd_rest "java/util/NoSuchElementException", w.before args s = true := List.forall_mem_cons.mpr ⟨(hts _ w_758), List.forall_mem_cons.mpr ⟨(hx0 _ (by simp [kd_XL])), List.forall_mem_cons.mpr ⟨(hts _ w_760), List.forall_mem_cons.mpr ⟨(hts _ w_432), List.forall_mem_cons.mpr ⟨(hts _ w_761), List.forall_mem_cons.mpr ⟨(hts _ w_762), List.forall_mem_cons.mpr ⟨(hts _ w_763), List.forall_mem_cons.mpr ⟨(hts _ w_764), List.forall_mem_cons.mpr ⟨(hx0 _ (by simp [kd_XL])), List.forall_mem_cons.mpr ⟨(hx0 _ (by simp [kd_XL])), List.forall_mem_cons.mpr ⟨(hts _ w_418), List.forall_mem_cons.mpr ⟨(hts _ w_417), List.forall_mem_cons.mpr ⟨(hts _ w_765), fun _ h => absurd h List.not_mem_nil⟩⟩⟩⟩⟩⟩⟩⟩⟩⟩⟩⟩⟩
theorem kd_ps_rt (hts : ∀ w ∈ BW, w.before args s = true) (hx0 : ∀ w ∈ kd_XL, w.before args s = true) : ∀ w ∈ Bundle.passSAtoms "java/lang/RuntimeException" "java/lang/Exception" 7 prog_17_method_2_code, w.before args s = true := List.forall_mem_cons.mpr ⟨(hts _ w_444), List.forall_mem_cons.mpr ⟨(hts _ w_445), List.forall_mem_cons.mpr ⟨(hts _ w_446), List.forall_mem_cons.mpr ⟨(hts _ w_447), List.forall_mem_cons.mpr ⟨(hx0 _ (by simp [kd_XL])), fun _ h => absurd h List.not_mem_nil⟩⟩⟩⟩⟩
theorem kd_ps_ex (hts : ∀ w ∈ BW, w.before args s = true) (hx0 : ∀ w ∈ kd_XL, w.before args s = true) : ∀ w ∈ Bundle.passSAtoms "java/lang/Exception" "java/lang/Throwable" 7 prog_13_method_2_code, w.before args s = true := List.forall_mem_cons.mpr ⟨(hts _ w_447), List.forall_mem_cons.mpr ⟨(hts _ w_448), List.forall_mem_cons.mpr ⟨(hts _ w_449), List.forall_mem_cons.mpr ⟨(hts _ w_450), List.forall_mem_cons.mpr ⟨(hx0 _ (by simp [kd_XL])), fun _ h => absurd h List.not_mem_nil⟩⟩⟩⟩⟩
theorem kd_ps_iae (hts : ∀ w ∈ BW, w.before args s = true) (hx0 : ∀ w ∈ kd_XL, w.before args s = true) : ∀ w ∈ Bundle.passSAtoms "java/lang/IllegalArgumentException" "java/lang/RuntimeException" 7 prog_14_method_2_code, w.before args s = true := List.forall_mem_cons.mpr ⟨(hts _ w_441), List.forall_mem_cons.mpr ⟨(hts _ w_442), List.forall_mem_cons.mpr ⟨(hts _ w_443), List.forall_mem_cons.mpr ⟨(hts _ w_444), List.forall_mem_cons.mpr ⟨(hx0 _ (by simp [kd_XL])), fun _ h => absurd h List.not_mem_nil⟩⟩⟩⟩⟩
theorem kd_ch_iae (hts : ∀ w ∈ BW, w.before args s = true) (hx0 : ∀ w ∈ kd_XL, w.before args s = true) {pl : Platform} (hpl : pl.magicAccessors = ({} : Platform).magicAccessors) : kd_chain "java/lang/IllegalArgumentException" pl s := by
  intro top htop
  obtain ⟨P1, L1, m1, u1⟩ := PassC.ofS_atoms (args := args) (s := s) hpl (X := "java/lang/IllegalArgumentException") (Y := "java/lang/RuntimeException") (index := 7) (bytes := prog_14_method_2_code) (by decide) (by decide) (by decide +kernel) (by decide +kernel) (by decide +kernel) (by decide +kernel) (kd_ps_iae hts hx0)
  obtain ⟨P2, L2, m2, u2⟩ := PassC.ofS_atoms (args := args) (s := s) hpl (X := "java/lang/RuntimeException") (Y := "java/lang/Exception") (index := 7) (bytes := prog_17_method_2_code) (by decide) (by decide) (by decide +kernel) (by decide +kernel) (by decide +kernel) (by decide +kernel) (kd_ps_rt hts hx0)
  obtain ⟨P3, L3, m3, u3⟩ := PassC.ofS_atoms (args := args) (s := s) hpl (X := "java/lang/Exception") (Y := "java/lang/Throwable") (index := 7) (bytes := prog_13_method_2_code) (by decide) (by decide) (by decide +kernel) (by decide +kernel) (by decide +kernel) (by decide +kernel) (kd_ps_ex hts hx0)
  refine ⟨P1, [P2, P3], rfl, L1, ?_, m1, Option.some.inj (u1.symm.trans m2), Option.some.inj (u2.symm.trans m3), Option.some.inj (u3.symm.trans htop), trivial⟩
  intro P hP
  rcases List.mem_cons.mp hP with rfl | hP
  · exact L2
  · rw [List.mem_singleton.mp hP]; exact L3
theorem kd_ps_ise (hts : ∀ w ∈ BW, w.before args s = true) (hx0 : ∀ w ∈ kd_XL, w.before args s = true) : ∀ w ∈ Bundle.passSAtoms "java/lang/IllegalStateException" "java/lang/RuntimeException" 7 prog_15_method_2_code, w.before args s = true := List.forall_mem_cons.mpr ⟨(hts _ w_476), List.forall_mem_cons.mpr ⟨(hts _ w_477), List.forall_mem_cons.mpr ⟨(hts _ w_478), List.forall_mem_cons.mpr ⟨(hts _ w_444), List.forall_mem_cons.mpr ⟨(hx0 _ (by simp [kd_XL])), fun _ h => absurd h List.not_mem_nil⟩⟩⟩⟩⟩
theorem kd_ch_ise (hts : ∀ w ∈ BW, w.before args s = true) (hx0 : ∀ w ∈ kd_XL, w.before args s = true) {pl : Platform} (hpl : pl.magicAccessors = ({} : Platform).magicAccessors) : kd_chain "java/lang/IllegalStateException" pl s := by
  intro top htop
  obtain ⟨P1, L1, m1, u1⟩ := PassC.ofS_atoms (args := args) (s := s) hpl (X := "java/lang/IllegalStateException") (Y := "java/lang/RuntimeException") (index := 7) (bytes := prog_15_method_2_code) (by decide) (by decide) (by decide +kernel) (by decide +kernel) (by decide +kernel) (by decide +kernel) (kd_ps_ise hts hx0)
  obtain ⟨P2, L2, m2, u2⟩ := PassC.ofS_atoms (args := args) (s := s) hpl (X := "java/lang/RuntimeException") (Y := "java/lang/Exception") (index := 7) (bytes := prog_17_method_2_code) (by decide) (by decide) (by decide +kernel) (by decide +kernel) (by decide +kernel) (by decide +kernel) (kd_ps_rt hts hx0)
  obtain ⟨P3, L3, m3, u3⟩ := PassC.ofS_atoms (args := args) (s := s) hpl (X := "java/lang/Exception") (Y := "java/lang/Throwable") (index := 7) (bytes := prog_13_method_2_code) (by decide) (by decide) (by decide +kernel) (by decide +kernel) (by decide +kernel) (by decide +kernel) (kd_ps_ex hts hx0)
  refine ⟨P1, [P2, P3], rfl, L1, ?_, m1, Option.some.inj (u1.symm.trans m2), Option.some.inj (u2.symm.trans m3), Option.some.inj (u3.symm.trans htop), trivial⟩
  intro P hP
  rcases List.mem_cons.mp hP with rfl | hP
  · exact L2
  · rw [List.mem_singleton.mp hP]; exact L3
theorem kd_ps_are (hts : ∀ w ∈ BW, w.before args s = true) (hx0 : ∀ w ∈ kd_XL, w.before args s = true) : ∀ w ∈ Bundle.passSAtoms "java/lang/ArithmeticException" "java/lang/RuntimeException" 7 prog_12_method_2_code, w.before args s = true := List.forall_mem_cons.mpr ⟨(hts _ w_560), List.forall_mem_cons.mpr ⟨(hts _ w_561), List.forall_mem_cons.mpr ⟨(hts _ w_562), List.forall_mem_cons.mpr ⟨(hts _ w_444), List.forall_mem_cons.mpr ⟨(hx0 _ (by simp [kd_XL])), fun _ h => absurd h List.not_mem_nil⟩⟩⟩⟩⟩
theorem kd_ch_are (hts : ∀ w ∈ BW, w.before args s = true) (hx0 : ∀ w ∈ kd_XL, w.before args s = true) {pl : Platform} (hpl : pl.magicAccessors = ({} : Platform).magicAccessors) : kd_chain "java/lang/ArithmeticException" pl s := by
  intro top htop
  obtain ⟨P1, L1, m1, u1⟩ := PassC.ofS_atoms (args := args) (s := s) hpl (X := "java/lang/ArithmeticException") (Y := "java/lang/RuntimeException") (index := 7) (bytes := prog_12_method_2_code) (by decide) (by decide) (by decide +kernel) (by decide +kernel) (by decide +kernel) (by decide +kernel) (kd_ps_are hts hx0)
  obtain ⟨P2, L2, m2, u2⟩ := PassC.ofS_atoms (args := args) (s := s) hpl (X := "java/lang/RuntimeException") (Y := "java/lang/Exception") (index := 7) (bytes := prog_17_method_2_code) (by decide) (by decide) (by decide +kernel) (by decide +kernel) (by decide +kernel) (by decide +kernel) (kd_ps_rt hts hx0)
  obtain ⟨P3, L3, m3, u3⟩ := PassC.ofS_atoms (args := args) (s := s) hpl (X := "java/lang/Exception") (Y := "java/lang/Throwable") (index := 7) (bytes := prog_13_method_2_code) (by decide) (by decide) (by decide +kernel) (by decide +kernel) (by decide +kernel) (by decide +kernel) (kd_ps_ex hts hx0)
  refine ⟨P1, [P2, P3], rfl, L1, ?_, m1, Option.some.inj (u1.symm.trans m2), Option.some.inj (u2.symm.trans m3), Option.some.inj (u3.symm.trans htop), trivial⟩
  intro P hP
  rcases List.mem_cons.mp hP with rfl | hP
  · exact L2
  · rw [List.mem_singleton.mp hP]; exact L3
theorem kd_ps_nse (hts : ∀ w ∈ BW, w.before args s = true) (hx0 : ∀ w ∈ kd_XL, w.before args s = true) : ∀ w ∈ Bundle.passSAtoms "java/util/NoSuchElementException" "java/lang/RuntimeException" 13 prog_24_method_4_code, w.before args s = true := List.forall_mem_cons.mpr ⟨(hts _ w_768), List.forall_mem_cons.mpr ⟨(hts _ w_769), List.forall_mem_cons.mpr ⟨(hts _ w_770), List.forall_mem_cons.mpr ⟨(hts _ w_444), List.forall_mem_cons.mpr ⟨(hx0 _ (by simp [kd_XL])), fun _ h => absurd h List.not_mem_nil⟩⟩⟩⟩⟩
theorem kd_ch_nse (hts : ∀ w ∈ BW, w.before args s = true) (hx0 : ∀ w ∈ kd_XL, w.before args s = true) {pl : Platform} (hpl : pl.magicAccessors = ({} : Platform).magicAccessors) : kd_chain "java/util/NoSuchElementException" pl s := by
  intro top htop
  obtain ⟨P1, L1, m1, u1⟩ := PassC.ofS_atoms (args := args) (s := s) hpl (X := "java/util/NoSuchElementException") (Y := "java/lang/RuntimeException") (index := 13) (bytes := prog_24_method_4_code) (by decide) (by decide) (by decide +kernel) (by decide +kernel) (by decide +kernel) (by decide +kernel) (kd_ps_nse hts hx0)
  obtain ⟨P2, L2, m2, u2⟩ := PassC.ofS_atoms (args := args) (s := s) hpl (X := "java/lang/RuntimeException") (Y := "java/lang/Exception") (index := 7) (bytes := prog_17_method_2_code) (by decide) (by decide) (by decide +kernel) (by decide +kernel) (by decide +kernel) (by decide +kernel) (kd_ps_rt hts hx0)
  obtain ⟨P3, L3, m3, u3⟩ := PassC.ofS_atoms (args := args) (s := s) hpl (X := "java/lang/Exception") (Y := "java/lang/Throwable") (index := 7) (bytes := prog_13_method_2_code) (by decide) (by decide) (by decide +kernel) (by decide +kernel) (by decide +kernel) (by decide +kernel) (kd_ps_ex hts hx0)
  refine ⟨P1, [P2, P3], rfl, L1, ?_, m1, Option.some.inj (u1.symm.trans m2), Option.some.inj (u2.symm.trans m3), Option.some.inj (u3.symm.trans htop), trivial⟩
  intro P hP
  rcases List.mem_cons.mp hP with rfl | hP
  · exact L2
  · rw [List.mem_singleton.mp hP]; exact L3
end KC
