/-- a contract that returns, under an entry state of the law -/
def CtrW (l : Launch) (y : MethodName) (cw : Cond) (fr lo mc ms : Nat) (n0 : Nat → Prop) (g : WG) (s0 : State) (av : List Value) (P : Heap → Prop) (Qp : Option Value → Heap → Heap → Prop) : Prop :=
  Met l y (cw :: BW) { frames := fr, cells := mc, slots := ms, locals := lo } (va_Pc av (fun U => KW g U ∧ s0.WarmedH U.vm ∧ P U.heap)) (QcP Qp) mc ms (fun q => n0 q)
theorem ctrW_mk (l : Launch) {y : MethodName} {cc : ByteArray} {nL : Nat} {ret : Option FieldType} {fr lo mc ms : Nat} {n0 : Nat → Prop} {g : WG} {s0 : State} {av : List Value} {P : Heap → Prop} {Qp : Option Value → Heap → Heap → Prop} {lv0 : List (Nat × Value)}
    (hy : plainName y.cls = true) (hsz : (lg_sl av).length ≤ nL) (hlv : lv_args 0 av = lv0)
    (body : ∀ (p : Program) (e : Env) (s : State) (m : MethodId) (below : List Frame) (meth : Method) (c : Code) (ls : Array Slot), EV p m c cc nL s av.toArray y.cls g → s0.WarmedH s.vm → meth.sig.returnType = ret → meth.locks = false → meth.name = y.name → lv_has ls nL lv0 → P s.heap →
      W p l e { frames := fr, cells := mc, slots := ms, locals := lo } s m av.toArray below meth c s.heap [] 0 0 (MQ below (QcP Qp) av.toArray s mc ms (fun q => n0 q)) (F0 m 0 ls [])) :
    CtrW l y (.code y cc nL ret) fr lo mc ms n0 g s0 av P Qp := by
  refine Met.ofW (cc := cc) (maxL := nL) (ret := ret) hy rfl ?_
  intro p e s m args below meth c s₁ B hml hv
  obtain ⟨rfl, hK, hW, hP⟩ := hv
  have hts := atoms_spec (ws := Cond.code y cc nL ret :: BW) B.pre
  have hl := lv_entry av (n := nL) hsz
  rw [lg_entry_eq]
  rw [hlv] at hl
  exact body p e s m below meth c _ ⟨B.exec, B.bytes, hml, findClass_of_methodNamed B.named, fun w hw => hts w (List.mem_cons_of_mem _ hw), hK⟩ hW B.returns B.notSynchronized (name_of_methodNamed B.named B.method).1 hl hP
section KRW
variable {p : Program} {l : Launch} {e : Env} {R : Room} {s : State} {m : MethodId} {args : Array Value} {below : List Frame} {meth : Method} {c : Code} {H : Heap} {locs : List Loc} {cells slots : Nat} {Q : State → Prop}
variable {cc : ByteArray} {nL : Nat} {pc : Nat} {ls : Array Slot} {rest : List Value} {g : WG} {own : String} {n0 : Nat → Prop} {a : Nat} {s0 : State}
theorem q_preW {av : List Value} {P : Heap → Prop} (hK : KW g s) (hw0 : s0.WarmedH s.vm) (hP : P H) : PreS s H (va_Pc av (fun U => KW g U ∧ s0.WarmedH U.vm ∧ P U.heap)) av :=
  ⟨fun a U g' mk q => by obtain ⟨q0, q1, q2, q3⟩ := q; exact ⟨q0, KW.moved (u := U) (U := U.calling g' mk a) (Vm.Alike.refl U.vm) q1, q2, q3⟩, fun U hU hW => ⟨rfl, KW.moved hW.alike hK, State.WarmedH.trans hw0 hW, by rw [hU]; exact hP⟩⟩
theorem q_cVW {index maxL fr lo mc ms n : Nat} {y : MethodName} {bytes : ByteArray} {ret : Option FieldType} {b : Nat} {As st0 : List Value} {P : Heap → Prop} {Qp : Option Value → Heap → Heap → Prop} (E : EV p m c cc nL s args own g) (hw0 : s0.WarmedH s.vm)
    (hM : CtrW l y (.code y bytes maxL ret) fr lo mc ms n0 g s0 (.ref b :: As) P Qp) (hcw : Cond.code y bytes maxL ret ∈ BW) (hini : Cond.initialized y.cls ∈ BW) (hl : Cond.methodLink own index y ∈ BW) (him : Cond.instanceMethod y ∈ BW) (hsel : Cond.selects y.cls y y ∈ BW)
    (hd : y.cls ≠ "java/lang/invoke/MethodHandle" ∧ y.cls ≠ "java/lang/invoke/VarHandle" ∧ (parseMethodDescriptor y.desc).map (fun d => d.parameters.length) = some n) (hn : As.length = n) (hR : fr + 1 ≤ R.frames ∧ 8 + (maxL + 11) + lo ≤ R.locals)
    (hrecv : ∃ cell : Cell, H[b]? = some cell ∧ cell.vm.isStatics = false ∧ s.vm.findClass y.cls = some cell.cls) (hP : P H) (hF : ∀ q ∈ locs, n0 q.base) (hls : ls.size = nL) (hst : st0 = As.reverse ++ .ref b :: rest) (hW : (rest.map fun v => v.category).sum ≤ 8) (hdg : decode cc pc = .ok (.invokevirtual index, 3)) (hf : cells + mc ≤ R.cells ∧ slots + ms ≤ R.slots)
    (kk : ∀ (v : Option Value) (H' : Heap) (locs' : List Loc), Qp v H H' → (∀ q ∈ locs', n0 q.base) → W p l e R s m args below meth c H' locs' (cells + mc) (slots + ms) Q (F0 m (pc + 3) ls (v.toList ++ rest))) : W p l e R s m args below meth c H locs cells slots Q (F0 m pc ls st0) := by
  have hpre := q_preW (H := H) (s := s) (av := .ref b :: As) E.2.2.2.2.2 hw0 hP
  exact q_run (W.runV (C := y.cls) (Ts := BW) ⟨E.1, E.2.1, E.2.2.1, E.2.2.2.1, E.2.2.2.2.1⟩ hM ⟨q_cb E n hcw hini hl hd hR, E.2.2.2.2.1 _ him, E.2.2.2.2.1 _ hsel⟩ ⟨hpre.1, hrecv, hpre.2⟩ rfl hn hls hst (lv_room hW) hdg hf) hF kk
theorem q_cSW {index maxL fr lo mc ms n : Nat} {y : MethodName} {bytes : ByteArray} {ret : Option FieldType} {As st0 : List Value} {P : Heap → Prop} {Qp : Option Value → Heap → Heap → Prop} (E : EV p m c cc nL s args own g) (hw0 : s0.WarmedH s.vm)
    (hM : CtrW l y (.code y bytes maxL ret) fr lo mc ms n0 g s0 As P Qp) (hcw : Cond.code y bytes maxL ret ∈ BW) (hini : Cond.initialized y.cls ∈ BW) (hl : Cond.methodLink own index y ∈ BW) (him : Cond.static y ∈ BW)
    (hd : y.cls ≠ "java/lang/invoke/MethodHandle" ∧ y.cls ≠ "java/lang/invoke/VarHandle" ∧ (parseMethodDescriptor y.desc).map (fun d => d.parameters.length) = some n) (hn : As.length = n) (hR : fr + 1 ≤ R.frames ∧ 8 + (maxL + 11) + lo ≤ R.locals)
    (hP : P H) (hF : ∀ q ∈ locs, n0 q.base) (hls : ls.size = nL) (hst : st0 = As.reverse ++ rest) (hW : (rest.map fun v => v.category).sum ≤ 8) (hdg : decode cc pc = .ok (.invokestatic index, 3)) (hf : cells + mc ≤ R.cells ∧ slots + ms ≤ R.slots)
    (kk : ∀ (v : Option Value) (H' : Heap) (locs' : List Loc), Qp v H H' → (∀ q ∈ locs', n0 q.base) → W p l e R s m args below meth c H' locs' (cells + mc) (slots + ms) Q (F0 m (pc + 3) ls (v.toList ++ rest))) : W p l e R s m args below meth c H locs cells slots Q (F0 m pc ls st0) :=
  q_run (W.runS (Ts := BW) ⟨E.1, E.2.1, E.2.2.1, E.2.2.2.1, E.2.2.2.2.1⟩ hM ⟨q_cb E n hcw hini hl hd hR, E.2.2.2.2.1 _ him⟩ (q_preW E.2.2.2.2.2 hw0 hP) rfl hn hls hst (lv_room hW) hdg hf) hF kk
theorem q_cIW {index maxL fr lo mc ms n : Nat} {y : MethodName} {bytes : ByteArray} {b : Nat} {As st0 : List Value} {P : Heap → Prop} {Qp : Option Value → Heap → Heap → Prop} (E : EV p m c cc nL s args own g) (hw0 : s0.WarmedH s.vm)
    (hM : CtrW l y (.code y bytes maxL none) fr lo mc ms n0 g s0 (.ref b :: As) P Qp) (hcw : Cond.code y bytes maxL none ∈ BW) (hini : Cond.initialized y.cls ∈ BW) (hl : Cond.methodLink own index y ∈ BW) (him : Cond.instanceMethod y ∈ BW) (hyn : y.name = "<init>")
    (hd : y.cls ≠ "java/lang/invoke/MethodHandle" ∧ y.cls ≠ "java/lang/invoke/VarHandle" ∧ (parseMethodDescriptor y.desc).map (fun d => d.parameters.length) = some n) (hn : As.length = n) (hR : fr + 1 ≤ R.frames ∧ 8 + (maxL + 11) + lo ≤ R.locals)
    (hP : P H) (hF : ∀ q ∈ locs, n0 q.base) (hls : ls.size = nL) (hst : st0 = As.reverse ++ .ref b :: rest) (hW : (rest.map fun v => v.category).sum ≤ 8) (hdg : decode cc pc = .ok (.invokespecial index, 3)) (hf : cells + mc ≤ R.cells ∧ slots + ms ≤ R.slots)
    (kk : ∀ (v : Option Value) (H' : Heap) (locs' : List Loc), Qp v H H' → (∀ q ∈ locs', n0 q.base) → W p l e R s m args below meth c H' locs' (cells + mc) (slots + ms) Q (F0 m (pc + 3) ls (v.toList ++ rest))) : W p l e R s m args below meth c H locs cells slots Q (F0 m pc ls st0) :=
  q_run (W.runI (Ts := BW) ⟨E.1, E.2.1, E.2.2.1, E.2.2.2.1, E.2.2.2.2.1⟩ hM ⟨q_cb E n hcw hini hl hd hR, hyn, E.2.2.2.2.1 _ him⟩ (q_preW E.2.2.2.2.2 hw0 hP) rfl hn hls hst (lv_room hW) hdg hf) hF kk
theorem q_nret {Qp : Option Value → Heap → Heap → Prop} {v : Int32} {ty : FieldType} (E : EV p m c cc nL s args own g) (hr : meth.sig.returnType = some ty) (hv : narrow ty (.int v) = .int v) (hlk : meth.locks = false) (hq : Qp (some (.int v)) s.heap H) (hF : ∀ q ∈ locs, n0 q.base) (hdg : decode cc pc = .ok (.ireturn, 1)) : W p l e R s m args below meth c H locs cells slots (MQ below (QcP Qp) args s cells slots (fun q => n0 q)) (F0 m pc ls [.int v]) :=
  W.zret E.1 E.2.1 hr hv (fun t ht _ => ⟨some (.int v), rfl, by rw [ht]; exact hq⟩) hF hdg hlk
end KRW
/-- cells that the law's own run made -/
def HXA (s0 : State) : Nat → Prop := fun q => s0.heap.size ≤ q
/-- the two static fields that String's methods read -/
def KS (s0 : State) : Prop := va_Z "java/lang/String" "COMPACT_STRINGS" "Z" (.int 1) (HXA s0) s0 s0.heap ∧ ∃ r : Value, r.isRef = true ∧ va_Z "jdk/internal/util/Preconditions" "SIOOBE_FORMATTER" "Ljava/util/function/BiFunction;" r (HXA s0) s0 s0.heap
/-- a constant text at a: its bytes -/
def KT (s0 : State) (a n : Nat) (f : Nat → Int32) : Prop := va_O "java/lang/String" a (HXA s0) s0 s0.heap ∧ va_OF "java/lang/String" "coder" "B" (.int 0) a (HXA s0) s0 s0.heap ∧ ∃ v, va_OF "java/lang/String" "value" "[B" (.ref v) a (HXA s0) s0 s0.heap ∧ va_T .byte v n (fun j => .int (f j)) (HXA s0) s0 s0.heap
theorem kt_S {s0 : State} {n0 : Nat → Prop} {H : Heap} {locs : List Loc} (hn0 : ∀ q, n0 q → s0.heap.size ≤ q) (hF : ∀ q ∈ locs, n0 q.base) : va_S (HXA s0) H H locs := ⟨Nat.le_refl _, fun _ _ _ => rfl, fun q hq => hn0 _ (hF q hq)⟩
theorem kt_Z {s0 s : State} {C n d : String} {v : Value} (hZ : va_Z C n d v (HXA s0) s0 s0.heap) (hw0 : s0.WarmedH s.vm) (ho : OLD s0 s.heap) : va_Z C n d v (HXA s0) s s.heap := (hZ.moved hw0.alike).kept (fun a ha _ => ho a ha)
theorem kt_OF {s0 s : State} {C n d : String} {v : Value} {t : Nat} (hZ : va_OF C n d v t (HXA s0) s0 s0.heap) (hw0 : s0.WarmedH s.vm) (ho : OLD s0 s.heap) : va_OF C n d v t (HXA s0) s s.heap := (hZ.moved hw0.alike).kept (fun a ha _ => ho a ha)
theorem kt_T {s0 s : State} {ty : FieldType} {t N : Nat} {f : Nat → Value} (hZ : va_T ty t N f (HXA s0) s0 s0.heap) (hw0 : s0.WarmedH s.vm) (ho : OLD s0 s.heap) : va_T ty t N f (HXA s0) s s.heap := (hZ.moved hw0.alike).kept (fun a ha _ => ho a ha)
theorem kt_R {s0 s : State} {H : Heap} {C : String} {t : Nat} (hZ : va_O C t (HXA s0) s0 s0.heap) (hw0 : s0.WarmedH s.vm) (ho : OLD s0 H) : ∃ cell : Cell, H[t]? = some cell ∧ cell.vm.isStatics = false ∧ s.vm.findClass C = some cell.cls := by
  obtain ⟨cell, h1, h2, h3, -⟩ := (va_O.moved (U := s) hw0.alike hZ).kept (H1 := H) (fun a ha _ => ho a ha)
  exact ⟨cell, h1, h2, h3⟩
abbrev y_String_coder : MethodName := ⟨"java/lang/String", "coder", "()B"⟩
theorem hd_String_coder : y_String_coder.cls ≠ "java/lang/invoke/MethodHandle" ∧ y_String_coder.cls ≠ "java/lang/invoke/VarHandle" ∧ (parseMethodDescriptor y_String_coder.desc).map (fun d => d.parameters.length) = some 0 := by decide +kernel
theorem d_String_coder_0 : decode prog_18_method_152_code 0 = .ok (.getstatic 38, 3) := by decide +kernel
theorem d_String_coder_3 : decode prog_18_method_152_code 3 = .ok (.ifCond .eq 10, 3) := by decide +kernel
theorem d_String_coder_6 : decode prog_18_method_152_code 6 = .ok (.aload_n 0, 1) := by decide +kernel
theorem d_String_coder_7 : decode prog_18_method_152_code 7 = .ok (.getfield 15, 3) := by decide +kernel
theorem d_String_coder_10 : decode prog_18_method_152_code 10 = .ok (.goto 4, 3) := by decide +kernel
theorem d_String_coder_13 : decode prog_18_method_152_code 13 = .ok (.iconst 1, 1) := by decide +kernel
theorem d_String_coder_14 : decode prog_18_method_152_code 14 = .ok (.ireturn, 1) := by decide +kernel
abbrev y_String_isLatin1 : MethodName := ⟨"java/lang/String", "isLatin1", "()Z"⟩
theorem hd_String_isLatin1 : y_String_isLatin1.cls ≠ "java/lang/invoke/MethodHandle" ∧ y_String_isLatin1.cls ≠ "java/lang/invoke/VarHandle" ∧ (parseMethodDescriptor y_String_isLatin1.desc).map (fun d => d.parameters.length) = some 0 := by decide +kernel
theorem d_String_isLatin1_0 : decode prog_18_method_154_code 0 = .ok (.getstatic 38, 3) := by decide +kernel
theorem d_String_isLatin1_3 : decode prog_18_method_154_code 3 = .ok (.ifCond .eq 14, 3) := by decide +kernel
theorem d_String_isLatin1_6 : decode prog_18_method_154_code 6 = .ok (.aload_n 0, 1) := by decide +kernel
theorem d_String_isLatin1_7 : decode prog_18_method_154_code 7 = .ok (.getfield 15, 3) := by decide +kernel
theorem d_String_isLatin1_10 : decode prog_18_method_154_code 10 = .ok (.ifCond .ne 7, 3) := by decide +kernel
theorem d_String_isLatin1_13 : decode prog_18_method_154_code 13 = .ok (.iconst 1, 1) := by decide +kernel
theorem d_String_isLatin1_14 : decode prog_18_method_154_code 14 = .ok (.goto 4, 3) := by decide +kernel
theorem d_String_isLatin1_17 : decode prog_18_method_154_code 17 = .ok (.iconst 0, 1) := by decide +kernel
theorem d_String_isLatin1_18 : decode prog_18_method_154_code 18 = .ok (.ireturn, 1) := by decide +kernel
abbrev y_String_length : MethodName := ⟨"java/lang/String", "length", "()I"⟩
theorem hd_String_length : y_String_length.cls ≠ "java/lang/invoke/MethodHandle" ∧ y_String_length.cls ≠ "java/lang/invoke/VarHandle" ∧ (parseMethodDescriptor y_String_length.desc).map (fun d => d.parameters.length) = some 0 := by decide +kernel
theorem d_String_length_0 : decode prog_18_method_54_code 0 = .ok (.aload_n 0, 1) := by decide +kernel
theorem d_String_length_1 : decode prog_18_method_54_code 1 = .ok (.getfield 9, 3) := by decide +kernel
theorem d_String_length_4 : decode prog_18_method_54_code 4 = .ok (.arraylength, 1) := by decide +kernel
theorem d_String_length_5 : decode prog_18_method_54_code 5 = .ok (.aload_n 0, 1) := by decide +kernel
theorem d_String_length_6 : decode prog_18_method_54_code 6 = .ok (.invokevirtual 335, 3) := by decide +kernel
theorem d_String_length_9 : decode prog_18_method_54_code 9 = .ok (.ishr, 1) := by decide +kernel
theorem d_String_length_10 : decode prog_18_method_54_code 10 = .ok (.ireturn, 1) := by decide +kernel
abbrev y_Pre_checkIndex : MethodName := ⟨"jdk/internal/util/Preconditions", "checkIndex", "(IILjava/util/function/BiFunction;)I"⟩
theorem hd_Pre_checkIndex : y_Pre_checkIndex.cls ≠ "java/lang/invoke/MethodHandle" ∧ y_Pre_checkIndex.cls ≠ "java/lang/invoke/VarHandle" ∧ (parseMethodDescriptor y_Pre_checkIndex.desc).map (fun d => d.parameters.length) = some 3 := by decide +kernel
theorem d_Pre_checkIndex_0 : decode prog_25_method_11_code 0 = .ok (.iload_n 0, 1) := by decide +kernel
theorem d_Pre_checkIndex_1 : decode prog_25_method_11_code 1 = .ok (.ifCond .lt 8, 3) := by decide +kernel
theorem d_Pre_checkIndex_4 : decode prog_25_method_11_code 4 = .ok (.iload_n 0, 1) := by decide +kernel
theorem d_Pre_checkIndex_5 : decode prog_25_method_11_code 5 = .ok (.iload_n 1, 1) := by decide +kernel
theorem d_Pre_checkIndex_6 : decode prog_25_method_11_code 6 = .ok (.if_icmp .lt 10, 3) := by decide +kernel
theorem d_Pre_checkIndex_16 : decode prog_25_method_11_code 16 = .ok (.iload_n 0, 1) := by decide +kernel
theorem d_Pre_checkIndex_17 : decode prog_25_method_11_code 17 = .ok (.ireturn, 1) := by decide +kernel
abbrev y_String_checkIndex : MethodName := ⟨"java/lang/String", "checkIndex", "(II)V"⟩
theorem hd_String_checkIndex : y_String_checkIndex.cls ≠ "java/lang/invoke/MethodHandle" ∧ y_String_checkIndex.cls ≠ "java/lang/invoke/VarHandle" ∧ (parseMethodDescriptor y_String_checkIndex.desc).map (fun d => d.parameters.length) = some 2 := by decide +kernel
theorem d_String_checkIndex_0 : decode prog_18_method_155_code 0 = .ok (.iload_n 0, 1) := by decide +kernel
theorem d_String_checkIndex_1 : decode prog_18_method_155_code 1 = .ok (.iload_n 1, 1) := by decide +kernel
theorem d_String_checkIndex_2 : decode prog_18_method_155_code 2 = .ok (.getstatic 1053, 3) := by decide +kernel
theorem d_String_checkIndex_5 : decode prog_18_method_155_code 5 = .ok (.invokestatic 1059, 3) := by decide +kernel
theorem d_String_checkIndex_8 : decode prog_18_method_155_code 8 = .ok (.pop, 1) := by decide +kernel
theorem d_String_checkIndex_9 : decode prog_18_method_155_code 9 = .ok (.return_, 1) := by decide +kernel
abbrev y_Latin1_charAt : MethodName := ⟨"java/lang/StringLatin1", "charAt", "([BI)C"⟩
theorem hd_Latin1_charAt : y_Latin1_charAt.cls ≠ "java/lang/invoke/MethodHandle" ∧ y_Latin1_charAt.cls ≠ "java/lang/invoke/VarHandle" ∧ (parseMethodDescriptor y_Latin1_charAt.desc).map (fun d => d.parameters.length) = some 2 := by decide +kernel
theorem d_Latin1_charAt_0 : decode prog_19_method_2_code 0 = .ok (.iload_n 1, 1) := by decide +kernel
theorem d_Latin1_charAt_1 : decode prog_19_method_2_code 1 = .ok (.aload_n 0, 1) := by decide +kernel
theorem d_Latin1_charAt_2 : decode prog_19_method_2_code 2 = .ok (.arraylength, 1) := by decide +kernel
theorem d_Latin1_charAt_3 : decode prog_19_method_2_code 3 = .ok (.invokestatic 9, 3) := by decide +kernel
theorem d_Latin1_charAt_6 : decode prog_19_method_2_code 6 = .ok (.aload_n 0, 1) := by decide +kernel
theorem d_Latin1_charAt_7 : decode prog_19_method_2_code 7 = .ok (.iload_n 1, 1) := by decide +kernel
theorem d_Latin1_charAt_8 : decode prog_19_method_2_code 8 = .ok (.baload, 1) := by decide +kernel
theorem d_Latin1_charAt_9 : decode prog_19_method_2_code 9 = .ok (.sipush 255, 3) := by decide +kernel
theorem d_Latin1_charAt_12 : decode prog_19_method_2_code 12 = .ok (.iand, 1) := by decide +kernel
theorem d_Latin1_charAt_13 : decode prog_19_method_2_code 13 = .ok (.i2c, 1) := by decide +kernel
theorem d_Latin1_charAt_14 : decode prog_19_method_2_code 14 = .ok (.ireturn, 1) := by decide +kernel
abbrev y_String_charAt : MethodName := ⟨"java/lang/String", "charAt", "(I)C"⟩
theorem hd_String_charAt : y_String_charAt.cls ≠ "java/lang/invoke/MethodHandle" ∧ y_String_charAt.cls ≠ "java/lang/invoke/VarHandle" ∧ (parseMethodDescriptor y_String_charAt.desc).map (fun d => d.parameters.length) = some 1 := by decide +kernel
theorem d_String_charAt_0 : decode prog_18_method_56_code 0 = .ok (.aload_n 0, 1) := by decide +kernel
theorem d_String_charAt_1 : decode prog_18_method_56_code 1 = .ok (.invokevirtual 492, 3) := by decide +kernel
theorem d_String_charAt_4 : decode prog_18_method_56_code 4 = .ok (.ifCond .eq 12, 3) := by decide +kernel
theorem d_String_charAt_7 : decode prog_18_method_56_code 7 = .ok (.aload_n 0, 1) := by decide +kernel
theorem d_String_charAt_8 : decode prog_18_method_56_code 8 = .ok (.getfield 9, 3) := by decide +kernel
theorem d_String_charAt_11 : decode prog_18_method_56_code 11 = .ok (.iload_n 1, 1) := by decide +kernel
theorem d_String_charAt_12 : decode prog_18_method_56_code 12 = .ok (.invokestatic 495, 3) := by decide +kernel
theorem d_String_charAt_15 : decode prog_18_method_56_code 15 = .ok (.ireturn, 1) := by decide +kernel
set_option maxHeartbeats 4000000 in
set_option maxRecDepth 100000 in
theorem c_String_coder (l : Launch) (g : WG) (n0 : Nat → Prop) (s0 : State) (hn0 : ∀ q, n0 q → s0.heap.size ≤ q) (a n : Nat) (f : Nat → Int32) (hks : KS s0) (hkt : KT s0 a n f) : CtrW l y_String_coder (.code y_String_coder prog_18_method_152_code 1 (some FieldType.byte)) 0 0 0 0 n0 g s0 [.ref a] (fun H => OLD s0 H) (QI (fun r H H' => r = 0 ∧ H' = H)) := by
  refine ctrW_mk l (lv0 := [(0, .ref a)]) (by decide) (Nat.le_of_ble_eq_true rfl) rfl ?_
  intro p e s m below meth c ls E hw0 hr hlk hnm hl hP
  have hx := E.1
  have hb := E.2.1
  have hK := E.2.2.2.2.2
  have hF : ∀ q ∈ ([] : List Loc), n0 q.base := fun q hq => absurd hq List.not_mem_nil
  refine va_gets E.1 E.2.1 (kt_Z hks.1 hw0 hP) (kt_S hn0 hF) E.2.2.2.1 (E.2.2.2.2.1 _ w_99) (fun _ h => h) d_String_coder_0 ?_
  refine lv_if_eq (tgt := 13) hx hb d_String_coder_3 (by decide) (fun h9 => absurd h9 (by decide)) (fun _ => ?_)
  refine lv_aload_n hx hb d_String_coder_6 rfl (lv_at hl 0 rfl) ?_
  refine vk_getf E.1 E.2.1 (kt_OF hkt.2.1 hw0 hP) (kt_S hn0 hF) E.2.2.2.1 (E.2.2.2.2.1 _ w_1255) (fun _ h => h) d_String_coder_7 ?_
  refine lv_goto (tgt := 14) hx hb d_String_coder_10 (by decide) ?_
  exact q_nret E hr (rfl) hlk (⟨_, rfl, rfl, rfl⟩) hF d_String_coder_14
set_option maxHeartbeats 4000000 in
set_option maxRecDepth 100000 in
theorem c_String_isLatin1 (l : Launch) (g : WG) (n0 : Nat → Prop) (s0 : State) (hn0 : ∀ q, n0 q → s0.heap.size ≤ q) (a n : Nat) (f : Nat → Int32) (hks : KS s0) (hkt : KT s0 a n f) : CtrW l y_String_isLatin1 (.code y_String_isLatin1 prog_18_method_154_code 1 (some FieldType.boolean)) 0 0 0 0 n0 g s0 [.ref a] (fun H => OLD s0 H) (QI (fun r H H' => r = nI 1 ∧ H' = H)) := by
  refine ctrW_mk l (lv0 := [(0, .ref a)]) (by decide) (Nat.le_of_ble_eq_true rfl) rfl ?_
  intro p e s m below meth c ls E hw0 hr hlk hnm hl hP
  have hx := E.1
  have hb := E.2.1
  have hK := E.2.2.2.2.2
  have hF : ∀ q ∈ ([] : List Loc), n0 q.base := fun q hq => absurd hq List.not_mem_nil
  refine va_gets E.1 E.2.1 (kt_Z hks.1 hw0 hP) (kt_S hn0 hF) E.2.2.2.1 (E.2.2.2.2.1 _ w_99) (fun _ h => h) d_String_isLatin1_0 ?_
  refine lv_if_eq (tgt := 17) hx hb d_String_isLatin1_3 (by decide) (fun h9 => absurd h9 (by decide)) (fun _ => ?_)
  refine lv_aload_n hx hb d_String_isLatin1_6 rfl (lv_at hl 0 rfl) ?_
  refine vk_getf E.1 E.2.1 (kt_OF hkt.2.1 hw0 hP) (kt_S hn0 hF) E.2.2.2.1 (E.2.2.2.2.1 _ w_1255) (fun _ h => h) d_String_isLatin1_7 ?_
  refine lv_if_ne (tgt := 17) hx hb d_String_isLatin1_10 (by decide) (fun h9 => absurd (rfl) h9) (fun _ => ?_)
  refine lv_iconst (v := nI 1) hx hb d_String_isLatin1_13 (by decide) ?_
  refine lv_goto (tgt := 18) hx hb d_String_isLatin1_14 (by decide) ?_
  exact q_nret E hr (rfl) hlk (⟨_, rfl, rfl, rfl⟩) hF d_String_isLatin1_18
set_option maxHeartbeats 4000000 in
set_option maxRecDepth 100000 in
theorem c_String_length (l : Launch) (g : WG) (n0 : Nat → Prop) (s0 : State) (hn0 : ∀ q, n0 q → s0.heap.size ≤ q) (a n : Nat) (f : Nat → Int32) (hks : KS s0) (hkt : KT s0 a n f) (hn31 : n < 2 ^ 31) : CtrW l y_String_length (.code y_String_length prog_18_method_54_code 1 (some FieldType.int)) 1 20 0 0 n0 g s0 [.ref a] (fun H => OLD s0 H) (QI (fun r H H' => r = nI n ∧ H' = H)) := by
  refine ctrW_mk l (lv0 := [(0, .ref a)]) (by decide) (Nat.le_of_ble_eq_true rfl) rfl ?_
  intro p e s m below meth c ls E hw0 hr hlk hnm hl hP
  have hx := E.1
  have hb := E.2.1
  have hK := E.2.2.2.2.2
  have hF : ∀ q ∈ ([] : List Loc), n0 q.base := fun q hq => absurd hq List.not_mem_nil
  obtain ⟨v, hv, hT⟩ := hkt.2.2
  refine lv_aload_n hx hb d_String_length_0 rfl (lv_at hl 0 rfl) ?_
  refine vk_getf E.1 E.2.1 (kt_OF hv hw0 hP) (kt_S hn0 hF) E.2.2.2.1 (E.2.2.2.2.1 _ w_1254) (fun _ h => h) d_String_length_1 ?_
  refine va_tlen (v := nI n) E.1 E.2.1 (kt_T hT hw0 hP) (kt_S hn0 hF) rfl d_String_length_4 ?_
  refine lv_aload_n hx hb d_String_length_5 rfl (lv_at hl 0 rfl) ?_
  refine q_cVW (rest := [.int (nI n)]) E hw0 (c_String_coder l g n0 s0 hn0 a n f hks hkt) w_98 w_6 w_95 w_96 w_97 hd_String_coder rfl ⟨by decide, by decide⟩ (kt_R hkt.1 hw0 hP) hP hF hl.1 rfl (Nat.le_of_ble_eq_true rfl) d_String_length_6 ⟨by decide, by decide⟩ (qi (fun r H1 locs hq hF => ?_))
  obtain ⟨rfl, hH⟩ := hq
  subst hH
  refine lv_ishr hx hb d_String_length_9 ?_
  refine lv_topi (fun t9 e9 => ?_)
  obtain rfl : t9 = nI n := e9.trans (sc_shr0 hn31)
  exact q_iret E hr hlk (⟨_, rfl, rfl, rfl⟩) hF d_String_length_10
set_option maxHeartbeats 4000000 in
set_option maxRecDepth 100000 in
theorem c_Pre_checkIndex (l : Launch) (g : WG) (n0 : Nat → Prop) (s0 : State) (i n r0 : Nat) (hi : i < n) (hn31 : n < 2 ^ 31) : CtrW l y_Pre_checkIndex (.code y_Pre_checkIndex prog_25_method_11_code 3 (some FieldType.int)) 0 0 0 0 n0 g s0 [.int (nI i), .int (nI n), .ref r0] (fun H => True) (QI (fun r H H' => H' = H)) := by
  refine ctrW_mk l (lv0 := [(0, .int (nI i)), (1, .int (nI n)), (2, .ref r0)]) (by decide) (Nat.le_of_ble_eq_true rfl) rfl ?_
  intro p e s m below meth c ls E hw0 hr hlk hnm hl hP
  have hx := E.1
  have hb := E.2.1
  have hK := E.2.2.2.2.2
  have hF : ∀ q ∈ ([] : List Loc), n0 q.base := fun q hq => absurd hq List.not_mem_nil
  refine lv_iload_n hx hb d_Pre_checkIndex_0 rfl (lv_at hl 0 rfl) ?_
  refine lv_if_lt (tgt := 9) hx hb d_Pre_checkIndex_1 (by decide) (fun h9 => absurd h9 (nI_pos (by omega))) (fun _ => ?_)
  refine lv_iload_n hx hb d_Pre_checkIndex_4 rfl (lv_at hl 0 rfl) ?_
  refine lv_iload_n hx hb d_Pre_checkIndex_5 rfl (lv_at hl 1 rfl) ?_
  refine lv_icmp_lt (tgt := 16) hx hb d_Pre_checkIndex_6 (by decide) (fun _ => ?_) (fun h9 => absurd (nI_lt hi hn31) h9)
  refine lv_iload_n hx hb d_Pre_checkIndex_16 rfl (lv_at hl 0 rfl) ?_
  exact q_iret E hr hlk (⟨_, rfl, rfl⟩) hF d_Pre_checkIndex_17
set_option maxHeartbeats 4000000 in
set_option maxRecDepth 100000 in
theorem c_Pre_checkIndexN (l : Launch) (g : WG) (n0 : Nat → Prop) (s0 : State) (i n r0 : Nat) (hi : i < n) (hn31 : n < 2 ^ 31) : CtrW l y_Pre_checkIndex (.code y_Pre_checkIndex prog_25_method_11_code 3 (some FieldType.int)) 0 0 0 0 n0 g s0 [.int (nI i), .int (nI n), .null] (fun H => True) (QI (fun r H H' => H' = H)) := by
  refine ctrW_mk l (lv0 := [(0, .int (nI i)), (1, .int (nI n)), (2, .null)]) (by decide) (Nat.le_of_ble_eq_true rfl) rfl ?_
  intro p e s m below meth c ls E hw0 hr hlk hnm hl hP
  have hx := E.1
  have hb := E.2.1
  have hK := E.2.2.2.2.2
  have hF : ∀ q ∈ ([] : List Loc), n0 q.base := fun q hq => absurd hq List.not_mem_nil
  refine lv_iload_n hx hb d_Pre_checkIndex_0 rfl (lv_at hl 0 rfl) ?_
  refine lv_if_lt (tgt := 9) hx hb d_Pre_checkIndex_1 (by decide) (fun h9 => absurd h9 (nI_pos (by omega))) (fun _ => ?_)
  refine lv_iload_n hx hb d_Pre_checkIndex_4 rfl (lv_at hl 0 rfl) ?_
  refine lv_iload_n hx hb d_Pre_checkIndex_5 rfl (lv_at hl 1 rfl) ?_
  refine lv_icmp_lt (tgt := 16) hx hb d_Pre_checkIndex_6 (by decide) (fun _ => ?_) (fun h9 => absurd (nI_lt hi hn31) h9)
  refine lv_iload_n hx hb d_Pre_checkIndex_16 rfl (lv_at hl 0 rfl) ?_
  exact q_iret E hr hlk (⟨_, rfl, rfl⟩) hF d_Pre_checkIndex_17
set_option maxHeartbeats 4000000 in
set_option maxRecDepth 100000 in
theorem c_String_checkIndex (l : Launch) (g : WG) (n0 : Nat → Prop) (s0 : State) (hn0 : ∀ q, n0 q → s0.heap.size ≤ q) (i n : Nat) (hks : KS s0) (hi : i < n) (hn31 : n < 2 ^ 31) : CtrW l y_String_checkIndex (.code y_String_checkIndex prog_18_method_155_code 2 none) 1 22 0 0 n0 g s0 [.int (nI i), .int (nI n)] (fun H => OLD s0 H) (QV (fun H H' => H' = H)) := by
  refine ctrW_mk l (lv0 := [(0, .int (nI i)), (1, .int (nI n))]) (by decide) (Nat.le_of_ble_eq_true rfl) rfl ?_
  intro p e s m below meth c ls E hw0 hr hlk hnm hl hP
  have hx := E.1
  have hb := E.2.1
  have hK := E.2.2.2.2.2
  have hF : ∀ q ∈ ([] : List Loc), n0 q.base := fun q hq => absurd hq List.not_mem_nil
  obtain ⟨r9, hrf, hz⟩ := hks.2
  obtain hz | ⟨r0, hz⟩ : va_Z "jdk/internal/util/Preconditions" "SIOOBE_FORMATTER" "Ljava/util/function/BiFunction;" .null (HXA s0) s0 s0.heap ∨ ∃ r0, va_Z "jdk/internal/util/Preconditions" "SIOOBE_FORMATTER" "Ljava/util/function/BiFunction;" (.ref r0) (HXA s0) s0 s0.heap := by
    cases r9 <;> first | exact Or.inl hz | exact Or.inr ⟨_, hz⟩ | cases hrf
  · skip
    refine lv_iload_n hx hb d_String_checkIndex_0 rfl (lv_at hl 0 rfl) ?_
    refine lv_iload_n hx hb d_String_checkIndex_1 rfl (lv_at hl 1 rfl) ?_
    refine va_gets E.1 E.2.1 (kt_Z hz hw0 hP) (kt_S hn0 hF) E.2.2.2.1 (E.2.2.2.2.1 _ w_115) (fun _ h => h) d_String_checkIndex_2 ?_
    refine q_cSW (rest := []) E hw0 (c_Pre_checkIndexN l g n0 s0 i n 0 hi hn31) w_119 w_8 w_117 w_118 hd_Pre_checkIndex rfl ⟨by decide, by decide⟩ trivial hF hl.1 rfl (Nat.le_of_ble_eq_true rfl) d_String_checkIndex_5 ⟨by decide, by decide⟩ (qi (fun r H1 locs hq hF => ?_))
    refine lv_pop hx hb d_String_checkIndex_8 rfl ?_
    exact q_vret E hr hlk (⟨rfl, hq⟩) hF d_String_checkIndex_9
  · skip
    refine lv_iload_n hx hb d_String_checkIndex_0 rfl (lv_at hl 0 rfl) ?_
    refine lv_iload_n hx hb d_String_checkIndex_1 rfl (lv_at hl 1 rfl) ?_
    refine va_gets E.1 E.2.1 (kt_Z hz hw0 hP) (kt_S hn0 hF) E.2.2.2.1 (E.2.2.2.2.1 _ w_115) (fun _ h => h) d_String_checkIndex_2 ?_
    refine q_cSW (rest := []) E hw0 (c_Pre_checkIndex l g n0 s0 i n r0 hi hn31) w_119 w_8 w_117 w_118 hd_Pre_checkIndex rfl ⟨by decide, by decide⟩ trivial hF hl.1 rfl (Nat.le_of_ble_eq_true rfl) d_String_checkIndex_5 ⟨by decide, by decide⟩ (qi (fun r H1 locs hq hF => ?_))
    refine lv_pop hx hb d_String_checkIndex_8 rfl ?_
    exact q_vret E hr hlk (⟨rfl, hq⟩) hF d_String_checkIndex_9
set_option maxHeartbeats 4000000 in
set_option maxRecDepth 100000 in
theorem c_Latin1_charAt (l : Launch) (g : WG) (n0 : Nat → Prop) (s0 : State) (hn0 : ∀ q, n0 q → s0.heap.size ≤ q) (v n i : Nat) (f : Nat → Int32) (hks : KS s0) (hT : va_T .byte v n (fun j => .int (f j)) (HXA s0) s0 s0.heap) (hi : i < n) (hn31 : n < 2 ^ 31) : CtrW l y_Latin1_charAt (.code y_Latin1_charAt prog_19_method_2_code 2 (some FieldType.char)) 2 43 0 0 n0 g s0 [.ref v, .int (nI i)] (fun H => OLD s0 H) (QI (fun r H H' => r = f i &&& 255 ∧ H' = H)) := by
  refine ctrW_mk l (lv0 := [(0, .ref v), (1, .int (nI i))]) (by decide) (Nat.le_of_ble_eq_true rfl) rfl ?_
  intro p e s m below meth c ls E hw0 hr hlk hnm hl hP
  have hx := E.1
  have hb := E.2.1
  have hK := E.2.2.2.2.2
  have hF : ∀ q ∈ ([] : List Loc), n0 q.base := fun q hq => absurd hq List.not_mem_nil
  refine lv_iload_n hx hb d_Latin1_charAt_0 rfl (lv_at hl 1 rfl) ?_
  refine lv_aload_n hx hb d_Latin1_charAt_1 rfl (lv_at hl 0 rfl) ?_
  refine va_tlen (v := nI n) E.1 E.2.1 (kt_T hT hw0 hP) (kt_S hn0 hF) rfl d_Latin1_charAt_2 ?_
  refine q_cSW (rest := []) E hw0 (c_String_checkIndex l g n0 s0 hn0 i n hks hi hn31) w_114 w_6 w_112 w_113 hd_String_checkIndex rfl ⟨by decide, by decide⟩ hP hF hl.1 rfl (Nat.le_of_ble_eq_true rfl) d_Latin1_charAt_3 ⟨by decide, by decide⟩ (qv (fun H1 locs hq hF => ?_))
  subst hq
  refine lv_aload_n hx hb d_Latin1_charAt_6 rfl (lv_at hl 0 rfl) ?_
  refine lv_iload_n hx hb d_Latin1_charAt_7 rfl (lv_at hl 1 rfl) ?_
  refine va_tb (v := .int (f i)) E.1 E.2.1 (kt_T hT hw0 hP) (kt_S hn0 hF) (vp_in_nI hi hn31) (by show Value.int (f (nI i).toNatClampNeg) = _; rw [nI_clamp (Nat.lt_trans hi hn31)]) d_Latin1_charAt_8 ?_
  refine lv_sipush (v := nI 255) hx hb d_Latin1_charAt_9 (by decide) ?_
  refine lv_iand hx hb d_Latin1_charAt_12 ?_
  refine lv_i2c (v := f i &&& 255) hx hb d_Latin1_charAt_13 (sc_c2 (f i)) ?_
  exact q_nret E hr (sc_nar (f i)) hlk (⟨_, rfl, rfl, rfl⟩) hF d_Latin1_charAt_14
set_option maxHeartbeats 4000000 in
set_option maxRecDepth 100000 in
theorem c_String_charAt (l : Launch) (g : WG) (n0 : Nat → Prop) (s0 : State) (hn0 : ∀ q, n0 q → s0.heap.size ≤ q) (a n : Nat) (f : Nat → Int32) (hks : KS s0) (hkt : KT s0 a n f) (i : Nat) (hi : i < n) (hn31 : n < 2 ^ 31) : CtrW l y_String_charAt (.code y_String_charAt prog_18_method_56_code 2 (some FieldType.char)) 3 64 0 0 n0 g s0 [.ref a, .int (nI i)] (fun H => OLD s0 H) (QI (fun r H H' => r = f i &&& 255 ∧ H' = H)) := by
  refine ctrW_mk l (lv0 := [(0, .ref a), (1, .int (nI i))]) (by decide) (Nat.le_of_ble_eq_true rfl) rfl ?_
  intro p e s m below meth c ls E hw0 hr hlk hnm hl hP
  have hx := E.1
  have hb := E.2.1
  have hK := E.2.2.2.2.2
  have hF : ∀ q ∈ ([] : List Loc), n0 q.base := fun q hq => absurd hq List.not_mem_nil
  obtain ⟨v, hv, hT⟩ := hkt.2.2
  refine lv_aload_n hx hb d_String_charAt_0 rfl (lv_at hl 0 rfl) ?_
  refine q_cVW (rest := []) E hw0 (c_String_isLatin1 l g n0 s0 hn0 a n f hks hkt) w_108 w_6 w_105 w_106 w_107 hd_String_isLatin1 rfl ⟨by decide, by decide⟩ (kt_R hkt.1 hw0 hP) hP hF hl.1 rfl (Nat.le_of_ble_eq_true rfl) d_String_charAt_1 ⟨by decide, by decide⟩ (qi (fun r H1 locs hq hF => ?_))
  obtain ⟨rfl, hH⟩ := hq
  subst hH
  refine lv_if_eq (tgt := 16) hx hb d_String_charAt_4 (by decide) (fun h9 => absurd h9 (by decide)) (fun _ => ?_)
  refine lv_aload_n hx hb d_String_charAt_7 rfl (lv_at hl 0 rfl) ?_
  refine vk_getf E.1 E.2.1 (kt_OF hv hw0 hP) (kt_S hn0 hF) E.2.2.2.1 (E.2.2.2.2.1 _ w_1254) (fun _ h => h) d_String_charAt_8 ?_
  refine lv_iload_n hx hb d_String_charAt_11 rfl (lv_at hl 1 rfl) ?_
  refine q_cSW (rest := []) E hw0 (c_Latin1_charAt l g n0 s0 hn0 v n i f hks hT hi hn31) w_111 w_7 w_109 w_110 hd_Latin1_charAt rfl ⟨by decide, by decide⟩ hP hF hl.1 rfl (Nat.le_of_ble_eq_true rfl) d_String_charAt_12 ⟨by decide, by decide⟩ (qi (fun r H2 locs hq hF => ?_))
  obtain ⟨rfl, hH⟩ := hq
  subst hH
  exact q_nret E hr (sc_nar (f i)) hlk (⟨_, rfl, rfl, rfl⟩) hF d_String_charAt_15
