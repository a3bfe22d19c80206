
def kd_MSG : List (Nat × String) := [(114, "there are 1 to 8 bytes to feed"), (122, "the tape is full"), (285, "there is no such scalar"), (156, "the value is below 0"), (162, "a scalar has words 0 to 7"), (281, "there are kinds 0 to 3"), (177, "a division by 0"), (196, "the exponent is below 0"), (204, "there are unities 0 to 32"), (287, "there is no such point"), (230, "there is no such byte"), (283, "the number is out of its range"), (262, "there are fewer powers"), (279, "there is nothing such to look at")]
/-- what the law's entry brings for exceptions -/
def XS (l : Launch) (s0 : State) : Prop := l.flags = flags0 ∧ (∀ w ∈ kd_XL, w.before #[] s0 = true) ∧ ∀ kt ∈ kd_MSG, ∃ a, vk_R "KateDesk" kt.1 kt.2 a s0
/-- the cells that were there at the law's entry are as they were -/
def OLD (s0 : State) (H : Heap) : Prop := ∀ q, q < s0.heap.size → H[q]? = s0.heap[q]?
theorem OLD.kj {g : WG} {S : Nat → Prop} {s0 : State} {H H' : Heap} (h : OLD s0 H) (hk : KJ g S H H') (hS : ∀ q, S q → s0.heap.size ≤ q) : OLD s0 H' := fun q hq => (hk.off (fun hs => absurd (hS q hs) (Nat.not_le.mpr hq))).trans (h q hq)
/-- an exception of class X came; all that was there is as it was -/
def TQ (s0 : State) (X : String) (x : Nat) (H H' : Heap) : Prop := H.size ≤ H'.size ∧ (∀ q, q < H.size → H'[q]? = H[q]?) ∧ ∃ cell : Cell, H'[x]? = some cell ∧ s0.vm.findClass X = some cell.cls ∧ cell.vm = .none
section KQ
variable {p : Program} {l : Launch} {e : Env} {R : Room} {s : State} {m : MethodId} {args : Array Value} {below : List Frame} {meth : Method} {c : Code} {H : Heap} {locs : List Loc} {cells slots : Nat} {Q : State → Prop}
variable {cc : ByteArray} {nL : Nat} {pc : Nat} {ls : Array Slot} {rest : List Value} {g : WG} {own : String} {n0 : Nat → Prop} {a : Nat} {s0 : State}
theorem q_ldcSW {own tx : String} {index q : Nat} (hexec : p.tables.exec = Jvm.exec) (hb : c.code = cc) (hown : s.vm.findClass own = some m.cls) (hZ : vk_R own index tx q s) (hdg : decode cc pc = .ok (.ldc_w index, 3))
    (k : W p l e R s m args below meth c H locs cells slots Q (F0 m (pc + 3) ls (.ref q :: rest))) : W p l e R s m args below meth c H locs cells slots Q (F0 m pc ls rest) := by
  intro T hT X
  obtain ⟨t, a1, b1⟩ := k T hT X
  exact ⟨t, X.ldcStringW hexec hown (text := tx) (a := q) hZ.1 hZ.2 (g := F0 m pc ls rest) rfl (by rw [hb]; exact hdg) t a1, b1⟩
/-- new X(text); throw: the same for both forms of ldc: from behind it -/
theorem q_throw1 {cls : String} {ic len : Nat} {bytes : ByteArray} {cX : ClassId} {kX : Class} {q : Nat} (E : EV p m c cc nL s args "KateDesk" g) (hxs : XS l s0) (hw0 : s0.WarmedH s.vm) (ho : OLD s0 s.heap) (hlk : meth.locks = false) (hnh : c.exceptionTable.toList = []) (hn0 : n0 s.heap.size)
    (hXC : kd_XC cls bytes s args) (hl : Cond.methodLink "KateDesk" ic (Bundle.initS cls) ∈ BW) (hfx : s.vm.findClass cls = some cX) (hkX : s.vm.classes[cX]? = some kX) (hls : ls.size = nL)
    (hd1 : decode cc pc = .ok (.invokespecial ic, 3)) (hd2 : decode cc (pc + 3) = .ok (.athrow, 1)) (hRf : 5 < R.frames) (hRl : 82 ≤ R.locals) :
    W p l e R s m args below meth c (s.heap.push (freshCell cX kX)) [] 1 6 (MQT below (TQ s0 cls) s 1 6 n0) (F0 m pc ls [.ref q, .ref s.heap.size, .ref s.heap.size]) := by
  refine q_ctor E hxs.1 hXC hl hfx hkX (by simp) (Nat.le_refl _) rfl hls hd1 hRf (by show 1 + 81 ≤ _; exact hRl) (fun H' L cell h1 h2 h3 h4 h5 h6 => ?_)
  refine q_athrow E.1 E.2.1 hlk hnh (fun y hy => by rw [h6 y hy]; exact hn0) ⟨by rw [h1]; simp, fun q hq => ?_, cell, h2, ?_, h4⟩ hd2
  · rw [h5 q (Nat.ne_of_lt hq), Array.getElem?_push_lt hq]
    simp [hq]
  · rw [h3, ← hw0.alike.findClass]
    exact hfx
theorem q_throw {cls tx : String} {ik ic k : Nat} {bytes : ByteArray} (E : EV p m c cc nL s args "KateDesk" g) (hxs : XS l s0) (hw0 : s0.WarmedH s.vm) (ho : OLD s0 s.heap) (hlk : meth.locks = false) (hnh : c.exceptionTable.toList = []) (hn0 : n0 s.heap.size)
    (hXC : kd_XC cls bytes s args) (hcl : Cond.classLink "KateDesk" ik cls ∈ BW) (hins : Cond.instantiable cls 6 ∈ BW) (hini : Cond.initialized cls ∈ BW) (hl : Cond.methodLink "KateDesk" ic (Bundle.initS cls) ∈ BW) (hm : (k, tx) ∈ kd_MSG) (hls : ls.size = nL)
    (hd0 : decode cc pc = .ok (.new ik, 3)) (hd3 : decode cc (pc + 3) = .ok (.dup, 1)) (hd4 : decode cc (pc + 3 + 1) = .ok (.ldc k, 2)) (hd1 : decode cc (pc + 3 + 1 + 2) = .ok (.invokespecial ic, 3)) (hd2 : decode cc (pc + 3 + 1 + 2 + 3) = .ok (.athrow, 1)) (hRc : 1 ≤ R.cells) (hRs : 6 ≤ R.slots) (hRf : 5 < R.frames) (hRl : 82 ≤ R.locals) :
    W p l e R s m args below meth c s.heap [] 0 0 (MQT below (TQ s0 cls) s 1 6 n0) (F0 m pc ls []) := by
  obtain ⟨q, hq⟩ := hxs.2.2 _ hm
  refine W.newc (n := 6) E.1 E.2.1 E.2.2.2.1 (E.2.2.2.2.1 _ hcl) (E.2.2.2.2.1 _ hins) (E.2.2.2.2.1 _ hini) rfl hd0 (by simpa using hRc) (by simpa using hRs) (fun cX kX hfx hkX _ _ => ?_)
  refine lv_dup E.1 E.2.1 hd3 rfl ?_
  refine va_ldcS E.1 E.2.1 E.2.2.2.1 (vk_R.warm hw0 hq) hd4 ?_
  exact q_throw1 E hxs hw0 ho hlk hnh hn0 hXC hl hfx hkX hls hd1 hd2 hRf hRl (len := 2)
theorem q_throwW {cls tx : String} {ik ic k : Nat} {bytes : ByteArray} (E : EV p m c cc nL s args "KateDesk" g) (hxs : XS l s0) (hw0 : s0.WarmedH s.vm) (ho : OLD s0 s.heap) (hlk : meth.locks = false) (hnh : c.exceptionTable.toList = []) (hn0 : n0 s.heap.size)
    (hXC : kd_XC cls bytes s args) (hcl : Cond.classLink "KateDesk" ik cls ∈ BW) (hins : Cond.instantiable cls 6 ∈ BW) (hini : Cond.initialized cls ∈ BW) (hl : Cond.methodLink "KateDesk" ic (Bundle.initS cls) ∈ BW) (hm : (k, tx) ∈ kd_MSG) (hls : ls.size = nL)
    (hd0 : decode cc pc = .ok (.new ik, 3)) (hd3 : decode cc (pc + 3) = .ok (.dup, 1)) (hd4 : decode cc (pc + 3 + 1) = .ok (.ldc_w k, 3)) (hd1 : decode cc (pc + 3 + 1 + 3) = .ok (.invokespecial ic, 3)) (hd2 : decode cc (pc + 3 + 1 + 3 + 3) = .ok (.athrow, 1)) (hRc : 1 ≤ R.cells) (hRs : 6 ≤ R.slots) (hRf : 5 < R.frames) (hRl : 82 ≤ R.locals) :
    W p l e R s m args below meth c s.heap [] 0 0 (MQT below (TQ s0 cls) s 1 6 n0) (F0 m pc ls []) := by
  obtain ⟨q, hq⟩ := hxs.2.2 _ hm
  refine W.newc (n := 6) E.1 E.2.1 E.2.2.2.1 (E.2.2.2.2.1 _ hcl) (E.2.2.2.2.1 _ hins) (E.2.2.2.2.1 _ hini) rfl hd0 (by simpa using hRc) (by simpa using hRs) (fun cX kX hfx hkX _ _ => ?_)
  refine lv_dup E.1 E.2.1 hd3 rfl ?_
  refine q_ldcSW E.1 E.2.1 E.2.2.2.1 (vk_R.warm hw0 hq) hd4 ?_
  exact q_throw1 E hxs hw0 ho hlk hnh hn0 hXC hl hfx hkX hls hd1 hd2 hRf hRl (len := 3)
end KQ
