def nM (mo : Nat) : Nat → Prop := fun q => mo ≤ q ∧ q ≤ mo + 8
theorem J14.on {g : WG} {n0 : Nat → Prop} {H H' : Heap} {a : Nat} (h : J14 g n0 H a) (he : H'[a]? = H[a]?) : J14 g n0 H' a := ⟨h.1, h.2.imp (fun f hf => hf.eq he)⟩
theorem PT.on {g : WG} {n0 : Nat → Prop} {H H' : Heap} {o x y z : Nat} (h : PT g n0 H o x y z) (h0 : H'[o]? = H[o]?) (h1 : H'[x]? = H[x]?) (h2 : H'[y]? = H[y]?) (h3 : H'[z]? = H[z]?) : PT g n0 H' o x y z := ⟨h.1.eq h0, h.2.1.on h1, h.2.2.1.on h2, h.2.2.2.on h3⟩
theorem FD.onE {g : WG} {n0 : Nat → Prop} {H H' : Heap} {o : Nat} {F : Nat → Nat} {mi : Int64} (h : FD g n0 H o F mi) (h0 : H'[o]? = H[o]?) (h1 : ∀ k, k < 6 → H'[F k]? = H[F k]?) : FD g n0 H' o F mi := ⟨h.1.eq h0, fun k hk => (h.2 k hk).on (h1 k hk)⟩
theorem nd_O0 {b k : Nat} (hk : k < 64) : nD b (kO b k) := by unfold nD kO; omega
theorem nd_PA0 {b k : Nat} (hk : k < 12) : nD b (kPA b k) := by unfold nD kPA; omega
theorem nd_PW0 {b k : Nat} (hk : k < 16) : nD b (kPW b k) := by unfold nD kPW; omega
theorem DK.on {g : WG} {n0 : Nat → Prop} {H H' : Heap} {b : Nat} {pc ts wz : Int32} {mr mq : Int64} (h : DK g n0 H b pc ts wz mr mq) (he : ∀ q, nD b q → H'[q]? = H[q]?) : DK g n0 H' b pc ts wz mr mq := by
  have ec : ∀ {c : Nat}, c ≤ 500 → H'[b + c]? = H[b + c]? := fun h => he _ (nd_c h)
  have fq := h.su.2.1.2.1.onE (ec (by decide)) (fun k hk => he _ (nd_Fq hk))
  have fr := h.fr.onE (ec (by decide)) (fun k hk => he _ (nd_Fr hk))
  refine ⟨h.ob.eq (ec (c := 0) (by decide)), fr, ⟨h.su.1.eq (ec (by decide)), ⟨h.su.2.1.1.eq (ec (by decide)), fq, fun k hk => (h.su.2.1.2.2 k hk).on (he _ (nd_X hk))⟩, h.su.2.2.1.on (ec (by decide)) (ec (by decide)) (ec (by decide)) (ec (by decide)), h.su.2.2.2.1.eq (ec (by decide)), fun k hk => (h.su.2.2.2.2.1 k hk).on (he _ (nd_O0 hk)) (he _ (nd_O hk).1) (he _ (nd_O hk).2.1) (he _ (nd_O hk).2.2), h.su.2.2.2.2.2.1.eq (ec (by decide)), fun k hk => ⟨(h.su.2.2.2.2.2.2 k hk).1, (h.su.2.2.2.2.2.2 k hk).2.imp (fun f hf => hf.eq (he _ (nd_DG hk)))⟩⟩, ⟨h.po.1.eq (ec (by decide)), fr, fun k hk => (h.po.2.2.1 k hk).on (he _ (nd_Y hk)), h.po.2.2.2.1.eq (ec (by decide)), fun k hk => (h.po.2.2.2.2 k hk).on (he _ (nd_V hk))⟩, ⟨h.rs.1.eq (ec (by decide)), fun k hk => (h.rs.2 k hk).on (he _ (nd_Sc hk))⟩, h.pa.eq (ec (by decide)), fun k hk => (h.pt k hk).on (he _ (nd_PA0 hk)) (he _ (nd_PA hk).1) (he _ (nd_PA hk).2.1) (he _ (nd_PA hk).2.2), h.pw.eq (ec (by decide)), fun k hk => (h.pq k hk).on (he _ (nd_PW0 hk)) (he _ (nd_PW hk).1) (he _ (nd_PW hk).2.1) (he _ (nd_PW hk).2.2), h.tp.eq (ec (by decide)), h.tc.imp (fun f hf => hf.eq (ec (by decide))), h.wr.eq (ec (by decide)), h.wc.imp (fun f hf => hf.eq (ec (by decide))), h.hp.on (ec (by decide)) (ec (by decide)) (ec (by decide)) (ec (by decide)), h.mu.on (ec (by decide)) (ec (by decide)) (ec (by decide)) (ec (by decide)), h.hs.on (ec (by decide)), h.fa.on (ec (by decide)), h.fm.eq (ec (by decide)), h.ge.on (ec (by decide)) (ec (by decide)) (ec (by decide)) (ec (by decide)), h.no⟩
theorem FRESH.on {g : WG} {H H' : Heap} {b : Nat} (h : FRESH g H b) (he : ∀ q, nD b q → H'[q]? = H[q]?) : FRESH g H' b := ⟨fun k hk => (h.1 k hk).eq (he _ (nd_Sc hk)), fun k hk => (h.2.1 k hk).eq (he _ (nd_PA hk).2.2), h.2.2.1.imp (fun f hf => ⟨hf.1.eq (he _ (nd_c (by decide))), hf.2⟩), h.2.2.2.imp (fun f hf => ⟨hf.1.eq (he _ (nd_c (by decide))), hf.2⟩)⟩
theorem MS.on {g : WG} {n0 : Nat → Prop} {H H' : Heap} {mo : Nat} {th pw td wr : Int32} {w n : Nat} {fd : Nat → Int64} (h : MS g n0 H mo th pw td wr w n fd) (he : ∀ q, mo ≤ q → q ≤ mo + 8 → H'[q]? = H[q]?) : MS g n0 H' mo th pw td wr w n fd := by
  have ec : ∀ {c : Nat}, c ≤ 8 → H'[mo + c]? = H[mo + c]? := fun h => he _ (Nat.le_add_right _ _) (Nat.add_le_add_left h _)
  obtain ⟨h1, h2, ⟨f4, h4, h4d⟩, ⟨f5, h5⟩, h6, h7, h8, h9⟩ := h
  exact ⟨h1.eq (ec (c := 0) (by decide)), h2.eq (ec (by decide)), ⟨f4, h4.eq (ec (by decide)), h4d⟩, ⟨f5, h5.eq (ec (by decide))⟩, h6.eq (ec (by decide)), h7, h8, h9⟩
/-- the law's world at the switch -/
def LB (g : WG) (s0 : State) (H : Heap) (b : Nat) (mr mq : Int64) (fd : Nat → Int64) : Prop := LSt g s0 H b mr mq ∧ MS g (nM (b + 501)) H (b + 501) 0 0 0 0 0 14 fd ∧ FZ fd ∧ HO g H (b + 501) ∧ (∃ f, AI g H (b + 501 + 6) 96 f) ∧ ∃ f, AI g H (b + 501 + 7) 96 f
theorem Ctr.frI {l : Launch} {y : MethodName} {cw : Cond} {fr lo mc ms : Nat} {n0 n1 : Nat → Prop} {g : WG} {av : List Value} {P : Heap → Prop} {Q' : Int32 → Heap → Heap → Prop} (h : Ctr l y cw fr lo mc ms n0 g av P (QI Q')) (hn : ∀ q, n0 q → n1 q) : Ctr l y cw fr lo mc ms n1 g av P (QI (fun r H H' => Q' r H H' ∧ FRQ n0 H H')) := h.imp hn (fun _ _ _ q f => q.elim (fun r hr => ⟨r, hr.1, hr.2, f⟩))
theorem Ctr.frL {l : Launch} {y : MethodName} {cw : Cond} {fr lo mc ms : Nat} {n0 n1 : Nat → Prop} {g : WG} {av : List Value} {P : Heap → Prop} {Q' : Int64 → Heap → Heap → Prop} (h : Ctr l y cw fr lo mc ms n0 g av P (QL Q')) (hn : ∀ q, n0 q → n1 q) : Ctr l y cw fr lo mc ms n1 g av P (QL (fun r H H' => Q' r H H' ∧ FRQ n0 H H')) := h.imp hn (fun _ _ _ q f => q.elim (fun r hr => ⟨r, hr.1, hr.2, f⟩))
theorem Ctr.frV {l : Launch} {y : MethodName} {cw : Cond} {fr lo mc ms : Nat} {n0 n1 : Nat → Prop} {g : WG} {av : List Value} {P : Heap → Prop} {Q' : Heap → Heap → Prop} (h : Ctr l y cw fr lo mc ms n0 g av P (QV Q')) (hn : ∀ q, n0 q → n1 q) : Ctr l y cw fr lo mc ms n1 g av P (QV (fun H H' => Q' H H' ∧ FRQ n0 H H')) := h.imp hn (fun _ _ _ q f => ⟨q.1, q.2, f⟩)
theorem nM_up {s0 : State} {b : Nat} (hb : s0.heap.size ≤ b) : ∀ q, nM (b + 501) q → HXA s0 q := fun q h => Nat.le_trans hb (Nat.le_trans (Nat.le_add_right _ _) h.1)
theorem nM_c {mo c : Nat} (h : c ≤ 8) : nM mo (mo + c) := ⟨Nat.le_add_right _ _, Nat.add_le_add_left h _⟩
theorem nM_510 {b : Nat} : ¬ nM (b + 501) (b + 510) := by unfold nM; omega
theorem va_X.lt {b L : Nat} {xs : Nat → Int32} {U : State} {H : Heap} (h : va_X b L xs U H) : b < H.size := by
  obtain ⟨scr, h1, -⟩ := h
  exact (Array.getElem?_eq_some_iff.mp h1).1
theorem nM_lt {s0 : State} {b q : Nat} (hb : s0.heap.size ≤ b) (h : q < s0.heap.size) : ¬ nM (b + 501) q := by unfold nM; omega
section KRX
variable {p : Program} {l : Launch} {e : Env} {R : Room} {s : State} {m : MethodId} {args : Array Value} {below : List Frame} {meth : Method} {c : Code} {H : Heap} {locs : List Loc} {cells slots : Nat} {Q : State → Prop}
variable {cc : ByteArray} {nL : Nat} {pc : Nat} {ls : Array Slot} {rest : List Value} {g : WG} {own : String} {n0 : Nat → Prop} {a : Nat} {s0 : State}
theorem q_xlen (E : EV p m c cc nL s args own g) {L : Nat} {xs : Nat → Int32} (hX : va_X a L xs s H) (hdg : decode cc pc = .ok (.arraylength, 1)) (kk : W p l e R s m args below meth c H locs cells slots Q (F0 m (pc + 1) ls (.int (nI L) :: rest))) : W p l e R s m args below meth c H locs cells slots Q (F0 m pc ls (.ref a :: rest)) := by
  obtain ⟨scr, h1, h2, h3, h4, h5⟩ := hX
  exact W.alen E.1 E.2.1 h1 h2 (n := nI L) (by rw [h4]; rfl) rfl rfl hdg kk
theorem q_xld (E : EV p m c cc nL s args own g) {L : Nat} {xs : Nat → Int32} (hX : va_X a L xs s H) {i : Int32} (k : Nat) (hi : i = nI k) (hk : k < L) (hL : L < 2 ^ 31) (hdg : decode cc pc = .ok (.iaload, 1)) (kk : W p l e R s m args below meth c H locs cells slots Q (F0 m (pc + 1) ls (.int (xs k) :: rest))) : W p l e R s m args below meth c H locs cells slots Q (F0 m pc ls (.int i :: .ref a :: rest)) := by
  subst hi
  obtain ⟨scr, h1, h2, h3, h4, h5⟩ := hX
  have hcl : (nI k).toNatClampNeg = k := nI_clamp (Nat.lt_trans hk hL)
  exact W.iald (v := .int (xs k)) E.1 E.2.1 h1 h2 h3 (by rw [h4]; exact nI_in hk hL) (by rw [hcl]; exact h5 k hk) rfl rfl hdg kk
end KRX
def R_law : String := "KateDeskLaw"
def lw_P (b : Addr) (xs : List Int32) (args : Array Value) (s : State) : Prop := args = #[.ref b] ∧ s.IntsAt b xs ∧ xs.length ≤ 6 ∧ (Jvm.Cond.and given_1 narrow_1).before args s = true
def lw_Q (_ : Array Value) (s : State) (o : Outcome) (t : State) : Prop := o = .returned (some (.int 1)) ∧ Framed s o t [] 600002 7302232
def lw_Z (below : List Frame) (a : Array Value) (s : State) : State → Prop := fun t => ∃ o, t.status = .running ∧ Ended t below o ∧ lw_Q a s o t
/-- the law's own end, with 1 on the stack, nothing written that was there before, its room as the claim has it -/
theorem lw_ret {p : Program} {l : Launch} {e : Env} {s : State} {m : MethodId} {below : List Frame} {meth : Method} {c : Code} {b : Nat} (hx : p.tables.exec = Jvm.exec) (hb : c.code = code) (hr : meth.sig.returnType = ret) (hlocks : meth.locks = false) {pc : Nat} {H : Heap} {ls : Array Slot} (hdg : decode code pc = .ok (.ireturn, 1)) : W p l e room_1 s m #[Value.ref b] below meth c H [] 600002 7302232 (lw_Z below #[Value.ref b] s) (F0 m pc ls [.int 1]) := by
  intro T hT X
  obtain ⟨fs, hret, hrun, hended, hW, hframe⟩ := X.leave (v := some (.int 1)) (hlocks := hlocks) (fun h => by rw [hr] at h; cases h)
  have hmeth' : T.vm.method? m = some meth := X.method'
  refine ⟨T.setFrames fs, ?_, .returned (some (.int 1)), hrun, hended, rfl, ⟨_, rfl⟩, hW, hframe⟩
  jvm_step X.here [X.here.top, hx, hb, hdg, hmeth', hr, ret, narrow_b1]
  (try refine ⟨rfl, ?_⟩); (try refine ⟨rfl, ?_⟩)
  first | (intro acts; rw [hret _ acts rfl rfl rfl]) | rw [hret _ _ rfl rfl rfl]
  exact Steps.refl _
/-- what holds at the law's entry: the machine, the code, the tables' words (any of lw_tbl by 'hts w (by decide +kernel)'), the script of L ints xs at the cell b, what the Statement gives of the start (any of its parts by flat_of_before) -/
def lw_At (p : Program) (s : State) (m : MethodId) (meth : Method) (c : Code) (b L : Nat) (xs : Nat → Int32) : Prop :=
  p.tables.exec = Jvm.exec ∧ c.code = code ∧ meth.sig.returnType = ret ∧ c.maxLocals = 8 ∧ s.vm.findClass R_law = some m.cls ∧ (∀ w ∈ lw_tbl, w.before #[Value.ref b] s = true) ∧ va_X b L xs s s.heap ∧ b < s.heap.size ∧ meth.locks = false ∧ (Jvm.Cond.and given_1 narrow_1).before #[Value.ref b] s = true
set_option maxHeartbeats 1000000 in
theorem law_true {p : Program} {l : Launch} {e : Env} {s : State} {m : MethodId} {below : List Frame} {meth : Method} {c : Code} {H : Heap} {locs : List Loc} {ls : Array Slot} {g : WG} {sb : Nat} {xs : Nat → Int32} (E : EV p m c code 8 s #[Value.ref sb] "KateDeskLaw" g) (hr : meth.sig.returnType = ret) (hlk : meth.locks = false) (hF : ∀ q ∈ locs, HXA s q.base) {cells slots : Nat} (h1 : cells ≤ 600002) (h2 : slots ≤ 7302232) : W p l e room_1 s m #[Value.ref sb] below meth c H locs cells slots (lw_Z below #[Value.ref sb] s) (F0 m 1617 ls []) := by
  have hx := E.1
  have hb := E.2.1
  refine va_forget hF ?_
  refine W.widen h1 h2 ?_
  refine lv_iconst (v := nI 1) hx hb d_Law_law_1617 (by decide) ?_
  exact lw_ret hx hb hr hlk d_Law_law_1618
set_option maxHeartbeats 1000000 in
theorem law_next {p : Program} {l : Launch} {e : Env} {s : State} {m : MethodId} {below : List Frame} {meth : Method} {c : Code} {H : Heap} {locs : List Loc} {ls : Array Slot} {g : WG} {sb : Nat} {xs : Nat → Int32} (E : EV p m c code 8 s #[Value.ref sb] "KateDeskLaw" g) (hr : meth.sig.returnType = ret) (hlk : meth.locks = false) (hF : ∀ q ∈ locs, HXA s q.base) (hX : va_X sb 6 xs s H) (hl : lv_has ls 8 [(4, .int (nI 0)), (0, .ref sb)]) {cells slots : Nat} (h1 : cells ≤ 600002) (h2 : slots ≤ 7302232) : W p l e room_1 s m #[Value.ref sb] below meth c H locs cells slots (lw_Z below #[Value.ref sb] s) (F0 m 1611 ls []) := by
  have hx := E.1
  have hb := E.2.1
  refine lv_iinc (k := 0) (v := nI 6) (lv' := [(4, .int (nI 6)), (0, .ref sb)]) hx hb d_Law_law_1611 hl rfl (by decide) (by decide) rfl (fun ls hl => ?_)
  refine lv_goto (tgt := 23) hx hb d_Law_law_1614 (by decide) ?_
  refine lv_iload hx hb d_Law_law_23 (lv_at hl 0 rfl) ?_
  refine lv_aload_n hx hb d_Law_law_25 rfl (lv_at hl 1 rfl) ?_
  refine q_xlen E hX d_Law_law_26 ?_
  refine lv_bipush (v := nI 6) hx hb d_Law_law_27 (by decide) ?_
  refine lv_isub hx hb d_Law_law_29 ?_
  refine lv_icmp_gt (tgt := 1617) hx hb d_Law_law_30 (by decide) (fun _ => ?_) (fun h9 => absurd (by decide) h9)
  exact law_true (xs := xs) E hr hlk hF h1 h2
