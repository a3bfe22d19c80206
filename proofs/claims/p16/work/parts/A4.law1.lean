def nM (mo : Nat) : Nat → Prop := fun q => mo ≤ q ∧ q ≤ mo + 8
theorem MS.on {g : WG} {n0 : Nat → Prop} {H H' : Heap} {mo : Nat} {th pw td wr : Int32} {w n : Nat} {fd : Nat → Int64} (h : MS g n0 H mo th pw td wr w n fd) (he : ∀ q, mo ≤ q → q ≤ mo + 8 → H'[q]? = H[q]?) : MS g n0 H' mo th pw td wr w n fd := by
  have ec : ∀ {c : Nat}, c ≤ 8 → H'[mo + c]? = H[mo + c]? := fun h => he _ (Nat.le_add_right _ _) (Nat.add_le_add_left h _)
  obtain ⟨h1, h2, ⟨f4, h4, h4d⟩, ⟨f5, h5⟩, h6, h7, h8, h9⟩ := h
  exact ⟨h1.eq (ec (c := 0) (by decide)), h2.eq (ec (by decide)), ⟨f4, h4.eq (ec (by decide)), h4d⟩, ⟨f5, h5.eq (ec (by decide))⟩, h6.eq (ec (by decide)), h7, h8, h9⟩
theorem Ctr.frI {l : Launch} {y : MethodName} {cw : Cond} {fr lo mc ms : Nat} {n0 n1 : Nat → Prop} {g : WG} {av : List Value} {P : Heap → Prop} {Q' : Int32 → Heap → Heap → Prop} (h : Ctr l y cw fr lo mc ms n0 g av P (QI Q')) (hn : ∀ q, n0 q → n1 q) : Ctr l y cw fr lo mc ms n1 g av P (QI (fun r H H' => Q' r H H' ∧ FRQ n0 H H')) := h.imp hn (fun _ _ _ q f => q.elim (fun r hr => ⟨r, hr.1, hr.2, f⟩))
theorem Ctr.frL {l : Launch} {y : MethodName} {cw : Cond} {fr lo mc ms : Nat} {n0 n1 : Nat → Prop} {g : WG} {av : List Value} {P : Heap → Prop} {Q' : Int64 → Heap → Heap → Prop} (h : Ctr l y cw fr lo mc ms n0 g av P (QL Q')) (hn : ∀ q, n0 q → n1 q) : Ctr l y cw fr lo mc ms n1 g av P (QL (fun r H H' => Q' r H H' ∧ FRQ n0 H H')) := h.imp hn (fun _ _ _ q f => q.elim (fun r hr => ⟨r, hr.1, hr.2, f⟩))
theorem Ctr.frV {l : Launch} {y : MethodName} {cw : Cond} {fr lo mc ms : Nat} {n0 n1 : Nat → Prop} {g : WG} {av : List Value} {P : Heap → Prop} {Q' : Heap → Heap → Prop} (h : Ctr l y cw fr lo mc ms n0 g av P (QV Q')) (hn : ∀ q, n0 q → n1 q) : Ctr l y cw fr lo mc ms n1 g av P (QV (fun H H' => Q' H H' ∧ FRQ n0 H H')) := h.imp hn (fun _ _ _ q f => ⟨q.1, q.2, f⟩)
theorem nM_up {s0 : State} {b : Nat} (hb : s0.heap.size ≤ b) : ∀ q, nM (b + 501) q → HXA s0 q := fun q h => Nat.le_trans hb (Nat.le_trans (Nat.le_add_right _ _) h.1)
theorem nM_c {mo c : Nat} (h : c ≤ 8) : nM mo (mo + c) := ⟨Nat.le_add_right _ _, Nat.add_le_add_left h _⟩
theorem nM_510 {b : Nat} : ¬ nM (b + 501) (b + 510) := by unfold nM; omega
theorem va_X.lt {b L : Nat} {xs : Nat → Int32} {U : State} {H : Heap} (h : va_X b L xs U H) : b < H.size := by
  obtain ⟨scr, h1, -⟩ := h
  exact (Array.getElem?_eq_some_iff.mp h1).1
theorem nM_lt {s0 : State} {b q : Nat} (hb : s0.heap.size ≤ b) (h : q < s0.heap.size) : ¬ nM (b + 501) q := by unfold nM; omega
section KRX
variable {p : Program} {l : Launch} {e : Env} {R : Room} {s : State} {m : MethodId} {args : Array Value} {below : List Frame} {meth : Method} {c : Code} {H : Heap} {locs : List Loc} {cells slots : Nat} {Q : State → Prop}
variable {cc : ByteArray} {nL : Nat} {pc : Nat} {ls : Array Slot} {rest : List Value} {g : WG} {own : String} {n0 : Nat → Prop} {a : Nat} {s0 : State}
theorem q_xlen (E : EV p m c cc nL s args own g) {L : Nat} {xs : Nat → Int32} (hX : va_X a L xs s H) (hdg : decode cc pc = .ok (.arraylength, 1)) (kk : W p l e R s m args below meth c H locs cells slots Q (F0 m (pc + 1) ls (.int (nI L) :: rest))) : W p l e R s m args below meth c H locs cells slots Q (F0 m pc ls (.ref a :: rest)) := by
  obtain ⟨scr, h1, h2, h3, h4, h5⟩ := hX
  exact W.alen E.1 E.2.1 h1 h2 (n := nI L) (by rw [h4]; rfl) rfl rfl hdg kk
theorem q_xld (E : EV p m c cc nL s args own g) {L : Nat} {xs : Nat → Int32} (hX : va_X a L xs s H) {i : Int32} (k : Nat) (hi : i = nI k) (hk : k < L) (hL : L < 2 ^ 31) (hdg : decode cc pc = .ok (.iaload, 1)) (kk : W p l e R s m args below meth c H locs cells slots Q (F0 m (pc + 1) ls (.int (xs k) :: rest))) : W p l e R s m args below meth c H locs cells slots Q (F0 m pc ls (.int i :: .ref a :: rest)) := by
  subst hi
  obtain ⟨scr, h1, h2, h3, h4, h5⟩ := hX
  have hcl : (nI k).toNatClampNeg = k := nI_clamp (Nat.lt_trans hk hL)
  exact W.iald (v := .int (xs k)) E.1 E.2.1 h1 h2 h3 (by rw [h4]; exact nI_in hk hL) (by rw [hcl]; exact h5 k hk) rfl rfl hdg kk
end KRX
def R_law : String := "KateDeskLaw"
def lw_P (b : Addr) (xs : List Int32) (args : Array Value) (s : State) : Prop := args = #[.ref b] ∧ s.IntsAt b xs ∧ xs.length ≤ 3072 ∧ (Jvm.Cond.and given_1 narrow_1).before args s = true
def lw_Q (_ : Array Value) (s : State) (o : Outcome) (t : State) : Prop := o = .returned (some (.int 1)) ∧ Framed s o t [] 1201024 5493034
def lw_Z (below : List Frame) (a : Array Value) (s : State) : State → Prop := fun t => ∃ o, t.status = .running ∧ Ended t below o ∧ lw_Q a s o t
/-- the law's own end, with 1 on the stack, nothing written that was there before, its room as the claim has it -/
theorem lw_ret {p : Program} {l : Launch} {e : Env} {s : State} {m : MethodId} {below : List Frame} {meth : Method} {c : Code} {b : Nat} (hx : p.tables.exec = Jvm.exec) (hb : c.code = code) (hr : meth.sig.returnType = ret) (hlocks : meth.locks = false) {pc : Nat} {H : Heap} {ls : Array Slot} (hdg : decode code pc = .ok (.ireturn, 1)) : W p l e room_1 s m #[Value.ref b] below meth c H [] 1201024 5493034 (lw_Z below #[Value.ref b] s) (F0 m pc ls [.int 1]) := by
  intro T hT X
  obtain ⟨fs, hret, hrun, hended, hW, hframe⟩ := X.leave (v := some (.int 1)) (hlocks := hlocks) (fun h => by rw [hr] at h; cases h)
  have hmeth' : T.vm.method? m = some meth := X.method'
  refine ⟨T.setFrames fs, ?_, .returned (some (.int 1)), hrun, hended, rfl, ⟨_, rfl⟩, hW, hframe⟩
  jvm_step X.here [X.here.top, hx, hb, hdg, hmeth', hr, ret, narrow_b1]
  (try refine ⟨rfl, ?_⟩); (try refine ⟨rfl, ?_⟩)
  first | (intro acts; rw [hret _ acts rfl rfl rfl]) | rw [hret _ _ rfl rfl rfl]
  exact Steps.refl _
/-- what holds at the law's entry: the machine, the code, the tables' words (any of lw_tbl by 'hts w (by decide +kernel)'), the script of L ints xs at the cell b, what the Statement gives of the start (any of its parts by flat_of_before) -/
def lw_At (p : Program) (s : State) (m : MethodId) (meth : Method) (c : Code) (b L : Nat) (xs : Nat → Int32) : Prop :=
  p.tables.exec = Jvm.exec ∧ c.code = code ∧ meth.sig.returnType = ret ∧ c.maxLocals = 8 ∧ s.vm.findClass R_law = some m.cls ∧ (∀ w ∈ lw_tbl, w.before #[Value.ref b] s = true) ∧ va_X b L xs s s.heap ∧ b < s.heap.size ∧ meth.locks = false ∧ (Jvm.Cond.and given_1 narrow_1).before #[Value.ref b] s = true
theorem MP.on {g : WG} {n0 : Nat → Prop} {H H' : Heap} {mo : Nat} {th : Int32} {pn tn wn : Nat} (h : MP g n0 H mo th pn tn wn) (he : ∀ q, mo ≤ q → q ≤ mo + 8 → H'[q]? = H[q]?) : MP g n0 H' mo th pn tn wn := by
  have ec : ∀ {c : Nat}, c ≤ 8 → H'[mo + c]? = H[mo + c]? := fun h => he _ (Nat.le_add_right _ _) (Nat.add_le_add_left h _)
  obtain ⟨⟨w, n, fd, hw, hm⟩, h8, h6, h7, hr⟩ := h
  exact ⟨⟨w, n, fd, hw, hm.on he⟩, Exists.imp (fun f hf => ⟨AJ.eq hf.1 (ec (by decide)), hf.2⟩) h8, h6.imp (fun f hf => AI.eq hf (ec (by decide))), h7.imp (fun f hf => AI.eq hf (ec (by decide))), hr⟩
theorem MP.th {g : WG} {n0 : Nat → Prop} {H : Heap} {mo : Nat} {th : Int32} {pn tn wn : Nat} (h : MP g n0 H mo th pn tn wn) : TH g n0 H mo th := by
  obtain ⟨⟨w, n, fd, hw, hm⟩, -⟩ := h
  exact ⟨_, _, _, w, n, fd, hw, hm⟩
theorem nM_d {b q : Nat} (h : nD b q) : ¬ nM (b + 501) q := by unfold nD at h; unfold nM; omega
theorem LG.frq {g : WG} {s0 : State} {H H' : Heap} {b pn tn wn : Nat} {mr mq : Int64} (h : LG g s0 H b pn tn wn mr mq) (hb0 : s0.heap.size ≤ b) (hf : FRQ (nM (b + 501)) H H') : LG g s0 H' b pn tn wn mr mq :=
  ⟨fun q hq => (hf.2 q (Nat.lt_of_lt_of_le hq (h.hx hb0)) (nM_lt hb0 hq)).trans (h.1 q hq), Nat.le_trans h.2.1 hf.1, h.d.onD (fun q hq => hf.2 q (nd_lt hq h.2.1) (nM_d hq)), h.2.2.2.imp (fun f hf1 => hf1.eq (hf.2 _ hf1.lt nM_510))⟩
theorem sub6 {L : Nat} (h : L ≤ 3072) : (nI L - nI 6).toInt = (L : Int) - 6 := by
  rcases Nat.lt_or_ge L 6 with h6 | h6
  · exact (show ∀ L, L < 6 → (nI L - nI 6).toInt = (L : Int) - 6 by decide) L h6
  · rw [pk_sub h6, nI_toInt (show L - 6 < 2 ^ 31 by omega)]
    omega
theorem ends6 {L i : Nat} (h : L ≤ 3072) (hi : i ≤ 3100) (hl : L < i + 6) : nI L - nI 6 < nI i := by
  rw [Int32.lt_iff_toInt_lt, sub6 h, nI_toInt (show i < 2 ^ 31 by omega)]
  omega
theorem goes6 {L i : Nat} (h : L ≤ 3072) (hl : i + 6 ≤ L) : ¬ nI L - nI 6 < nI i := by
  rw [Int32.lt_iff_toInt_lt, sub6 h, nI_toInt (show i < 2 ^ 31 by omega)]
  omega
theorem eq16 {j k : Nat} (h : nI j = nI k) (hj : j ≤ 96) (hk : k ≤ 96) : j = k := (nI_eq (by omega) (by omega)).mp h
theorem l2i_eq {x y : Int64} (h : x = y) : lg_cmp x y = 0 := (lg_cmp_eq _ _).mpr h
/-- what the law is at the end of each call: the world stands, and from there it comes to its end -/
def LNX (p : Program) (l : Launch) (e : Env) (s : State) (m : MethodId) (below : List Frame) (meth : Method) (c : Code) (g : WG) (sb L : Nat) (xs : Nat → Int32) (b : Nat) (mr mq : Int64) (i cells slots : Nat) : Prop := ∀ (H : Heap) (locs : List Loc) (ls : Array Slot) (th : Int32) (pn tn wn wm : Nat), LG g s H b pn tn wn mr mq → MP g (nM (b + 501)) H (b + 501) th pn tn wm → va_X sb L xs s H → (∀ q ∈ locs, HXA s q.base) → lv_has ls 8 [(4, .int (nI i)), (3, .ref (b + 510)), (2, .ref (b + 501)), (1, .ref b), (0, .ref sb)] → W p l e room_1 s m #[Value.ref sb] below meth c H locs cells slots (lw_Z below #[Value.ref sb] s) (F0 m 1236 ls [])
set_option maxHeartbeats 1000000 in
theorem law_true {p : Program} {l : Launch} {e : Env} {s : State} {m : MethodId} {below : List Frame} {meth : Method} {c : Code} {g : WG} {sb : Nat} {H : Heap} {locs : List Loc} {ls : Array Slot} (E : EV p m c code 8 s #[Value.ref sb] "KateDeskLaw" g) (hr : meth.sig.returnType = ret) (hlk : meth.locks = false) (hF : ∀ q ∈ locs, HXA s q.base) {cells slots : Nat} (h1 : cells ≤ 1201024) (h2 : slots ≤ 5493034) : W p l e room_1 s m #[Value.ref sb] below meth c H locs cells slots (lw_Z below #[Value.ref sb] s) (F0 m 1242 ls []) := by
  have hx := E.1
  have hb := E.2.1
  refine va_forget hF ?_
  refine W.widen h1 h2 ?_
  refine lv_iconst (v := nI 1) hx hb d_Law_law_1242 (by decide) ?_
  exact lw_ret hx hb hr hlk d_Law_law_1243
