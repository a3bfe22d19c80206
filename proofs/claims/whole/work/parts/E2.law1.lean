def nM (mo : Nat) : Nat → Prop := fun q => mo ≤ q ∧ q ≤ mo + 8
theorem MS.on {g : WG} {n0 : Nat → Prop} {H H' : Heap} {mo : Nat} {th pw td wr : Int32} {w n : Nat} {fd : Nat → Int64} (h : MS g n0 H mo th pw td wr w n fd) (he : ∀ q, mo ≤ q → q ≤ mo + 8 → H'[q]? = H[q]?) : MS g n0 H' mo th pw td wr w n fd := by
  have ec : ∀ {c : Nat}, c ≤ 8 → H'[mo + c]? = H[mo + c]? := fun h => he _ (Nat.le_add_right _ _) (Nat.add_le_add_left h _)
  obtain ⟨h1, h2, ⟨f4, h4, h4d⟩, ⟨f5, h5⟩, h6, h7, h8, h9⟩ := h
  exact ⟨h1.eq (ec (c := 0) (by decide)), h2.eq (ec (by decide)), ⟨f4, h4.eq (ec (by decide)), h4d⟩, ⟨f5, h5.eq (ec (by decide))⟩, h6.eq (ec (by decide)), h7, h8, h9⟩
theorem Ctr.frI {l : Launch} {y : MethodName} {cw : Cond} {fr lo mc ms : Nat} {n0 n1 : Nat → Prop} {g : WG} {av : List Value} {P : Heap → Prop} {Q' : Int32 → Heap → Heap → Prop} (h : Ctr l y cw fr lo mc ms n0 g av P (QI Q')) (hn : ∀ q, n0 q → n1 q) : Ctr l y cw fr lo mc ms n1 g av P (QI (fun r H H' => Q' r H H' ∧ FRQ n0 H H')) := h.imp hn (fun _ _ _ q f => q.elim (fun r hr => ⟨r, hr.1, hr.2, f⟩))
theorem Ctr.frL {l : Launch} {y : MethodName} {cw : Cond} {fr lo mc ms : Nat} {n0 n1 : Nat → Prop} {g : WG} {av : List Value} {P : Heap → Prop} {Q' : Int64 → Heap → Heap → Prop} (h : Ctr l y cw fr lo mc ms n0 g av P (QL Q')) (hn : ∀ q, n0 q → n1 q) : Ctr l y cw fr lo mc ms n1 g av P (QL (fun r H H' => Q' r H H' ∧ FRQ n0 H H')) := h.imp hn (fun _ _ _ q f => q.elim (fun r hr => ⟨r, hr.1, hr.2, f⟩))
theorem Ctr.frV {l : Launch} {y : MethodName} {cw : Cond} {fr lo mc ms : Nat} {n0 n1 : Nat → Prop} {g : WG} {av : List Value} {P : Heap → Prop} {Q' : Heap → Heap → Prop} (h : Ctr l y cw fr lo mc ms n0 g av P (QV Q')) (hn : ∀ q, n0 q → n1 q) : Ctr l y cw fr lo mc ms n1 g av P (QV (fun H H' => Q' H H' ∧ FRQ n0 H H')) := h.imp hn (fun _ _ _ q f => ⟨q.1, q.2, f⟩)
theorem nM_up {s0 : State} {b : Nat} (hb : s0.heap.size ≤ b) : ∀ q, nM (b + 501) q → HXA s0 q := fun q h => Nat.le_trans hb (Nat.le_trans (Nat.le_add_right _ _) h.1)
theorem nM_c {mo c : Nat} (h : c ≤ 8) : nM mo (mo + c) := ⟨Nat.le_add_right _ _, Nat.add_le_add_left h _⟩
theorem nM_510 {b : Nat} : ¬ nM (b + 501) (b + 510) := by unfold nM; omega
theorem va_X.lt {b L : Nat} {xs : Nat → Int32} {U : State} {H : Heap} (h : va_X b L xs U H) : b < H.size := by
  obtain ⟨scr, h1, -⟩ := h
  exact (Array.getElem?_eq_some_iff.mp h1).1
theorem nM_lt {s0 : State} {b q : Nat} (hb : s0.heap.size ≤ b) (h : q < s0.heap.size) : ¬ nM (b + 501) q := by unfold nM; omega
section KRX
variable {p : Program} {l : Launch} {e : Env} {R : Room} {s : State} {m : MethodId} {args : Array Value} {below : List Frame} {meth : Method} {c : Code} {H : Heap} {locs : List Loc} {cells slots : Nat} {Q : State → Prop}
variable {cc : ByteArray} {nL : Nat} {pc : Nat} {ls : Array Slot} {rest : List Value} {g : WG} {own : String} {n0 : Nat → Prop} {a : Nat} {s0 : State}
theorem q_xlen (E : EV p m c cc nL s args own g) {L : Nat} {xs : Nat → Int32} (hX : va_X a L xs s H) (hdg : decode cc pc = .ok (.arraylength, 1)) (kk : W p l e R s m args below meth c H locs cells slots Q (F0 m (pc + 1) ls (.int (nI L) :: rest))) : W p l e R s m args below meth c H locs cells slots Q (F0 m pc ls (.ref a :: rest)) := by
  obtain ⟨scr, h1, h2, h3, h4, h5⟩ := hX
  exact W.alen E.1 E.2.1 h1 h2 (n := nI L) (by rw [h4]; rfl) rfl rfl hdg kk
theorem q_xld (E : EV p m c cc nL s args own g) {L : Nat} {xs : Nat → Int32} (hX : va_X a L xs s H) {i : Int32} (k : Nat) (hi : i = nI k) (hk : k < L) (hL : L < 2 ^ 31) (hdg : decode cc pc = .ok (.iaload, 1)) (kk : W p l e R s m args below meth c H locs cells slots Q (F0 m (pc + 1) ls (.int (xs k) :: rest))) : W p l e R s m args below meth c H locs cells slots Q (F0 m pc ls (.int i :: .ref a :: rest)) := by
  subst hi
  obtain ⟨scr, h1, h2, h3, h4, h5⟩ := hX
  have hcl : (nI k).toNatClampNeg = k := nI_clamp (Nat.lt_trans hk hL)
  exact W.iald (v := .int (xs k)) E.1 E.2.1 h1 h2 h3 (by rw [h4]; exact nI_in hk hL) (by rw [hcl]; exact h5 k hk) rfl rfl hdg kk
end KRX
def R_law : String := "KateDeskLaw"
def lw_P (b : Addr) (xs : List Int32) (args : Array Value) (s : State) : Prop := args = #[.ref b] ∧ s.IntsAt b xs ∧ xs.length ≤ 3072 ∧ (Jvm.Cond.and given_1 narrow_1).before args s = true
def lw_Q (_ : Array Value) (s : State) (o : Outcome) (t : State) : Prop := o = .returned (some (.int 1)) ∧ Framed s o t [] 1201024 5493034
def lw_Z (below : List Frame) (a : Array Value) (s : State) : State → Prop := fun t => ∃ o, t.status = .running ∧ Ended t below o ∧ lw_Q a s o t
/-- the law's own end, with 1 on the stack, nothing written that was there before, its room as the claim has it -/
theorem lw_ret {p : Program} {l : Launch} {e : Env} {s : State} {m : MethodId} {below : List Frame} {meth : Method} {c : Code} {b : Nat} (hx : p.tables.exec = Jvm.exec) (hb : c.code = code) (hr : meth.sig.returnType = ret) (hlocks : meth.locks = false) {pc : Nat} {H : Heap} {ls : Array Slot} (hdg : decode code pc = .ok (.ireturn, 1)) : W p l e room_1 s m #[Value.ref b] below meth c H [] 1201024 5493034 (lw_Z below #[Value.ref b] s) (F0 m pc ls [.int 1]) := by
  intro T hT X
  obtain ⟨fs, hret, hrun, hended, hW, hframe⟩ := X.leave (v := some (.int 1)) (hlocks := hlocks) (fun h => by rw [hr] at h; cases h)
  have hmeth' : T.vm.method? m = some meth := X.method'
  refine ⟨T.setFrames fs, ?_, .returned (some (.int 1)), hrun, hended, rfl, ⟨_, rfl⟩, hW, hframe⟩
  jvm_step X.here [X.here.top, hx, hb, hdg, hmeth', hr, ret, narrow_b1]
  (try refine ⟨rfl, ?_⟩); (try refine ⟨rfl, ?_⟩)
  first | (intro acts; rw [hret _ acts rfl rfl rfl]) | rw [hret _ _ rfl rfl rfl]
  exact Steps.refl _
/-- what holds at the law's entry: the machine, the code, the tables' words (any of lw_tbl by 'hts w (by decide +kernel)'), the script of L ints xs at the cell b, what the Statement gives of the start (any of its parts by flat_of_before) -/
def lw_At (p : Program) (s : State) (m : MethodId) (meth : Method) (c : Code) (b L : Nat) (xs : Nat → Int32) : Prop :=
  p.tables.exec = Jvm.exec ∧ c.code = code ∧ meth.sig.returnType = ret ∧ c.maxLocals = 8 ∧ s.vm.findClass R_law = some m.cls ∧ (∀ w ∈ lw_tbl, w.before #[Value.ref b] s = true) ∧ va_X b L xs s s.heap ∧ b < s.heap.size ∧ meth.locks = false ∧ (Jvm.Cond.and given_1 narrow_1).before #[Value.ref b] s = true
theorem MP.on {g : WG} {n0 : Nat → Prop} {H H' : Heap} {mo : Nat} {th : Int32} {pn tn wn : Nat} (h : MP g n0 H mo th pn tn wn) (he : ∀ q, mo ≤ q → q ≤ mo + 8 → H'[q]? = H[q]?) : MP g n0 H' mo th pn tn wn := by
  have ec : ∀ {c : Nat}, c ≤ 8 → H'[mo + c]? = H[mo + c]? := fun h => he _ (Nat.le_add_right _ _) (Nat.add_le_add_left h _)
  obtain ⟨⟨w, n, fd, hw, hm⟩, h8, h6, h7, hr⟩ := h
  exact ⟨⟨w, n, fd, hw, hm.on he⟩, Exists.imp (fun f hf => ⟨AJ.eq hf.1 (ec (by decide)), hf.2⟩) h8, h6.imp (fun f hf => AI.eq hf (ec (by decide))), h7.imp (fun f hf => AI.eq hf (ec (by decide))), hr⟩
theorem MP.th {g : WG} {n0 : Nat → Prop} {H : Heap} {mo : Nat} {th : Int32} {pn tn wn : Nat} (h : MP g n0 H mo th pn tn wn) : TH g n0 H mo th := by
  obtain ⟨⟨w, n, fd, hw, hm⟩, -⟩ := h
  exact ⟨_, _, _, w, n, fd, hw, hm⟩
theorem nM_d {b q : Nat} (h : nD b q) : ¬ nM (b + 501) q := by unfold nD at h; unfold nM; omega
theorem LG.frq {g : WG} {s0 : State} {H H' : Heap} {b pn tn wn : Nat} {mr mq : Int64} (h : LG g s0 H b pn tn wn mr mq) (hb0 : s0.heap.size ≤ b) (hf : FRQ (nM (b + 501)) H H') : LG g s0 H' b pn tn wn mr mq :=
  ⟨fun q hq => (hf.2 q (Nat.lt_of_lt_of_le hq (h.hx hb0)) (nM_lt hb0 hq)).trans (h.1 q hq), Nat.le_trans h.2.1 hf.1, h.d.onD (fun q hq => hf.2 q (nd_lt hq h.2.1) (nM_d hq)), h.2.2.2.imp (fun f hf1 => hf1.eq (hf.2 _ hf1.lt nM_510))⟩
theorem sub6 {L : Nat} (h : L ≤ 3072) : (nI L - nI 6).toInt = (L : Int) - 6 := by
  rcases Nat.lt_or_ge L 6 with h6 | h6
  · exact (show ∀ L, L < 6 → (nI L - nI 6).toInt = (L : Int) - 6 by decide) L h6
  · rw [pk_sub h6, nI_toInt (show L - 6 < 2 ^ 31 by omega)]
    omega
theorem ends6 {L i : Nat} (h : L ≤ 3072) (hi : i ≤ 3100) (hl : L < i + 6) : nI L - nI 6 < nI i := by
  rw [Int32.lt_iff_toInt_lt, sub6 h, nI_toInt (show i < 2 ^ 31 by omega)]
  omega
theorem goes6 {L i : Nat} (h : L ≤ 3072) (hl : i + 6 ≤ L) : ¬ nI L - nI 6 < nI i := by
  rw [Int32.lt_iff_toInt_lt, sub6 h, nI_toInt (show i < 2 ^ 31 by omega)]
  omega
theorem eq16 {j k : Nat} (h : nI j = nI k) (hj : j ≤ 96) (hk : k ≤ 96) : j = k := (nI_eq (by omega) (by omega)).mp h
theorem l2i_eq {x y : Int64} (h : x = y) : lg_cmp x y = 0 := (lg_cmp_eq _ _).mpr h
/-- the model's cells that a call of it may write, feed apart -/
def nMT (mo : Nat) : Nat → Prop := fun q => nM mo q ∧ q ≠ mo + 6 ∧ q ≠ mo + 7
theorem nMT_up {s0 : State} {b : Nat} (hb : s0.heap.size ≤ b) : ∀ q, nMT (b + 501) q → HXA s0 q := fun q h => nM_up hb q h.1
theorem nMT_n {mo q : Nat} (h : ¬ nM mo q) : ¬ nMT mo q := fun k => h k.1
theorem nMT_c {mo c : Nat} (h : c ≤ 8 ∧ c ≠ 6 ∧ c ≠ 7) : nMT mo (mo + c) := ⟨nM_c h.1, by omega, by omega⟩
theorem nMT_fr {mo : Nat} {H H' : Heap} (h : FRQ (nMT mo) H H') : FRQ (nM mo) H H' := ⟨h.1, fun q h1 h2 => h.2 q h1 (nMT_n h2)⟩
theorem AI.lt {g : WG} {H : Heap} {a N : Nat} {f : Nat → Int32} (h : AI g H a N f) : a < H.size := (Array.getElem?_eq_some_iff.mp h).1
/-- what the model's feed may write, and what its bytes may -/
def nMF (mo : Nat) : Nat → Prop := fun q => nM mo q ∧ q ≠ mo + 7
def nMB (mo : Nat) : Nat → Prop := fun q => nM mo q ∧ q ≠ mo + 6
theorem nMF_up {s0 : State} {b : Nat} (hb : s0.heap.size ≤ b) : ∀ q, nMF (b + 501) q → HXA s0 q := fun q h => nM_up hb q h.1
theorem nMB_up {s0 : State} {b : Nat} (hb : s0.heap.size ≤ b) : ∀ q, nMB (b + 501) q → HXA s0 q := fun q h => nM_up hb q h.1
theorem nMF_n {mo q : Nat} (h : ¬ nM mo q) : ¬ nMF mo q := fun k => h k.1
theorem nMB_n {mo q : Nat} (h : ¬ nM mo q) : ¬ nMB mo q := fun k => h k.1
theorem nMF_c {mo c : Nat} (h : c ≤ 8 ∧ c ≠ 7) : nMF mo (mo + c) := ⟨nM_c h.1, by omega⟩
theorem nMB_c {mo c : Nat} (h : c ≤ 8 ∧ c ≠ 6) : nMB mo (mo + c) := ⟨nM_c h.1, by omega⟩
theorem nMF_fr {mo : Nat} {H H' : Heap} (h : FRQ (nMF mo) H H') : FRQ (nM mo) H H' := ⟨h.1, fun q h1 h2 => h.2 q h1 (nMF_n h2)⟩
theorem nMB_fr {mo : Nat} {H H' : Heap} (h : FRQ (nMB mo) H H') : FRQ (nM mo) H H' := ⟨h.1, fun q h1 h2 => h.2 q h1 (nMB_n h2)⟩
theorem MVP.ob {g : WG} {n0 : Nat → Prop} {H : Heap} {mo : Nat} {th : Int32} {pn tn wn : Nat} {B : Nat → Int} (h : MVP g n0 H mo th pn tn wn B) : ∃ w n, MO g H mo th (nI w) (nI n) (nI pn) (nI tn) (nI wn) := h.mp.ob
theorem MVP.th {g : WG} {n0 : Nat → Prop} {H : Heap} {mo : Nat} {th : Int32} {pn tn wn : Nat} {B : Nat → Int} (h : MVP g n0 H mo th pn tn wn B) : TH g n0 H mo th := h.mp.th
theorem MVP.on {g : WG} {n0 : Nat → Prop} {H H' : Heap} {mo : Nat} {th : Int32} {pn tn wn : Nat} {B : Nat → Int} (h : MVP g n0 H mo th pn tn wn B) (he : ∀ q, mo ≤ q → q ≤ mo + 8 → H'[q]? = H[q]?) : MVP g n0 H' mo th pn tn wn B := by
  have hp := h.mp.on he
  obtain ⟨⟨w, n, fd, hw, hm, hB⟩, ⟨fa, ha, hT⟩, -⟩ := h
  exact ⟨⟨w, n, fd, hw, hm.on he, hB⟩, ⟨fa, ha.eq (he _ (by omega) (by omega)), hT⟩, hp.2⟩
theorem MVP.re {g : WG} {n0 n1 : Nat → Prop} {H : Heap} {mo : Nat} {th : Int32} {pn tn wn : Nat} {B : Nat → Int} (h : MVP g n0 H mo th pn tn wn B) (h0 : n1 mo) (h1 : n1 (mo + 1)) (h5 : n1 (mo + 5)) (h8 : n1 (mo + 8)) : MVP g n1 H mo th pn tn wn B := by
  obtain ⟨⟨w, n, fd, hw, hm, hB⟩, ht, h2, h3, h4, hb, -⟩ := h
  exact ⟨⟨w, n, fd, hw, ⟨hm.1, hm.2.1, hm.2.2.1, hm.2.2.2.1, hm.2.2.2.2.1, hm.2.2.2.2.2.1, h1, h5⟩, hB⟩, ht, h2, h3, h4, hb, h0, trivial, trivial, h8⟩
theorem MVP.toT {g : WG} {n0 : Nat → Prop} {H : Heap} {mo : Nat} {th : Int32} {pn tn wn : Nat} {B : Nat → Int} (h : MVP g n0 H mo th pn tn wn B) : MVP g (nMT mo) H mo th pn tn wn B := h.re (nMT_c (c := 0) (by decide)) (nMT_c (by decide)) (nMT_c (by decide)) (nMT_c (by decide))
theorem MVP.toF {g : WG} {n0 : Nat → Prop} {H : Heap} {mo : Nat} {th : Int32} {pn tn wn : Nat} {B : Nat → Int} (h : MVP g n0 H mo th pn tn wn B) : MVP g (nMF mo) H mo th pn tn wn B := h.re (nMF_c (c := 0) (by decide)) (nMF_c (by decide)) (nMF_c (by decide)) (nMF_c (by decide))
theorem MVP.toB {g : WG} {n0 : Nat → Prop} {H : Heap} {mo : Nat} {th : Int32} {pn tn wn : Nat} {B : Nat → Int} (h : MVP g n0 H mo th pn tn wn B) : MVP g (nMB mo) H mo th pn tn wn B := h.re (nMB_c (c := 0) (by decide)) (nMB_c (by decide)) (nMB_c (by decide)) (nMB_c (by decide))
/-- the two texts -/
def TTX (g : WG) (H : Heap) (b wn : Nat) : Prop := ∃ (c m : Nat → Int32) (t : Nat → Nat), AB g H (b + 151) 96 c ∧ AI g H (b + 501 + 7) 96 m ∧ ∀ j, j < wn → c j &&& 255 = nI (t j) ∧ m j = nI (t j)
/-- the points of the two -/
def RL (pn : Nat) (B : Nat → Int) (P V : Nat → P3) : Prop := (∀ k, k < 12 → PE (P k) (ptB B (32 + 3 * k))) ∧ (∀ k, k < pn → PE (V k) (ptB B (68 + 3 * k))) ∧ ptB B 116 = G9
def TW (g : WG) (H : Heap) (b pn tn wn wm : Nat) (A : Nat → Int) (mr mq : Int64) : Prop := (mr = 268435455 ∧ mq = 268238845 ∧ wn = wm) ∧ TR g H b tn ∧ TTX g H b wn ∧ ∃ P V, CW g H b pn A P V ∧ RL pn A P V
theorem TW.mk {g : WG} {n0 : Nat → Prop} {H1 H2 : Heap} {b pn tn wn : Nat} {A : Nat → Int} {mr mq : Int64} {P V : Nat → P3} {c m c7 m7 : Nat → Int32} {t t7 : Nat → Nat} (hmr : mr = 268435455) (hmq : mq = 268238845) (hs : b + 511 ≤ H1.size) (hf : FRQ n0 H1 H2) (hn : ∀ q, n0 q → b + 501 ≤ q) (hcw : CW g H1 b pn A P V) (hp : pn ≤ 16) (hrl : RL pn A P V) (hc : AB g H1 (b + 149) 96 c) (hm : AI g H2 (b + 501 + 6) 96 m) (ht : ∀ j, t j < 256) (hj : ∀ j, j < tn → c j &&& 255 = nI (t j) ∧ m j = nI (t j)) (hc7 : AB g H1 (b + 151) 96 c7) (hm7 : AI g H2 (b + 501 + 7) 96 m7) (hj7 : ∀ j, j < wn → c7 j &&& 255 = nI (t7 j) ∧ m7 j = nI (t7 j)) : TW g H2 b pn tn wn wn A mr mq := by
  have he : ∀ q, q < b + 501 → H2[q]? = H1[q]? := fun q h => hf.2 q (by omega) (fun k => by have := hn q k; omega)
  have hcw2 : CW g H2 b pn A P V := hcw.eqC hp (fun q k => he q (by unfold kCW kE5 kPX at k; omega))
  exact ⟨⟨hmr, hmq, rfl⟩, ⟨hcw2.1.1, c, m, t, hc.eq (he _ (by omega)), hm, ht, hj⟩, ⟨c7, m7, t7, hc7.eq (he _ (by omega)), hm7, hj7⟩, P, V, hcw2, hrl⟩
theorem nMT_ge {b q : Nat} (h : nMT (b + 501) q) : b + 501 ≤ q := h.1.1
theorem nMF_ge {b q : Nat} (h : nMF (b + 501) q) : b + 501 ≤ q := h.1.1
theorem nMB_ge {b q : Nat} (h : nMB (b + 501) q) : b + 501 ≤ q := h.1.1
theorem ai_T6 {g : WG} {H H' : Heap} {b : Nat} {m : Nat → Int32} (h : AI g H (b + 501 + 6) 96 m) (hf : FRQ (nMT (b + 501)) H H') : AI g H' (b + 501 + 6) 96 m := AI.eq h (hf.2 _ h.lt (fun k => k.2.1 rfl))
theorem ai_T7 {g : WG} {H H' : Heap} {b : Nat} {m : Nat → Int32} (h : AI g H (b + 501 + 7) 96 m) (hf : FRQ (nMT (b + 501)) H H') : AI g H' (b + 501 + 7) 96 m := AI.eq h (hf.2 _ h.lt (fun k => k.2.2 rfl))
theorem ai_F7 {g : WG} {H H' : Heap} {b : Nat} {m : Nat → Int32} (h : AI g H (b + 501 + 7) 96 m) (hf : FRQ (nMF (b + 501)) H H') : AI g H' (b + 501 + 7) 96 m := AI.eq h (hf.2 _ h.lt (fun k => k.2 rfl))
theorem ai_B6 {g : WG} {H H' : Heap} {b : Nat} {m : Nat → Int32} (h : AI g H (b + 501 + 6) 96 m) (hf : FRQ (nMB (b + 501)) H H') : AI g H' (b + 501 + 6) 96 m := AI.eq h (hf.2 _ h.lt (fun k => k.2 rfl))
theorem PE.md {P : P3} {T : P3} (h : PE P T) : PE P (T.1 % QJ, T.2.1 % QJ, T.2.2 % QJ) := by
  obtain ⟨k, hk, h1, h2, h3⟩ := h
  have e : ∀ x, cq (k * x) (k * (x % QJ)) := fun x => by
    show (k * x) % QJ = (k * (x % QJ)) % QJ
    rw [Int.mul_emod k (x % QJ), Int.emod_emod_of_dvd _ (Int.dvd_refl _), ← Int.mul_emod]
  exact ⟨k, hk, h1.trans (e _), h2.trans (e _), h3.trans (e _)⟩
theorem ptB_s {B : Nat → Int} {s : Nat} {T : P3} : ptB (updP B s T) s = (T.1 % QJ, T.2.1 % QJ, T.2.2 % QJ) := by
  unfold ptB updP
  rw [if_pos rfl, if_neg (show ¬ s + 1 = s by omega), if_pos rfl, if_neg (show ¬ s + 2 = s by omega), if_neg (show ¬ s + 2 = s + 1 by omega), if_pos rfl]
theorem ptB_n {B : Nat → Int} {s r : Nat} {T : P3} (h : r + 2 < s ∨ s + 2 < r) : ptB (updP B s T) r = ptB B r := by
  unfold ptB updP
  rw [if_neg (show ¬ r = s by omega), if_neg (show ¬ r = s + 1 by omega), if_neg (show ¬ r = s + 2 by omega), if_neg (show ¬ r + 1 = s by omega), if_neg (show ¬ r + 1 = s + 1 by omega), if_neg (show ¬ r + 1 = s + 2 by omega), if_neg (show ¬ r + 2 = s by omega), if_neg (show ¬ r + 2 = s + 1 by omega), if_neg (show ¬ r + 2 = s + 2 by omega)]
theorem RL.set {pn k : Nat} {B : Nat → Int} {P V : Nat → P3} {T T' : P3} (h : RL pn B P V) (hk : k < 12) (hp : pn ≤ 16) (hT : PE T T') : RL pn (updP B (32 + 3 * k) T') (updT P k T) V := by
  refine ⟨fun j hj => ?_, fun j hj => ?_, ?_⟩
  · unfold updT
    by_cases e : j = k
    · subst e
      rw [if_pos rfl, ptB_s]
      exact hT.md
    · rw [if_neg e, ptB_n (by omega)]
      exact h.1 j hj
  · rw [ptB_n (by omega)]
    exact h.2.1 j hj
  · rw [ptB_n (by omega)]
    exact h.2.2
theorem CW.upd {g : WG} {H : Heap} {b pn : Nat} {A A' : Nat → Int} {P V : Nat → P3} (h : CW g H b pn A P V) (e : ∀ k, k < 32 → A' k = A k) : CW g H b pn A' P V := ⟨h.1, h.2.1, fun k hk => by rw [e k hk]; exact h.2.2.1 k hk, h.2.2.2⟩
theorem upP_lo {B : Nat → Int} {s : Nat} {T : P3} (hs : 32 ≤ s) : ∀ k, k < 32 → updP B s T k = B k := by
  intro k hk
  unfold updP
  rw [if_neg (by omega), if_neg (by omega), if_neg (by omega)]
theorem RL.sc {pn : Nat} {B B' : Nat → Int} {P V : Nat → P3} (h : RL pn B P V) (e : ∀ k, 32 ≤ k → B' k = B k) : RL pn B' P V := by
  have e3 : ∀ s, 32 ≤ s → ptB B' s = ptB B s := fun s hs => by unfold ptB; rw [e s hs, e (s + 1) (by omega), e (s + 2) (by omega)]
  exact ⟨fun k hk => by rw [e3 _ (by omega)]; exact h.1 k hk, fun k hk => by rw [e3 _ (by omega)]; exact h.2.1 k hk, by rw [e3 _ (by omega)]; exact h.2.2⟩
theorem RL.hon {g : WG} {H : Heap} {b pn : Nat} {A : Nat → Int} {P V : Nat → P3} (h : RL pn A P V) (c : CW g H b pn A P V) : ∀ k, k < 12 → onC (ptB A (32 + 3 * k)) := fun k hk => (h.1 k hk).sy.on (c.2.2.2.1 k hk).2
theorem RL.hop {g : WG} {H : Heap} {b pn : Nat} {A : Nat → Int} {P V : Nat → P3} (h : RL pn A P V) (c : CW g H b pn A P V) : ∀ k, k < pn → onC (ptB A (68 + 3 * k)) := fun k hk => (h.2.1 k hk).sy.on (c.2.2.2.2 k hk).2
theorem RL.hoG {pn : Nat} {A : Nat → Int} {P V : Nat → P3} (h : RL pn A P V) : onC (ptB A 116) := by
  rw [h.2.2]
  exact G9_on
theorem RL.su {pn n : Nat} {B B1 : Nat → Int} {P V V' : Nat → P3} {z : Nat → Int} (h : RL pn B P V) (e : ∀ k, k < 68 ∨ 116 ≤ k → B1 k = B k) (h1 : ∀ j, j < n → RP G9 (z j) (V' j)) (h2 : ∀ j, j < n → RP (ptB B 116) (z j) (ptB B1 (68 + 3 * j))) : RL n B1 P V' := by
  have e3 : ∀ s, s + 2 < 68 ∨ 116 ≤ s → ptB B1 s = ptB B s := fun s hs => by unfold ptB; rw [e s (by omega), e (s + 1) (by omega), e (s + 2) (by omega)]
  refine ⟨fun k hk => by rw [e3 _ (by omega)]; exact h.1 k hk, fun k hk => ?_, by rw [e3 _ (by omega)]; exact h.2.2⟩
  have h3 := h2 k hk
  rw [h.2.2] at h3
  exact RP.un G9_on (h1 k hk) h3
theorem ni_un {a b : Nat} {x : Int32} (h : x = nI a) (h' : x = nI b) (ha : a < 2147483648) (hb : b < 2147483648) : a = b := (nI_eq ha hb).mp (h.symm.trans h')
theorem RSm_0 {P : Nat → P3} {z : Nat → Int} {T : P3} (h : RSm P 0 z T) : PE T PZ0 := RSm.un (fun k hk => absurd hk (Nat.not_lt_zero _)) (h.ext (z' := fun _ => 0) (fun k hk => absurd hk (Nat.not_lt_zero _))) (RSm_O (fun k hk => absurd hk (Nat.not_lt_zero _)))
theorem jn_un {w : Nat} {P Q P' Q' T T' G : P3} (hG : G = G9) (h : (w = 0 ∧ PE T PZ0) ∨ (w = 1 ∧ T = G9) ∨ (w = 2 ∧ T = AD P Q) ∨ (w = 3 ∧ T = AD P (NG Q))) (h' : (w = 0 ∧ T' = PZ0) ∨ (w = 1 ∧ T' = G) ∨ (w = 2 ∧ T' = AD P' Q') ∨ (w = 3 ∧ T' = AD P' (NG Q'))) (hP : PE P P') (hQ : PE Q Q') : PE T T' := by
  rcases h with ⟨a, h⟩ | ⟨a, h⟩ | ⟨a, h⟩ | ⟨a, h⟩ <;> rcases h' with ⟨a', h'⟩ | ⟨a', h'⟩ | ⟨a', h'⟩ | ⟨a', h'⟩ <;> first | omega | skip
  · rw [h']; exact h
  · rw [h, h', hG]; exact PE.rf _
  · rw [h, h']; exact hP.ad2 hQ
  · rw [h, h']; exact hP.ad2 hQ.ng
theorem pe_if {P P' Q Q' : P3} (h : PE P P') (k : PE Q Q') : PE P Q ↔ PE P' Q' := ⟨fun e => (h.sy.tr e).tr k, fun e => (h.tr e).tr k.sy⟩
theorem bl_un {r r' : Int32} {p q : Prop} (h : (r = 1 ∧ p) ∨ (r = 0 ∧ ¬ p)) (h' : (r' = 1 ∧ q) ∨ (r' = 0 ∧ ¬ q)) (e : p ↔ q) : r = r' := by
  rcases h with ⟨a, b⟩ | ⟨a, b⟩ <;> rcases h' with ⟨a', b'⟩ | ⟨a', b'⟩ <;> first | exact a.trans a'.symm | exact absurd (e.mp b) b' | exact absurd (e.mpr b') b
theorem wd_eq {E E' : Nat} {a : Int} {k : Nat} {x y : Int64} (h1 : (E : Int) = a) (h2 : (E' : Int) = a) (hx : x.toInt = ((E / 2 ^ k % 2 ^ 32 : Nat) : Int)) (hy : y.toInt = ((E' / 2 ^ k % 2 ^ 32 : Nat) : Int)) : x = y := by
  obtain rfl : E = E' := by omega
  exact i64_eq_of (hx.trans hy.symm)
theorem nt_S {x : Int32} (h : okS x (nI 1)) : nt x < 32 := by
  obtain ⟨k, rfl, hk⟩ := okS_nat (by decide) (by decide) h
  rw [nt_nI (by omega)]
  omega
theorem uI_hi {A : Nat → Int} {r : Nat} {x : Int} (h : r < 32) : ∀ k, 32 ≤ k → updI A r x k = A k := fun k hk => by
  unfold updI
  rw [if_neg (by omega)]
theorem feed_t {tn k : Nat} {c c' m m' : Nat → Int32} {t : Nat → Nat} {v : Int64} (ht : ∀ j, t j < 256) (h : ∀ j, j < tn → c j &&& 255 = nI (t j) ∧ m j = nI (t j)) (hfc : fdC c v tn k c') (hfm : fdM m v tn k m') : ∃ t2 : Nat → Nat, (∀ j, t2 j < 256) ∧ ∀ j, j < tn + k → c' j &&& 255 = nI (t2 j) ∧ m' j = nI (t2 j) := by
  refine ⟨fun j => if j < tn then t j else byN v (j - tn), fun j => ?_, fun j hj => ?_⟩
  · show (if j < tn then t j else byN v (j - tn)) < 256
    split
    · exact ht j
    · exact Nat.mod_lt _ (by decide)
  · show c' j &&& 255 = nI (if j < tn then t j else byN v (j - tn)) ∧ m' j = nI (if j < tn then t j else byN v (j - tn))
    by_cases e : j < tn
    · rw [if_pos e, hfc.1 j e, hfm.1 j e]
      exact h j e
    · obtain ⟨i, rfl⟩ : ∃ i, j = tn + i := ⟨j - tn, by omega⟩
      rw [if_neg e, hfc.2 i (by omega), hfm.2 i (by omega), show tn + i - tn = i by omega]
      exact ⟨by_C _, by_M _⟩
theorem ck_sum {P P' T Y U : P3} {a c : Int} (hP' : onC P') (e : PE P P') (hT : RSm (fun t => if t = 0 then G9 else P) 2 (fun t => if t = 0 then a else c) T) (hY : RP G9 a Y) (hU : RP P' c U) : PE T (AD Y U) := by
  have hAC : AC (fun t => if t = 0 then G9 else P') 2 := fun t ht => by
    show onC (if t = 0 then G9 else P')
    split
    · exact G9_on
    · exact hP'
  have h1 : RSm (fun t => if t = 0 then G9 else P') 2 (fun t => if t = 0 then a else c) T := hT.bs (fun t ht => by
    show PE (if t = 0 then G9 else P) (if t = 0 then G9 else P')
    split
    · exact PE.rf _
    · exact e)
  have k0 : RSm (fun t => if t = 0 then G9 else P') 2 (fun j => if j = 0 then a else 0) Y := RSm_1 (k := 0) hAC (by decide) hY
  have k1 : RSm (fun t => if t = 0 then G9 else P') 2 (fun j => if j = 1 then c else 0) U := RSm_1 (k := 1) hAC (by decide) hU
  have k2 : RSm (fun t => if t = 0 then G9 else P') 2 (fun t => if t = 0 then a else c) (AD Y U) := (RSm.add hAC k0 k1).ext (fun t ht => by
    show (if t = 0 then a else 0) + (if t = 1 then c else 0) = if t = 0 then a else c
    by_cases e : t = 0
    · rw [if_pos e, if_pos e, if_neg (by omega)]
      omega
    · rw [if_neg e, if_neg e, if_pos (by omega)]
      omega)
  exact RSm.un hAC h1 k2
theorem out_ok {x : Int32} {k wn : Nat} (hw : wn ≤ 96) (e : x = nI k) (hk : k < wn) : (0 : Int64).toInt ≤ x.toInt64.toInt ∧ x.toInt64.toInt ≤ (nI wn - nI 1).toInt64.toInt := by
  have e1 : nI wn - nI 1 = nI (wn - 1) := pk_sub (by omega)
  rw [e, e1, i2l_toInt, i2l_toInt, nI_toInt (by omega), nI_toInt (by omega)]
  exact ⟨Int.natCast_nonneg _, by omega⟩
theorem out_no {x : Int32} {k wn : Nat} (e : x = nI k) (hk : k < wn) (hw : wn ≤ 96) : ¬ x < 0 ∧ x < nI wn := by
  rw [e]
  exact ⟨nI_pos (by omega), nI_lt hk (by omega)⟩
theorem nc_hi {r : Int32} {t : Nat → Nat} {tn k : Nat} {B B' : Nat → Int} (h : NC r t tn k B B') (hk : k < 32) : ∀ j, 32 ≤ j → B' j = B j := by
  rcases h with ⟨_, ⟨_, _, e⟩ | ⟨_, _, e⟩⟩ | ⟨_, _, e⟩
  · rw [e]
    exact uI_hi hk
  · rw [e]
    exact fun _ _ => rfl
  · rw [e]
    exact fun _ _ => rfl
theorem op_hi {x1 x2 x3 x4 : Int32} {A : Nat → Int} (hok : okC x2 (nI 1) (nI 16) ∧ okS x1 x2 ∧ okS x3 (nI 1) ∧ okS x4 (nI 1)) : ∀ k, 32 ≤ k → fOpen x1 x2 x3 x4 A k = A k := by
  obtain ⟨k2, rfl, l2, q2⟩ := okC_nat (by decide) (by decide) hok.1
  obtain ⟨k1, rfl, q1⟩ := okS_nat (by omega) (by omega) hok.2.1
  intro k hk
  unfold fOpen
  rw [uI_hi (nt_S hok.2.2.2) k hk, nt_nI (by omega), nt_nI (by omega)]
  unfold dvA
  rw [if_neg (by omega)]
theorem tr_hi {x1 x2 x3 : Int32} {A : Nat → Int} (hok : okC x2 (nI 0) (nI 4) ∧ okS x1 (nI 1 <<< ((x2 &&& nI 7) &&& 31))) : ∀ k, 32 ≤ k → fTr x1 x2 x3 A k = A k := by
  obtain ⟨k2, rfl, l2, q2⟩ := okC_nat (by decide) (by decide) hok.1
  have hs9 := hok.2
  rw [sh7 k2 (by omega)] at hs9
  obtain ⟨k1, rfl, q1⟩ := okS_nat (pw16 (by omega)).1 (Nat.le_trans (pw16 (by omega)).2 (by decide)) hs9
  have hp := (pw16 (show k2 < 5 by omega)).2
  have hp1 : k1 ≤ 32 := Nat.le_trans (Nat.le_add_right _ _) q1
  intro k hk
  unfold fTr
  rw [nt_nI (by omega), nt_nI (by omega)]
  split
  · unfold evA
    rw [if_neg (by omega)]
  · unfold ivA
    rw [if_neg (by omega)]
theorem hsa0 {g : WG} {H : Heap} {b : Nat} (h : SCA g H b (fun _ => 0)) : SCA g H b B0 := fun k hk => by
  have e : B0 k = 0 := by
    unfold B0
    rw [if_neg (by omega), if_neg (by omega), if_neg (by omega), if_neg (by omega)]
  rw [e]
  exact h k hk
theorem rl_0 : RL 0 B0 (fun _ => PN) (fun _ => PN) := by
  refine ⟨fun k hk => ?_, fun k hk => absurd hk (Nat.not_lt_zero _), ?_⟩
  · have e : ptB B0 (32 + 3 * k) = PZ0 := by
      have a0 : B0 (32 + 3 * k) = 0 := by unfold B0; rw [if_pos (by omega), if_neg (by omega)]
      have a1 : B0 (32 + 3 * k + 1) = 1 := by unfold B0; rw [if_pos (by omega), if_pos (by omega)]
      have a2 : B0 (32 + 3 * k + 2) = 0 := by unfold B0; rw [if_pos (by omega), if_neg (by omega)]
      unfold ptB
      rw [a0, a1, a2]
      rfl
    rw [e]
    exact PN_PE
  · rfl
/-- what the law is at the end of each call: the world stands, and from there it comes to its end -/
def LNX (p : Program) (l : Launch) (e : Env) (s : State) (m : MethodId) (below : List Frame) (meth : Method) (c : Code) (g : WG) (sb L : Nat) (xs : Nat → Int32) (b : Nat) (mr mq : Int64) (i cells slots : Nat) : Prop := ∀ (H : Heap) (locs : List Loc) (ls : Array Slot) (th : Int32) (pn tn wn wm : Nat) (A : Nat → Int), LG g s H b pn tn wn mr mq → MVP g (nMT (b + 501)) H (b + 501) th pn tn wm A → TW g H b pn tn wn wm A mr mq → va_X sb L xs s H → (∀ q ∈ locs, HXA s q.base) → lv_has ls 8 [(4, .int (nI i)), (3, .ref (b + 510)), (2, .ref (b + 501)), (1, .ref b), (0, .ref sb)] → W p l e room_1 s m #[Value.ref sb] below meth c H locs cells slots (lw_Z below #[Value.ref sb] s) (F0 m 1611 ls [])
set_option maxHeartbeats 1000000 in
theorem law_true {p : Program} {l : Launch} {e : Env} {s : State} {m : MethodId} {below : List Frame} {meth : Method} {c : Code} {g : WG} {sb : Nat} {H : Heap} {locs : List Loc} {ls : Array Slot} (E : EV p m c code 8 s #[Value.ref sb] "KateDeskLaw" g) (hr : meth.sig.returnType = ret) (hlk : meth.locks = false) (hF : ∀ q ∈ locs, HXA s q.base) {cells slots : Nat} (h1 : cells ≤ 1201024) (h2 : slots ≤ 5493034) : W p l e room_1 s m #[Value.ref sb] below meth c H locs cells slots (lw_Z below #[Value.ref sb] s) (F0 m 1617 ls []) := by
  have hx := E.1
  have hb := E.2.1
  refine va_forget hF ?_
  refine W.widen h1 h2 ?_
  refine lv_iconst (v := nI 1) hx hb d_Law_law_1617 (by decide) ?_
  exact lw_ret hx hb hr hlk d_Law_law_1618
