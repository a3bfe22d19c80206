theorem J14.on {g : WG} {n0 : Nat → Prop} {H H' : Heap} {a : Nat} (h : J14 g n0 H a) (he : H'[a]? = H[a]?) : J14 g n0 H' a := ⟨h.1, h.2.imp (fun f hf => hf.eq he)⟩
theorem PT.on {g : WG} {n0 : Nat → Prop} {H H' : Heap} {o x y z : Nat} (h : PT g n0 H o x y z) (h0 : H'[o]? = H[o]?) (h1 : H'[x]? = H[x]?) (h2 : H'[y]? = H[y]?) (h3 : H'[z]? = H[z]?) : PT g n0 H' o x y z := ⟨h.1.eq h0, h.2.1.on h1, h.2.2.1.on h2, h.2.2.2.on h3⟩
theorem FD.onE {g : WG} {n0 : Nat → Prop} {H H' : Heap} {o : Nat} {F : Nat → Nat} {mi : Int64} (h : FD g n0 H o F mi) (h0 : H'[o]? = H[o]?) (h1 : ∀ k, k < 6 → H'[F k]? = H[F k]?) : FD g n0 H' o F mi := ⟨h.1.eq h0, fun k hk => (h.2 k hk).on (h1 k hk)⟩
/-- the desk's rows of longs: not its digits, not its rows of bytes -/
def nJ (b : Nat) : Nat → Prop := fun q => nD b q ∧ ¬ (b + 445 ≤ q ∧ q ≤ b + 460) ∧ ¬ (b + 148 ≤ q ∧ q ≤ b + 151)
theorem nJ_D {b : Nat} : ∀ q, nJ b q → nD b q := fun _ h => h.1
/-- all cells of the desk but the two rows of bytes -/
def nX (b : Nat) : Nat → Prop := fun q => nD b q ∧ ¬ (b + 148 ≤ q ∧ q ≤ b + 151)
theorem nj_DG {b k : Nat} (hk : k < 16) : b + 445 ≤ kDG b k ∧ kDG b k ≤ b + 460 := by unfold kDG; omega
theorem nx_c {b c : Nat} (h : c ≤ 500 ∧ ¬ (148 ≤ c ∧ c ≤ 151)) : nX b (b + c) := by unfold nX nD; omega
theorem nx_Fr {b k : Nat} (hk : k < 6) : nX b (kFr b k) := by unfold nX nD kFr; split <;> omega
theorem nx_Fq {b k : Nat} (hk : k < 6) : nX b (kFq b k) := by unfold nX nD kFq; split <;> omega
theorem nx_X {b k : Nat} (hk : k < 9) : nX b (kX b k) := by unfold nX nD kX; omega
theorem nx_DG {b k : Nat} (hk : k < 16) : nX b (kDG b k) := by unfold nX nD kDG; omega
theorem nx_Y {b k : Nat} (hk : k < 7) : nX b (kY b k) := by unfold nX nD kY; omega
theorem nx_V {b k : Nat} (hk : k < 16) : nX b (kV b k) := by unfold nX nD kV; omega
theorem nx_Sc {b k : Nat} (hk : k < 32) : nX b (kSc b k) := by unfold nX nD kSc; omega
theorem nx_O {b k : Nat} (hk : k < 64) : nX b (kO b k) ∧ nX b (kO1 b k) ∧ nX b (kO2 b k) ∧ nX b (kO3 b k) := by unfold nX nD kO kO1 kO2 kO3; omega
theorem nx_PA {b k : Nat} (hk : k < 12) : nX b (kPA b k) ∧ nX b (kPA1 b k) ∧ nX b (kPA2 b k) ∧ nX b (kPA3 b k) := by unfold nX nD kPA kPA1 kPA2 kPA3; omega
theorem nx_PW {b k : Nat} (hk : k < 16) : nX b (kPW b k) ∧ nX b (kPW1 b k) ∧ nX b (kPW2 b k) ∧ nX b (kPW3 b k) := by unfold nX nD kPW kPW1 kPW2 kPW3; omega
/-- a desk of any contents, its two rows of bytes apart -/
def DX0 (g : WG) (H : Heap) (b p : Nat) (mr mq : Int64) : Prop := OB g H b 5 [.ref (b + 162), .ref (b + 176), .ref (b + 186), .ref (b + 465), .ref (b + 470), .ref (b + 1), .ref (b + 34), .ref (b + 83), .int (nI p), .ref (b + 148), .ref (b + 150), .ref (b + 495), .ref (b + 152), .ref (b + 156), .ref (b + 160), .ref (b + 161)] ∧ FD g (nJ b) H (b + 162) (kFr b) mr ∧ SO g (nJ b) H (b + 186) (b + 176) (b + 187) (b + 444) (b + 461) (b + 462) (b + 463) (b + 464) (b + 169) (kFq b) mq (kX b) (kO b) (kO1 b) (kO2 b) (kO3 b) ∧ AR g.2.2.2.2.2.2 H (b + 444) 16 (kDG b) ∧ (∀ k, k < 16 → ∃ f, AB g H (kDG b k) 257 f ∧ ∀ j, j < 257 → sd (f j)) ∧ PO g (nJ b) H (b + 470) (b + 162) (b + 478) (kFr b) mr (kY b) (kV b) ∧ RS g (nJ b) H (b + 1) 32 (kSc b) ∧ AR g.2.2.2.2.1 H (b + 34) 12 (kPA b) ∧ (∀ k, k < 12 → PT g (nJ b) H (kPA b k) (kPA1 b k) (kPA2 b k) (kPA3 b k)) ∧ AR g.2.2.2.2.1 H (b + 83) 16 (kPW b) ∧ (∀ k, k < 16 → PT g (nJ b) H (kPW b k) (kPW1 b k) (kPW2 b k) (kPW3 b k)) ∧ PT g (nJ b) H (b + 152) (b + 153) (b + 154) (b + 155) ∧ PT g (nJ b) H (b + 156) (b + 157) (b + 158) (b + 159) ∧ J14 g (nJ b) H (b + 160) ∧ J14 g (nJ b) H (b + 161) ∧ FMX g (nJ b) H (b + 465) (b + 176) (b + 169) (kFq b) mq (kX b) (b + 466) (b + 467) (b + 468) (b + 469) ∧ PT g (nJ b) H (b + 495) (b + 496) (b + 497) (b + 498)
theorem DX0.ob {g : WG} {H : Heap} {b p : Nat} {mr mq : Int64} (h : DX0 g H b p mr mq) : OB g H b 5 [.ref (b + 162), .ref (b + 176), .ref (b + 186), .ref (b + 465), .ref (b + 470), .ref (b + 1), .ref (b + 34), .ref (b + 83), .int (nI p), .ref (b + 148), .ref (b + 150), .ref (b + 495), .ref (b + 152), .ref (b + 156), .ref (b + 160), .ref (b + 161)] := h.1
theorem DX0.fr {g : WG} {H : Heap} {b p : Nat} {mr mq : Int64} (h : DX0 g H b p mr mq) : FD g (nJ b) H (b + 162) (kFr b) mr := h.2.1
theorem DX0.so {g : WG} {H : Heap} {b p : Nat} {mr mq : Int64} (h : DX0 g H b p mr mq) : SO g (nJ b) H (b + 186) (b + 176) (b + 187) (b + 444) (b + 461) (b + 462) (b + 463) (b + 464) (b + 169) (kFq b) mq (kX b) (kO b) (kO1 b) (kO2 b) (kO3 b) := h.2.2.1
theorem DX0.dr {g : WG} {H : Heap} {b p : Nat} {mr mq : Int64} (h : DX0 g H b p mr mq) : AR g.2.2.2.2.2.2 H (b + 444) 16 (kDG b) := h.2.2.2.1
theorem DX0.dg {g : WG} {H : Heap} {b p : Nat} {mr mq : Int64} (h : DX0 g H b p mr mq) : (∀ k, k < 16 → ∃ f, AB g H (kDG b k) 257 f ∧ ∀ j, j < 257 → sd (f j)) := h.2.2.2.2.1
theorem DX0.po {g : WG} {H : Heap} {b p : Nat} {mr mq : Int64} (h : DX0 g H b p mr mq) : PO g (nJ b) H (b + 470) (b + 162) (b + 478) (kFr b) mr (kY b) (kV b) := h.2.2.2.2.2.1
theorem DX0.rs {g : WG} {H : Heap} {b p : Nat} {mr mq : Int64} (h : DX0 g H b p mr mq) : RS g (nJ b) H (b + 1) 32 (kSc b) := h.2.2.2.2.2.2.1
theorem DX0.pa {g : WG} {H : Heap} {b p : Nat} {mr mq : Int64} (h : DX0 g H b p mr mq) : AR g.2.2.2.2.1 H (b + 34) 12 (kPA b) := h.2.2.2.2.2.2.2.1
theorem DX0.pt {g : WG} {H : Heap} {b p : Nat} {mr mq : Int64} (h : DX0 g H b p mr mq) : (∀ k, k < 12 → PT g (nJ b) H (kPA b k) (kPA1 b k) (kPA2 b k) (kPA3 b k)) := h.2.2.2.2.2.2.2.2.1
theorem DX0.pw {g : WG} {H : Heap} {b p : Nat} {mr mq : Int64} (h : DX0 g H b p mr mq) : AR g.2.2.2.2.1 H (b + 83) 16 (kPW b) := h.2.2.2.2.2.2.2.2.2.1
theorem DX0.pq {g : WG} {H : Heap} {b p : Nat} {mr mq : Int64} (h : DX0 g H b p mr mq) : (∀ k, k < 16 → PT g (nJ b) H (kPW b k) (kPW1 b k) (kPW2 b k) (kPW3 b k)) := h.2.2.2.2.2.2.2.2.2.2.1
theorem DX0.hp {g : WG} {H : Heap} {b p : Nat} {mr mq : Int64} (h : DX0 g H b p mr mq) : PT g (nJ b) H (b + 152) (b + 153) (b + 154) (b + 155) := h.2.2.2.2.2.2.2.2.2.2.2.1
theorem DX0.mu {g : WG} {H : Heap} {b p : Nat} {mr mq : Int64} (h : DX0 g H b p mr mq) : PT g (nJ b) H (b + 156) (b + 157) (b + 158) (b + 159) := h.2.2.2.2.2.2.2.2.2.2.2.2.1
theorem DX0.hs {g : WG} {H : Heap} {b p : Nat} {mr mq : Int64} (h : DX0 g H b p mr mq) : J14 g (nJ b) H (b + 160) := h.2.2.2.2.2.2.2.2.2.2.2.2.2.1
theorem DX0.fa {g : WG} {H : Heap} {b p : Nat} {mr mq : Int64} (h : DX0 g H b p mr mq) : J14 g (nJ b) H (b + 161) := h.2.2.2.2.2.2.2.2.2.2.2.2.2.2.1
theorem DX0.fm {g : WG} {H : Heap} {b p : Nat} {mr mq : Int64} (h : DX0 g H b p mr mq) : FMX g (nJ b) H (b + 465) (b + 176) (b + 169) (kFq b) mq (kX b) (b + 466) (b + 467) (b + 468) (b + 469) := h.2.2.2.2.2.2.2.2.2.2.2.2.2.2.2.1
theorem DX0.ge {g : WG} {H : Heap} {b p : Nat} {mr mq : Int64} (h : DX0 g H b p mr mq) : PT g (nJ b) H (b + 495) (b + 496) (b + 497) (b + 498) := h.2.2.2.2.2.2.2.2.2.2.2.2.2.2.2.2
theorem DX0.kj {g : WG} {H H' : Heap} {U : State} {b p : Nat} {mr mq : Int64} (d : DX0 g H b p mr mq) (hK : KW g U) (h : KJ g (nJ b) H H') : DX0 g H' b p mr mq := ⟨h.ob hK d.ob, h.fd hK d.fr, h.so hK d.so, h.arB hK d.dr, fun k hk => (d.dg k hk).imp (fun f hf => ⟨h.abo (fun h9 => h9.2.1 (nj_DG hk)) hf.1, hf.2⟩), h.po hK d.po, h.rs hK d.rs, h.arP hK d.pa, fun k hk => h.pt hK (d.pt k hk), h.arP hK d.pw, fun k hk => h.pt hK (d.pq k hk), h.pt hK d.hp, h.pt hK d.mu, h.j d.hs, h.j d.fa, h.fmx hK d.fm, h.pt hK d.ge⟩
theorem DX0.on {g : WG} {H H' : Heap} {b p : Nat} {mr mq : Int64} (d : DX0 g H b p mr mq) (he : ∀ q, nX b q → H'[q]? = H[q]?) : DX0 g H' b p mr mq := by
  have ec : ∀ c : Nat, (c ≤ 500 ∧ ¬ (148 ≤ c ∧ c ≤ 151)) → H'[b + c]? = H[b + c]? := fun c h => he _ (nx_c h)
  exact ⟨d.ob.eq (ec 0 (by decide)), d.fr.onE (ec 162 (by decide)) (fun k hk => he _ (nx_Fr hk)), ⟨d.so.1.eq (ec 186 (by decide)), ⟨d.so.2.1.1.eq (ec 176 (by decide)), d.so.2.1.2.1.onE (ec 169 (by decide)) (fun k hk => he _ (nx_Fq hk)), fun k hk => (d.so.2.1.2.2 k hk).on (he _ (nx_X hk))⟩, d.so.2.2.1.on (ec 461 (by decide)) (ec 462 (by decide)) (ec 463 (by decide)) (ec 464 (by decide)), d.so.2.2.2.1.eq (ec 187 (by decide)), fun k hk => (d.so.2.2.2.2 k hk).on (he _ (nx_O hk).1) (he _ (nx_O hk).2.1) (he _ (nx_O hk).2.2.1) (he _ (nx_O hk).2.2.2)⟩, d.dr.eq (ec 444 (by decide)), fun k hk => (d.dg k hk).imp (fun f hf => ⟨hf.1.eq (he _ (nx_DG hk)), hf.2⟩), ⟨d.po.1.eq (ec 470 (by decide)), d.po.2.1.onE (ec 162 (by decide)) (fun k hk => he _ (nx_Fr hk)), fun k hk => (d.po.2.2.1 k hk).on (he _ (nx_Y hk)), d.po.2.2.2.1.eq (ec 478 (by decide)), fun k hk => (d.po.2.2.2.2 k hk).on (he _ (nx_V hk))⟩, ⟨d.rs.1.eq (ec 1 (by decide)), fun k hk => (d.rs.2 k hk).on (he _ (nx_Sc hk))⟩, d.pa.eq (ec 34 (by decide)), fun k hk => (d.pt k hk).on (he _ (nx_PA hk).1) (he _ (nx_PA hk).2.1) (he _ (nx_PA hk).2.2.1) (he _ (nx_PA hk).2.2.2), d.pw.eq (ec 83 (by decide)), fun k hk => (d.pq k hk).on (he _ (nx_PW hk).1) (he _ (nx_PW hk).2.1) (he _ (nx_PW hk).2.2.1) (he _ (nx_PW hk).2.2.2), d.hp.on (ec 152 (by decide)) (ec 153 (by decide)) (ec 154 (by decide)) (ec 155 (by decide)), d.mu.on (ec 156 (by decide)) (ec 157 (by decide)) (ec 158 (by decide)) (ec 159 (by decide)), d.hs.on (ec 160 (by decide)), d.fa.on (ec 161 (by decide)), ⟨d.fm.1.eq (ec 465 (by decide)), ⟨d.fm.2.1.1.eq (ec 176 (by decide)), d.fm.2.1.2.1.onE (ec 169 (by decide)) (fun k hk => he _ (nx_Fq hk)), fun k hk => (d.fm.2.1.2.2 k hk).on (he _ (nx_X hk))⟩, d.fm.2.2.1.on (ec 466 (by decide)), d.fm.2.2.2.1.on (ec 467 (by decide)), d.fm.2.2.2.2.1.on (ec 468 (by decide)), d.fm.2.2.2.2.2.on (ec 469 (by decide))⟩, d.ge.on (ec 495 (by decide)) (ec 496 (by decide)) (ec 497 (by decide)) (ec 498 (by decide))⟩
/-- a desk of any contents: p powers, t bytes on the tape, w written; what lay outside it at H0 is as it was -/
def DS (g : WG) (H0 H : Heap) (b p t w : Nat) (mr mq : Int64) : Prop := FRM (nD b) H0 H ∧ DX0 g H b p mr mq ∧ RW9 g H (b + 148) (b + 149) t ∧ RW9 g H (b + 150) (b + 151) w ∧ p ≤ 16 ∧ t ≤ 96 ∧ w ≤ 96
theorem KJ.frq {g : WG} {S T : Nat → Prop} {H H' : Heap} (h : KJ g S H H') (hS : ∀ q, S q → T q) : FRM T H H' := ⟨h.1, fun q hq => h.off (fun hs => hq (hS q hs))⟩
theorem DS.kj {g : WG} {H0 H H' : Heap} {U : State} {b p t w : Nat} {mr mq : Int64} {S : Nat → Prop} (d : DS g H0 H b p t w mr mq) (hK : KW g U) (h : KJ g S H H') (hS : ∀ q, S q → nJ b q) : DS g H0 H' b p t w mr mq := ⟨d.1.tr (h.frq (fun q hq => (hS q hq).1)), d.2.1.kj hK (h.mono hS), h.rw9 hK d.2.2.1, h.rw9 hK d.2.2.2.1, d.2.2.2.2⟩
theorem DS.x {g : WG} {H0 H : Heap} {b p t w : Nat} {mr mq : Int64} (d : DS g H0 H b p t w mr mq) : DX0 g H b p mr mq := d.2.1
theorem DS.tp {g : WG} {H0 H : Heap} {b p t w : Nat} {mr mq : Int64} (d : DS g H0 H b p t w mr mq) : RW9 g H (b + 148) (b + 149) t := d.2.2.1
theorem DS.wr {g : WG} {H0 H : Heap} {b p t w : Nat} {mr mq : Int64} (d : DS g H0 H b p t w mr mq) : RW9 g H (b + 150) (b + 151) w := d.2.2.2.1
theorem nx_row {b q : Nat} (h : nX b q) : ¬ (q = b + 148 ∨ q = b + 149) ∧ ¬ (q = b + 150 ∨ q = b + 151) := by unfold nX at h; omega
/-- the tape became another -/
theorem DS.tape {g : WG} {H0 H H' : Heap} {b p t w t2 : Nat} {mr mq : Int64} (d : DS g H0 H b p t w mr mq) (h : FRM (fun q => q = b + 148 ∨ q = b + 149) H H') (hr : RW9 g H' (b + 148) (b + 149) t2) (h96 : t2 ≤ 96) : DS g H0 H' b p t2 w mr mq :=
  ⟨d.1.tr (h.mono (fun q h => by rcases h with rfl | rfl <;> exact ⟨by omega, by omega⟩)), d.2.1.on (fun q hq => h.2 q (nx_row hq).1), hr, d.2.2.2.1.frm h (by omega) (by omega), d.2.2.2.2.1, h96, d.2.2.2.2.2.2⟩
theorem DS.writ {g : WG} {H0 H H' : Heap} {b p t w w2 : Nat} {mr mq : Int64} (d : DS g H0 H b p t w mr mq) (h : FRM (fun q => q = b + 150 ∨ q = b + 151) H H') (hr : RW9 g H' (b + 150) (b + 151) w2) (h96 : w2 ≤ 96) : DS g H0 H' b p t w2 mr mq :=
  ⟨d.1.tr (h.mono (fun q h => by rcases h with rfl | rfl <;> exact ⟨by omega, by omega⟩)), d.2.1.on (fun q hq => h.2 q (nx_row hq).2), d.2.2.1.frm h (by omega) (by omega), hr, d.2.2.2.2.1, d.2.2.2.2.2.1, h96⟩
/-- a row of digits became another -/
theorem DS.digit {g : WG} {H0 H H' : Heap} {U : State} {b p t w : Nat} {mr mq : Int64} {k0 : Nat} (hk0 : k0 < 16) (d : DS g H0 H b p t w mr mq) (hK : KW g U) (h : KJ g (fun q => nJ b q ∨ q = kDG b k0) H H') (hd : ∃ f, AB g H' (kDG b k0) 257 f ∧ ∀ j, j < 257 → sd (f j)) : DS g H0 H' b p t w mr mq := by
  have x := d.2.1
  refine ⟨d.1.tr (h.frq (fun q hq => hq.elim (fun h => h.1) (fun h => by subst h; exact (nx_DG hk0).1))), ⟨h.ob hK x.ob, h.fd hK x.fr, h.so hK x.so, h.arB hK x.dr, fun k hk => if e : k = k0 then by subst e; exact hd else (x.dg k hk).imp (fun f hf => ⟨h.abo (fun h9 => h9.elim (fun h9 => h9.2.1 (nj_DG hk)) (fun h9 => e (by unfold kDG at h9; omega))) hf.1, hf.2⟩), h.po hK x.po, h.rs hK x.rs, h.arP hK x.pa, fun k hk => h.pt hK (x.pt k hk), h.arP hK x.pw, fun k hk => h.pt hK (x.pq k hk), h.pt hK x.hp, h.pt hK x.mu, h.j x.hs, h.j x.fa, h.fmx hK x.fm, h.pt hK x.ge⟩, h.rw9 hK d.2.2.1, h.rw9 hK d.2.2.2.1, d.2.2.2.2⟩
set_option maxHeartbeats 4000000 in
set_option maxRecDepth 100000 in
theorem v_Sums_place (l : Launch) (g : WG) (n0 : Nat → Prop) (o cu od dg sm s1 s2 s3 : Nat) (fo : Nat) (F : Nat → Nat) (mi : Int64) (X : Nat → Nat) (O O1 O2 O3 : Nat → Nat) (DG : Nat → Nat) (n1 : Nat → Prop) (t a : Nat) (y y1 y2 y3 : Nat) (ht : t < 16) (hn1 : ∀ q, n1 q → n0 q) (hdn : ¬ n1 (DG t)) : Ctr l y_Sums_place (.code y_Sums_place prog_9_method_2_code 4 none) 5 211 0 0 n0 g [.ref o, .int (nI t), .ref a, .ref y] (fun H => SO g n1 H o cu od dg sm s1 s2 s3 fo F mi X O O1 O2 O3 ∧ AR g.2.2.2.2.2.2 H dg 16 DG ∧ (n0 (DG t) ∧ ∃ f, AB g H (DG t) 257 f) ∧ J14 g n0 H a ∧ PT g n1 H y y1 y2 y3) (QV (fun H H' => KJ g (fun q => n1 q ∨ q = DG t) H H' ∧ ∃ f, AB g H' (DG t) 257 f ∧ ∀ j, j < 257 → sd (f j))) := by
  refine ctr_mk l (lv0 := [(0, .ref o), (1, .int (nI t)), (2, .ref a), (3, .ref y)]) (by decide) (Nat.le_of_ble_eq_true rfl) rfl ?_
  intro p e s m below meth c ls E hr hlk hnm hl hP
  have hx := E.1
  have hb := E.2.1
  have hK := E.2.2.2.2.2
  have hF : ∀ q ∈ ([] : List Loc), n0 q.base := fun q hq => absurd hq List.not_mem_nil
  obtain ⟨hso, hdr, hdt, h_a, h_y⟩ := hP
  refine lv_aload_n hx hb d_Sums_place_0 rfl (lv_at hl 0 rfl) ?_
  refine lv_iload_n hx hb d_Sums_place_1 rfl (lv_at hl 1 rfl) ?_
  refine lv_aload_n hx hb d_Sums_place_2 rfl (lv_at hl 2 rfl) ?_
  refine lv_iconst (v := nI 0) hx hb d_Sums_place_3 (by decide) ?_
  refine lv_sipush (v := nI 256) hx hb d_Sums_place_4 (by decide) ?_
  refine q_cV (rest := []) E (v_Sums_recode l g n0 o cu od dg sm DG t a 256 (nI 0) ht (by decide)) w_681 w_12 w_678 w_679 w_680 hd_Sums_recode rfl ⟨by decide, by decide⟩ (OB.recv E.2.2.2.2.2 (by rfl) hso.1) (⟨hso.1, hdr, hdt, h_a⟩) hF hl.1 rfl (Nat.le_of_ble_eq_true rfl) d_Sums_place_7 ⟨by decide, by decide⟩ (qv (fun H1 locs hq hF => ?_))
  obtain ⟨hk, f9, hf9, hsd⟩ := hq
  refine lv_aload_n hx hb d_Sums_place_10 rfl (lv_at hl 2 rfl) ?_
  refine q_cS (rest := []) E (v_Limbs_isZero l g n0 a) w_548 w_5 w_689 w_547 hd_Limbs_isZero rfl ⟨by decide, by decide⟩ (hk.j h_a) hF hl.1 rfl (Nat.le_of_ble_eq_true rfl) d_Sums_place_11 ⟨by decide, by decide⟩ (qi (fun r H2 locs hq hF => ?_))
  obtain ⟨-, hq⟩ := hq
  have hq := hq.symm
  subst hq
  refine lv_if_ne (tgt := 23) hx hb d_Sums_place_14 (by decide) (fun _ => ?_) (fun _ => ?_)
  · skip
    exact q_vret E hr hlk (⟨rfl, hk.mono (fun q h => Or.inr h), f9, hf9, hsd⟩) hF d_Sums_place_23
  · skip
    refine lv_aload_n hx hb d_Sums_place_17 rfl (lv_at hl 0 rfl) ?_
    refine lv_iload_n hx hb d_Sums_place_18 rfl (lv_at hl 1 rfl) ?_
    refine lv_aload_n hx hb d_Sums_place_19 rfl (lv_at hl 3 rfl) ?_
    refine q_cV (rest := []) E ((v_Sums_tabulate l g n1 o cu od dg sm s1 s2 s3 fo F mi X O O1 O2 O3 t y y1 y2 y3 ht).up hn1) w_693 w_12 w_690 w_691 w_692 hd_Sums_tabulate rfl ⟨by decide, by decide⟩ (OB.recv E.2.2.2.2.2 (by rfl) ((hk.so hK hso).1)) (⟨hk.so hK hso, hk.pt hK h_y⟩) hF hl.1 rfl (Nat.le_of_ble_eq_true rfl) d_Sums_place_20 ⟨by decide, by decide⟩ (qv (fun H3 locs hq hF => ?_))
    exact q_vret E hr hlk (⟨rfl, (hk.mono (fun q h => Or.inr h)).tr (hq.mono (fun q h => Or.inl h)), f9, hq.abo hdn hf9, hsd⟩) hF d_Sums_place_23
