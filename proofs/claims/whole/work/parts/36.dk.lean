def kFr (b k : Nat) : Nat := if k = 0 then b + 168 else b + 162 + k
def kFq (b k : Nat) : Nat := if k = 0 then b + 175 else b + 169 + k
def kX (b k : Nat) : Nat := b + 177 + k
def kO (b k : Nat) : Nat := b + 188 + 4 * k
def kO1 (b k : Nat) : Nat := b + 189 + 4 * k
def kO2 (b k : Nat) : Nat := b + 190 + 4 * k
def kO3 (b k : Nat) : Nat := b + 191 + 4 * k
def kDG (b k : Nat) : Nat := b + 445 + k
def kY (b k : Nat) : Nat := b + 471 + k
def kV (b k : Nat) : Nat := b + 479 + k
def kSc (b k : Nat) : Nat := b + 2 + k
def kPA (b k : Nat) : Nat := b + 35 + 4 * k
def kPA1 (b k : Nat) : Nat := b + 36 + 4 * k
def kPA2 (b k : Nat) : Nat := b + 37 + 4 * k
def kPA3 (b k : Nat) : Nat := b + 38 + 4 * k
def kPW (b k : Nat) : Nat := b + 84 + 4 * k
def kPW1 (b k : Nat) : Nat := b + 85 + 4 * k
def kPW2 (b k : Nat) : Nat := b + 86 + 4 * k
def kPW3 (b k : Nat) : Nat := b + 87 + 4 * k
/-- a desk whose parts lie as its constructor lays them -/
def DK (g : WG) (n0 : Nat → Prop) (H : Heap) (b : Nat) (pc ts wz : Int32) (mr mq : Int64) : Prop := OB g H b 5 [.ref (b + 162), .ref (b + 176), .ref (b + 186), .ref (b + 465), .ref (b + 470), .ref (b + 1), .ref (b + 34), .ref (b + 83), .int pc, .ref (b + 148), .ref (b + 150), .ref (b + 495), .ref (b + 152), .ref (b + 156), .ref (b + 160), .ref (b + 161)] ∧ FD g n0 H (b + 162) (kFr b) mr ∧ SU g n0 H (b + 186) (b + 176) (b + 187) (b + 444) (b + 461) (b + 462) (b + 463) (b + 464) (b + 169) (kFq b) mq (kX b) (kO b) (kO1 b) (kO2 b) (kO3 b) (kDG b) ∧ PO g n0 H (b + 470) (b + 162) (b + 478) (kFr b) mr (kY b) (kV b) ∧ RS g n0 H (b + 1) 32 (kSc b) ∧ AR g.2.2.2.2.1 H (b + 34) 12 (kPA b) ∧ (∀ k, k < 12 → PT g n0 H (kPA b k) (kPA1 b k) (kPA2 b k) (kPA3 b k)) ∧ AR g.2.2.2.2.1 H (b + 83) 16 (kPW b) ∧ (∀ k, k < 16 → PT g n0 H (kPW b k) (kPW1 b k) (kPW2 b k) (kPW3 b k)) ∧ OB g H (b + 148) 3 [.ref (b + 149), .int ts] ∧ (∃ f, AB g H (b + 149) 96 f) ∧ OB g H (b + 150) 3 [.ref (b + 151), .int wz] ∧ (∃ f, AB g H (b + 151) 96 f) ∧ PT g n0 H (b + 152) (b + 153) (b + 154) (b + 155) ∧ PT g n0 H (b + 156) (b + 157) (b + 158) (b + 159) ∧ J14 g n0 H (b + 160) ∧ J14 g n0 H (b + 161) ∧ OB g H (b + 465) 6 [.ref (b + 169), .ref (b + 176), .ref (b + 466), .ref (b + 467), .ref (b + 468), .ref (b + 469)] ∧ PT g n0 H (b + 495) (b + 496) (b + 497) (b + 498) ∧ (n0 b ∧ n0 (b + 148) ∧ n0 (b + 149) ∧ n0 (b + 150) ∧ n0 (b + 151))
theorem DK.ob {g : WG} {n0 : Nat → Prop} {H : Heap} {b : Nat} {pc ts wz : Int32} {mr mq : Int64} (h : DK g n0 H b pc ts wz mr mq) : OB g H b 5 [.ref (b + 162), .ref (b + 176), .ref (b + 186), .ref (b + 465), .ref (b + 470), .ref (b + 1), .ref (b + 34), .ref (b + 83), .int pc, .ref (b + 148), .ref (b + 150), .ref (b + 495), .ref (b + 152), .ref (b + 156), .ref (b + 160), .ref (b + 161)] := h.1
theorem DK.fr {g : WG} {n0 : Nat → Prop} {H : Heap} {b : Nat} {pc ts wz : Int32} {mr mq : Int64} (h : DK g n0 H b pc ts wz mr mq) : FD g n0 H (b + 162) (kFr b) mr := h.2.1
theorem DK.su {g : WG} {n0 : Nat → Prop} {H : Heap} {b : Nat} {pc ts wz : Int32} {mr mq : Int64} (h : DK g n0 H b pc ts wz mr mq) : SU g n0 H (b + 186) (b + 176) (b + 187) (b + 444) (b + 461) (b + 462) (b + 463) (b + 464) (b + 169) (kFq b) mq (kX b) (kO b) (kO1 b) (kO2 b) (kO3 b) (kDG b) := h.2.2.1
theorem DK.po {g : WG} {n0 : Nat → Prop} {H : Heap} {b : Nat} {pc ts wz : Int32} {mr mq : Int64} (h : DK g n0 H b pc ts wz mr mq) : PO g n0 H (b + 470) (b + 162) (b + 478) (kFr b) mr (kY b) (kV b) := h.2.2.2.1
theorem DK.rs {g : WG} {n0 : Nat → Prop} {H : Heap} {b : Nat} {pc ts wz : Int32} {mr mq : Int64} (h : DK g n0 H b pc ts wz mr mq) : RS g n0 H (b + 1) 32 (kSc b) := h.2.2.2.2.1
theorem DK.pa {g : WG} {n0 : Nat → Prop} {H : Heap} {b : Nat} {pc ts wz : Int32} {mr mq : Int64} (h : DK g n0 H b pc ts wz mr mq) : AR g.2.2.2.2.1 H (b + 34) 12 (kPA b) := h.2.2.2.2.2.1
theorem DK.pt {g : WG} {n0 : Nat → Prop} {H : Heap} {b : Nat} {pc ts wz : Int32} {mr mq : Int64} (h : DK g n0 H b pc ts wz mr mq) : (∀ k, k < 12 → PT g n0 H (kPA b k) (kPA1 b k) (kPA2 b k) (kPA3 b k)) := h.2.2.2.2.2.2.1
theorem DK.pw {g : WG} {n0 : Nat → Prop} {H : Heap} {b : Nat} {pc ts wz : Int32} {mr mq : Int64} (h : DK g n0 H b pc ts wz mr mq) : AR g.2.2.2.2.1 H (b + 83) 16 (kPW b) := h.2.2.2.2.2.2.2.1
theorem DK.pq {g : WG} {n0 : Nat → Prop} {H : Heap} {b : Nat} {pc ts wz : Int32} {mr mq : Int64} (h : DK g n0 H b pc ts wz mr mq) : (∀ k, k < 16 → PT g n0 H (kPW b k) (kPW1 b k) (kPW2 b k) (kPW3 b k)) := h.2.2.2.2.2.2.2.2.1
theorem DK.tp {g : WG} {n0 : Nat → Prop} {H : Heap} {b : Nat} {pc ts wz : Int32} {mr mq : Int64} (h : DK g n0 H b pc ts wz mr mq) : OB g H (b + 148) 3 [.ref (b + 149), .int ts] := h.2.2.2.2.2.2.2.2.2.1
theorem DK.tc {g : WG} {n0 : Nat → Prop} {H : Heap} {b : Nat} {pc ts wz : Int32} {mr mq : Int64} (h : DK g n0 H b pc ts wz mr mq) : (∃ f, AB g H (b + 149) 96 f) := h.2.2.2.2.2.2.2.2.2.2.1
theorem DK.wr {g : WG} {n0 : Nat → Prop} {H : Heap} {b : Nat} {pc ts wz : Int32} {mr mq : Int64} (h : DK g n0 H b pc ts wz mr mq) : OB g H (b + 150) 3 [.ref (b + 151), .int wz] := h.2.2.2.2.2.2.2.2.2.2.2.1
theorem DK.wc {g : WG} {n0 : Nat → Prop} {H : Heap} {b : Nat} {pc ts wz : Int32} {mr mq : Int64} (h : DK g n0 H b pc ts wz mr mq) : (∃ f, AB g H (b + 151) 96 f) := h.2.2.2.2.2.2.2.2.2.2.2.2.1
theorem DK.hp {g : WG} {n0 : Nat → Prop} {H : Heap} {b : Nat} {pc ts wz : Int32} {mr mq : Int64} (h : DK g n0 H b pc ts wz mr mq) : PT g n0 H (b + 152) (b + 153) (b + 154) (b + 155) := h.2.2.2.2.2.2.2.2.2.2.2.2.2.1
theorem DK.mu {g : WG} {n0 : Nat → Prop} {H : Heap} {b : Nat} {pc ts wz : Int32} {mr mq : Int64} (h : DK g n0 H b pc ts wz mr mq) : PT g n0 H (b + 156) (b + 157) (b + 158) (b + 159) := h.2.2.2.2.2.2.2.2.2.2.2.2.2.2.1
theorem DK.hs {g : WG} {n0 : Nat → Prop} {H : Heap} {b : Nat} {pc ts wz : Int32} {mr mq : Int64} (h : DK g n0 H b pc ts wz mr mq) : J14 g n0 H (b + 160) := h.2.2.2.2.2.2.2.2.2.2.2.2.2.2.2.1
theorem DK.fa {g : WG} {n0 : Nat → Prop} {H : Heap} {b : Nat} {pc ts wz : Int32} {mr mq : Int64} (h : DK g n0 H b pc ts wz mr mq) : J14 g n0 H (b + 161) := h.2.2.2.2.2.2.2.2.2.2.2.2.2.2.2.2.1
theorem DK.fm {g : WG} {n0 : Nat → Prop} {H : Heap} {b : Nat} {pc ts wz : Int32} {mr mq : Int64} (h : DK g n0 H b pc ts wz mr mq) : OB g H (b + 465) 6 [.ref (b + 169), .ref (b + 176), .ref (b + 466), .ref (b + 467), .ref (b + 468), .ref (b + 469)] := h.2.2.2.2.2.2.2.2.2.2.2.2.2.2.2.2.2.1
theorem DK.ge {g : WG} {n0 : Nat → Prop} {H : Heap} {b : Nat} {pc ts wz : Int32} {mr mq : Int64} (h : DK g n0 H b pc ts wz mr mq) : PT g n0 H (b + 495) (b + 496) (b + 497) (b + 498) := h.2.2.2.2.2.2.2.2.2.2.2.2.2.2.2.2.2.2.1
theorem DK.no {g : WG} {n0 : Nat → Prop} {H : Heap} {b : Nat} {pc ts wz : Int32} {mr mq : Int64} (h : DK g n0 H b pc ts wz mr mq) : (n0 b ∧ n0 (b + 148) ∧ n0 (b + 149) ∧ n0 (b + 150) ∧ n0 (b + 151)) := h.2.2.2.2.2.2.2.2.2.2.2.2.2.2.2.2.2.2.2
theorem KJ.dk {g : WG} {S n0 : Nat → Prop} {H H' : Heap} {U : State} (h : KJ g S H H') (hK : KW g U) {b : Nat} {pc ts wz : Int32} {mr mq : Int64} (d : DK g n0 H b pc ts wz mr mq) : DK g n0 H' b pc ts wz mr mq := ⟨h.ob hK d.ob, h.fd hK d.fr, h.su hK d.su, h.po hK d.po, h.rs hK d.rs, h.arP hK d.pa, fun k hk => h.pt hK (d.pt k hk), h.arP hK d.pw, fun k hk => h.pt hK (d.pq k hk), h.ob hK d.tp, d.tc.elim (fun _ hf => h.ab hf hK.jb), h.ob hK d.wr, d.wc.elim (fun _ hf => h.ab hf hK.jb), h.pt hK d.hp, h.pt hK d.mu, h.j d.hs, h.j d.fa, h.ob hK d.fm, h.pt hK d.ge, d.no⟩
/-- all numbers 0, all points nothing -/
def FRESH (g : WG) (H : Heap) (b : Nat) : Prop := (∀ k, k < 32 → AJ g H (kSc b k) 14 (fun _ => 0)) ∧ (∀ k, k < 12 → AJ g H (kPA3 b k) 14 (fun _ => 0)) ∧ MD g H (b + 168) ∧ MD g H (b + 175)
