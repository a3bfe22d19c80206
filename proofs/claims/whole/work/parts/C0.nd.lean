theorem J14.nd {g : WG} {b : Nat} {H : Heap} {a : Nat} (h : J14 g (nJ b) H a) : J14 g (nD b) H a := ⟨h.1.1, h.2⟩
theorem fdn_mono {n0 n1 : Nat → Prop} (h : ∀ q, n0 q → n1 q) {k q : Nat} (hk : fdn n0 k q) : fdn n1 k q := match k, hk with
  | 0, _ => trivial
  | 1, _ => trivial
  | 2, _ => trivial
  | 3, _ => trivial
  | 4, _ => trivial
  | _ + 5, hk => h _ hk
theorem FD.nd {g : WG} {b : Nat} {H : Heap} {o : Nat} {F : Nat → Nat} {mi : Int64} (h : FD g (nJ b) H o F mi) : FD g (nD b) H o F mi := ⟨h.1, fun k hk => ⟨fdn_mono (fun _ q => q.1) (h.2 k hk).1, (h.2 k hk).2⟩⟩
theorem RS.nd {g : WG} {b : Nat} {H : Heap} {o N : Nat} {Sc : Nat → Nat} (h : RS g (nJ b) H o N Sc) : RS g (nD b) H o N Sc := ⟨h.1, fun k hk => (h.2 k hk).nd⟩
theorem PO.nd {g : WG} {b : Nat} {H : Heap} {o fo vl : Nat} {F : Nat → Nat} {mi : Int64} {Y V : Nat → Nat} (h : PO g (nJ b) H o fo vl F mi Y V) : PO g (nD b) H o fo vl F mi Y V := ⟨h.1, h.2.1.nd, fun k hk => (h.2.2.1 k hk).nd, h.2.2.2.1, fun k hk => (h.2.2.2.2 k hk).nd⟩
