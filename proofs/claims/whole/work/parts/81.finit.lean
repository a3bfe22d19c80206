def hb60 (j : Nat) : Int32 := ([55, 51, 101, 100, 97, 55, 53, 51, 50, 57, 57, 100, 55, 100, 52, 56, 51, 51, 51, 57, 100, 56, 48, 56, 48, 57, 97, 49, 100, 56, 48, 53, 53, 51, 98, 100, 97, 52, 48, 50, 102, 102, 102, 101, 53, 98, 102, 101, 102, 102, 102, 102, 102, 102, 102, 102, 48, 48, 48, 48, 48, 48, 48, 49] : List Int32).getD j 0
def hb65 (j : Nat) : Int32 := ([49, 97, 48, 49, 49, 49, 101, 97, 51, 57, 55, 102, 101, 54, 57, 97, 52, 98, 49, 98, 97, 55, 98, 54, 52, 51, 52, 98, 97, 99, 100, 55, 54, 52, 55, 55, 52, 98, 56, 52, 102, 51, 56, 53, 49, 50, 98, 102, 54, 55, 51, 48, 100, 50, 97, 48, 102, 54, 98, 48, 102, 54, 50, 52, 49, 101, 97, 98, 102, 102, 102, 101, 98, 49, 53, 51, 102, 102, 102, 102, 98, 57, 102, 101, 102, 102, 102, 102, 102, 102, 102, 102, 97, 97, 97, 98] : List Int32).getD j 0
def hb292 (j : Nat) : Int32 := ([49, 55, 102, 49, 100, 51, 97, 55, 51, 49, 57, 55, 100, 55, 57, 52, 50, 54, 57, 53, 54, 51, 56, 99, 52, 102, 97, 57, 97, 99, 48, 102, 99, 51, 54, 56, 56, 99, 52, 102, 57, 55, 55, 52, 98, 57, 48, 53, 97, 49, 52, 101, 51, 97, 51, 102, 49, 55, 49, 98, 97, 99, 53, 56, 54, 99, 53, 53, 101, 56, 51, 102, 102, 57, 55, 97, 49, 97, 101, 102, 102, 98, 51, 97, 102, 48, 48, 97, 100, 98, 50, 50, 99, 54, 98, 98] : List Int32).getD j 0
def hb301 (j : Nat) : Int32 := ([48, 56, 98, 51, 102, 52, 56, 49, 101, 51, 97, 97, 97, 48, 102, 49, 97, 48, 57, 101, 51, 48, 101, 100, 55, 52, 49, 100, 56, 97, 101, 52, 102, 99, 102, 53, 101, 48, 57, 53, 100, 53, 100, 48, 48, 97, 102, 54, 48, 48, 100, 98, 49, 56, 99, 98, 50, 99, 48, 52, 98, 51, 101, 100, 100, 48, 51, 99, 99, 55, 52, 52, 97, 50, 56, 56, 56, 97, 101, 52, 48, 99, 97, 97, 50, 51, 50, 57, 52, 54, 99, 53, 101, 55, 101, 49] : List Int32).getD j 0
theorem hx60 : (∀ i, i < 14 → ¬ hxF hb60 64 64 i < 0) ∧ hxF hb60 64 64 0 ≠ 0 := by
  have h : ∀ i : Fin 14, ¬ hxF hb60 64 64 i.val < 0 := by decide +kernel
  exact ⟨fun i hi => h ⟨i, hi⟩, by decide +kernel⟩
theorem hx65 : (∀ i, i < 14 → ¬ hxF hb65 96 96 i < 0) ∧ hxF hb65 96 96 0 ≠ 0 := by
  have h : ∀ i : Fin 14, ¬ hxF hb65 96 96 i.val < 0 := by decide +kernel
  exact ⟨fun i hi => h ⟨i, hi⟩, by decide +kernel⟩
/-- what the law's entry brings for the four numbers -/
def KH (s0 : State) : Prop := KS s0 ∧ (∃ a, vk_R "KateDesk" 60 "73eda753299d7d483339d80809a1d80553bda402fffe5bfeffffffff00000001" a s0 ∧ KT s0 a 64 hb60) ∧ (∃ a, vk_R "KateDesk" 65 "1a0111ea397fe69a4b1ba7b6434bacd764774b84f38512bf6730d2a0f6b0f6241eabfffeb153ffffb9feffffffffaaab" a s0 ∧ KT s0 a 96 hb65) ∧ (∃ a, vk_R "KateDesk" 292 "17f1d3a73197d7942695638c4fa9ac0fc3688c4f9774b905a14e3a3f171bac586c55e83ff97a1aeffb3af00adb22c6bb" a s0 ∧ KT s0 a 96 hb292) ∧ (∃ a, vk_R "KateDesk" 301 "08b3f481e3aaa0f1a09e30ed741d8ae4fcf5e095d5d00af600db18cb2c04b3edd03cc744a2888ae40caa232946c5e7e1" a s0 ∧ KT s0 a 96 hb301)
def kF (o k : Nat) : Nat := if k = 0 then o + 6 else o + k
theorem fd_mk {g : WG} {n0 : Nat → Prop} {H : Heap} {o : Nat} {mi : Int64} {f1 f2 f3 f4 f5 f6 : Nat → Int64} (ho : OB g H o 1 [.ref (o + 6), .ref (o + 1), .ref (o + 2), .ref (o + 3), .ref (o + 4), .ref (o + 5), .long mi]) (hna : ∀ q, o ≤ q → n0 q) (h1 : AJ g H (o + 1) 14 f1) (h2 : AJ g H (o + 2) 14 f2) (h3 : AJ g H (o + 3) 14 f3) (h4 : AJ g H (o + 4) 14 f4) (h5 : AJ g H (o + 5) 14 f5) (h6 : AJ g H (o + 6) 14 f6) : FD g n0 H o (kF o) mi := by
  refine ⟨ho, fun k hk => ?_⟩
  match k, hk with
  | 0, _ => exact ⟨trivial, f6, h6⟩
  | 1, _ => exact ⟨trivial, f1, h1⟩
  | 2, _ => exact ⟨trivial, f2, h2⟩
  | 3, _ => exact ⟨trivial, f3, h3⟩
  | 4, _ => exact ⟨trivial, f4, h4⟩
  | 5, _ => exact ⟨hna (o + 5) (by omega), f5, h5⟩
theorem kf_S {o q i : Nat} (h1 : 1 ≤ i) (h5 : i ≤ 5) (e : q = o + i) : o + 1 ≤ q ∧ q ≤ o + 5 := by omega
theorem kf_6 {o : Nat} : ¬ (o + 1 ≤ o + 6 ∧ o + 6 ≤ o + 5) := by omega
theorem kf_q {o q : Nat} (h : q < o) : ¬ (o + 1 ≤ q ∧ q ≤ o + 5) := by omega
theorem AJ.lt {g : WG} {H : Heap} {a N : Nat} {f : Nat → Int64} (h : AJ g H a N f) : a < H.size := (Array.getElem?_eq_some_iff.mp h).1
theorem AB.lt {g : WG} {H : Heap} {a N : Nat} {f : Nat → Int32} (h : AB g H a N f) : a < H.size := (Array.getElem?_eq_some_iff.mp h).1
theorem AR.lt {cA : ClassId} {H : Heap} {a N : Nat} {f : Nat → Nat} (h : AR cA H a N f) : a < H.size := (Array.getElem?_eq_some_iff.mp h).1
theorem OB.lt {g : WG} {H : Heap} {a ci : Nat} {fs : List Value} (h : OB g H a ci fs) : a < H.size := by
  obtain ⟨r, hc, cell, h1, h2⟩ := h
  exact (Array.getElem?_eq_some_iff.mp h1).1
theorem AB.eq {g : WG} {H H' : Heap} {a N : Nat} {f : Nat → Int32} (hA : AB g H a N f) (h : H'[a]? = H[a]?) : AB g H' a N f := by unfold AB at hA ⊢; rw [h]; exact hA
theorem AR.eq {cA : ClassId} {H H' : Heap} {a N : Nat} {f : Nat → Nat} (hA : AR cA H a N f) (h : H'[a]? = H[a]?) : AR cA H' a N f := by unfold AR at hA ⊢; rw [h]; exact hA
/-- all cells but b are as they were, and more may stand behind them -/
def SB (b : Nat) (H H' : Heap) : Prop := H.size ≤ H'.size ∧ ∀ q, q < H.size → q ≠ b → H'[q]? = H[q]?
theorem SB.rf {b : Nat} {H : Heap} : SB b H H := ⟨Nat.le_refl _, fun _ _ _ => rfl⟩
theorem SB.tr {b : Nat} {H H1 H2 : Heap} (h : SB b H H1) (h' : SB b H1 H2) : SB b H H2 := ⟨Nat.le_trans h.1 h'.1, fun q h1 h2 => (h'.2 q (Nat.lt_of_lt_of_le h1 h.1) h2).trans (h.2 q h1 h2)⟩
theorem SB.grow {b h : Nat} {H H' : Heap} (hh : H.size = h) (hs : h ≤ H'.size) (he : ∀ q, q < h → H'[q]? = H[q]?) : SB b H H' := ⟨by rw [hh]; exact hs, fun q h1 _ => he q (by rw [← hh]; exact h1)⟩
theorem SB.frm {b : Nat} {H H' : Heap} (h : FRM (fun q => q = b) H H') : SB b H H' := ⟨Nat.le_of_eq h.1.symm, fun q _ h2 => h.2 q h2⟩
theorem AJ.sb {g : WG} {b : Nat} {H H' : Heap} {a N : Nat} {f : Nat → Int64} (hA : AJ g H a N f) (h : SB b H H') (hn : a ≠ b) : AJ g H' a N f := hA.eq (h.2 a hA.lt hn)
theorem AB.sb {g : WG} {b : Nat} {H H' : Heap} {a N : Nat} {f : Nat → Int32} (hA : AB g H a N f) (h : SB b H H') (hn : a ≠ b) : AB g H' a N f := hA.eq (h.2 a hA.lt hn)
theorem AR.sb {cA : ClassId} {b : Nat} {H H' : Heap} {a N : Nat} {f : Nat → Nat} (hA : AR cA H a N f) (h : SB b H H') (hn : a ≠ b) : AR cA H' a N f := hA.eq (h.2 a hA.lt hn)
theorem OB.sb {g : WG} {b : Nat} {H H' : Heap} {a ci : Nat} {fs : List Value} (hA : OB g H a ci fs) (h : SB b H H') (hn : a ≠ b) : OB g H' a ci fs := hA.eq (h.2 a hA.lt hn)
theorem J14.sb {g : WG} {n0 : Nat → Prop} {b : Nat} {H H' : Heap} {a : Nat} (hA : J14 g n0 H a) (h : SB b H H') (hn : a ≠ b) : J14 g n0 H' a := ⟨hA.1, hA.2.imp (fun f hf => hf.sb h hn)⟩
theorem PT.sb {g : WG} {n0 : Nat → Prop} {b : Nat} {H H' : Heap} {o x y z : Nat} (hA : PT g n0 H o x y z) (h : SB b H H') (h0 : o ≠ b) (h1 : x ≠ b) (h2 : y ≠ b) (h3 : z ≠ b) : PT g n0 H' o x y z := ⟨hA.1.sb h h0, hA.2.1.sb h h1, hA.2.2.1.sb h h2, hA.2.2.2.sb h h3⟩
theorem FD.sb {g : WG} {n0 : Nat → Prop} {b : Nat} {H H' : Heap} {o : Nat} {F : Nat → Nat} {mi : Int64} (hA : FD g n0 H o F mi) (h : SB b H H') (h0 : o ≠ b) (h1 : ∀ k, k < 6 → F k ≠ b) : FD g n0 H' o F mi := ⟨hA.1.sb h h0, fun k hk => (hA.2 k hk).sb h (h1 k hk)⟩
theorem PZ.sb {g : WG} {b : Nat} {H H' : Heap} {o : Nat} (hA : PZ g H o) (h : SB b H H') (h0 : b < o) : PZ g H' o := ⟨hA.1.sb h (by omega), hA.2.1.sb h (by omega), hA.2.2.1.sb h (by omega), hA.2.2.2.sb h (by omega)⟩
theorem FD.lt {g : WG} {n0 : Nat → Prop} {H : Heap} {o : Nat} {F : Nat → Nat} {mi : Int64} (hA : FD g n0 H o F mi) {k : Nat} (hk : k < 6) : F k < H.size := by
  obtain ⟨-, f, hf⟩ := hA.2 k hk
  exact hf.lt
theorem FD.grow {g : WG} {n0 : Nat → Prop} {H H' : Heap} {o : Nat} {F : Nat → Nat} {mi : Int64} (hA : FD g n0 H o F mi) (he : ∀ q, q < H.size → H'[q]? = H[q]?) : FD g n0 H' o F mi := ⟨hA.1.eq (he _ hA.1.lt), fun k hk => ⟨(hA.2 k hk).1, (hA.2 k hk).2.imp (fun f hf => hf.eq (he _ hf.lt))⟩⟩
theorem k_ne2 {q h i : Nat} (hq : q < h) : ¬ q = h + i := by omega
abbrev y_Field_init : MethodName := ⟨"KateDesk$Field", "<init>", "(Ljava/lang/String;)V"⟩
theorem hd_Field_init : y_Field_init.cls ≠ "java/lang/invoke/MethodHandle" ∧ y_Field_init.cls ≠ "java/lang/invoke/VarHandle" ∧ (parseMethodDescriptor y_Field_init.desc).map (fun d => d.parameters.length) = some 1 := by decide +kernel
theorem d_Field_init_0 : decode prog_3_method_1_code 0 = .ok (.aload_n 0, 1) := by decide +kernel
theorem d_Field_init_1 : decode prog_3_method_1_code 1 = .ok (.invokespecial 1, 3) := by decide +kernel
theorem d_Field_init_4 : decode prog_3_method_1_code 4 = .ok (.aload_n 0, 1) := by decide +kernel
theorem d_Field_init_5 : decode prog_3_method_1_code 5 = .ok (.bipush 14, 2) := by decide +kernel
theorem d_Field_init_7 : decode prog_3_method_1_code 7 = .ok (.newarray .long, 2) := by decide +kernel
theorem d_Field_init_9 : decode prog_3_method_1_code 9 = .ok (.putfield 9, 3) := by decide +kernel
theorem d_Field_init_12 : decode prog_3_method_1_code 12 = .ok (.aload_n 0, 1) := by decide +kernel
theorem d_Field_init_13 : decode prog_3_method_1_code 13 = .ok (.bipush 14, 2) := by decide +kernel
theorem d_Field_init_15 : decode prog_3_method_1_code 15 = .ok (.newarray .long, 2) := by decide +kernel
theorem d_Field_init_17 : decode prog_3_method_1_code 17 = .ok (.putfield 15, 3) := by decide +kernel
theorem d_Field_init_20 : decode prog_3_method_1_code 20 = .ok (.aload_n 0, 1) := by decide +kernel
theorem d_Field_init_21 : decode prog_3_method_1_code 21 = .ok (.bipush 14, 2) := by decide +kernel
theorem d_Field_init_23 : decode prog_3_method_1_code 23 = .ok (.newarray .long, 2) := by decide +kernel
theorem d_Field_init_25 : decode prog_3_method_1_code 25 = .ok (.putfield 18, 3) := by decide +kernel
theorem d_Field_init_28 : decode prog_3_method_1_code 28 = .ok (.aload_n 0, 1) := by decide +kernel
theorem d_Field_init_29 : decode prog_3_method_1_code 29 = .ok (.bipush 14, 2) := by decide +kernel
theorem d_Field_init_31 : decode prog_3_method_1_code 31 = .ok (.newarray .long, 2) := by decide +kernel
theorem d_Field_init_33 : decode prog_3_method_1_code 33 = .ok (.putfield 21, 3) := by decide +kernel
theorem d_Field_init_36 : decode prog_3_method_1_code 36 = .ok (.aload_n 0, 1) := by decide +kernel
theorem d_Field_init_37 : decode prog_3_method_1_code 37 = .ok (.bipush 14, 2) := by decide +kernel
theorem d_Field_init_39 : decode prog_3_method_1_code 39 = .ok (.newarray .long, 2) := by decide +kernel
theorem d_Field_init_41 : decode prog_3_method_1_code 41 = .ok (.putfield 24, 3) := by decide +kernel
theorem d_Field_init_44 : decode prog_3_method_1_code 44 = .ok (.aload_n 0, 1) := by decide +kernel
theorem d_Field_init_45 : decode prog_3_method_1_code 45 = .ok (.aload_n 1, 1) := by decide +kernel
theorem d_Field_init_46 : decode prog_3_method_1_code 46 = .ok (.invokestatic 27, 3) := by decide +kernel
theorem d_Field_init_49 : decode prog_3_method_1_code 49 = .ok (.putfield 31, 3) := by decide +kernel
theorem d_Field_init_52 : decode prog_3_method_1_code 52 = .ok (.aload_n 0, 1) := by decide +kernel
theorem d_Field_init_53 : decode prog_3_method_1_code 53 = .ok (.aload_n 0, 1) := by decide +kernel
theorem d_Field_init_54 : decode prog_3_method_1_code 54 = .ok (.getfield 31, 3) := by decide +kernel
theorem d_Field_init_57 : decode prog_3_method_1_code 57 = .ok (.iconst 0, 1) := by decide +kernel
theorem d_Field_init_58 : decode prog_3_method_1_code 58 = .ok (.laload, 1) := by decide +kernel
theorem d_Field_init_59 : decode prog_3_method_1_code 59 = .ok (.invokestatic 34, 3) := by decide +kernel
theorem d_Field_init_62 : decode prog_3_method_1_code 62 = .ok (.putfield 38, 3) := by decide +kernel
theorem d_Field_init_65 : decode prog_3_method_1_code 65 = .ok (.aload_n 0, 1) := by decide +kernel
theorem d_Field_init_66 : decode prog_3_method_1_code 66 = .ok (.getfield 15, 3) := by decide +kernel
theorem d_Field_init_69 : decode prog_3_method_1_code 69 = .ok (.iconst 0, 1) := by decide +kernel
theorem d_Field_init_70 : decode prog_3_method_1_code 70 = .ok (.lconst 1, 1) := by decide +kernel
theorem d_Field_init_71 : decode prog_3_method_1_code 71 = .ok (.lastore, 1) := by decide +kernel
theorem d_Field_init_72 : decode prog_3_method_1_code 72 = .ok (.aload_n 0, 1) := by decide +kernel
theorem d_Field_init_73 : decode prog_3_method_1_code 73 = .ok (.getfield 9, 3) := by decide +kernel
theorem d_Field_init_76 : decode prog_3_method_1_code 76 = .ok (.aload_n 0, 1) := by decide +kernel
theorem d_Field_init_77 : decode prog_3_method_1_code 77 = .ok (.getfield 15, 3) := by decide +kernel
theorem d_Field_init_80 : decode prog_3_method_1_code 80 = .ok (.invokestatic 42, 3) := by decide +kernel
theorem d_Field_init_83 : decode prog_3_method_1_code 83 = .ok (.aload_n 0, 1) := by decide +kernel
theorem d_Field_init_84 : decode prog_3_method_1_code 84 = .ok (.aload_n 0, 1) := by decide +kernel
theorem d_Field_init_85 : decode prog_3_method_1_code 85 = .ok (.getfield 9, 3) := by decide +kernel
theorem d_Field_init_88 : decode prog_3_method_1_code 88 = .ok (.sipush 392, 3) := by decide +kernel
theorem d_Field_init_91 : decode prog_3_method_1_code 91 = .ok (.invokevirtual 46, 3) := by decide +kernel
theorem d_Field_init_94 : decode prog_3_method_1_code 94 = .ok (.aload_n 0, 1) := by decide +kernel
theorem d_Field_init_95 : decode prog_3_method_1_code 95 = .ok (.getfield 18, 3) := by decide +kernel
theorem d_Field_init_98 : decode prog_3_method_1_code 98 = .ok (.aload_n 0, 1) := by decide +kernel
theorem d_Field_init_99 : decode prog_3_method_1_code 99 = .ok (.getfield 9, 3) := by decide +kernel
theorem d_Field_init_102 : decode prog_3_method_1_code 102 = .ok (.invokestatic 42, 3) := by decide +kernel
theorem d_Field_init_105 : decode prog_3_method_1_code 105 = .ok (.aload_n 0, 1) := by decide +kernel
theorem d_Field_init_106 : decode prog_3_method_1_code 106 = .ok (.aload_n 0, 1) := by decide +kernel
theorem d_Field_init_107 : decode prog_3_method_1_code 107 = .ok (.getfield 18, 3) := by decide +kernel
theorem d_Field_init_110 : decode prog_3_method_1_code 110 = .ok (.bipush 49, 2) := by decide +kernel
theorem d_Field_init_112 : decode prog_3_method_1_code 112 = .ok (.invokevirtual 46, 3) := by decide +kernel
theorem d_Field_init_115 : decode prog_3_method_1_code 115 = .ok (.iconst 0, 1) := by decide +kernel
theorem d_Field_init_116 : decode prog_3_method_1_code 116 = .ok (.istore_n 2, 1) := by decide +kernel
theorem d_Field_init_117 : decode prog_3_method_1_code 117 = .ok (.iload_n 2, 1) := by decide +kernel
theorem d_Field_init_118 : decode prog_3_method_1_code 118 = .ok (.iconst 3, 1) := by decide +kernel
theorem d_Field_init_119 : decode prog_3_method_1_code 119 = .ok (.if_icmp .ge 25, 3) := by decide +kernel
theorem d_Field_init_122 : decode prog_3_method_1_code 122 = .ok (.aload_n 0, 1) := by decide +kernel
theorem d_Field_init_123 : decode prog_3_method_1_code 123 = .ok (.aload_n 0, 1) := by decide +kernel
theorem d_Field_init_124 : decode prog_3_method_1_code 124 = .ok (.getfield 18, 3) := by decide +kernel
theorem d_Field_init_127 : decode prog_3_method_1_code 127 = .ok (.aload_n 0, 1) := by decide +kernel
theorem d_Field_init_128 : decode prog_3_method_1_code 128 = .ok (.getfield 18, 3) := by decide +kernel
theorem d_Field_init_131 : decode prog_3_method_1_code 131 = .ok (.aload_n 0, 1) := by decide +kernel
theorem d_Field_init_132 : decode prog_3_method_1_code 132 = .ok (.getfield 18, 3) := by decide +kernel
theorem d_Field_init_135 : decode prog_3_method_1_code 135 = .ok (.invokevirtual 50, 3) := by decide +kernel
theorem d_Field_init_138 : decode prog_3_method_1_code 138 = .ok (.iinc 2 1, 3) := by decide +kernel
theorem d_Field_init_141 : decode prog_3_method_1_code 141 = .ok (.goto (-24), 3) := by decide +kernel
theorem d_Field_init_144 : decode prog_3_method_1_code 144 = .ok (.aload_n 0, 1) := by decide +kernel
theorem d_Field_init_145 : decode prog_3_method_1_code 145 = .ok (.aload_n 0, 1) := by decide +kernel
theorem d_Field_init_146 : decode prog_3_method_1_code 146 = .ok (.getfield 21, 3) := by decide +kernel
theorem d_Field_init_149 : decode prog_3_method_1_code 149 = .ok (.aload_n 0, 1) := by decide +kernel
theorem d_Field_init_150 : decode prog_3_method_1_code 150 = .ok (.getfield 21, 3) := by decide +kernel
theorem d_Field_init_153 : decode prog_3_method_1_code 153 = .ok (.aload_n 0, 1) := by decide +kernel
theorem d_Field_init_154 : decode prog_3_method_1_code 154 = .ok (.getfield 15, 3) := by decide +kernel
theorem d_Field_init_157 : decode prog_3_method_1_code 157 = .ok (.invokevirtual 54, 3) := by decide +kernel
theorem d_Field_init_160 : decode prog_3_method_1_code 160 = .ok (.aload_n 0, 1) := by decide +kernel
theorem d_Field_init_161 : decode prog_3_method_1_code 161 = .ok (.aload_n 0, 1) := by decide +kernel
theorem d_Field_init_162 : decode prog_3_method_1_code 162 = .ok (.getfield 21, 3) := by decide +kernel
theorem d_Field_init_165 : decode prog_3_method_1_code 165 = .ok (.aload_n 0, 1) := by decide +kernel
theorem d_Field_init_166 : decode prog_3_method_1_code 166 = .ok (.getfield 21, 3) := by decide +kernel
theorem d_Field_init_169 : decode prog_3_method_1_code 169 = .ok (.aload_n 0, 1) := by decide +kernel
theorem d_Field_init_170 : decode prog_3_method_1_code 170 = .ok (.getfield 15, 3) := by decide +kernel
theorem d_Field_init_173 : decode prog_3_method_1_code 173 = .ok (.invokevirtual 54, 3) := by decide +kernel
theorem d_Field_init_176 : decode prog_3_method_1_code 176 = .ok (.return_, 1) := by decide +kernel
abbrev y_Desk_newGenerator : MethodName := ⟨"KateDesk", "newGenerator", "(LKateDesk$Field;)LKateDesk$Point;"⟩
theorem hd_Desk_newGenerator : y_Desk_newGenerator.cls ≠ "java/lang/invoke/MethodHandle" ∧ y_Desk_newGenerator.cls ≠ "java/lang/invoke/VarHandle" ∧ (parseMethodDescriptor y_Desk_newGenerator.desc).map (fun d => d.parameters.length) = some 1 := by decide +kernel
theorem d_Desk_newGenerator_0 : decode prog_1_method_28_code 0 = .ok (.new 41, 3) := by decide +kernel
theorem d_Desk_newGenerator_3 : decode prog_1_method_28_code 3 = .ok (.dup, 1) := by decide +kernel
theorem d_Desk_newGenerator_4 : decode prog_1_method_28_code 4 = .ok (.invokespecial 43, 3) := by decide +kernel
theorem d_Desk_newGenerator_7 : decode prog_1_method_28_code 7 = .ok (.astore_n 1, 1) := by decide +kernel
theorem d_Desk_newGenerator_8 : decode prog_1_method_28_code 8 = .ok (.aload_n 0, 1) := by decide +kernel
theorem d_Desk_newGenerator_9 : decode prog_1_method_28_code 9 = .ok (.aload_n 1, 1) := by decide +kernel
theorem d_Desk_newGenerator_10 : decode prog_1_method_28_code 10 = .ok (.getfield 289, 3) := by decide +kernel
theorem d_Desk_newGenerator_13 : decode prog_1_method_28_code 13 = .ok (.ldc_w 292, 3) := by decide +kernel
theorem d_Desk_newGenerator_16 : decode prog_1_method_28_code 16 = .ok (.invokestatic 294, 3) := by decide +kernel
theorem d_Desk_newGenerator_19 : decode prog_1_method_28_code 19 = .ok (.invokevirtual 187, 3) := by decide +kernel
theorem d_Desk_newGenerator_22 : decode prog_1_method_28_code 22 = .ok (.aload_n 0, 1) := by decide +kernel
theorem d_Desk_newGenerator_23 : decode prog_1_method_28_code 23 = .ok (.aload_n 1, 1) := by decide +kernel
theorem d_Desk_newGenerator_24 : decode prog_1_method_28_code 24 = .ok (.getfield 298, 3) := by decide +kernel
theorem d_Desk_newGenerator_27 : decode prog_1_method_28_code 27 = .ok (.ldc_w 301, 3) := by decide +kernel
theorem d_Desk_newGenerator_30 : decode prog_1_method_28_code 30 = .ok (.invokestatic 294, 3) := by decide +kernel
theorem d_Desk_newGenerator_33 : decode prog_1_method_28_code 33 = .ok (.invokevirtual 187, 3) := by decide +kernel
theorem d_Desk_newGenerator_36 : decode prog_1_method_28_code 36 = .ok (.aload_n 1, 1) := by decide +kernel
theorem d_Desk_newGenerator_37 : decode prog_1_method_28_code 37 = .ok (.getfield 303, 3) := by decide +kernel
theorem d_Desk_newGenerator_40 : decode prog_1_method_28_code 40 = .ok (.aload_n 0, 1) := by decide +kernel
theorem d_Desk_newGenerator_41 : decode prog_1_method_28_code 41 = .ok (.getfield 306, 3) := by decide +kernel
theorem d_Desk_newGenerator_44 : decode prog_1_method_28_code 44 = .ok (.invokestatic 152, 3) := by decide +kernel
theorem d_Desk_newGenerator_47 : decode prog_1_method_28_code 47 = .ok (.aload_n 1, 1) := by decide +kernel
theorem d_Desk_newGenerator_48 : decode prog_1_method_28_code 48 = .ok (.areturn, 1) := by decide +kernel