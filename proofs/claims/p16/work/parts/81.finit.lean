def hb60 (j : Nat) : Int32 := ([55, 51, 101, 100, 97, 55, 53, 51, 50, 57, 57, 100, 55, 100, 52, 56, 51, 51, 51, 57, 100, 56, 48, 56, 48, 57, 97, 49, 100, 56, 48, 53, 53, 51, 98, 100, 97, 52, 48, 50, 102, 102, 102, 101, 53, 98, 102, 101, 102, 102, 102, 102, 102, 102, 102, 102, 48, 48, 48, 48, 48, 48, 48, 49] : List Int32).getD j 0
def hb65 (j : Nat) : Int32 := ([49, 97, 48, 49, 49, 49, 101, 97, 51, 57, 55, 102, 101, 54, 57, 97, 52, 98, 49, 98, 97, 55, 98, 54, 52, 51, 52, 98, 97, 99, 100, 55, 54, 52, 55, 55, 52, 98, 56, 52, 102, 51, 56, 53, 49, 50, 98, 102, 54, 55, 51, 48, 100, 50, 97, 48, 102, 54, 98, 48, 102, 54, 50, 52, 49, 101, 97, 98, 102, 102, 102, 101, 98, 49, 53, 51, 102, 102, 102, 102, 98, 57, 102, 101, 102, 102, 102, 102, 102, 102, 102, 102, 97, 97, 97, 98] : List Int32).getD j 0
def hb292 (j : Nat) : Int32 := ([49, 55, 102, 49, 100, 51, 97, 55, 51, 49, 57, 55, 100, 55, 57, 52, 50, 54, 57, 53, 54, 51, 56, 99, 52, 102, 97, 57, 97, 99, 48, 102, 99, 51, 54, 56, 56, 99, 52, 102, 57, 55, 55, 52, 98, 57, 48, 53, 97, 49, 52, 101, 51, 97, 51, 102, 49, 55, 49, 98, 97, 99, 53, 56, 54, 99, 53, 53, 101, 56, 51, 102, 102, 57, 55, 97, 49, 97, 101, 102, 102, 98, 51, 97, 102, 48, 48, 97, 100, 98, 50, 50, 99, 54, 98, 98] : List Int32).getD j 0
def hb301 (j : Nat) : Int32 := ([48, 56, 98, 51, 102, 52, 56, 49, 101, 51, 97, 97, 97, 48, 102, 49, 97, 48, 57, 101, 51, 48, 101, 100, 55, 52, 49, 100, 56, 97, 101, 52, 102, 99, 102, 53, 101, 48, 57, 53, 100, 53, 100, 48, 48, 97, 102, 54, 48, 48, 100, 98, 49, 56, 99, 98, 50, 99, 48, 52, 98, 51, 101, 100, 100, 48, 51, 99, 99, 55, 52, 52, 97, 50, 56, 56, 56, 97, 101, 52, 48, 99, 97, 97, 50, 51, 50, 57, 52, 54, 99, 53, 101, 55, 101, 49] : List Int32).getD j 0
theorem hx60 : (∀ i, i < 14 → ¬ hxF hb60 64 64 i < 0) ∧ hxF hb60 64 64 0 ≠ 0 := by
  have h : ∀ i : Fin 14, ¬ hxF hb60 64 64 i.val < 0 := by decide +kernel
  exact ⟨fun i hi => h ⟨i, hi⟩, by decide +kernel⟩
theorem hx65 : (∀ i, i < 14 → ¬ hxF hb65 96 96 i < 0) ∧ hxF hb65 96 96 0 ≠ 0 := by
  have h : ∀ i : Fin 14, ¬ hxF hb65 96 96 i.val < 0 := by decide +kernel
  exact ⟨fun i hi => h ⟨i, hi⟩, by decide +kernel⟩
/-- what the law's entry brings for the four numbers -/
def KH (s0 : State) : Prop := KS s0 ∧ (∃ a, vk_R "KateDesk" 60 "73eda753299d7d483339d80809a1d80553bda402fffe5bfeffffffff00000001" a s0 ∧ KT s0 a 64 hb60) ∧ (∃ a, vk_R "KateDesk" 65 "1a0111ea397fe69a4b1ba7b6434bacd764774b84f38512bf6730d2a0f6b0f6241eabfffeb153ffffb9feffffffffaaab" a s0 ∧ KT s0 a 96 hb65) ∧ (∃ a, vk_R "KateDesk" 292 "17f1d3a73197d7942695638c4fa9ac0fc3688c4f9774b905a14e3a3f171bac586c55e83ff97a1aeffb3af00adb22c6bb" a s0 ∧ KT s0 a 96 hb292) ∧ (∃ a, vk_R "KateDesk" 301 "08b3f481e3aaa0f1a09e30ed741d8ae4fcf5e095d5d00af600db18cb2c04b3edd03cc744a2888ae40caa232946c5e7e1" a s0 ∧ KT s0 a 96 hb301)
def kF (o k : Nat) : Nat := if k = 0 then o + 6 else o + k
theorem fd_mk {g : WG} {n0 : Nat → Prop} {H : Heap} {o : Nat} {mi : Int64} {f1 f2 f3 f4 f5 f6 : Nat → Int64} (ho : OB g H o 1 [.ref (o + 6), .ref (o + 1), .ref (o + 2), .ref (o + 3), .ref (o + 4), .ref (o + 5), .long mi]) (hna : ∀ q, o ≤ q → n0 q) (h1 : AJ g H (o + 1) 14 f1) (h2 : AJ g H (o + 2) 14 f2) (h3 : AJ g H (o + 3) 14 f3) (h4 : AJ g H (o + 4) 14 f4) (h5 : AJ g H (o + 5) 14 f5) (h6 : AJ g H (o + 6) 14 f6) : FD g n0 H o (kF o) mi := by
  refine ⟨ho, fun k hk => ?_⟩
  match k, hk with
  | 0, _ => exact ⟨hna (o + 6) (by omega), f6, h6⟩
  | 1, _ => exact ⟨hna (o + 1) (by omega), f1, h1⟩
  | 2, _ => exact ⟨hna (o + 2) (by omega), f2, h2⟩
  | 3, _ => exact ⟨hna (o + 3) (by omega), f3, h3⟩
  | 4, _ => exact ⟨hna (o + 4) (by omega), f4, h4⟩
  | 5, _ => exact ⟨hna (o + 5) (by omega), f5, h5⟩
theorem kf_S {o q i : Nat} (h1 : 1 ≤ i) (h5 : i ≤ 5) (e : q = o + i) : o + 1 ≤ q ∧ q ≤ o + 5 := by omega
theorem kf_6 {o : Nat} : ¬ (o + 1 ≤ o + 6 ∧ o + 6 ≤ o + 5) := by omega
theorem kf_q {o q : Nat} (h : q < o) : ¬ (o + 1 ≤ q ∧ q ≤ o + 5) := by omega
theorem AJ.lt {g : WG} {H : Heap} {a N : Nat} {f : Nat → Int64} (h : AJ g H a N f) : a < H.size := (Array.getElem?_eq_some_iff.mp h).1
theorem AB.lt {g : WG} {H : Heap} {a N : Nat} {f : Nat → Int32} (h : AB g H a N f) : a < H.size := (Array.getElem?_eq_some_iff.mp h).1
theorem AR.lt {cA : ClassId} {H : Heap} {a N : Nat} {f : Nat → Nat} (h : AR cA H a N f) : a < H.size := (Array.getElem?_eq_some_iff.mp h).1
theorem OB.lt {g : WG} {H : Heap} {a ci : Nat} {fs : List Value} (h : OB g H a ci fs) : a < H.size := by
  obtain ⟨r, hc, cell, h1, h2⟩ := h
  exact (Array.getElem?_eq_some_iff.mp h1).1
theorem AB.eq {g : WG} {H H' : Heap} {a N : Nat} {f : Nat → Int32} (hA : AB g H a N f) (h : H'[a]? = H[a]?) : AB g H' a N f := by unfold AB at hA ⊢; rw [h]; exact hA
theorem AR.eq {cA : ClassId} {H H' : Heap} {a N : Nat} {f : Nat → Nat} (hA : AR cA H a N f) (h : H'[a]? = H[a]?) : AR cA H' a N f := by unfold AR at hA ⊢; rw [h]; exact hA
/-- all cells but b are as they were, and more may stand behind them -/
def SB (b : Nat) (H H' : Heap) : Prop := H.size ≤ H'.size ∧ ∀ q, q < H.size → q ≠ b → H'[q]? = H[q]?
theorem SB.rf {b : Nat} {H : Heap} : SB b H H := ⟨Nat.le_refl _, fun _ _ _ => rfl⟩
theorem SB.tr {b : Nat} {H H1 H2 : Heap} (h : SB b H H1) (h' : SB b H1 H2) : SB b H H2 := ⟨Nat.le_trans h.1 h'.1, fun q h1 h2 => (h'.2 q (Nat.lt_of_lt_of_le h1 h.1) h2).trans (h.2 q h1 h2)⟩
theorem SB.grow {b h : Nat} {H H' : Heap} (hh : H.size = h) (hs : h ≤ H'.size) (he : ∀ q, q < h → H'[q]? = H[q]?) : SB b H H' := ⟨by rw [hh]; exact hs, fun q h1 _ => he q (by rw [← hh]; exact h1)⟩
theorem SB.frm {b : Nat} {H H' : Heap} (h : FRM (fun q => q = b) H H') : SB b H H' := ⟨Nat.le_of_eq h.1.symm, fun q _ h2 => h.2 q h2⟩
theorem AJ.sb {g : WG} {b : Nat} {H H' : Heap} {a N : Nat} {f : Nat → Int64} (hA : AJ g H a N f) (h : SB b H H') (hn : a ≠ b) : AJ g H' a N f := hA.eq (h.2 a hA.lt hn)
theorem AB.sb {g : WG} {b : Nat} {H H' : Heap} {a N : Nat} {f : Nat → Int32} (hA : AB g H a N f) (h : SB b H H') (hn : a ≠ b) : AB g H' a N f := hA.eq (h.2 a hA.lt hn)
theorem AR.sb {cA : ClassId} {b : Nat} {H H' : Heap} {a N : Nat} {f : Nat → Nat} (hA : AR cA H a N f) (h : SB b H H') (hn : a ≠ b) : AR cA H' a N f := hA.eq (h.2 a hA.lt hn)
theorem OB.sb {g : WG} {b : Nat} {H H' : Heap} {a ci : Nat} {fs : List Value} (hA : OB g H a ci fs) (h : SB b H H') (hn : a ≠ b) : OB g H' a ci fs := hA.eq (h.2 a hA.lt hn)
theorem J14.sb {g : WG} {n0 : Nat → Prop} {b : Nat} {H H' : Heap} {a : Nat} (hA : J14 g n0 H a) (h : SB b H H') (hn : a ≠ b) : J14 g n0 H' a := ⟨hA.1, hA.2.imp (fun f hf => hf.sb h hn)⟩
theorem PT.sb {g : WG} {n0 : Nat → Prop} {b : Nat} {H H' : Heap} {o x y z : Nat} (hA : PT g n0 H o x y z) (h : SB b H H') (h0 : o ≠ b) (h1 : x ≠ b) (h2 : y ≠ b) (h3 : z ≠ b) : PT g n0 H' o x y z := ⟨hA.1.sb h h0, hA.2.1.sb h h1, hA.2.2.1.sb h h2, hA.2.2.2.sb h h3⟩
theorem FD.sb {g : WG} {n0 : Nat → Prop} {b : Nat} {H H' : Heap} {o : Nat} {F : Nat → Nat} {mi : Int64} (hA : FD g n0 H o F mi) (h : SB b H H') (h0 : o ≠ b) (h1 : ∀ k, k < 6 → F k ≠ b) : FD g n0 H' o F mi := ⟨hA.1.sb h h0, fun k hk => (hA.2 k hk).sb h (h1 k hk)⟩
theorem PZ.sb {g : WG} {b : Nat} {H H' : Heap} {o : Nat} (hA : PZ g H o) (h : SB b H H') (h0 : b < o) : PZ g H' o := ⟨hA.1.sb h (by omega), hA.2.1.sb h (by omega), hA.2.2.1.sb h (by omega), hA.2.2.2.sb h (by omega)⟩
theorem FD.lt {g : WG} {n0 : Nat → Prop} {H : Heap} {o : Nat} {F : Nat → Nat} {mi : Int64} (hA : FD g n0 H o F mi) {k : Nat} (hk : k < 6) : F k < H.size := by
  obtain ⟨-, f, hf⟩ := hA.2 k hk
  exact hf.lt
theorem FD.grow {g : WG} {n0 : Nat → Prop} {H H' : Heap} {o : Nat} {F : Nat → Nat} {mi : Int64} (hA : FD g n0 H o F mi) (he : ∀ q, q < H.size → H'[q]? = H[q]?) : FD g n0 H' o F mi := ⟨hA.1.eq (he _ hA.1.lt), fun k hk => ⟨(hA.2 k hk).1, (hA.2 k hk).2.imp (fun f hf => hf.eq (he _ hf.lt))⟩⟩
theorem k_ne2 {q h i : Nat} (hq : q < h) : ¬ q = h + i := by omega
abbrev y_Field_init : MethodName := ⟨"KateDesk$Field", "<init>", "(Ljava/lang/String;)V"⟩
theorem hd_Field_init : y_Field_init.cls ≠ "java/lang/invoke/MethodHandle" ∧ y_Field_init.cls ≠ "java/lang/invoke/VarHandle" ∧ (parseMethodDescriptor y_Field_init.desc).map (fun d => d.parameters.length) = some 1 := by decide +kernel
theorem d_Field_init_0 : decode prog_3_method_1_code 0 = .ok (.aload_n 0, 1) := by decide +kernel
theorem d_Field_init_1 : decode prog_3_method_1_code 1 = .ok (.invokespecial 1, 3) := by decide +kernel
theorem d_Field_init_4 : decode prog_3_method_1_code 4 = .ok (.aload_n 0, 1) := by decide +kernel
theorem d_Field_init_5 : decode prog_3_method_1_code 5 = .ok (.bipush 14, 2) := by decide +kernel
theorem d_Field_init_7 : decode prog_3_method_1_code 7 = .ok (.newarray .long, 2) := by decide +kernel
theorem d_Field_init_9 : decode prog_3_method_1_code 9 = .ok (.putfield 9, 3) := by decide +kernel
theorem d_Field_init_12 : decode prog_3_method_1_code 12 = .ok (.aload_n 0, 1) := by decide +kernel
theorem d_Field_init_13 : decode prog_3_method_1_code 13 = .ok (.bipush 14, 2) := by decide +kernel
theorem d_Field_init_15 : decode prog_3_method_1_code 15 = .ok (.newarray .long, 2) := by decide +kernel
theorem d_Field_init_17 : decode prog_3_method_1_code 17 = .ok (.putfield 15, 3) := by decide +kernel
theorem d_Field_init_20 : decode prog_3_method_1_code 20 = .ok (.aload_n 0, 1) := by decide +kernel
theorem d_Field_init_21 : decode prog_3_method_1_code 21 = .ok (.bipush 14, 2) := by decide +kernel
theorem d_Field_init_23 : decode prog_3_method_1_code 23 = .ok (.newarray .long, 2) := by decide +kernel
theorem d_Field_init_25 : decode prog_3_method_1_code 25 = .ok (.putfield 18, 3) := by decide +kernel
theorem d_Field_init_28 : decode prog_3_method_1_code 28 = .ok (.aload_n 0, 1) := by decide +kernel
theorem d_Field_init_29 : decode prog_3_method_1_code 29 = .ok (.bipush 14, 2) := by decide +kernel
theorem d_Field_init_31 : decode prog_3_method_1_code 31 = .ok (.newarray .long, 2) := by decide +kernel
theorem d_Field_init_33 : decode prog_3_method_1_code 33 = .ok (.putfield 21, 3) := by decide +kernel
theorem d_Field_init_36 : decode prog_3_method_1_code 36 = .ok (.aload_n 0, 1) := by decide +kernel
theorem d_Field_init_37 : decode prog_3_method_1_code 37 = .ok (.bipush 14, 2) := by decide +kernel
theorem d_Field_init_39 : decode prog_3_method_1_code 39 = .ok (.newarray .long, 2) := by decide +kernel
theorem d_Field_init_41 : decode prog_3_method_1_code 41 = .ok (.putfield 24, 3) := by decide +kernel
theorem d_Field_init_44 : decode prog_3_method_1_code 44 = .ok (.aload_n 0, 1) := by decide +kernel
theorem d_Field_init_45 : decode prog_3_method_1_code 45 = .ok (.aload_n 1, 1) := by decide +kernel
theorem d_Field_init_46 : decode prog_3_method_1_code 46 = .ok (.invokestatic 27, 3) := by decide +kernel
theorem d_Field_init_49 : decode prog_3_method_1_code 49 = .ok (.putfield 31, 3) := by decide +kernel
theorem d_Field_init_52 : decode prog_3_method_1_code 52 = .ok (.aload_n 0, 1) := by decide +kernel
theorem d_Field_init_53 : decode prog_3_method_1_code 53 = .ok (.aload_n 0, 1) := by decide +kernel
theorem d_Field_init_54 : decode prog_3_method_1_code 54 = .ok (.getfield 31, 3) := by decide +kernel
theorem d_Field_init_57 : decode prog_3_method_1_code 57 = .ok (.iconst 0, 1) := by decide +kernel
theorem d_Field_init_58 : decode prog_3_method_1_code 58 = .ok (.laload, 1) := by decide +kernel
theorem d_Field_init_59 : decode prog_3_method_1_code 59 = .ok (.invokestatic 34, 3) := by decide +kernel
theorem d_Field_init_62 : decode prog_3_method_1_code 62 = .ok (.putfield 38, 3) := by decide +kernel
theorem d_Field_init_65 : decode prog_3_method_1_code 65 = .ok (.aload_n 0, 1) := by decide +kernel
theorem d_Field_init_66 : decode prog_3_method_1_code 66 = .ok (.getfield 15, 3) := by decide +kernel
theorem d_Field_init_69 : decode prog_3_method_1_code 69 = .ok (.iconst 0, 1) := by decide +kernel
theorem d_Field_init_70 : decode prog_3_method_1_code 70 = .ok (.lconst 1, 1) := by decide +kernel
theorem d_Field_init_71 : decode prog_3_method_1_code 71 = .ok (.lastore, 1) := by decide +kernel
theorem d_Field_init_72 : decode prog_3_method_1_code 72 = .ok (.aload_n 0, 1) := by decide +kernel
theorem d_Field_init_73 : decode prog_3_method_1_code 73 = .ok (.getfield 9, 3) := by decide +kernel
theorem d_Field_init_76 : decode prog_3_method_1_code 76 = .ok (.aload_n 0, 1) := by decide +kernel
theorem d_Field_init_77 : decode prog_3_method_1_code 77 = .ok (.getfield 15, 3) := by decide +kernel
theorem d_Field_init_80 : decode prog_3_method_1_code 80 = .ok (.invokestatic 42, 3) := by decide +kernel
theorem d_Field_init_83 : decode prog_3_method_1_code 83 = .ok (.aload_n 0, 1) := by decide +kernel
theorem d_Field_init_84 : decode prog_3_method_1_code 84 = .ok (.aload_n 0, 1) := by decide +kernel
theorem d_Field_init_85 : decode prog_3_method_1_code 85 = .ok (.getfield 9, 3) := by decide +kernel
theorem d_Field_init_88 : decode prog_3_method_1_code 88 = .ok (.sipush 392, 3) := by decide +kernel
theorem d_Field_init_91 : decode prog_3_method_1_code 91 = .ok (.invokevirtual 46, 3) := by decide +kernel
theorem d_Field_init_94 : decode prog_3_method_1_code 94 = .ok (.aload_n 0, 1) := by decide +kernel
theorem d_Field_init_95 : decode prog_3_method_1_code 95 = .ok (.getfield 18, 3) := by decide +kernel
theorem d_Field_init_98 : decode prog_3_method_1_code 98 = .ok (.aload_n 0, 1) := by decide +kernel
theorem d_Field_init_99 : decode prog_3_method_1_code 99 = .ok (.getfield 9, 3) := by decide +kernel
theorem d_Field_init_102 : decode prog_3_method_1_code 102 = .ok (.invokestatic 42, 3) := by decide +kernel
theorem d_Field_init_105 : decode prog_3_method_1_code 105 = .ok (.aload_n 0, 1) := by decide +kernel
theorem d_Field_init_106 : decode prog_3_method_1_code 106 = .ok (.aload_n 0, 1) := by decide +kernel
theorem d_Field_init_107 : decode prog_3_method_1_code 107 = .ok (.getfield 18, 3) := by decide +kernel
theorem d_Field_init_110 : decode prog_3_method_1_code 110 = .ok (.bipush 49, 2) := by decide +kernel
theorem d_Field_init_112 : decode prog_3_method_1_code 112 = .ok (.invokevirtual 46, 3) := by decide +kernel
theorem d_Field_init_115 : decode prog_3_method_1_code 115 = .ok (.iconst 0, 1) := by decide +kernel
theorem d_Field_init_116 : decode prog_3_method_1_code 116 = .ok (.istore_n 2, 1) := by decide +kernel
theorem d_Field_init_117 : decode prog_3_method_1_code 117 = .ok (.iload_n 2, 1) := by decide +kernel
theorem d_Field_init_118 : decode prog_3_method_1_code 118 = .ok (.iconst 3, 1) := by decide +kernel
theorem d_Field_init_119 : decode prog_3_method_1_code 119 = .ok (.if_icmp .ge 25, 3) := by decide +kernel
theorem d_Field_init_122 : decode prog_3_method_1_code 122 = .ok (.aload_n 0, 1) := by decide +kernel
theorem d_Field_init_123 : decode prog_3_method_1_code 123 = .ok (.aload_n 0, 1) := by decide +kernel
theorem d_Field_init_124 : decode prog_3_method_1_code 124 = .ok (.getfield 18, 3) := by decide +kernel
theorem d_Field_init_127 : decode prog_3_method_1_code 127 = .ok (.aload_n 0, 1) := by decide +kernel
theorem d_Field_init_128 : decode prog_3_method_1_code 128 = .ok (.getfield 18, 3) := by decide +kernel
theorem d_Field_init_131 : decode prog_3_method_1_code 131 = .ok (.aload_n 0, 1) := by decide +kernel
theorem d_Field_init_132 : decode prog_3_method_1_code 132 = .ok (.getfield 18, 3) := by decide +kernel
theorem d_Field_init_135 : decode prog_3_method_1_code 135 = .ok (.invokevirtual 50, 3) := by decide +kernel
theorem d_Field_init_138 : decode prog_3_method_1_code 138 = .ok (.iinc 2 1, 3) := by decide +kernel
theorem d_Field_init_141 : decode prog_3_method_1_code 141 = .ok (.goto (-24), 3) := by decide +kernel
theorem d_Field_init_144 : decode prog_3_method_1_code 144 = .ok (.aload_n 0, 1) := by decide +kernel
theorem d_Field_init_145 : decode prog_3_method_1_code 145 = .ok (.aload_n 0, 1) := by decide +kernel
theorem d_Field_init_146 : decode prog_3_method_1_code 146 = .ok (.getfield 21, 3) := by decide +kernel
theorem d_Field_init_149 : decode prog_3_method_1_code 149 = .ok (.aload_n 0, 1) := by decide +kernel
theorem d_Field_init_150 : decode prog_3_method_1_code 150 = .ok (.getfield 21, 3) := by decide +kernel
theorem d_Field_init_153 : decode prog_3_method_1_code 153 = .ok (.aload_n 0, 1) := by decide +kernel
theorem d_Field_init_154 : decode prog_3_method_1_code 154 = .ok (.getfield 15, 3) := by decide +kernel
theorem d_Field_init_157 : decode prog_3_method_1_code 157 = .ok (.invokevirtual 54, 3) := by decide +kernel
theorem d_Field_init_160 : decode prog_3_method_1_code 160 = .ok (.aload_n 0, 1) := by decide +kernel
theorem d_Field_init_161 : decode prog_3_method_1_code 161 = .ok (.aload_n 0, 1) := by decide +kernel
theorem d_Field_init_162 : decode prog_3_method_1_code 162 = .ok (.getfield 21, 3) := by decide +kernel
theorem d_Field_init_165 : decode prog_3_method_1_code 165 = .ok (.aload_n 0, 1) := by decide +kernel
theorem d_Field_init_166 : decode prog_3_method_1_code 166 = .ok (.getfield 21, 3) := by decide +kernel
theorem d_Field_init_169 : decode prog_3_method_1_code 169 = .ok (.aload_n 0, 1) := by decide +kernel
theorem d_Field_init_170 : decode prog_3_method_1_code 170 = .ok (.getfield 15, 3) := by decide +kernel
theorem d_Field_init_173 : decode prog_3_method_1_code 173 = .ok (.invokevirtual 54, 3) := by decide +kernel
theorem d_Field_init_176 : decode prog_3_method_1_code 176 = .ok (.return_, 1) := by decide +kernel
abbrev y_Desk_newGenerator : MethodName := ⟨"KateDesk", "newGenerator", "(LKateDesk$Field;)LKateDesk$Point;"⟩
theorem hd_Desk_newGenerator : y_Desk_newGenerator.cls ≠ "java/lang/invoke/MethodHandle" ∧ y_Desk_newGenerator.cls ≠ "java/lang/invoke/VarHandle" ∧ (parseMethodDescriptor y_Desk_newGenerator.desc).map (fun d => d.parameters.length) = some 1 := by decide +kernel
theorem d_Desk_newGenerator_0 : decode prog_1_method_28_code 0 = .ok (.new 41, 3) := by decide +kernel
theorem d_Desk_newGenerator_3 : decode prog_1_method_28_code 3 = .ok (.dup, 1) := by decide +kernel
theorem d_Desk_newGenerator_4 : decode prog_1_method_28_code 4 = .ok (.invokespecial 43, 3) := by decide +kernel
theorem d_Desk_newGenerator_7 : decode prog_1_method_28_code 7 = .ok (.astore_n 1, 1) := by decide +kernel
theorem d_Desk_newGenerator_8 : decode prog_1_method_28_code 8 = .ok (.aload_n 0, 1) := by decide +kernel
theorem d_Desk_newGenerator_9 : decode prog_1_method_28_code 9 = .ok (.aload_n 1, 1) := by decide +kernel
theorem d_Desk_newGenerator_10 : decode prog_1_method_28_code 10 = .ok (.getfield 289, 3) := by decide +kernel
theorem d_Desk_newGenerator_13 : decode prog_1_method_28_code 13 = .ok (.ldc_w 292, 3) := by decide +kernel
theorem d_Desk_newGenerator_16 : decode prog_1_method_28_code 16 = .ok (.invokestatic 294, 3) := by decide +kernel
theorem d_Desk_newGenerator_19 : decode prog_1_method_28_code 19 = .ok (.invokevirtual 187, 3) := by decide +kernel
theorem d_Desk_newGenerator_22 : decode prog_1_method_28_code 22 = .ok (.aload_n 0, 1) := by decide +kernel
theorem d_Desk_newGenerator_23 : decode prog_1_method_28_code 23 = .ok (.aload_n 1, 1) := by decide +kernel
theorem d_Desk_newGenerator_24 : decode prog_1_method_28_code 24 = .ok (.getfield 298, 3) := by decide +kernel
theorem d_Desk_newGenerator_27 : decode prog_1_method_28_code 27 = .ok (.ldc_w 301, 3) := by decide +kernel
theorem d_Desk_newGenerator_30 : decode prog_1_method_28_code 30 = .ok (.invokestatic 294, 3) := by decide +kernel
theorem d_Desk_newGenerator_33 : decode prog_1_method_28_code 33 = .ok (.invokevirtual 187, 3) := by decide +kernel
theorem d_Desk_newGenerator_36 : decode prog_1_method_28_code 36 = .ok (.aload_n 1, 1) := by decide +kernel
theorem d_Desk_newGenerator_37 : decode prog_1_method_28_code 37 = .ok (.getfield 303, 3) := by decide +kernel
theorem d_Desk_newGenerator_40 : decode prog_1_method_28_code 40 = .ok (.aload_n 0, 1) := by decide +kernel
theorem d_Desk_newGenerator_41 : decode prog_1_method_28_code 41 = .ok (.getfield 306, 3) := by decide +kernel
theorem d_Desk_newGenerator_44 : decode prog_1_method_28_code 44 = .ok (.invokestatic 152, 3) := by decide +kernel
theorem d_Desk_newGenerator_47 : decode prog_1_method_28_code 47 = .ok (.aload_n 1, 1) := by decide +kernel
theorem d_Desk_newGenerator_48 : decode prog_1_method_28_code 48 = .ok (.areturn, 1) := by decide +kernel
set_option maxHeartbeats 4000000 in
set_option maxRecDepth 100000 in
theorem c_Field_init (l : Launch) (g : WG) (n0 : Nat → Prop) (s0 : State) (hn0 : ∀ q, n0 q → s0.heap.size ≤ q) (a n : Nat) (f : Nat → Int32) (hks : KS s0) (hkt : KT s0 a n f) (o : Nat) (hn98 : n ≤ 98) (hna : ∀ q, o ≤ q → n0 q) : CtrW l y_Field_init (.code y_Field_init prog_3_method_1_code 3 none) 5 135 6 84 n0 g s0 [.ref o, .ref a] (fun H => OB g H o 1 [.null, .null, .null, .null, .null, .null, .long 0] ∧ H.size = o + 1 ∧ OLD s0 H) (QV (fun H H' => (∃ mi, FD g n0 H' o (kF o) mi) ∧ AJ g H' (o + 6) 14 (hxF f n n) ∧ H'.size = o + 7 ∧ ∀ q, q < o → H'[q]? = H[q]?)) := by
  refine ctrW_mk l (lv0 := [(0, .ref o), (1, .ref a)]) (by decide) (Nat.le_of_ble_eq_true rfl) rfl ?_
  intro p e s m below meth c ls E hw0 hr hlk hnm hl hP
  have hx := E.1
  have hb := E.2.1
  have hK := E.2.2.2.2.2
  have hF : ∀ q ∈ ([] : List Loc), n0 q.base := fun q hq => absurd hq List.not_mem_nil
  obtain ⟨ho, hsz, hold⟩ := hP
  have hlow : ∀ q, q < o → s.heap[q]? = s.heap[q]? := fun _ _ => rfl
  have na0 : n0 (o + 0) := hna _ (by omega)
  have na1 : n0 (o + 1) := hna _ (by omega)
  have na2 : n0 (o + 2) := hna _ (by omega)
  have na3 : n0 (o + 3) := hna _ (by omega)
  have na4 : n0 (o + 4) := hna _ (by omega)
  have na5 : n0 (o + 5) := hna _ (by omega)
  refine lv_aload_n hx hb d_Field_init_0 rfl (lv_at hl 0 rfl) ?_
  refine W.objInit hx hb E.2.2.2.1 (E.2.2.2.2.1 _ w_87) (E.2.2.2.2.1 _ w_31) (E.2.2.2.2.1 _ w_32) rfl (by rw [E.2.2.1]; exact hl.1) rfl d_Field_init_1 (Nat.le_of_ble_eq_true rfl) (Nat.le_of_ble_eq_true rfl) ?_
  refine lv_aload_n hx hb d_Field_init_4 rfl (lv_at hl 0 rfl) ?_
  refine lv_bipush (v := nI 14) hx hb d_Field_init_5 (by decide) ?_
  refine q_newJ E 14 rfl (by decide) w_64 (by decide) (by decide) hsz d_Field_init_7 (fun H1 hsz2 hnw h_1 => ?_)
  have hsz : H1.size = o + 2 := hsz2
  clear hsz2
  have ho := ho.eq (hnw o (k_mo (by decide)))
  have hlow : ∀ q, q < o → H1[q]? = s.heap[q]? := fun q hq9 => (hnw q (k_lt hq9)).trans (hlow q hq9)
  clear hnw
  refine q_putF (C := "KateDesk$Field") (T := T_Field) (N := 7) (ci := 1) (ty := .array (.long)) E ho in_Field ty_Field tyok_Field nm_Field rfl 1 (by decide) w_173 rfl rfl hnm rfl (by decide +kernel) rfl rfl (Nat.le_of_ble_eq_true rfl) na0 hF d_Field_init_9 (fun H2 locs hq ho2 hF => ?_)
  have hsz := hq.1.trans hsz
  have ho := ho2
  have h_1 := AJ.off hq (show ¬ o + 1 = o from k_m (by decide)) h_1
  have hlow : ∀ q, q < o → H2[q]? = s.heap[q]? := fun q hq9 => (hq.2 q (show ¬ q = o from Nat.ne_of_lt hq9)).trans (hlow q hq9)
  clear hq ho2
  refine lv_aload_n hx hb d_Field_init_12 rfl (lv_at hl 0 rfl) ?_
  refine lv_bipush (v := nI 14) hx hb d_Field_init_13 (by decide) ?_
  refine q_newJ E 14 rfl (by decide) w_64 (by decide) (by decide) hsz d_Field_init_15 (fun H3 hsz2 hnw h_2 => ?_)
  have hsz : H3.size = o + 3 := hsz2
  clear hsz2
  have ho := ho.eq (hnw o (k_mo (by decide)))
  have h_1 := h_1.eq (hnw _ (Nat.add_lt_add_left (by decide) _))
  have hlow : ∀ q, q < o → H3[q]? = s.heap[q]? := fun q hq9 => (hnw q (k_lt hq9)).trans (hlow q hq9)
  clear hnw
  refine q_putF (C := "KateDesk$Field") (T := T_Field) (N := 7) (ci := 1) (ty := .array (.long)) E ho in_Field ty_Field tyok_Field nm_Field rfl 2 (by decide) w_178 rfl rfl hnm rfl (by decide +kernel) rfl rfl (Nat.le_of_ble_eq_true rfl) na0 hF d_Field_init_17 (fun H4 locs hq ho2 hF => ?_)
  have hsz := hq.1.trans hsz
  have ho := ho2
  have h_1 := AJ.off hq (show ¬ o + 1 = o from k_m (by decide)) h_1
  have h_2 := AJ.off hq (show ¬ o + 2 = o from k_m (by decide)) h_2
  have hlow : ∀ q, q < o → H4[q]? = s.heap[q]? := fun q hq9 => (hq.2 q (show ¬ q = o from Nat.ne_of_lt hq9)).trans (hlow q hq9)
  clear hq ho2
  refine lv_aload_n hx hb d_Field_init_20 rfl (lv_at hl 0 rfl) ?_
  refine lv_bipush (v := nI 14) hx hb d_Field_init_21 (by decide) ?_
  refine q_newJ E 14 rfl (by decide) w_64 (by decide) (by decide) hsz d_Field_init_23 (fun H5 hsz2 hnw h_3 => ?_)
  have hsz : H5.size = o + 4 := hsz2
  clear hsz2
  have ho := ho.eq (hnw o (k_mo (by decide)))
  have h_1 := h_1.eq (hnw _ (Nat.add_lt_add_left (by decide) _))
  have h_2 := h_2.eq (hnw _ (Nat.add_lt_add_left (by decide) _))
  have hlow : ∀ q, q < o → H5[q]? = s.heap[q]? := fun q hq9 => (hnw q (k_lt hq9)).trans (hlow q hq9)
  clear hnw
  refine q_putF (C := "KateDesk$Field") (T := T_Field) (N := 7) (ci := 1) (ty := .array (.long)) E ho in_Field ty_Field tyok_Field nm_Field rfl 3 (by decide) w_179 rfl rfl hnm rfl (by decide +kernel) rfl rfl (Nat.le_of_ble_eq_true rfl) na0 hF d_Field_init_25 (fun H6 locs hq ho2 hF => ?_)
  have hsz := hq.1.trans hsz
  have ho := ho2
  have h_1 := AJ.off hq (show ¬ o + 1 = o from k_m (by decide)) h_1
  have h_2 := AJ.off hq (show ¬ o + 2 = o from k_m (by decide)) h_2
  have h_3 := AJ.off hq (show ¬ o + 3 = o from k_m (by decide)) h_3
  have hlow : ∀ q, q < o → H6[q]? = s.heap[q]? := fun q hq9 => (hq.2 q (show ¬ q = o from Nat.ne_of_lt hq9)).trans (hlow q hq9)
  clear hq ho2
  refine lv_aload_n hx hb d_Field_init_28 rfl (lv_at hl 0 rfl) ?_
  refine lv_bipush (v := nI 14) hx hb d_Field_init_29 (by decide) ?_
  refine q_newJ E 14 rfl (by decide) w_64 (by decide) (by decide) hsz d_Field_init_31 (fun H7 hsz2 hnw h_4 => ?_)
  have hsz : H7.size = o + 5 := hsz2
  clear hsz2
  have ho := ho.eq (hnw o (k_mo (by decide)))
  have h_1 := h_1.eq (hnw _ (Nat.add_lt_add_left (by decide) _))
  have h_2 := h_2.eq (hnw _ (Nat.add_lt_add_left (by decide) _))
  have h_3 := h_3.eq (hnw _ (Nat.add_lt_add_left (by decide) _))
  have hlow : ∀ q, q < o → H7[q]? = s.heap[q]? := fun q hq9 => (hnw q (k_lt hq9)).trans (hlow q hq9)
  clear hnw
  refine q_putF (C := "KateDesk$Field") (T := T_Field) (N := 7) (ci := 1) (ty := .array (.long)) E ho in_Field ty_Field tyok_Field nm_Field rfl 4 (by decide) w_180 rfl rfl hnm rfl (by decide +kernel) rfl rfl (Nat.le_of_ble_eq_true rfl) na0 hF d_Field_init_33 (fun H8 locs hq ho2 hF => ?_)
  have hsz := hq.1.trans hsz
  have ho := ho2
  have h_1 := AJ.off hq (show ¬ o + 1 = o from k_m (by decide)) h_1
  have h_2 := AJ.off hq (show ¬ o + 2 = o from k_m (by decide)) h_2
  have h_3 := AJ.off hq (show ¬ o + 3 = o from k_m (by decide)) h_3
  have h_4 := AJ.off hq (show ¬ o + 4 = o from k_m (by decide)) h_4
  have hlow : ∀ q, q < o → H8[q]? = s.heap[q]? := fun q hq9 => (hq.2 q (show ¬ q = o from Nat.ne_of_lt hq9)).trans (hlow q hq9)
  clear hq ho2
  refine lv_aload_n hx hb d_Field_init_36 rfl (lv_at hl 0 rfl) ?_
  refine lv_bipush (v := nI 14) hx hb d_Field_init_37 (by decide) ?_
  refine q_newJ E 14 rfl (by decide) w_64 (by decide) (by decide) hsz d_Field_init_39 (fun H9 hsz2 hnw h_5 => ?_)
  have hsz : H9.size = o + 6 := hsz2
  clear hsz2
  have ho := ho.eq (hnw o (k_mo (by decide)))
  have h_1 := h_1.eq (hnw _ (Nat.add_lt_add_left (by decide) _))
  have h_2 := h_2.eq (hnw _ (Nat.add_lt_add_left (by decide) _))
  have h_3 := h_3.eq (hnw _ (Nat.add_lt_add_left (by decide) _))
  have h_4 := h_4.eq (hnw _ (Nat.add_lt_add_left (by decide) _))
  have hlow : ∀ q, q < o → H9[q]? = s.heap[q]? := fun q hq9 => (hnw q (k_lt hq9)).trans (hlow q hq9)
  clear hnw
  refine q_putF (C := "KateDesk$Field") (T := T_Field) (N := 7) (ci := 1) (ty := .array (.long)) E ho in_Field ty_Field tyok_Field nm_Field rfl 5 (by decide) w_181 rfl rfl hnm rfl (by decide +kernel) rfl rfl (Nat.le_of_ble_eq_true rfl) na0 hF d_Field_init_41 (fun H10 locs hq ho2 hF => ?_)
  have hsz := hq.1.trans hsz
  have ho := ho2
  have h_1 := AJ.off hq (show ¬ o + 1 = o from k_m (by decide)) h_1
  have h_2 := AJ.off hq (show ¬ o + 2 = o from k_m (by decide)) h_2
  have h_3 := AJ.off hq (show ¬ o + 3 = o from k_m (by decide)) h_3
  have h_4 := AJ.off hq (show ¬ o + 4 = o from k_m (by decide)) h_4
  have h_5 := AJ.off hq (show ¬ o + 5 = o from k_m (by decide)) h_5
  have hlow : ∀ q, q < o → H10[q]? = s.heap[q]? := fun q hq9 => (hq.2 q (show ¬ q = o from Nat.ne_of_lt hq9)).trans (hlow q hq9)
  clear hq ho2
  refine lv_aload_n hx hb d_Field_init_44 rfl (lv_at hl 0 rfl) ?_
  refine lv_aload_n hx hb d_Field_init_45 rfl (lv_at hl 1 rfl) ?_
  have na6 : n0 (o + 6) := hna _ (by omega)
  have ho1 : OLD s0 H10 := hold.lt (hn0 _ na0) hlow
  refine q_cSW (rest := [.ref o]) E hw0 (c_Limbs_fromHex l g n0 s0 hn0 a n f hks hkt (o + 6) hn98 na6) w_90 w_5 w_88 w_89 hd_Limbs_fromHex rfl ⟨by decide, by decide⟩ (⟨ho1, hsz⟩) hF hl.1 rfl (Nat.le_of_ble_eq_true rfl) d_Field_init_46 ⟨by decide, by decide⟩ (qr (fun r H11 locs hq hF => ?_))
  obtain ⟨hr9, hsz2, hnw, h_6⟩ := hq
  subst hr9
  have hsz : H11.size = o + 7 := hsz2
  clear hsz2
  have ho := ho.eq (hnw o (k_mo (by decide)))
  have h_1 := h_1.eq (hnw _ (Nat.add_lt_add_left (by decide) _))
  have h_2 := h_2.eq (hnw _ (Nat.add_lt_add_left (by decide) _))
  have h_3 := h_3.eq (hnw _ (Nat.add_lt_add_left (by decide) _))
  have h_4 := h_4.eq (hnw _ (Nat.add_lt_add_left (by decide) _))
  have h_5 := h_5.eq (hnw _ (Nat.add_lt_add_left (by decide) _))
  have hlow : ∀ q, q < o → H11[q]? = s.heap[q]? := fun q hq9 => (hnw q (k_lt hq9)).trans (hlow q hq9)
  clear hnw ho1
  refine q_putF (C := "KateDesk$Field") (T := T_Field) (N := 7) (ci := 1) (ty := .array (.long)) E ho in_Field ty_Field tyok_Field nm_Field rfl 0 (by decide) w_170 rfl rfl hnm rfl (by decide +kernel) rfl rfl (Nat.le_of_ble_eq_true rfl) na0 hF d_Field_init_49 (fun H12 locs hq ho2 hF => ?_)
  have hsz := hq.1.trans hsz
  have ho := ho2
  have h_1 := AJ.off hq (show ¬ o + 1 = o from k_m (by decide)) h_1
  have h_2 := AJ.off hq (show ¬ o + 2 = o from k_m (by decide)) h_2
  have h_3 := AJ.off hq (show ¬ o + 3 = o from k_m (by decide)) h_3
  have h_4 := AJ.off hq (show ¬ o + 4 = o from k_m (by decide)) h_4
  have h_5 := AJ.off hq (show ¬ o + 5 = o from k_m (by decide)) h_5
  have h_6 := AJ.off hq (show ¬ o + 6 = o from k_m (by decide)) h_6
  have hlow : ∀ q, q < o → H12[q]? = s.heap[q]? := fun q hq9 => (hq.2 q (show ¬ q = o from Nat.ne_of_lt hq9)).trans (hlow q hq9)
  clear hq ho2
  refine lv_aload_n hx hb d_Field_init_52 rfl (lv_at hl 0 rfl) ?_
  refine lv_aload_n hx hb d_Field_init_53 rfl (lv_at hl 0 rfl) ?_
  refine q_get (C := "KateDesk$Field") (T := T_Field) (N := 7) (ci := 1) E ho in_Field rfl 0 (by decide) w_170 rfl rfl d_Field_init_54 ?_
  refine lv_iconst (v := nI 0) hx hb d_Field_init_57 (by decide) ?_
  refine q_lald (N := 14) (f := (hxF f n n)) E h_6 0 rfl (by decide) (by decide) d_Field_init_58 ?_
  refine lv_topl (fun m0 _ => ?_)
  refine q_cS (rest := [.ref o]) E (c_Field_minusInverseOf l g n0 m0) w_141 w_4 w_139 w_140 hd_Field_minusInverseOf rfl ⟨by decide, by decide⟩ trivial hF hl.1 rfl (Nat.le_of_ble_eq_true rfl) d_Field_init_59 ⟨by decide, by decide⟩ (ql (fun mi H13 locs hq hF => ?_))
  have hq := hq.symm
  subst hq
  refine q_putF (C := "KateDesk$Field") (T := T_Field) (N := 7) (ci := 1) (ty := .long) E ho in_Field ty_Field tyok_Field nm_Field rfl 6 (by decide) w_182 rfl rfl hnm rfl (by decide +kernel) rfl rfl (Nat.le_of_ble_eq_true rfl) na0 hF d_Field_init_62 (fun H14 locs hq ho2 hF => ?_)
  have hsz := hq.1.trans hsz
  have ho := ho2
  have h_1 := AJ.off hq (show ¬ o + 1 = o from k_m (by decide)) h_1
  have h_2 := AJ.off hq (show ¬ o + 2 = o from k_m (by decide)) h_2
  have h_3 := AJ.off hq (show ¬ o + 3 = o from k_m (by decide)) h_3
  have h_4 := AJ.off hq (show ¬ o + 4 = o from k_m (by decide)) h_4
  have h_5 := AJ.off hq (show ¬ o + 5 = o from k_m (by decide)) h_5
  have h_6 := AJ.off hq (show ¬ o + 6 = o from k_m (by decide)) h_6
  have hlow : ∀ q, q < o → H14[q]? = s.heap[q]? := fun q hq9 => (hq.2 q (show ¬ q = o from Nat.ne_of_lt hq9)).trans (hlow q hq9)
  clear hq ho2
  have hfd : FD g n0 H14 o (kF o) mi := fd_mk ho hna h_1 h_2 h_3 h_4 h_5 h_6
  have hk : KJ g (fun q => o + 1 ≤ q ∧ q ≤ o + 5) H14 H14 := KJ.rf
  clear ho h_1 h_2 h_3 h_4 h_5
  refine lv_aload_n hx hb d_Field_init_65 rfl (lv_at hl 0 rfl) ?_
  refine q_get (C := "KateDesk$Field") (T := T_Field) (N := 7) (ci := 1) E ((hk.fd hK hfd).1) in_Field rfl 2 (by decide) w_178 rfl rfl d_Field_init_66 ?_
  refine lv_iconst (v := nI 0) hx hb d_Field_init_69 (by decide) ?_
  refine lv_lconst (v := 1) hx hb d_Field_init_70 (by decide) ?_
  refine q_lastS E ((hk.fd hK hfd).2 2 (by decide)) hF 0 rfl (by decide) d_Field_init_71 (fun H15 locs hq hF => ?_)
  have hk := hk.tr (hq.mono (fun q e => kf_S (i := 2) (by decide) (by decide) e))
  refine lv_aload_n hx hb d_Field_init_72 rfl (lv_at hl 0 rfl) ?_
  refine q_get (C := "KateDesk$Field") (T := T_Field) (N := 7) (ci := 1) E ((hk.fd hK hfd).1) in_Field rfl 1 (by decide) w_173 rfl rfl d_Field_init_73 ?_
  refine lv_aload_n hx hb d_Field_init_76 rfl (lv_at hl 0 rfl) ?_
  refine q_get (C := "KateDesk$Field") (T := T_Field) (N := 7) (ci := 1) E ((hk.fd hK hfd).1) in_Field rfl 2 (by decide) w_178 rfl rfl d_Field_init_77 ?_
  obtain ⟨-, f2, hf2⟩ := (hk.fd hK hfd).2 2 (by decide)
  refine q_cS (rest := []) E (c_Limbs_copy l g n0 (kF o 1) (kF o 2) f2) w_146 w_5 w_144 w_145 hd_Limbs_copy rfl ⟨by decide, by decide⟩ (⟨((hk.fd hK hfd).2 1 (by decide)), hf2⟩) hF hl.1 rfl (Nat.le_of_ble_eq_true rfl) d_Field_init_80 ⟨by decide, by decide⟩ (qv (fun H16 locs hq hF => ?_))
  have hk := hk.tr (hq.1.mono (fun q e => kf_S (i := 1) (by decide) (by decide) e))
  refine lv_aload_n hx hb d_Field_init_83 rfl (lv_at hl 0 rfl) ?_
  refine lv_aload_n hx hb d_Field_init_84 rfl (lv_at hl 0 rfl) ?_
  refine q_get (C := "KateDesk$Field") (T := T_Field) (N := 7) (ci := 1) E ((hk.fd hK hfd).1) in_Field rfl 1 (by decide) w_173 rfl rfl d_Field_init_85 ?_
  refine lv_sipush (v := nI 392) hx hb d_Field_init_88 (by decide) ?_
  refine q_cV (rest := []) E (c_Field_doubled l g n0 o (kF o 1) 392 (kF o) mi (by decide)) w_153 w_4 w_150 w_152 (bw_s 0 rfl) hd_Field_doubled rfl ⟨by decide, by decide⟩ (OB.recv E.2.2.2.2.2 (by rfl) ((hk.fd hK hfd).1)) (⟨(hk.fd hK hfd), ((hk.fd hK hfd).2 1 (by decide))⟩) hF hl.1 rfl (Nat.le_of_ble_eq_true rfl) d_Field_init_91 ⟨by decide, by decide⟩ (qv (fun H17 locs hq hF => ?_))
  have hk := hk.tr (hq.mono (fun q e => kf_S (i := 1) (by decide) (by decide) e))
  refine lv_aload_n hx hb d_Field_init_94 rfl (lv_at hl 0 rfl) ?_
  refine q_get (C := "KateDesk$Field") (T := T_Field) (N := 7) (ci := 1) E ((hk.fd hK hfd).1) in_Field rfl 3 (by decide) w_179 rfl rfl d_Field_init_95 ?_
  refine lv_aload_n hx hb d_Field_init_98 rfl (lv_at hl 0 rfl) ?_
  refine q_get (C := "KateDesk$Field") (T := T_Field) (N := 7) (ci := 1) E ((hk.fd hK hfd).1) in_Field rfl 1 (by decide) w_173 rfl rfl d_Field_init_99 ?_
  obtain ⟨-, f1, hf1⟩ := (hk.fd hK hfd).2 1 (by decide)
  refine q_cS (rest := []) E (c_Limbs_copy l g n0 (kF o 3) (kF o 1) f1) w_146 w_5 w_144 w_145 hd_Limbs_copy rfl ⟨by decide, by decide⟩ (⟨((hk.fd hK hfd).2 3 (by decide)), hf1⟩) hF hl.1 rfl (Nat.le_of_ble_eq_true rfl) d_Field_init_102 ⟨by decide, by decide⟩ (qv (fun H18 locs hq hF => ?_))
  have hk := hk.tr (hq.1.mono (fun q e => kf_S (i := 3) (by decide) (by decide) e))
  refine lv_aload_n hx hb d_Field_init_105 rfl (lv_at hl 0 rfl) ?_
  refine lv_aload_n hx hb d_Field_init_106 rfl (lv_at hl 0 rfl) ?_
  refine q_get (C := "KateDesk$Field") (T := T_Field) (N := 7) (ci := 1) E ((hk.fd hK hfd).1) in_Field rfl 3 (by decide) w_179 rfl rfl d_Field_init_107 ?_
  refine lv_bipush (v := nI 49) hx hb d_Field_init_110 (by decide) ?_
  refine q_cV (rest := []) E (c_Field_doubled l g n0 o (kF o 3) 49 (kF o) mi (by decide)) w_153 w_4 w_150 w_152 (bw_s 0 rfl) hd_Field_doubled rfl ⟨by decide, by decide⟩ (OB.recv E.2.2.2.2.2 (by rfl) ((hk.fd hK hfd).1)) (⟨(hk.fd hK hfd), ((hk.fd hK hfd).2 3 (by decide))⟩) hF hl.1 rfl (Nat.le_of_ble_eq_true rfl) d_Field_init_112 ⟨by decide, by decide⟩ (qv (fun H19 locs hq hF => ?_))
  have hk := hk.tr (hq.mono (fun q e => kf_S (i := 3) (by decide) (by decide) e))
  have lp : ∀ (k : Nat) (i : Nat) (H : Heap) (locs : List Loc) (ls : Array Slot), i + k = 3 → KJ g (fun q => o + 1 ≤ q ∧ q ≤ o + 5) H14 H → (∀ q ∈ locs, n0 q.base) → lv_has ls 3 [(2, .int (nI i)), (1, .ref a), (0, .ref o)] → W p l e { frames := 5, cells := 6, slots := 84, locals := 135 } s m [.ref o, .ref a].toArray below meth c H locs 6 84 (MQ below (QcP (QV (fun H H' => (∃ mi, FD g n0 H' o (kF o) mi) ∧ AJ g H' (o + 6) 14 (hxF f n n) ∧ H'.size = o + 7 ∧ ∀ q, q < o → H'[q]? = H[q]?))) [.ref o, .ref a].toArray s 6 84 (fun q => n0 q)) (F0 m 117 ls []) := by
    intro k
    induction k with
    | zero =>
      intro  i   H   locs   ls hi hk hF hl
      obtain rfl : i = 3 := by omega
      refine lv_iload_n hx hb d_Field_init_117 rfl (lv_at hl 0 rfl) ?_
      refine lv_iconst (v := nI 3) hx hb d_Field_init_118 (by decide) ?_
      refine lv_icmp_ge (tgt := 144) hx hb d_Field_init_119 (by decide) (fun _ => ?_) (fun h9 => absurd (by decide) h9)
      refine lv_aload_n hx hb d_Field_init_144 rfl (lv_at hl 2 rfl) ?_
      refine lv_aload_n hx hb d_Field_init_145 rfl (lv_at hl 2 rfl) ?_
      refine q_get (C := "KateDesk$Field") (T := T_Field) (N := 7) (ci := 1) E ((hk.fd hK hfd).1) in_Field rfl 4 (by decide) w_180 rfl rfl d_Field_init_146 ?_
      refine lv_aload_n hx hb d_Field_init_149 rfl (lv_at hl 2 rfl) ?_
      refine q_get (C := "KateDesk$Field") (T := T_Field) (N := 7) (ci := 1) E ((hk.fd hK hfd).1) in_Field rfl 4 (by decide) w_180 rfl rfl d_Field_init_150 ?_
      refine lv_aload_n hx hb d_Field_init_153 rfl (lv_at hl 2 rfl) ?_
      refine q_get (C := "KateDesk$Field") (T := T_Field) (N := 7) (ci := 1) E ((hk.fd hK hfd).1) in_Field rfl 2 (by decide) w_178 rfl rfl d_Field_init_154 ?_
      refine q_cV (rest := []) E (c_Field_subtract l g n0 o (kF o 4) (kF o 4) (kF o 2) (kF o) mi) w_169 w_4 w_166 w_167 w_168 hd_Field_subtract rfl ⟨by decide, by decide⟩ (OB.recv E.2.2.2.2.2 (by rfl) ((hk.fd hK hfd).1)) (⟨(hk.fd hK hfd), ((hk.fd hK hfd).2 4 (by decide)), ((hk.fd hK hfd).2 4 (by decide)), ((hk.fd hK hfd).2 2 (by decide))⟩) hF hl.1 rfl (Nat.le_of_ble_eq_true rfl) d_Field_init_157 ⟨by decide, by decide⟩ (qv (fun H1 locs hq hF => ?_))
      have hk := hk.tr (hq.mono (fun q e => kf_S (i := 4) (by decide) (by decide) e))
      refine lv_aload_n hx hb d_Field_init_160 rfl (lv_at hl 2 rfl) ?_
      refine lv_aload_n hx hb d_Field_init_161 rfl (lv_at hl 2 rfl) ?_
      refine q_get (C := "KateDesk$Field") (T := T_Field) (N := 7) (ci := 1) E ((hk.fd hK hfd).1) in_Field rfl 4 (by decide) w_180 rfl rfl d_Field_init_162 ?_
      refine lv_aload_n hx hb d_Field_init_165 rfl (lv_at hl 2 rfl) ?_
      refine q_get (C := "KateDesk$Field") (T := T_Field) (N := 7) (ci := 1) E ((hk.fd hK hfd).1) in_Field rfl 4 (by decide) w_180 rfl rfl d_Field_init_166 ?_
      refine lv_aload_n hx hb d_Field_init_169 rfl (lv_at hl 2 rfl) ?_
      refine q_get (C := "KateDesk$Field") (T := T_Field) (N := 7) (ci := 1) E ((hk.fd hK hfd).1) in_Field rfl 2 (by decide) w_178 rfl rfl d_Field_init_170 ?_
      refine q_cV (rest := []) E (c_Field_subtract l g n0 o (kF o 4) (kF o 4) (kF o 2) (kF o) mi) w_169 w_4 w_166 w_167 w_168 hd_Field_subtract rfl ⟨by decide, by decide⟩ (OB.recv E.2.2.2.2.2 (by rfl) ((hk.fd hK hfd).1)) (⟨(hk.fd hK hfd), ((hk.fd hK hfd).2 4 (by decide)), ((hk.fd hK hfd).2 4 (by decide)), ((hk.fd hK hfd).2 2 (by decide))⟩) hF hl.1 rfl (Nat.le_of_ble_eq_true rfl) d_Field_init_173 ⟨by decide, by decide⟩ (qv (fun H2 locs hq hF => ?_))
      have hk := hk.tr (hq.mono (fun q e => kf_S (i := 4) (by decide) (by decide) e))
      exact q_vret E hr hlk (⟨rfl, ⟨mi, (hk.fd hK hfd)⟩, hk.ajo kf_6 h_6, hk.1.trans hsz, fun q hq9 => (hk.off (kf_q hq9)).trans (hlow q hq9)⟩) hF d_Field_init_176
    | succ k ih =>
      intro  i   H   locs   ls hi hk hF hl
      refine lv_iload_n hx hb d_Field_init_117 rfl (lv_at hl 0 rfl) ?_
      refine lv_iconst (v := nI 3) hx hb d_Field_init_118 (by decide) ?_
      refine lv_icmp_ge (tgt := 144) hx hb d_Field_init_119 (by decide) (fun h9 => absurd h9 (nI_ge (by omega) (by decide))) (fun _ => ?_)
      refine lv_aload_n hx hb d_Field_init_122 rfl (lv_at hl 2 rfl) ?_
      refine lv_aload_n hx hb d_Field_init_123 rfl (lv_at hl 2 rfl) ?_
      refine q_get (C := "KateDesk$Field") (T := T_Field) (N := 7) (ci := 1) E ((hk.fd hK hfd).1) in_Field rfl 3 (by decide) w_179 rfl rfl d_Field_init_124 ?_
      refine lv_aload_n hx hb d_Field_init_127 rfl (lv_at hl 2 rfl) ?_
      refine q_get (C := "KateDesk$Field") (T := T_Field) (N := 7) (ci := 1) E ((hk.fd hK hfd).1) in_Field rfl 3 (by decide) w_179 rfl rfl d_Field_init_128 ?_
      refine lv_aload_n hx hb d_Field_init_131 rfl (lv_at hl 2 rfl) ?_
      refine q_get (C := "KateDesk$Field") (T := T_Field) (N := 7) (ci := 1) E ((hk.fd hK hfd).1) in_Field rfl 3 (by decide) w_179 rfl rfl d_Field_init_132 ?_
      refine q_cV (rest := []) E (c_Field_multiply l g n0 o (kF o 3) (kF o 3) (kF o 3) (kF o) mi) w_165 w_4 w_162 w_163 w_164 hd_Field_multiply rfl ⟨by decide, by decide⟩ (OB.recv E.2.2.2.2.2 (by rfl) ((hk.fd hK hfd).1)) (⟨(hk.fd hK hfd), ((hk.fd hK hfd).2 3 (by decide)), ((hk.fd hK hfd).2 3 (by decide)), ((hk.fd hK hfd).2 3 (by decide))⟩) hF hl.1 rfl (Nat.le_of_ble_eq_true rfl) d_Field_init_135 ⟨by decide, by decide⟩ (qv (fun H1 locs hq hF => ?_))
      have hk := hk.tr (hq.mono (fun q e => kf_S (i := 3) (by decide) (by decide) e))
      refine lv_iinc (k := 0) (v := nI (i + 1)) (lv' := [(2, .int (nI (i + 1))), (1, .ref a), (0, .ref o)]) hx hb d_Field_init_138 hl rfl (i_inc i) (by decide) rfl (fun ls hl => ?_)
      refine lv_goto (tgt := 117) hx hb d_Field_init_141 (by decide) ?_
      have hl : lv_has ls 3 [(2, .int (nI (i + 1))), (1, .ref a), (0, .ref o)] := lv_sub hl [0, 1, 2] rfl
      exact ih (i + 1) _ _ ls (by omega) hk hF hl
  refine lv_iconst (v := nI 0) hx hb d_Field_init_115 (by decide) ?_
  refine lv_istore_n (lv' := [(2, .int (nI 0)), (0, .ref o), (1, .ref a)]) hx hb d_Field_init_116 rfl hl (by decide) rfl (fun ls hl => ?_)
  have hl : lv_has ls 3 [(2, .int (nI 0)), (1, .ref a), (0, .ref o)] := lv_sub hl [0, 2, 1] rfl
  exact lp 3 0 _ _ ls (by omega) hk hF hl
set_option maxHeartbeats 4000000 in
set_option maxRecDepth 100000 in
theorem c_Desk_newGenerator (l : Launch) (g : WG) (n0 : Nat → Prop) (s0 : State) (hn0 : ∀ q, n0 q → s0.heap.size ≤ q) (fo h : Nat) (F : Nat → Nat) (mi : Int64) (hkh : KH s0) (hna : ∀ q, h ≤ q → n0 q) : CtrW l y_Desk_newGenerator (.code y_Desk_newGenerator prog_1_method_28_code 2 (some (FieldType.object "KateDesk$Point"))) 5 157 6 73 n0 g s0 [.ref fo] (fun H => OLD s0 H ∧ H.size = h ∧ FD g n0 H fo F mi) (QR (fun r H H' => r = h ∧ H'.size = h + 6 ∧ (∀ q, q < h → H'[q]? = H[q]?) ∧ PT g n0 H' h (h + 1) (h + 2) (h + 3))) := by
  refine ctrW_mk l (lv0 := [(0, .ref fo)]) (by decide) (Nat.le_of_ble_eq_true rfl) rfl ?_
  intro p e s m below meth c ls E hw0 hr hlk hnm hl hP
  have hx := E.1
  have hb := E.2.1
  have hK := E.2.2.2.2.2
  have hF : ∀ q ∈ ([] : List Loc), n0 q.base := fun q hq => absurd hq List.not_mem_nil
  obtain ⟨hold, hsz, hfd⟩ := hP
  obtain ⟨hks, -, -, ⟨a1, hr1, hk1⟩, ⟨a2, hr2, hk2⟩⟩ := hkh
  have hfl : fo < h := by rw [← hsz]; exact hfd.1.lt
  have hFl : ∀ k, k < 6 → F k < h := fun k hk => by rw [← hsz]; exact hfd.lt hk
  have na0 : n0 (h + 0) := hna _ (by omega)
  have na1 : n0 (h + 1) := hna _ (by omega)
  have na2 : n0 (h + 2) := hna _ (by omega)
  have na3 : n0 (h + 3) := hna _ (by omega)
  have na4 : n0 (h + 4) := hna _ (by omega)
  have na5 : n0 (h + 5) := hna _ (by omega)
  have hlow : ∀ q, q < h → s.heap[q]? = s.heap[q]? := fun _ _ => rfl
  refine q_new (C := "KateDesk$Point") (T := T_Point) (N := 3) (ci := 2) (fs := [.null, .null, .null]) E in_Point ty_Point tyok_Point rfl w_38 w_40 w_2 (by decide +kernel) (by decide) (by decide) hsz d_Desk_newGenerator_0 (fun H1 hsz2 hnw ho => ?_)
  have hlow : ∀ q, q < h → H1[q]? = s.heap[q]? := hnw
  clear hnw
  refine lv_dup hx hb d_Desk_newGenerator_3 rfl ?_
  refine q_cI (rest := [.ref h]) E (c_Point_init l g n0 h (fun q h1 _ => hna q h1)) w_43 w_2 w_41 w_42 rfl hd_Point_init rfl ⟨by decide, by decide⟩ (⟨ho, hsz2⟩) hF hl.1 rfl (Nat.le_of_ble_eq_true rfl) d_Desk_newGenerator_4 ⟨by decide, by decide⟩ (qv (fun H2 locs hq hF => ?_))
  obtain ⟨⟨ho, hx9, hy9, hz9⟩, hsz3, hnw⟩ := hq
  have hlow : ∀ q, q < h → H2[q]? = s.heap[q]? := fun q hq9 => (hnw q hq9).trans (hlow q hq9)
  clear hnw
  have hx9 : J14 g n0 H2 (h + 1) := ⟨na1, _, hx9⟩
  have hy9 : J14 g n0 H2 (h + 2) := ⟨na2, _, hy9⟩
  have hz9 : J14 g n0 H2 (h + 3) := ⟨na3, _, hz9⟩
  refine lv_astore_n (lv' := [(1, .ref h), (0, .ref fo)]) hx hb d_Desk_newGenerator_7 rfl hl (by decide) rfl (fun ls hl => ?_)
  refine lv_aload_n hx hb d_Desk_newGenerator_8 rfl (lv_at hl 1 rfl) ?_
  refine lv_aload_n hx hb d_Desk_newGenerator_9 rfl (lv_at hl 0 rfl) ?_
  refine q_get (C := "KateDesk$Point") (T := T_Point) (N := 3) (ci := 2) E ho in_Point rfl 0 (by decide) w_48 rfl rfl d_Desk_newGenerator_10 ?_
  refine q_ldcSW E.1 E.2.1 E.2.2.2.1 (vk_R.warm hw0 hr1) d_Desk_newGenerator_13 ?_
  have ho1 : OLD s0 H2 := hold.lt (hn0 _ na0) hlow
  refine q_cSW (rest := [.ref (h + 1), .ref fo]) E hw0 (c_Limbs_fromHex l g n0 s0 hn0 a1 96 hb292 hks hk1 (h + 4) (by decide) na4) w_90 w_5 w_335 w_89 hd_Limbs_fromHex rfl ⟨by decide, by decide⟩ (⟨ho1, hsz3⟩) hF hl.1 rfl (Nat.le_of_ble_eq_true rfl) d_Desk_newGenerator_16 ⟨by decide, by decide⟩ (qr (fun r0 H3 locs hq hF => ?_))
  obtain ⟨hr9, hsz4, hnw, hn9⟩ := hq
  subst hr9
  have hlow : ∀ q, q < h → H3[q]? = s.heap[q]? := fun q hq9 => (hnw q (k_lt hq9)).trans (hlow q hq9)
  have ho := ho.eq (hnw h (k_mo (by decide)))
  have hx9 : J14 g n0 H3 _ := ⟨hx9.1, hx9.2.imp (fun f hf => hf.eq (hnw _ (Nat.add_lt_add_left (by decide) _)))⟩
  have hy9 : J14 g n0 H3 _ := ⟨hy9.1, hy9.2.imp (fun f hf => hf.eq (hnw _ (Nat.add_lt_add_left (by decide) _)))⟩
  have hz9 : J14 g n0 H3 _ := ⟨hz9.1, hz9.2.imp (fun f hf => hf.eq (hnw _ (Nat.add_lt_add_left (by decide) _)))⟩
  have hn9 : J14 g n0 H3 (h + 4) := ⟨na4, _, hn9⟩
  clear hnw ho1
  have hfdl := (hfd.grow (fun q hq9 => hlow q (by rw [← hsz]; exact hq9)))
  refine q_cV (rest := []) E (c_Field_lift l g n0 fo (h + 1) (h + 4) F mi) w_302 w_4 w_336 w_300 w_301 hd_Field_lift rfl ⟨by decide, by decide⟩ (OB.recv E.2.2.2.2.2 (by rfl) hfdl.1) (⟨hfdl, hx9, hn9⟩) hF hl.1 rfl (Nat.le_of_ble_eq_true rfl) d_Desk_newGenerator_19 ⟨by decide, by decide⟩ (qv (fun H4 locs hq hF => ?_))
  have hlow : ∀ q, q < h → H4[q]? = s.heap[q]? := fun q hq9 => (hq.off (show ¬ q = h + 1 from k_ne2 hq9)).trans (hlow q hq9)
  have ho := hq.ob hK ho
  have hx9 := hq.j hx9
  have hy9 := hq.j hy9
  have hz9 := hq.j hz9
  have hsz4 := hq.1.trans hsz4
  clear hq hfdl hn9
  refine lv_aload_n hx hb d_Desk_newGenerator_22 rfl (lv_at hl 1 rfl) ?_
  refine lv_aload_n hx hb d_Desk_newGenerator_23 rfl (lv_at hl 0 rfl) ?_
  refine q_get (C := "KateDesk$Point") (T := T_Point) (N := 3) (ci := 2) E ho in_Point rfl 1 (by decide) w_52 rfl rfl d_Desk_newGenerator_24 ?_
  refine q_ldcSW E.1 E.2.1 E.2.2.2.1 (vk_R.warm hw0 hr2) d_Desk_newGenerator_27 ?_
  have ho1 : OLD s0 H4 := hold.lt (hn0 _ na0) hlow
  refine q_cSW (rest := [.ref (h + 2), .ref fo]) E hw0 (c_Limbs_fromHex l g n0 s0 hn0 a2 96 hb301 hks hk2 (h + 5) (by decide) na5) w_90 w_5 w_335 w_89 hd_Limbs_fromHex rfl ⟨by decide, by decide⟩ (⟨ho1, hsz4⟩) hF hl.1 rfl (Nat.le_of_ble_eq_true rfl) d_Desk_newGenerator_30 ⟨by decide, by decide⟩ (qr (fun r1 H5 locs hq hF => ?_))
  obtain ⟨hr9, hsz4, hnw, hn9⟩ := hq
  subst hr9
  have hlow : ∀ q, q < h → H5[q]? = s.heap[q]? := fun q hq9 => (hnw q (k_lt hq9)).trans (hlow q hq9)
  have ho := ho.eq (hnw h (k_mo (by decide)))
  have hx9 : J14 g n0 H5 _ := ⟨hx9.1, hx9.2.imp (fun f hf => hf.eq (hnw _ (Nat.add_lt_add_left (by decide) _)))⟩
  have hy9 : J14 g n0 H5 _ := ⟨hy9.1, hy9.2.imp (fun f hf => hf.eq (hnw _ (Nat.add_lt_add_left (by decide) _)))⟩
  have hz9 : J14 g n0 H5 _ := ⟨hz9.1, hz9.2.imp (fun f hf => hf.eq (hnw _ (Nat.add_lt_add_left (by decide) _)))⟩
  have hn9 : J14 g n0 H5 (h + 5) := ⟨na5, _, hn9⟩
  clear hnw ho1
  have hfdl := (hfd.grow (fun q hq9 => hlow q (by rw [← hsz]; exact hq9)))
  refine q_cV (rest := []) E (c_Field_lift l g n0 fo (h + 2) (h + 5) F mi) w_302 w_4 w_336 w_300 w_301 hd_Field_lift rfl ⟨by decide, by decide⟩ (OB.recv E.2.2.2.2.2 (by rfl) hfdl.1) (⟨hfdl, hy9, hn9⟩) hF hl.1 rfl (Nat.le_of_ble_eq_true rfl) d_Desk_newGenerator_33 ⟨by decide, by decide⟩ (qv (fun H6 locs hq hF => ?_))
  have hlow : ∀ q, q < h → H6[q]? = s.heap[q]? := fun q hq9 => (hq.off (show ¬ q = h + 2 from k_ne2 hq9)).trans (hlow q hq9)
  have ho := hq.ob hK ho
  have hx9 := hq.j hx9
  have hy9 := hq.j hy9
  have hz9 := hq.j hz9
  have hsz4 := hq.1.trans hsz4
  clear hq hfdl hn9
  refine lv_aload_n hx hb d_Desk_newGenerator_36 rfl (lv_at hl 0 rfl) ?_
  refine q_get (C := "KateDesk$Point") (T := T_Point) (N := 3) (ci := 2) E ho in_Point rfl 2 (by decide) w_56 rfl rfl d_Desk_newGenerator_37 ?_
  have hfdl := (hfd.grow (fun q hq9 => hlow q (by rw [← hsz]; exact hq9)))
  refine lv_aload_n hx hb d_Desk_newGenerator_40 rfl (lv_at hl 1 rfl) ?_
  refine q_get (C := "KateDesk$Field") (T := T_Field) (N := 7) (ci := 1) E hfdl.1 in_Field rfl 1 (by decide) w_177 rfl rfl d_Desk_newGenerator_41 ?_
  obtain ⟨-, f9, hf9⟩ := hfdl.2 1 (by decide)
  refine q_cS (rest := []) E (c_Limbs_copy l g n0 (h + 3) (F 1) f9) w_146 w_5 w_338 w_145 hd_Limbs_copy rfl ⟨by decide, by decide⟩ (⟨hz9, hf9⟩) hF hl.1 rfl (Nat.le_of_ble_eq_true rfl) d_Desk_newGenerator_44 ⟨by decide, by decide⟩ (qv (fun H7 locs hq hF => ?_))
  refine lv_aload_n hx hb d_Desk_newGenerator_47 rfl (lv_at hl 0 rfl) ?_
  exact q_aret E hr (Or.inl ⟨_, rfl⟩) hlk (⟨_, rfl, rfl, hq.1.1.trans hsz4, fun q hq9 => (hq.1.off (show ¬ q = h + 3 from k_ne2 hq9)).trans (hlow q hq9), hq.1.ob hK ho, hq.1.j hx9, hq.1.j hy9, hq.1.j hz9⟩) hF d_Desk_newGenerator_48
