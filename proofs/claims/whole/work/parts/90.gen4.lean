theorem RW9.frm {g : WG} {S : Nat → Prop} {H H' : Heap} {o ce t : Nat} (h : RW9 g H o ce t) (hf : FRM S H H') (h1 : ¬ S o) (h2 : ¬ S ce) : RW9 g H' o ce t := ⟨h.1.eq (hf.2 _ h1), h.2.imp (fun f hf' => hf'.eq (hf.2 _ h2))⟩
theorem J14.frm {g : WG} {n0 : Nat → Prop} {S : Nat → Prop} {H H' : Heap} {a : Nat} (h : J14 g n0 H a) (hf : FRM S H H') (h1 : ¬ S a) : J14 g n0 H' a := ⟨h.1, h.2.imp (fun f hf' => hf'.eq (hf.2 _ h1))⟩
theorem PT.frm {g : WG} {n0 : Nat → Prop} {S : Nat → Prop} {H H' : Heap} {o x y z : Nat} (h : PT g n0 H o x y z) (hf : FRM S H H') (h0 : ¬ S o) (h1 : ¬ S x) (h2 : ¬ S y) (h3 : ¬ S z) : PT g n0 H' o x y z := ⟨h.1.eq (hf.2 _ h0), h.2.1.frm hf h1, h.2.2.1.frm hf h2, h.2.2.2.frm hf h3⟩
theorem FD.frm {g : WG} {n0 : Nat → Prop} {S : Nat → Prop} {H H' : Heap} {o : Nat} {F : Nat → Nat} {mi : Int64} (h : FD g n0 H o F mi) (hf : FRM S H H') (h0 : ¬ S o) (h1 : ∀ k, k < 6 → ¬ S (F k)) : FD g n0 H' o F mi := ⟨h.1.eq (hf.2 _ h0), fun k hk => (h.2 k hk).frm hf (h1 k hk)⟩
theorem CV.frm {g : WG} {n0 : Nat → Prop} {S : Nat → Prop} {H H' : Heap} {o fo : Nat} {F : Nat → Nat} {mi : Int64} {X : Nat → Nat} (h : CV g n0 H o fo F mi X) (hf : FRM S H H') (h0 : ¬ S o) (h1 : ¬ S fo) (h2 : ∀ k, k < 6 → ¬ S (F k)) (h3 : ∀ k, k < 9 → ¬ S (X k)) : CV g n0 H' o fo F mi X := ⟨h.1.eq (hf.2 _ h0), h.2.1.frm hf h1 h2, fun k hk => (h.2.2 k hk).frm hf (h3 k hk)⟩
theorem FMX.frm {g : WG} {n0 : Nat → Prop} {S : Nat → Prop} {H H' : Heap} {o cu fi : Nat} {F : Nat → Nat} {mi : Int64} {X : Nat → Nat} {r1 r2 r3 r4 : Nat} (h : FMX g n0 H o cu fi F mi X r1 r2 r3 r4) (hf : FRM S H H') (hn : ∀ q, n0 q → ¬ S q) (h0 : ¬ S o) (h1 : ¬ S cu) (h2 : ¬ S fi) (hF0 : (∀ k, k < 6 → ¬ S (F k)) ∧ ¬ S r1) : FMX g n0 H' o cu fi F mi X r1 r2 r3 r4 := ⟨h.1.eq (hf.2 _ h0), h.2.1.frm hf h1 h2 hF0.1 (fun k hk => hn _ (h.2.1.2.2 k hk).1), h.2.2.1.frm hf hF0.2, h.2.2.2.1.frm hf (hn _ h.2.2.2.1.1), h.2.2.2.2.1.frm hf (hn _ h.2.2.2.2.1.1), h.2.2.2.2.2.frm hf (hn _ h.2.2.2.2.2.1)⟩
abbrev y_Forms_writeCoordinate : MethodName := ⟨"KateDesk$Forms", "writeCoordinate", "(LKateDesk$Row;[JI)V"⟩
theorem hd_Forms_writeCoordinate : y_Forms_writeCoordinate.cls ≠ "java/lang/invoke/MethodHandle" ∧ y_Forms_writeCoordinate.cls ≠ "java/lang/invoke/VarHandle" ∧ (parseMethodDescriptor y_Forms_writeCoordinate.desc).map (fun d => d.parameters.length) = some 3 := by decide +kernel
theorem d_Forms_writeCoordinate_0 : decode prog_4_method_9_code 0 = .ok (.aload_n 0, 1) := by decide +kernel
theorem d_Forms_writeCoordinate_1 : decode prog_4_method_9_code 1 = .ok (.iload_n 2, 1) := by decide +kernel
theorem d_Forms_writeCoordinate_2 : decode prog_4_method_9_code 2 = .ok (.iconst 5, 1) := by decide +kernel
theorem d_Forms_writeCoordinate_3 : decode prog_4_method_9_code 3 = .ok (.ishl, 1) := by decide +kernel
theorem d_Forms_writeCoordinate_4 : decode prog_4_method_9_code 4 = .ok (.aload_n 1, 1) := by decide +kernel
theorem d_Forms_writeCoordinate_5 : decode prog_4_method_9_code 5 = .ok (.sipush 376, 3) := by decide +kernel
theorem d_Forms_writeCoordinate_8 : decode prog_4_method_9_code 8 = .ok (.bipush 8, 2) := by decide +kernel
theorem d_Forms_writeCoordinate_10 : decode prog_4_method_9_code 10 = .ok (.invokestatic 143, 3) := by decide +kernel
theorem d_Forms_writeCoordinate_13 : decode prog_4_method_9_code 13 = .ok (.l2i, 1) := by decide +kernel
theorem d_Forms_writeCoordinate_14 : decode prog_4_method_9_code 14 = .ok (.ior, 1) := by decide +kernel
theorem d_Forms_writeCoordinate_15 : decode prog_4_method_9_code 15 = .ok (.invokevirtual 132, 3) := by decide +kernel
theorem d_Forms_writeCoordinate_18 : decode prog_4_method_9_code 18 = .ok (.bipush 46, 2) := by decide +kernel
theorem d_Forms_writeCoordinate_20 : decode prog_4_method_9_code 20 = .ok (.istore_n 3, 1) := by decide +kernel
theorem d_Forms_writeCoordinate_21 : decode prog_4_method_9_code 21 = .ok (.iload_n 3, 1) := by decide +kernel
theorem d_Forms_writeCoordinate_22 : decode prog_4_method_9_code 22 = .ok (.ifCond .lt 24, 3) := by decide +kernel
theorem d_Forms_writeCoordinate_25 : decode prog_4_method_9_code 25 = .ok (.aload_n 0, 1) := by decide +kernel
theorem d_Forms_writeCoordinate_26 : decode prog_4_method_9_code 26 = .ok (.aload_n 1, 1) := by decide +kernel
theorem d_Forms_writeCoordinate_27 : decode prog_4_method_9_code 27 = .ok (.bipush 8, 2) := by decide +kernel
theorem d_Forms_writeCoordinate_29 : decode prog_4_method_9_code 29 = .ok (.iload_n 3, 1) := by decide +kernel
theorem d_Forms_writeCoordinate_30 : decode prog_4_method_9_code 30 = .ok (.imul, 1) := by decide +kernel
theorem d_Forms_writeCoordinate_31 : decode prog_4_method_9_code 31 = .ok (.bipush 8, 2) := by decide +kernel
theorem d_Forms_writeCoordinate_33 : decode prog_4_method_9_code 33 = .ok (.invokestatic 143, 3) := by decide +kernel
theorem d_Forms_writeCoordinate_36 : decode prog_4_method_9_code 36 = .ok (.l2i, 1) := by decide +kernel
theorem d_Forms_writeCoordinate_37 : decode prog_4_method_9_code 37 = .ok (.invokevirtual 132, 3) := by decide +kernel
theorem d_Forms_writeCoordinate_40 : decode prog_4_method_9_code 40 = .ok (.iinc 3 (-1), 3) := by decide +kernel
theorem d_Forms_writeCoordinate_43 : decode prog_4_method_9_code 43 = .ok (.goto (-22), 3) := by decide +kernel
theorem d_Forms_writeCoordinate_46 : decode prog_4_method_9_code 46 = .ok (.return_, 1) := by decide +kernel
theorem d_Forms_write_65 : decode prog_4_method_8_code 65 = .ok (.getfield 24, 3) := by decide +kernel
theorem d_Forms_write_68 : decode prog_4_method_8_code 68 = .ok (.aload_n 0, 1) := by decide +kernel
theorem d_Forms_write_69 : decode prog_4_method_8_code 69 = .ok (.getfield 15, 3) := by decide +kernel
theorem d_Forms_write_72 : decode prog_4_method_8_code 72 = .ok (.aload_n 2, 1) := by decide +kernel
theorem d_Forms_write_73 : decode prog_4_method_8_code 73 = .ok (.getfield 84, 3) := by decide +kernel
theorem d_Forms_write_76 : decode prog_4_method_8_code 76 = .ok (.invokevirtual 136, 3) := by decide +kernel
theorem d_Forms_write_79 : decode prog_4_method_8_code 79 = .ok (.aload_n 0, 1) := by decide +kernel
theorem d_Forms_write_80 : decode prog_4_method_8_code 80 = .ok (.getfield 24, 3) := by decide +kernel
theorem d_Forms_write_83 : decode prog_4_method_8_code 83 = .ok (.aload_n 0, 1) := by decide +kernel
theorem d_Forms_write_84 : decode prog_4_method_8_code 84 = .ok (.getfield 21, 3) := by decide +kernel
theorem d_Forms_write_87 : decode prog_4_method_8_code 87 = .ok (.aload_n 2, 1) := by decide +kernel
theorem d_Forms_write_88 : decode prog_4_method_8_code 88 = .ok (.getfield 71, 3) := by decide +kernel
theorem d_Forms_write_91 : decode prog_4_method_8_code 91 = .ok (.aload_n 0, 1) := by decide +kernel
theorem d_Forms_write_92 : decode prog_4_method_8_code 92 = .ok (.getfield 15, 3) := by decide +kernel
theorem d_Forms_write_95 : decode prog_4_method_8_code 95 = .ok (.invokevirtual 93, 3) := by decide +kernel
theorem d_Forms_write_98 : decode prog_4_method_8_code 98 = .ok (.aload_n 0, 1) := by decide +kernel
theorem d_Forms_write_99 : decode prog_4_method_8_code 99 = .ok (.getfield 24, 3) := by decide +kernel
theorem d_Forms_write_102 : decode prog_4_method_8_code 102 = .ok (.aload_n 0, 1) := by decide +kernel
theorem d_Forms_write_103 : decode prog_4_method_8_code 103 = .ok (.getfield 21, 3) := by decide +kernel
theorem d_Forms_write_106 : decode prog_4_method_8_code 106 = .ok (.aload_n 0, 1) := by decide +kernel
theorem d_Forms_write_107 : decode prog_4_method_8_code 107 = .ok (.getfield 21, 3) := by decide +kernel
theorem d_Forms_write_110 : decode prog_4_method_8_code 110 = .ok (.invokevirtual 118, 3) := by decide +kernel
theorem d_Forms_write_113 : decode prog_4_method_8_code 113 = .ok (.iload_n 3, 1) := by decide +kernel
theorem d_Forms_write_114 : decode prog_4_method_8_code 114 = .ok (.ifCond .eq 17, 3) := by decide +kernel
theorem d_Forms_write_117 : decode prog_4_method_8_code 117 = .ok (.aload_n 0, 1) := by decide +kernel
theorem d_Forms_write_118 : decode prog_4_method_8_code 118 = .ok (.aload_n 0, 1) := by decide +kernel
theorem d_Forms_write_119 : decode prog_4_method_8_code 119 = .ok (.getfield 21, 3) := by decide +kernel
theorem d_Forms_write_122 : decode prog_4_method_8_code 122 = .ok (.invokevirtual 121, 3) := by decide +kernel
theorem d_Forms_write_125 : decode prog_4_method_8_code 125 = .ok (.ifCond .eq 6, 3) := by decide +kernel
theorem d_Forms_write_128 : decode prog_4_method_8_code 128 = .ok (.iinc 4 1, 3) := by decide +kernel
theorem d_Forms_write_131 : decode prog_4_method_8_code 131 = .ok (.aload_n 0, 1) := by decide +kernel
theorem d_Forms_write_132 : decode prog_4_method_8_code 132 = .ok (.getfield 24, 3) := by decide +kernel
theorem d_Forms_write_135 : decode prog_4_method_8_code 135 = .ok (.aload_n 0, 1) := by decide +kernel
theorem d_Forms_write_136 : decode prog_4_method_8_code 136 = .ok (.getfield 18, 3) := by decide +kernel
theorem d_Forms_write_139 : decode prog_4_method_8_code 139 = .ok (.aload_n 2, 1) := by decide +kernel
theorem d_Forms_write_140 : decode prog_4_method_8_code 140 = .ok (.getfield 64, 3) := by decide +kernel
theorem d_Forms_write_143 : decode prog_4_method_8_code 143 = .ok (.aload_n 0, 1) := by decide +kernel
theorem d_Forms_write_144 : decode prog_4_method_8_code 144 = .ok (.getfield 15, 3) := by decide +kernel
theorem d_Forms_write_147 : decode prog_4_method_8_code 147 = .ok (.invokevirtual 93, 3) := by decide +kernel
theorem d_Forms_write_150 : decode prog_4_method_8_code 150 = .ok (.aload_n 0, 1) := by decide +kernel
theorem d_Forms_write_151 : decode prog_4_method_8_code 151 = .ok (.getfield 24, 3) := by decide +kernel
theorem d_Forms_write_154 : decode prog_4_method_8_code 154 = .ok (.aload_n 0, 1) := by decide +kernel
theorem d_Forms_write_155 : decode prog_4_method_8_code 155 = .ok (.getfield 18, 3) := by decide +kernel
theorem d_Forms_write_158 : decode prog_4_method_8_code 158 = .ok (.aload_n 0, 1) := by decide +kernel
theorem d_Forms_write_159 : decode prog_4_method_8_code 159 = .ok (.getfield 18, 3) := by decide +kernel
theorem d_Forms_write_162 : decode prog_4_method_8_code 162 = .ok (.invokevirtual 118, 3) := by decide +kernel
theorem d_Forms_write_165 : decode prog_4_method_8_code 165 = .ok (.aload_n 1, 1) := by decide +kernel
theorem d_Forms_write_166 : decode prog_4_method_8_code 166 = .ok (.aload_n 0, 1) := by decide +kernel
theorem d_Forms_write_167 : decode prog_4_method_8_code 167 = .ok (.getfield 18, 3) := by decide +kernel
theorem d_Forms_write_170 : decode prog_4_method_8_code 170 = .ok (.iload 4, 2) := by decide +kernel
theorem d_Forms_write_172 : decode prog_4_method_8_code 172 = .ok (.invokestatic 139, 3) := by decide +kernel
theorem d_Forms_write_175 : decode prog_4_method_8_code 175 = .ok (.iload_n 3, 1) := by decide +kernel
theorem d_Forms_write_176 : decode prog_4_method_8_code 176 = .ok (.ifCond .ne 12, 3) := by decide +kernel
theorem d_Forms_write_179 : decode prog_4_method_8_code 179 = .ok (.aload_n 1, 1) := by decide +kernel
theorem d_Forms_write_180 : decode prog_4_method_8_code 180 = .ok (.aload_n 0, 1) := by decide +kernel
theorem d_Forms_write_181 : decode prog_4_method_8_code 181 = .ok (.getfield 21, 3) := by decide +kernel
theorem d_Forms_write_184 : decode prog_4_method_8_code 184 = .ok (.iconst 0, 1) := by decide +kernel
theorem d_Forms_write_185 : decode prog_4_method_8_code 185 = .ok (.invokestatic 139, 3) := by decide +kernel
theorem d_Forms_write_188 : decode prog_4_method_8_code 188 = .ok (.return_, 1) := by decide +kernel