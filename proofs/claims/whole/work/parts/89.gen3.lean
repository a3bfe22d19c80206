theorem pt_in {g : WG} {n0 : Nat → Prop} {H : Heap} {o x y z : Nat} (h : PT g n0 H o x y z) : n0 x ∧ n0 y ∧ n0 z := ⟨h.2.1.1, h.2.2.1.1, h.2.2.2.1⟩
/-- the forms: their field and curve, four rows -/
def FMX (g : WG) (n0 : Nat → Prop) (H : Heap) (o cu fi : Nat) (F : Nat → Nat) (mi : Int64) (X : Nat → Nat) (r1 r2 r3 r4 : Nat) : Prop := OB g H o 6 [.ref fi, .ref cu, .ref r1, .ref r2, .ref r3, .ref r4] ∧ CV g n0 H cu fi F mi X ∧ J14 g (fun _ => True) H r1 ∧ J14 g n0 H r2 ∧ J14 g n0 H r3 ∧ J14 g n0 H r4
theorem KJ.fmx {g : WG} {S : Nat → Prop} {n0 : Nat → Prop} {H H' : Heap} {U : State} (h : KJ g S H H') (hK : KW g U) {o cu fi : Nat} {F : Nat → Nat} {mi : Int64} {X : Nat → Nat} {r1 r2 r3 r4 : Nat} (hf : FMX g n0 H o cu fi F mi X r1 r2 r3 r4) : FMX g n0 H' o cu fi F mi X r1 r2 r3 r4 := ⟨h.ob hK hf.1, h.cv hK hf.2.1, h.j hf.2.2.1, h.j hf.2.2.2.1, h.j hf.2.2.2.2.1, h.j hf.2.2.2.2.2⟩
/-- a row of bytes -/
def RW9 (g : WG) (H : Heap) (o ce t : Nat) : Prop := OB g H o 3 [.ref ce, .int (nI t)] ∧ ∃ f, AB g H ce 96 f
theorem KJ.rw9 {g : WG} {S : Nat → Prop} {H H' : Heap} {U : State} (h : KJ g S H H') (hK : KW g U) {o ce t : Nat} (hf : RW9 g H o ce t) : RW9 g H' o ce t := ⟨h.ob hK hf.1, hf.2.elim (fun f hf => h.ab hf hK.jb)⟩
theorem sh5 (x : Int32) : True := trivial
abbrev y_Field_invert : MethodName := ⟨"KateDesk$Field", "invert", "([J[J)V"⟩
theorem hd_Field_invert : y_Field_invert.cls ≠ "java/lang/invoke/MethodHandle" ∧ y_Field_invert.cls ≠ "java/lang/invoke/VarHandle" ∧ (parseMethodDescriptor y_Field_invert.desc).map (fun d => d.parameters.length) = some 2 := by decide +kernel
theorem d_Field_invert_0 : decode prog_3_method_12_code 0 = .ok (.aload_n 0, 1) := by decide +kernel
theorem d_Field_invert_1 : decode prog_3_method_12_code 1 = .ok (.aload_n 1, 1) := by decide +kernel
theorem d_Field_invert_2 : decode prog_3_method_12_code 2 = .ok (.aload_n 2, 1) := by decide +kernel
theorem d_Field_invert_3 : decode prog_3_method_12_code 3 = .ok (.aload_n 0, 1) := by decide +kernel
theorem d_Field_invert_4 : decode prog_3_method_12_code 4 = .ok (.getfield 21, 3) := by decide +kernel
theorem d_Field_invert_7 : decode prog_3_method_12_code 7 = .ok (.invokevirtual 75, 3) := by decide +kernel
theorem d_Field_invert_10 : decode prog_3_method_12_code 10 = .ok (.return_, 1) := by decide +kernel
abbrev y_Forms_isGreater : MethodName := ⟨"KateDesk$Forms", "isGreater", "([J)Z"⟩
theorem hd_Forms_isGreater : y_Forms_isGreater.cls ≠ "java/lang/invoke/MethodHandle" ∧ y_Forms_isGreater.cls ≠ "java/lang/invoke/VarHandle" ∧ (parseMethodDescriptor y_Forms_isGreater.desc).map (fun d => d.parameters.length) = some 1 := by decide +kernel
theorem d_Forms_isGreater_0 : decode prog_4_method_7_code 0 = .ok (.aload_n 0, 1) := by decide +kernel
theorem d_Forms_isGreater_1 : decode prog_4_method_7_code 1 = .ok (.getfield 24, 3) := by decide +kernel
theorem d_Forms_isGreater_4 : decode prog_4_method_7_code 4 = .ok (.aload_n 0, 1) := by decide +kernel
theorem d_Forms_isGreater_5 : decode prog_4_method_7_code 5 = .ok (.getfield 18, 3) := by decide +kernel
theorem d_Forms_isGreater_8 : decode prog_4_method_7_code 8 = .ok (.aload_n 1, 1) := by decide +kernel
theorem d_Forms_isGreater_9 : decode prog_4_method_7_code 9 = .ok (.invokevirtual 125, 3) := by decide +kernel
theorem d_Forms_isGreater_12 : decode prog_4_method_7_code 12 = .ok (.aload_n 0, 1) := by decide +kernel
theorem d_Forms_isGreater_13 : decode prog_4_method_7_code 13 = .ok (.getfield 18, 3) := by decide +kernel
theorem d_Forms_isGreater_16 : decode prog_4_method_7_code 16 = .ok (.aload_n 1, 1) := by decide +kernel
theorem d_Forms_isGreater_17 : decode prog_4_method_7_code 17 = .ok (.invokestatic 112, 3) := by decide +kernel
theorem d_Forms_isGreater_20 : decode prog_4_method_7_code 20 = .ok (.ireturn, 1) := by decide +kernel
abbrev y_Forms_findY : MethodName := ⟨"KateDesk$Forms", "findY", "([JZ)V"⟩
theorem hd_Forms_findY : y_Forms_findY.cls ≠ "java/lang/invoke/MethodHandle" ∧ y_Forms_findY.cls ≠ "java/lang/invoke/VarHandle" ∧ (parseMethodDescriptor y_Forms_findY.desc).map (fun d => d.parameters.length) = some 2 := by decide +kernel
theorem d_Forms_findY_0 : decode prog_4_method_6_code 0 = .ok (.aload_n 0, 1) := by decide +kernel
theorem d_Forms_findY_1 : decode prog_4_method_6_code 1 = .ok (.getfield 24, 3) := by decide +kernel
theorem d_Forms_findY_4 : decode prog_4_method_6_code 4 = .ok (.aload_n 1, 1) := by decide +kernel
theorem d_Forms_findY_5 : decode prog_4_method_6_code 5 = .ok (.aload_n 0, 1) := by decide +kernel
theorem d_Forms_findY_6 : decode prog_4_method_6_code 6 = .ok (.getfield 15, 3) := by decide +kernel
theorem d_Forms_findY_9 : decode prog_4_method_6_code 9 = .ok (.aload_n 0, 1) := by decide +kernel
theorem d_Forms_findY_10 : decode prog_4_method_6_code 10 = .ok (.getfield 9, 3) := by decide +kernel
theorem d_Forms_findY_13 : decode prog_4_method_6_code 13 = .ok (.invokevirtual 115, 3) := by decide +kernel
theorem d_Forms_findY_16 : decode prog_4_method_6_code 16 = .ok (.aload_n 0, 1) := by decide +kernel
theorem d_Forms_findY_17 : decode prog_4_method_6_code 17 = .ok (.getfield 24, 3) := by decide +kernel
theorem d_Forms_findY_20 : decode prog_4_method_6_code 20 = .ok (.aload_n 0, 1) := by decide +kernel
theorem d_Forms_findY_21 : decode prog_4_method_6_code 21 = .ok (.getfield 21, 3) := by decide +kernel
theorem d_Forms_findY_24 : decode prog_4_method_6_code 24 = .ok (.aload_n 1, 1) := by decide +kernel
theorem d_Forms_findY_25 : decode prog_4_method_6_code 25 = .ok (.invokevirtual 118, 3) := by decide +kernel
theorem d_Forms_findY_28 : decode prog_4_method_6_code 28 = .ok (.aload_n 0, 1) := by decide +kernel
theorem d_Forms_findY_29 : decode prog_4_method_6_code 29 = .ok (.aload_n 0, 1) := by decide +kernel
theorem d_Forms_findY_30 : decode prog_4_method_6_code 30 = .ok (.getfield 21, 3) := by decide +kernel
theorem d_Forms_findY_33 : decode prog_4_method_6_code 33 = .ok (.invokevirtual 121, 3) := by decide +kernel
theorem d_Forms_findY_36 : decode prog_4_method_6_code 36 = .ok (.iload_n 2, 1) := by decide +kernel
theorem d_Forms_findY_37 : decode prog_4_method_6_code 37 = .ok (.if_icmp .eq 12, 3) := by decide +kernel
theorem d_Forms_findY_40 : decode prog_4_method_6_code 40 = .ok (.aload_n 0, 1) := by decide +kernel
theorem d_Forms_findY_41 : decode prog_4_method_6_code 41 = .ok (.getfield 24, 3) := by decide +kernel
theorem d_Forms_findY_44 : decode prog_4_method_6_code 44 = .ok (.aload_n 1, 1) := by decide +kernel
theorem d_Forms_findY_45 : decode prog_4_method_6_code 45 = .ok (.aload_n 1, 1) := by decide +kernel
theorem d_Forms_findY_46 : decode prog_4_method_6_code 46 = .ok (.invokevirtual 125, 3) := by decide +kernel
theorem d_Forms_findY_49 : decode prog_4_method_6_code 49 = .ok (.return_, 1) := by decide +kernel
abbrev y_Forms_canBe : MethodName := ⟨"KateDesk$Forms", "canBe", "(IZ)Z"⟩
theorem hd_Forms_canBe : y_Forms_canBe.cls ≠ "java/lang/invoke/MethodHandle" ∧ y_Forms_canBe.cls ≠ "java/lang/invoke/VarHandle" ∧ (parseMethodDescriptor y_Forms_canBe.desc).map (fun d => d.parameters.length) = some 2 := by decide +kernel
theorem d_Forms_canBe_0 : decode prog_4_method_3_code 0 = .ok (.iload_n 1, 1) := by decide +kernel
theorem d_Forms_canBe_1 : decode prog_4_method_3_code 1 = .ok (.ifCond .eq 25, 3) := by decide +kernel
theorem d_Forms_canBe_4 : decode prog_4_method_3_code 4 = .ok (.iload_n 0, 1) := by decide +kernel
theorem d_Forms_canBe_5 : decode prog_4_method_3_code 5 = .ok (.iconst 4, 1) := by decide +kernel
theorem d_Forms_canBe_6 : decode prog_4_method_3_code 6 = .ok (.if_icmp .eq 14, 3) := by decide +kernel
theorem d_Forms_canBe_9 : decode prog_4_method_3_code 9 = .ok (.iload_n 0, 1) := by decide +kernel
theorem d_Forms_canBe_10 : decode prog_4_method_3_code 10 = .ok (.iconst 5, 1) := by decide +kernel
theorem d_Forms_canBe_11 : decode prog_4_method_3_code 11 = .ok (.if_icmp .eq 9, 3) := by decide +kernel
theorem d_Forms_canBe_14 : decode prog_4_method_3_code 14 = .ok (.iload_n 0, 1) := by decide +kernel
theorem d_Forms_canBe_15 : decode prog_4_method_3_code 15 = .ok (.bipush 6, 2) := by decide +kernel
theorem d_Forms_canBe_17 : decode prog_4_method_3_code 17 = .ok (.if_icmp .ne 7, 3) := by decide +kernel
theorem d_Forms_canBe_20 : decode prog_4_method_3_code 20 = .ok (.iconst 1, 1) := by decide +kernel
theorem d_Forms_canBe_21 : decode prog_4_method_3_code 21 = .ok (.goto 4, 3) := by decide +kernel
theorem d_Forms_canBe_24 : decode prog_4_method_3_code 24 = .ok (.iconst 0, 1) := by decide +kernel
theorem d_Forms_canBe_25 : decode prog_4_method_3_code 25 = .ok (.ireturn, 1) := by decide +kernel
theorem d_Forms_canBe_26 : decode prog_4_method_3_code 26 = .ok (.iload_n 0, 1) := by decide +kernel
theorem d_Forms_canBe_27 : decode prog_4_method_3_code 27 = .ok (.ifCond .eq 8, 3) := by decide +kernel
theorem d_Forms_canBe_30 : decode prog_4_method_3_code 30 = .ok (.iload_n 0, 1) := by decide +kernel
theorem d_Forms_canBe_31 : decode prog_4_method_3_code 31 = .ok (.iconst 2, 1) := by decide +kernel
theorem d_Forms_canBe_32 : decode prog_4_method_3_code 32 = .ok (.if_icmp .ne 7, 3) := by decide +kernel
theorem d_Forms_canBe_35 : decode prog_4_method_3_code 35 = .ok (.iconst 1, 1) := by decide +kernel
theorem d_Forms_canBe_36 : decode prog_4_method_3_code 36 = .ok (.goto 4, 3) := by decide +kernel
theorem d_Forms_canBe_39 : decode prog_4_method_3_code 39 = .ok (.iconst 0, 1) := by decide +kernel
theorem d_Forms_canBe_40 : decode prog_4_method_3_code 40 = .ok (.ireturn, 1) := by decide +kernel
abbrev y_Forms_isBare : MethodName := ⟨"KateDesk$Forms", "isBare", "(LKateDesk$Row;)Z"⟩
theorem hd_Forms_isBare : y_Forms_isBare.cls ≠ "java/lang/invoke/MethodHandle" ∧ y_Forms_isBare.cls ≠ "java/lang/invoke/VarHandle" ∧ (parseMethodDescriptor y_Forms_isBare.desc).map (fun d => d.parameters.length) = some 1 := by decide +kernel
theorem d_Forms_isBare_0 : decode prog_4_method_4_code 0 = .ok (.aload_n 0, 1) := by decide +kernel
theorem d_Forms_isBare_1 : decode prog_4_method_4_code 1 = .ok (.iconst 0, 1) := by decide +kernel
theorem d_Forms_isBare_2 : decode prog_4_method_4_code 2 = .ok (.invokevirtual 47, 3) := by decide +kernel
theorem d_Forms_isBare_5 : decode prog_4_method_4_code 5 = .ok (.bipush 31, 2) := by decide +kernel
theorem d_Forms_isBare_7 : decode prog_4_method_4_code 7 = .ok (.iand, 1) := by decide +kernel
theorem d_Forms_isBare_8 : decode prog_4_method_4_code 8 = .ok (.istore_n 1, 1) := by decide +kernel
theorem d_Forms_isBare_9 : decode prog_4_method_4_code 9 = .ok (.iconst 1, 1) := by decide +kernel
theorem d_Forms_isBare_10 : decode prog_4_method_4_code 10 = .ok (.istore_n 2, 1) := by decide +kernel
theorem d_Forms_isBare_11 : decode prog_4_method_4_code 11 = .ok (.iload_n 2, 1) := by decide +kernel
theorem d_Forms_isBare_12 : decode prog_4_method_4_code 12 = .ok (.aload_n 0, 1) := by decide +kernel
theorem d_Forms_isBare_13 : decode prog_4_method_4_code 13 = .ok (.getfield 41, 3) := by decide +kernel
theorem d_Forms_isBare_16 : decode prog_4_method_4_code 16 = .ok (.if_icmp .ge 17, 3) := by decide +kernel
theorem d_Forms_isBare_19 : decode prog_4_method_4_code 19 = .ok (.iload_n 1, 1) := by decide +kernel
theorem d_Forms_isBare_20 : decode prog_4_method_4_code 20 = .ok (.aload_n 0, 1) := by decide +kernel
theorem d_Forms_isBare_21 : decode prog_4_method_4_code 21 = .ok (.iload_n 2, 1) := by decide +kernel
theorem d_Forms_isBare_22 : decode prog_4_method_4_code 22 = .ok (.invokevirtual 47, 3) := by decide +kernel
theorem d_Forms_isBare_25 : decode prog_4_method_4_code 25 = .ok (.ior, 1) := by decide +kernel
theorem d_Forms_isBare_26 : decode prog_4_method_4_code 26 = .ok (.istore_n 1, 1) := by decide +kernel
theorem d_Forms_isBare_27 : decode prog_4_method_4_code 27 = .ok (.iinc 2 1, 3) := by decide +kernel
theorem d_Forms_isBare_30 : decode prog_4_method_4_code 30 = .ok (.goto (-19), 3) := by decide +kernel
theorem d_Forms_isBare_33 : decode prog_4_method_4_code 33 = .ok (.iload_n 1, 1) := by decide +kernel
theorem d_Forms_isBare_34 : decode prog_4_method_4_code 34 = .ok (.ifCond .ne 7, 3) := by decide +kernel
theorem d_Forms_isBare_37 : decode prog_4_method_4_code 37 = .ok (.iconst 1, 1) := by decide +kernel
theorem d_Forms_isBare_38 : decode prog_4_method_4_code 38 = .ok (.goto 4, 3) := by decide +kernel
theorem d_Forms_isBare_41 : decode prog_4_method_4_code 41 = .ok (.iconst 0, 1) := by decide +kernel
theorem d_Forms_isBare_42 : decode prog_4_method_4_code 42 = .ok (.ireturn, 1) := by decide +kernel
abbrev y_Forms_readCoordinate : MethodName := ⟨"KateDesk$Forms", "readCoordinate", "([JLKateDesk$Row;I)Z"⟩
theorem hd_Forms_readCoordinate : y_Forms_readCoordinate.cls ≠ "java/lang/invoke/MethodHandle" ∧ y_Forms_readCoordinate.cls ≠ "java/lang/invoke/VarHandle" ∧ (parseMethodDescriptor y_Forms_readCoordinate.desc).map (fun d => d.parameters.length) = some 3 := by decide +kernel
theorem d_Forms_readCoordinate_0 : decode prog_4_method_5_code 0 = .ok (.aload_n 0, 1) := by decide +kernel
theorem d_Forms_readCoordinate_1 : decode prog_4_method_5_code 1 = .ok (.getfield 21, 3) := by decide +kernel
theorem d_Forms_readCoordinate_4 : decode prog_4_method_5_code 4 = .ok (.invokestatic 101, 3) := by decide +kernel
theorem d_Forms_readCoordinate_7 : decode prog_4_method_5_code 7 = .ok (.iconst 0, 1) := by decide +kernel
theorem d_Forms_readCoordinate_8 : decode prog_4_method_5_code 8 = .ok (.istore 4, 2) := by decide +kernel
theorem d_Forms_readCoordinate_10 : decode prog_4_method_5_code 10 = .ok (.iload 4, 2) := by decide +kernel
theorem d_Forms_readCoordinate_12 : decode prog_4_method_5_code 12 = .ok (.bipush 48, 2) := by decide +kernel
theorem d_Forms_readCoordinate_14 : decode prog_4_method_5_code 14 = .ok (.if_icmp .ge 49, 3) := by decide +kernel
theorem d_Forms_readCoordinate_17 : decode prog_4_method_5_code 17 = .ok (.iload_n 3, 1) := by decide +kernel
theorem d_Forms_readCoordinate_18 : decode prog_4_method_5_code 18 = .ok (.iload 4, 2) := by decide +kernel
theorem d_Forms_readCoordinate_20 : decode prog_4_method_5_code 20 = .ok (.iadd, 1) := by decide +kernel
theorem d_Forms_readCoordinate_21 : decode prog_4_method_5_code 21 = .ok (.ifCond .ne 8, 3) := by decide +kernel
theorem d_Forms_readCoordinate_24 : decode prog_4_method_5_code 24 = .ok (.bipush 31, 2) := by decide +kernel
theorem d_Forms_readCoordinate_26 : decode prog_4_method_5_code 26 = .ok (.goto 6, 3) := by decide +kernel
theorem d_Forms_readCoordinate_29 : decode prog_4_method_5_code 29 = .ok (.sipush 255, 3) := by decide +kernel
theorem d_Forms_readCoordinate_32 : decode prog_4_method_5_code 32 = .ok (.istore 5, 2) := by decide +kernel
theorem d_Forms_readCoordinate_34 : decode prog_4_method_5_code 34 = .ok (.aload_n 0, 1) := by decide +kernel
theorem d_Forms_readCoordinate_35 : decode prog_4_method_5_code 35 = .ok (.getfield 21, 3) := by decide +kernel
theorem d_Forms_readCoordinate_38 : decode prog_4_method_5_code 38 = .ok (.bipush 47, 2) := by decide +kernel
theorem d_Forms_readCoordinate_40 : decode prog_4_method_5_code 40 = .ok (.iload 4, 2) := by decide +kernel
theorem d_Forms_readCoordinate_42 : decode prog_4_method_5_code 42 = .ok (.isub, 1) := by decide +kernel
theorem d_Forms_readCoordinate_43 : decode prog_4_method_5_code 43 = .ok (.aload_n 2, 1) := by decide +kernel
theorem d_Forms_readCoordinate_44 : decode prog_4_method_5_code 44 = .ok (.iload_n 3, 1) := by decide +kernel
theorem d_Forms_readCoordinate_45 : decode prog_4_method_5_code 45 = .ok (.iload 4, 2) := by decide +kernel
theorem d_Forms_readCoordinate_47 : decode prog_4_method_5_code 47 = .ok (.iadd, 1) := by decide +kernel
theorem d_Forms_readCoordinate_48 : decode prog_4_method_5_code 48 = .ok (.invokevirtual 47, 3) := by decide +kernel
theorem d_Forms_readCoordinate_51 : decode prog_4_method_5_code 51 = .ok (.iload 5, 2) := by decide +kernel
theorem d_Forms_readCoordinate_53 : decode prog_4_method_5_code 53 = .ok (.iand, 1) := by decide +kernel
theorem d_Forms_readCoordinate_54 : decode prog_4_method_5_code 54 = .ok (.invokestatic 105, 3) := by decide +kernel
theorem d_Forms_readCoordinate_57 : decode prog_4_method_5_code 57 = .ok (.iinc 4 1, 3) := by decide +kernel
theorem d_Forms_readCoordinate_60 : decode prog_4_method_5_code 60 = .ok (.goto (-50), 3) := by decide +kernel
theorem d_Forms_readCoordinate_63 : decode prog_4_method_5_code 63 = .ok (.aload_n 0, 1) := by decide +kernel
theorem d_Forms_readCoordinate_64 : decode prog_4_method_5_code 64 = .ok (.getfield 24, 3) := by decide +kernel
theorem d_Forms_readCoordinate_67 : decode prog_4_method_5_code 67 = .ok (.aload_n 1, 1) := by decide +kernel
theorem d_Forms_readCoordinate_68 : decode prog_4_method_5_code 68 = .ok (.aload_n 0, 1) := by decide +kernel
theorem d_Forms_readCoordinate_69 : decode prog_4_method_5_code 69 = .ok (.getfield 21, 3) := by decide +kernel
theorem d_Forms_readCoordinate_72 : decode prog_4_method_5_code 72 = .ok (.invokevirtual 109, 3) := by decide +kernel
theorem d_Forms_readCoordinate_75 : decode prog_4_method_5_code 75 = .ok (.aload_n 0, 1) := by decide +kernel
theorem d_Forms_readCoordinate_76 : decode prog_4_method_5_code 76 = .ok (.getfield 21, 3) := by decide +kernel
theorem d_Forms_readCoordinate_79 : decode prog_4_method_5_code 79 = .ok (.aload_n 0, 1) := by decide +kernel
theorem d_Forms_readCoordinate_80 : decode prog_4_method_5_code 80 = .ok (.getfield 24, 3) := by decide +kernel
theorem d_Forms_readCoordinate_83 : decode prog_4_method_5_code 83 = .ok (.getfield 32, 3) := by decide +kernel
theorem d_Forms_readCoordinate_86 : decode prog_4_method_5_code 86 = .ok (.invokestatic 112, 3) := by decide +kernel
theorem d_Forms_readCoordinate_89 : decode prog_4_method_5_code 89 = .ok (.ireturn, 1) := by decide +kernel
theorem d_Forms_read_21 : decode prog_4_method_2_code 21 = .ok (.getfield 41, 3) := by decide +kernel
theorem d_Forms_read_24 : decode prog_4_method_2_code 24 = .ok (.bipush 48, 2) := by decide +kernel
theorem d_Forms_read_26 : decode prog_4_method_2_code 26 = .ok (.if_icmp .ne 7, 3) := by decide +kernel
theorem d_Forms_read_29 : decode prog_4_method_2_code 29 = .ok (.iconst 1, 1) := by decide +kernel
theorem d_Forms_read_30 : decode prog_4_method_2_code 30 = .ok (.goto 4, 3) := by decide +kernel
theorem d_Forms_read_33 : decode prog_4_method_2_code 33 = .ok (.iconst 0, 1) := by decide +kernel
theorem d_Forms_read_34 : decode prog_4_method_2_code 34 = .ok (.istore_n 3, 1) := by decide +kernel
theorem d_Forms_read_35 : decode prog_4_method_2_code 35 = .ok (.aload_n 2, 1) := by decide +kernel
theorem d_Forms_read_36 : decode prog_4_method_2_code 36 = .ok (.iconst 0, 1) := by decide +kernel
theorem d_Forms_read_37 : decode prog_4_method_2_code 37 = .ok (.invokevirtual 47, 3) := by decide +kernel
theorem d_Forms_read_40 : decode prog_4_method_2_code 40 = .ok (.iconst 5, 1) := by decide +kernel
theorem d_Forms_read_41 : decode prog_4_method_2_code 41 = .ok (.ishr, 1) := by decide +kernel
theorem d_Forms_read_42 : decode prog_4_method_2_code 42 = .ok (.istore 4, 2) := by decide +kernel
theorem d_Forms_read_44 : decode prog_4_method_2_code 44 = .ok (.iload 4, 2) := by decide +kernel
theorem d_Forms_read_46 : decode prog_4_method_2_code 46 = .ok (.iload_n 3, 1) := by decide +kernel
theorem d_Forms_read_47 : decode prog_4_method_2_code 47 = .ok (.invokestatic 51, 3) := by decide +kernel
theorem d_Forms_read_50 : decode prog_4_method_2_code 50 = .ok (.ifCond .ne 5, 3) := by decide +kernel
theorem d_Forms_read_53 : decode prog_4_method_2_code 53 = .ok (.iconst 2, 1) := by decide +kernel
theorem d_Forms_read_54 : decode prog_4_method_2_code 54 = .ok (.ireturn, 1) := by decide +kernel
theorem d_Forms_read_55 : decode prog_4_method_2_code 55 = .ok (.iload 4, 2) := by decide +kernel
theorem d_Forms_read_57 : decode prog_4_method_2_code 57 = .ok (.iconst 2, 1) := by decide +kernel
theorem d_Forms_read_58 : decode prog_4_method_2_code 58 = .ok (.iand, 1) := by decide +kernel
theorem d_Forms_read_59 : decode prog_4_method_2_code 59 = .ok (.ifCond .eq 20, 3) := by decide +kernel
theorem d_Forms_read_62 : decode prog_4_method_2_code 62 = .ok (.aload_n 1, 1) := by decide +kernel
theorem d_Forms_read_63 : decode prog_4_method_2_code 63 = .ok (.invokevirtual 55, 3) := by decide +kernel
theorem d_Forms_read_66 : decode prog_4_method_2_code 66 = .ok (.aload_n 2, 1) := by decide +kernel
theorem d_Forms_read_67 : decode prog_4_method_2_code 67 = .ok (.invokestatic 60, 3) := by decide +kernel
theorem d_Forms_read_70 : decode prog_4_method_2_code 70 = .ok (.ifCond .eq 7, 3) := by decide +kernel
theorem d_Forms_read_73 : decode prog_4_method_2_code 73 = .ok (.iconst 0, 1) := by decide +kernel
theorem d_Forms_read_74 : decode prog_4_method_2_code 74 = .ok (.goto 4, 3) := by decide +kernel
theorem d_Forms_read_77 : decode prog_4_method_2_code 77 = .ok (.iconst 3, 1) := by decide +kernel
theorem d_Forms_read_78 : decode prog_4_method_2_code 78 = .ok (.ireturn, 1) := by decide +kernel
theorem d_Forms_read_79 : decode prog_4_method_2_code 79 = .ok (.aload_n 0, 1) := by decide +kernel
theorem d_Forms_read_80 : decode prog_4_method_2_code 80 = .ok (.aload_n 1, 1) := by decide +kernel
theorem d_Forms_read_81 : decode prog_4_method_2_code 81 = .ok (.getfield 64, 3) := by decide +kernel
theorem d_Forms_read_84 : decode prog_4_method_2_code 84 = .ok (.aload_n 2, 1) := by decide +kernel
theorem d_Forms_read_85 : decode prog_4_method_2_code 85 = .ok (.iconst 0, 1) := by decide +kernel
theorem d_Forms_read_86 : decode prog_4_method_2_code 86 = .ok (.invokevirtual 67, 3) := by decide +kernel
theorem d_Forms_read_89 : decode prog_4_method_2_code 89 = .ok (.ifCond .eq 21, 3) := by decide +kernel
theorem d_Forms_read_92 : decode prog_4_method_2_code 92 = .ok (.iload_n 3, 1) := by decide +kernel
theorem d_Forms_read_93 : decode prog_4_method_2_code 93 = .ok (.ifCond .ne 19, 3) := by decide +kernel
theorem d_Forms_read_96 : decode prog_4_method_2_code 96 = .ok (.aload_n 0, 1) := by decide +kernel
theorem d_Forms_read_97 : decode prog_4_method_2_code 97 = .ok (.aload_n 1, 1) := by decide +kernel
theorem d_Forms_read_98 : decode prog_4_method_2_code 98 = .ok (.getfield 71, 3) := by decide +kernel
theorem d_Forms_read_101 : decode prog_4_method_2_code 101 = .ok (.aload_n 2, 1) := by decide +kernel
theorem d_Forms_read_102 : decode prog_4_method_2_code 102 = .ok (.bipush 48, 2) := by decide +kernel
theorem d_Forms_read_104 : decode prog_4_method_2_code 104 = .ok (.invokevirtual 67, 3) := by decide +kernel
theorem d_Forms_read_107 : decode prog_4_method_2_code 107 = .ok (.ifCond .ne 5, 3) := by decide +kernel
theorem d_Forms_read_110 : decode prog_4_method_2_code 110 = .ok (.iconst 4, 1) := by decide +kernel
theorem d_Forms_read_111 : decode prog_4_method_2_code 111 = .ok (.ireturn, 1) := by decide +kernel
theorem d_Forms_read_112 : decode prog_4_method_2_code 112 = .ok (.aload_n 0, 1) := by decide +kernel
theorem d_Forms_read_113 : decode prog_4_method_2_code 113 = .ok (.getfield 28, 3) := by decide +kernel
theorem d_Forms_read_116 : decode prog_4_method_2_code 116 = .ok (.aload_n 0, 1) := by decide +kernel
theorem d_Forms_read_117 : decode prog_4_method_2_code 117 = .ok (.getfield 15, 3) := by decide +kernel
theorem d_Forms_read_120 : decode prog_4_method_2_code 120 = .ok (.aload_n 1, 1) := by decide +kernel
theorem d_Forms_read_121 : decode prog_4_method_2_code 121 = .ok (.getfield 64, 3) := by decide +kernel
theorem d_Forms_read_124 : decode prog_4_method_2_code 124 = .ok (.invokevirtual 74, 3) := by decide +kernel
theorem d_Forms_read_127 : decode prog_4_method_2_code 127 = .ok (.iload_n 3, 1) := by decide +kernel
theorem d_Forms_read_128 : decode prog_4_method_2_code 128 = .ok (.ifCond .eq 23, 3) := by decide +kernel
theorem d_Forms_read_131 : decode prog_4_method_2_code 131 = .ok (.aload_n 0, 1) := by decide +kernel
theorem d_Forms_read_132 : decode prog_4_method_2_code 132 = .ok (.aload_n 1, 1) := by decide +kernel
theorem d_Forms_read_133 : decode prog_4_method_2_code 133 = .ok (.getfield 71, 3) := by decide +kernel
theorem d_Forms_read_136 : decode prog_4_method_2_code 136 = .ok (.iload 4, 2) := by decide +kernel
theorem d_Forms_read_138 : decode prog_4_method_2_code 138 = .ok (.iconst 1, 1) := by decide +kernel
theorem d_Forms_read_139 : decode prog_4_method_2_code 139 = .ok (.iand, 1) := by decide +kernel
theorem d_Forms_read_140 : decode prog_4_method_2_code 140 = .ok (.ifCond .eq 7, 3) := by decide +kernel
theorem d_Forms_read_143 : decode prog_4_method_2_code 143 = .ok (.iconst 1, 1) := by decide +kernel
theorem d_Forms_read_144 : decode prog_4_method_2_code 144 = .ok (.goto 4, 3) := by decide +kernel
theorem d_Forms_read_147 : decode prog_4_method_2_code 147 = .ok (.iconst 0, 1) := by decide +kernel
theorem d_Forms_read_148 : decode prog_4_method_2_code 148 = .ok (.invokevirtual 80, 3) := by decide +kernel
theorem d_Forms_read_151 : decode prog_4_method_2_code 151 = .ok (.aload_n 1, 1) := by decide +kernel
theorem d_Forms_read_152 : decode prog_4_method_2_code 152 = .ok (.getfield 84, 3) := by decide +kernel
theorem d_Forms_read_155 : decode prog_4_method_2_code 155 = .ok (.aload_n 0, 1) := by decide +kernel
theorem d_Forms_read_156 : decode prog_4_method_2_code 156 = .ok (.getfield 24, 3) := by decide +kernel
theorem d_Forms_read_159 : decode prog_4_method_2_code 159 = .ok (.getfield 87, 3) := by decide +kernel
theorem d_Forms_read_162 : decode prog_4_method_2_code 162 = .ok (.invokestatic 90, 3) := by decide +kernel
theorem d_Forms_read_165 : decode prog_4_method_2_code 165 = .ok (.aload_n 0, 1) := by decide +kernel
theorem d_Forms_read_166 : decode prog_4_method_2_code 166 = .ok (.getfield 24, 3) := by decide +kernel
theorem d_Forms_read_169 : decode prog_4_method_2_code 169 = .ok (.aload_n 0, 1) := by decide +kernel
theorem d_Forms_read_170 : decode prog_4_method_2_code 170 = .ok (.getfield 18, 3) := by decide +kernel
theorem d_Forms_read_173 : decode prog_4_method_2_code 173 = .ok (.aload_n 1, 1) := by decide +kernel
theorem d_Forms_read_174 : decode prog_4_method_2_code 174 = .ok (.getfield 71, 3) := by decide +kernel
theorem d_Forms_read_177 : decode prog_4_method_2_code 177 = .ok (.aload_n 1, 1) := by decide +kernel
theorem d_Forms_read_178 : decode prog_4_method_2_code 178 = .ok (.getfield 71, 3) := by decide +kernel
theorem d_Forms_read_181 : decode prog_4_method_2_code 181 = .ok (.invokevirtual 93, 3) := by decide +kernel
theorem d_Forms_read_184 : decode prog_4_method_2_code 184 = .ok (.aload_n 0, 1) := by decide +kernel
theorem d_Forms_read_185 : decode prog_4_method_2_code 185 = .ok (.getfield 18, 3) := by decide +kernel
theorem d_Forms_read_188 : decode prog_4_method_2_code 188 = .ok (.aload_n 0, 1) := by decide +kernel
theorem d_Forms_read_189 : decode prog_4_method_2_code 189 = .ok (.getfield 15, 3) := by decide +kernel
theorem d_Forms_read_192 : decode prog_4_method_2_code 192 = .ok (.invokestatic 97, 3) := by decide +kernel
theorem d_Forms_read_195 : decode prog_4_method_2_code 195 = .ok (.ifCond .eq 7, 3) := by decide +kernel
theorem d_Forms_read_198 : decode prog_4_method_2_code 198 = .ok (.iconst 0, 1) := by decide +kernel
theorem d_Forms_read_199 : decode prog_4_method_2_code 199 = .ok (.goto 4, 3) := by decide +kernel
theorem d_Forms_read_202 : decode prog_4_method_2_code 202 = .ok (.iconst 5, 1) := by decide +kernel
theorem d_Forms_read_203 : decode prog_4_method_2_code 203 = .ok (.ireturn, 1) := by decide +kernel