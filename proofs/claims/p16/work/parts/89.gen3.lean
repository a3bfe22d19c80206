theorem pt_in {g : WG} {n0 : Nat → Prop} {H : Heap} {o x y z : Nat} (h : PT g n0 H o x y z) : n0 x ∧ n0 y ∧ n0 z := ⟨h.2.1.1, h.2.2.1.1, h.2.2.2.1⟩
/-- the forms: their field and curve, four rows -/
def FMX (g : WG) (n0 : Nat → Prop) (H : Heap) (o cu fi : Nat) (F : Nat → Nat) (mi : Int64) (X : Nat → Nat) (r1 r2 r3 r4 : Nat) : Prop := OB g H o 6 [.ref fi, .ref cu, .ref r1, .ref r2, .ref r3, .ref r4] ∧ CV g n0 H cu fi F mi X ∧ J14 g n0 H r1 ∧ J14 g n0 H r2 ∧ J14 g n0 H r3 ∧ J14 g n0 H r4
theorem KJ.fmx {g : WG} {S : Nat → Prop} {n0 : Nat → Prop} {H H' : Heap} {U : State} (h : KJ g S H H') (hK : KW g U) {o cu fi : Nat} {F : Nat → Nat} {mi : Int64} {X : Nat → Nat} {r1 r2 r3 r4 : Nat} (hf : FMX g n0 H o cu fi F mi X r1 r2 r3 r4) : FMX g n0 H' o cu fi F mi X r1 r2 r3 r4 := ⟨h.ob hK hf.1, h.cv hK hf.2.1, h.j hf.2.2.1, h.j hf.2.2.2.1, h.j hf.2.2.2.2.1, h.j hf.2.2.2.2.2⟩
/-- a row of bytes -/
def RW9 (g : WG) (H : Heap) (o ce t : Nat) : Prop := OB g H o 3 [.ref ce, .int (nI t)] ∧ ∃ f, AB g H ce 96 f
theorem KJ.rw9 {g : WG} {S : Nat → Prop} {H H' : Heap} {U : State} (h : KJ g S H H') (hK : KW g U) {o ce t : Nat} (hf : RW9 g H o ce t) : RW9 g H' o ce t := ⟨h.ob hK hf.1, hf.2.elim (fun f hf => h.ab hf hK.jb)⟩
theorem sh5 (x : Int32) : True := trivial
abbrev y_Field_invert : MethodName := ⟨"KateDesk$Field", "invert", "([J[J)V"⟩
theorem hd_Field_invert : y_Field_invert.cls ≠ "java/lang/invoke/MethodHandle" ∧ y_Field_invert.cls ≠ "java/lang/invoke/VarHandle" ∧ (parseMethodDescriptor y_Field_invert.desc).map (fun d => d.parameters.length) = some 2 := by decide +kernel
theorem d_Field_invert_0 : decode prog_3_method_12_code 0 = .ok (.aload_n 0, 1) := by decide +kernel
theorem d_Field_invert_1 : decode prog_3_method_12_code 1 = .ok (.aload_n 1, 1) := by decide +kernel
theorem d_Field_invert_2 : decode prog_3_method_12_code 2 = .ok (.aload_n 2, 1) := by decide +kernel
theorem d_Field_invert_3 : decode prog_3_method_12_code 3 = .ok (.aload_n 0, 1) := by decide +kernel
theorem d_Field_invert_4 : decode prog_3_method_12_code 4 = .ok (.getfield 21, 3) := by decide +kernel
theorem d_Field_invert_7 : decode prog_3_method_12_code 7 = .ok (.invokevirtual 75, 3) := by decide +kernel
theorem d_Field_invert_10 : decode prog_3_method_12_code 10 = .ok (.return_, 1) := by decide +kernel
abbrev y_Forms_isGreater : MethodName := ⟨"KateDesk$Forms", "isGreater", "([J)Z"⟩
theorem hd_Forms_isGreater : y_Forms_isGreater.cls ≠ "java/lang/invoke/MethodHandle" ∧ y_Forms_isGreater.cls ≠ "java/lang/invoke/VarHandle" ∧ (parseMethodDescriptor y_Forms_isGreater.desc).map (fun d => d.parameters.length) = some 1 := by decide +kernel
theorem d_Forms_isGreater_0 : decode prog_4_method_7_code 0 = .ok (.aload_n 0, 1) := by decide +kernel
theorem d_Forms_isGreater_1 : decode prog_4_method_7_code 1 = .ok (.getfield 24, 3) := by decide +kernel
theorem d_Forms_isGreater_4 : decode prog_4_method_7_code 4 = .ok (.aload_n 0, 1) := by decide +kernel
theorem d_Forms_isGreater_5 : decode prog_4_method_7_code 5 = .ok (.getfield 18, 3) := by decide +kernel
theorem d_Forms_isGreater_8 : decode prog_4_method_7_code 8 = .ok (.aload_n 1, 1) := by decide +kernel
theorem d_Forms_isGreater_9 : decode prog_4_method_7_code 9 = .ok (.invokevirtual 125, 3) := by decide +kernel
theorem d_Forms_isGreater_12 : decode prog_4_method_7_code 12 = .ok (.aload_n 0, 1) := by decide +kernel
theorem d_Forms_isGreater_13 : decode prog_4_method_7_code 13 = .ok (.getfield 18, 3) := by decide +kernel
theorem d_Forms_isGreater_16 : decode prog_4_method_7_code 16 = .ok (.aload_n 1, 1) := by decide +kernel
theorem d_Forms_isGreater_17 : decode prog_4_method_7_code 17 = .ok (.invokestatic 112, 3) := by decide +kernel
theorem d_Forms_isGreater_20 : decode prog_4_method_7_code 20 = .ok (.ireturn, 1) := by decide +kernel
abbrev y_Forms_findY : MethodName := ⟨"KateDesk$Forms", "findY", "([JZ)V"⟩
theorem hd_Forms_findY : y_Forms_findY.cls ≠ "java/lang/invoke/MethodHandle" ∧ y_Forms_findY.cls ≠ "java/lang/invoke/VarHandle" ∧ (parseMethodDescriptor y_Forms_findY.desc).map (fun d => d.parameters.length) = some 2 := by decide +kernel
theorem d_Forms_findY_0 : decode prog_4_method_6_code 0 = .ok (.aload_n 0, 1) := by decide +kernel
theorem d_Forms_findY_1 : decode prog_4_method_6_code 1 = .ok (.getfield 24, 3) := by decide +kernel
theorem d_Forms_findY_4 : decode prog_4_method_6_code 4 = .ok (.aload_n 1, 1) := by decide +kernel
theorem d_Forms_findY_5 : decode prog_4_method_6_code 5 = .ok (.aload_n 0, 1) := by decide +kernel
theorem d_Forms_findY_6 : decode prog_4_method_6_code 6 = .ok (.getfield 15, 3) := by decide +kernel
theorem d_Forms_findY_9 : decode prog_4_method_6_code 9 = .ok (.aload_n 0, 1) := by decide +kernel
theorem d_Forms_findY_10 : decode prog_4_method_6_code 10 = .ok (.getfield 9, 3) := by decide +kernel
theorem d_Forms_findY_13 : decode prog_4_method_6_code 13 = .ok (.invokevirtual 115, 3) := by decide +kernel
theorem d_Forms_findY_16 : decode prog_4_method_6_code 16 = .ok (.aload_n 0, 1) := by decide +kernel
theorem d_Forms_findY_17 : decode prog_4_method_6_code 17 = .ok (.getfield 24, 3) := by decide +kernel
theorem d_Forms_findY_20 : decode prog_4_method_6_code 20 = .ok (.aload_n 0, 1) := by decide +kernel
theorem d_Forms_findY_21 : decode prog_4_method_6_code 21 = .ok (.getfield 21, 3) := by decide +kernel
theorem d_Forms_findY_24 : decode prog_4_method_6_code 24 = .ok (.aload_n 1, 1) := by decide +kernel
theorem d_Forms_findY_25 : decode prog_4_method_6_code 25 = .ok (.invokevirtual 118, 3) := by decide +kernel
theorem d_Forms_findY_28 : decode prog_4_method_6_code 28 = .ok (.aload_n 0, 1) := by decide +kernel
theorem d_Forms_findY_29 : decode prog_4_method_6_code 29 = .ok (.aload_n 0, 1) := by decide +kernel
theorem d_Forms_findY_30 : decode prog_4_method_6_code 30 = .ok (.getfield 21, 3) := by decide +kernel
theorem d_Forms_findY_33 : decode prog_4_method_6_code 33 = .ok (.invokevirtual 121, 3) := by decide +kernel
theorem d_Forms_findY_36 : decode prog_4_method_6_code 36 = .ok (.iload_n 2, 1) := by decide +kernel
theorem d_Forms_findY_37 : decode prog_4_method_6_code 37 = .ok (.if_icmp .eq 12, 3) := by decide +kernel
theorem d_Forms_findY_40 : decode prog_4_method_6_code 40 = .ok (.aload_n 0, 1) := by decide +kernel
theorem d_Forms_findY_41 : decode prog_4_method_6_code 41 = .ok (.getfield 24, 3) := by decide +kernel
theorem d_Forms_findY_44 : decode prog_4_method_6_code 44 = .ok (.aload_n 1, 1) := by decide +kernel
theorem d_Forms_findY_45 : decode prog_4_method_6_code 45 = .ok (.aload_n 1, 1) := by decide +kernel
theorem d_Forms_findY_46 : decode prog_4_method_6_code 46 = .ok (.invokevirtual 125, 3) := by decide +kernel
theorem d_Forms_findY_49 : decode prog_4_method_6_code 49 = .ok (.return_, 1) := by decide +kernel
abbrev y_Forms_canBe : MethodName := ⟨"KateDesk$Forms", "canBe", "(IZ)Z"⟩
theorem hd_Forms_canBe : y_Forms_canBe.cls ≠ "java/lang/invoke/MethodHandle" ∧ y_Forms_canBe.cls ≠ "java/lang/invoke/VarHandle" ∧ (parseMethodDescriptor y_Forms_canBe.desc).map (fun d => d.parameters.length) = some 2 := by decide +kernel
theorem d_Forms_canBe_0 : decode prog_4_method_3_code 0 = .ok (.iload_n 1, 1) := by decide +kernel
theorem d_Forms_canBe_1 : decode prog_4_method_3_code 1 = .ok (.ifCond .eq 25, 3) := by decide +kernel
theorem d_Forms_canBe_4 : decode prog_4_method_3_code 4 = .ok (.iload_n 0, 1) := by decide +kernel
theorem d_Forms_canBe_5 : decode prog_4_method_3_code 5 = .ok (.iconst 4, 1) := by decide +kernel
theorem d_Forms_canBe_6 : decode prog_4_method_3_code 6 = .ok (.if_icmp .eq 14, 3) := by decide +kernel
theorem d_Forms_canBe_9 : decode prog_4_method_3_code 9 = .ok (.iload_n 0, 1) := by decide +kernel
theorem d_Forms_canBe_10 : decode prog_4_method_3_code 10 = .ok (.iconst 5, 1) := by decide +kernel
theorem d_Forms_canBe_11 : decode prog_4_method_3_code 11 = .ok (.if_icmp .eq 9, 3) := by decide +kernel
theorem d_Forms_canBe_14 : decode prog_4_method_3_code 14 = .ok (.iload_n 0, 1) := by decide +kernel
theorem d_Forms_canBe_15 : decode prog_4_method_3_code 15 = .ok (.bipush 6, 2) := by decide +kernel
theorem d_Forms_canBe_17 : decode prog_4_method_3_code 17 = .ok (.if_icmp .ne 7, 3) := by decide +kernel
theorem d_Forms_canBe_20 : decode prog_4_method_3_code 20 = .ok (.iconst 1, 1) := by decide +kernel
theorem d_Forms_canBe_21 : decode prog_4_method_3_code 21 = .ok (.goto 4, 3) := by decide +kernel
theorem d_Forms_canBe_24 : decode prog_4_method_3_code 24 = .ok (.iconst 0, 1) := by decide +kernel
theorem d_Forms_canBe_25 : decode prog_4_method_3_code 25 = .ok (.ireturn, 1) := by decide +kernel
theorem d_Forms_canBe_26 : decode prog_4_method_3_code 26 = .ok (.iload_n 0, 1) := by decide +kernel
theorem d_Forms_canBe_27 : decode prog_4_method_3_code 27 = .ok (.ifCond .eq 8, 3) := by decide +kernel
theorem d_Forms_canBe_30 : decode prog_4_method_3_code 30 = .ok (.iload_n 0, 1) := by decide +kernel
theorem d_Forms_canBe_31 : decode prog_4_method_3_code 31 = .ok (.iconst 2, 1) := by decide +kernel
theorem d_Forms_canBe_32 : decode prog_4_method_3_code 32 = .ok (.if_icmp .ne 7, 3) := by decide +kernel
theorem d_Forms_canBe_35 : decode prog_4_method_3_code 35 = .ok (.iconst 1, 1) := by decide +kernel
theorem d_Forms_canBe_36 : decode prog_4_method_3_code 36 = .ok (.goto 4, 3) := by decide +kernel
theorem d_Forms_canBe_39 : decode prog_4_method_3_code 39 = .ok (.iconst 0, 1) := by decide +kernel
theorem d_Forms_canBe_40 : decode prog_4_method_3_code 40 = .ok (.ireturn, 1) := by decide +kernel
abbrev y_Forms_isBare : MethodName := ⟨"KateDesk$Forms", "isBare", "(LKateDesk$Row;)Z"⟩
theorem hd_Forms_isBare : y_Forms_isBare.cls ≠ "java/lang/invoke/MethodHandle" ∧ y_Forms_isBare.cls ≠ "java/lang/invoke/VarHandle" ∧ (parseMethodDescriptor y_Forms_isBare.desc).map (fun d => d.parameters.length) = some 1 := by decide +kernel
theorem d_Forms_isBare_0 : decode prog_4_method_4_code 0 = .ok (.aload_n 0, 1) := by decide +kernel
theorem d_Forms_isBare_1 : decode prog_4_method_4_code 1 = .ok (.iconst 0, 1) := by decide +kernel
theorem d_Forms_isBare_2 : decode prog_4_method_4_code 2 = .ok (.invokevirtual 47, 3) := by decide +kernel
theorem d_Forms_isBare_5 : decode prog_4_method_4_code 5 = .ok (.bipush 31, 2) := by decide +kernel
theorem d_Forms_isBare_7 : decode prog_4_method_4_code 7 = .ok (.iand, 1) := by decide +kernel
theorem d_Forms_isBare_8 : decode prog_4_method_4_code 8 = .ok (.istore_n 1, 1) := by decide +kernel
theorem d_Forms_isBare_9 : decode prog_4_method_4_code 9 = .ok (.iconst 1, 1) := by decide +kernel
theorem d_Forms_isBare_10 : decode prog_4_method_4_code 10 = .ok (.istore_n 2, 1) := by decide +kernel
theorem d_Forms_isBare_11 : decode prog_4_method_4_code 11 = .ok (.iload_n 2, 1) := by decide +kernel
theorem d_Forms_isBare_12 : decode prog_4_method_4_code 12 = .ok (.aload_n 0, 1) := by decide +kernel
theorem d_Forms_isBare_13 : decode prog_4_method_4_code 13 = .ok (.getfield 41, 3) := by decide +kernel
theorem d_Forms_isBare_16 : decode prog_4_method_4_code 16 = .ok (.if_icmp .ge 17, 3) := by decide +kernel
theorem d_Forms_isBare_19 : decode prog_4_method_4_code 19 = .ok (.iload_n 1, 1) := by decide +kernel
theorem d_Forms_isBare_20 : decode prog_4_method_4_code 20 = .ok (.aload_n 0, 1) := by decide +kernel
theorem d_Forms_isBare_21 : decode prog_4_method_4_code 21 = .ok (.iload_n 2, 1) := by decide +kernel
theorem d_Forms_isBare_22 : decode prog_4_method_4_code 22 = .ok (.invokevirtual 47, 3) := by decide +kernel
theorem d_Forms_isBare_25 : decode prog_4_method_4_code 25 = .ok (.ior, 1) := by decide +kernel
theorem d_Forms_isBare_26 : decode prog_4_method_4_code 26 = .ok (.istore_n 1, 1) := by decide +kernel
theorem d_Forms_isBare_27 : decode prog_4_method_4_code 27 = .ok (.iinc 2 1, 3) := by decide +kernel
theorem d_Forms_isBare_30 : decode prog_4_method_4_code 30 = .ok (.goto (-19), 3) := by decide +kernel
theorem d_Forms_isBare_33 : decode prog_4_method_4_code 33 = .ok (.iload_n 1, 1) := by decide +kernel
theorem d_Forms_isBare_34 : decode prog_4_method_4_code 34 = .ok (.ifCond .ne 7, 3) := by decide +kernel
theorem d_Forms_isBare_37 : decode prog_4_method_4_code 37 = .ok (.iconst 1, 1) := by decide +kernel
theorem d_Forms_isBare_38 : decode prog_4_method_4_code 38 = .ok (.goto 4, 3) := by decide +kernel
theorem d_Forms_isBare_41 : decode prog_4_method_4_code 41 = .ok (.iconst 0, 1) := by decide +kernel
theorem d_Forms_isBare_42 : decode prog_4_method_4_code 42 = .ok (.ireturn, 1) := by decide +kernel
abbrev y_Forms_readCoordinate : MethodName := ⟨"KateDesk$Forms", "readCoordinate", "([JLKateDesk$Row;I)Z"⟩
theorem hd_Forms_readCoordinate : y_Forms_readCoordinate.cls ≠ "java/lang/invoke/MethodHandle" ∧ y_Forms_readCoordinate.cls ≠ "java/lang/invoke/VarHandle" ∧ (parseMethodDescriptor y_Forms_readCoordinate.desc).map (fun d => d.parameters.length) = some 3 := by decide +kernel
theorem d_Forms_readCoordinate_0 : decode prog_4_method_5_code 0 = .ok (.aload_n 0, 1) := by decide +kernel
theorem d_Forms_readCoordinate_1 : decode prog_4_method_5_code 1 = .ok (.getfield 21, 3) := by decide +kernel
theorem d_Forms_readCoordinate_4 : decode prog_4_method_5_code 4 = .ok (.invokestatic 101, 3) := by decide +kernel
theorem d_Forms_readCoordinate_7 : decode prog_4_method_5_code 7 = .ok (.iconst 0, 1) := by decide +kernel
theorem d_Forms_readCoordinate_8 : decode prog_4_method_5_code 8 = .ok (.istore 4, 2) := by decide +kernel
theorem d_Forms_readCoordinate_10 : decode prog_4_method_5_code 10 = .ok (.iload 4, 2) := by decide +kernel
theorem d_Forms_readCoordinate_12 : decode prog_4_method_5_code 12 = .ok (.bipush 48, 2) := by decide +kernel
theorem d_Forms_readCoordinate_14 : decode prog_4_method_5_code 14 = .ok (.if_icmp .ge 49, 3) := by decide +kernel
theorem d_Forms_readCoordinate_17 : decode prog_4_method_5_code 17 = .ok (.iload_n 3, 1) := by decide +kernel
theorem d_Forms_readCoordinate_18 : decode prog_4_method_5_code 18 = .ok (.iload 4, 2) := by decide +kernel
theorem d_Forms_readCoordinate_20 : decode prog_4_method_5_code 20 = .ok (.iadd, 1) := by decide +kernel
theorem d_Forms_readCoordinate_21 : decode prog_4_method_5_code 21 = .ok (.ifCond .ne 8, 3) := by decide +kernel
theorem d_Forms_readCoordinate_24 : decode prog_4_method_5_code 24 = .ok (.bipush 31, 2) := by decide +kernel
theorem d_Forms_readCoordinate_26 : decode prog_4_method_5_code 26 = .ok (.goto 6, 3) := by decide +kernel
theorem d_Forms_readCoordinate_29 : decode prog_4_method_5_code 29 = .ok (.sipush 255, 3) := by decide +kernel
theorem d_Forms_readCoordinate_32 : decode prog_4_method_5_code 32 = .ok (.istore 5, 2) := by decide +kernel
theorem d_Forms_readCoordinate_34 : decode prog_4_method_5_code 34 = .ok (.aload_n 0, 1) := by decide +kernel
theorem d_Forms_readCoordinate_35 : decode prog_4_method_5_code 35 = .ok (.getfield 21, 3) := by decide +kernel
theorem d_Forms_readCoordinate_38 : decode prog_4_method_5_code 38 = .ok (.bipush 47, 2) := by decide +kernel
theorem d_Forms_readCoordinate_40 : decode prog_4_method_5_code 40 = .ok (.iload 4, 2) := by decide +kernel
theorem d_Forms_readCoordinate_42 : decode prog_4_method_5_code 42 = .ok (.isub, 1) := by decide +kernel
theorem d_Forms_readCoordinate_43 : decode prog_4_method_5_code 43 = .ok (.aload_n 2, 1) := by decide +kernel
theorem d_Forms_readCoordinate_44 : decode prog_4_method_5_code 44 = .ok (.iload_n 3, 1) := by decide +kernel
theorem d_Forms_readCoordinate_45 : decode prog_4_method_5_code 45 = .ok (.iload 4, 2) := by decide +kernel
theorem d_Forms_readCoordinate_47 : decode prog_4_method_5_code 47 = .ok (.iadd, 1) := by decide +kernel
theorem d_Forms_readCoordinate_48 : decode prog_4_method_5_code 48 = .ok (.invokevirtual 47, 3) := by decide +kernel
theorem d_Forms_readCoordinate_51 : decode prog_4_method_5_code 51 = .ok (.iload 5, 2) := by decide +kernel
theorem d_Forms_readCoordinate_53 : decode prog_4_method_5_code 53 = .ok (.iand, 1) := by decide +kernel
theorem d_Forms_readCoordinate_54 : decode prog_4_method_5_code 54 = .ok (.invokestatic 105, 3) := by decide +kernel
theorem d_Forms_readCoordinate_57 : decode prog_4_method_5_code 57 = .ok (.iinc 4 1, 3) := by decide +kernel
theorem d_Forms_readCoordinate_60 : decode prog_4_method_5_code 60 = .ok (.goto (-50), 3) := by decide +kernel
theorem d_Forms_readCoordinate_63 : decode prog_4_method_5_code 63 = .ok (.aload_n 0, 1) := by decide +kernel
theorem d_Forms_readCoordinate_64 : decode prog_4_method_5_code 64 = .ok (.getfield 24, 3) := by decide +kernel
theorem d_Forms_readCoordinate_67 : decode prog_4_method_5_code 67 = .ok (.aload_n 1, 1) := by decide +kernel
theorem d_Forms_readCoordinate_68 : decode prog_4_method_5_code 68 = .ok (.aload_n 0, 1) := by decide +kernel
theorem d_Forms_readCoordinate_69 : decode prog_4_method_5_code 69 = .ok (.getfield 21, 3) := by decide +kernel
theorem d_Forms_readCoordinate_72 : decode prog_4_method_5_code 72 = .ok (.invokevirtual 109, 3) := by decide +kernel
theorem d_Forms_readCoordinate_75 : decode prog_4_method_5_code 75 = .ok (.aload_n 0, 1) := by decide +kernel
theorem d_Forms_readCoordinate_76 : decode prog_4_method_5_code 76 = .ok (.getfield 21, 3) := by decide +kernel
theorem d_Forms_readCoordinate_79 : decode prog_4_method_5_code 79 = .ok (.aload_n 0, 1) := by decide +kernel
theorem d_Forms_readCoordinate_80 : decode prog_4_method_5_code 80 = .ok (.getfield 24, 3) := by decide +kernel
theorem d_Forms_readCoordinate_83 : decode prog_4_method_5_code 83 = .ok (.getfield 32, 3) := by decide +kernel
theorem d_Forms_readCoordinate_86 : decode prog_4_method_5_code 86 = .ok (.invokestatic 112, 3) := by decide +kernel
theorem d_Forms_readCoordinate_89 : decode prog_4_method_5_code 89 = .ok (.ireturn, 1) := by decide +kernel
theorem d_Forms_read_21 : decode prog_4_method_2_code 21 = .ok (.getfield 41, 3) := by decide +kernel
theorem d_Forms_read_24 : decode prog_4_method_2_code 24 = .ok (.bipush 48, 2) := by decide +kernel
theorem d_Forms_read_26 : decode prog_4_method_2_code 26 = .ok (.if_icmp .ne 7, 3) := by decide +kernel
theorem d_Forms_read_29 : decode prog_4_method_2_code 29 = .ok (.iconst 1, 1) := by decide +kernel
theorem d_Forms_read_30 : decode prog_4_method_2_code 30 = .ok (.goto 4, 3) := by decide +kernel
theorem d_Forms_read_33 : decode prog_4_method_2_code 33 = .ok (.iconst 0, 1) := by decide +kernel
theorem d_Forms_read_34 : decode prog_4_method_2_code 34 = .ok (.istore_n 3, 1) := by decide +kernel
theorem d_Forms_read_35 : decode prog_4_method_2_code 35 = .ok (.aload_n 2, 1) := by decide +kernel
theorem d_Forms_read_36 : decode prog_4_method_2_code 36 = .ok (.iconst 0, 1) := by decide +kernel
theorem d_Forms_read_37 : decode prog_4_method_2_code 37 = .ok (.invokevirtual 47, 3) := by decide +kernel
theorem d_Forms_read_40 : decode prog_4_method_2_code 40 = .ok (.iconst 5, 1) := by decide +kernel
theorem d_Forms_read_41 : decode prog_4_method_2_code 41 = .ok (.ishr, 1) := by decide +kernel
theorem d_Forms_read_42 : decode prog_4_method_2_code 42 = .ok (.istore 4, 2) := by decide +kernel
theorem d_Forms_read_44 : decode prog_4_method_2_code 44 = .ok (.iload 4, 2) := by decide +kernel
theorem d_Forms_read_46 : decode prog_4_method_2_code 46 = .ok (.iload_n 3, 1) := by decide +kernel
theorem d_Forms_read_47 : decode prog_4_method_2_code 47 = .ok (.invokestatic 51, 3) := by decide +kernel
theorem d_Forms_read_50 : decode prog_4_method_2_code 50 = .ok (.ifCond .ne 5, 3) := by decide +kernel
theorem d_Forms_read_53 : decode prog_4_method_2_code 53 = .ok (.iconst 2, 1) := by decide +kernel
theorem d_Forms_read_54 : decode prog_4_method_2_code 54 = .ok (.ireturn, 1) := by decide +kernel
theorem d_Forms_read_55 : decode prog_4_method_2_code 55 = .ok (.iload 4, 2) := by decide +kernel
theorem d_Forms_read_57 : decode prog_4_method_2_code 57 = .ok (.iconst 2, 1) := by decide +kernel
theorem d_Forms_read_58 : decode prog_4_method_2_code 58 = .ok (.iand, 1) := by decide +kernel
theorem d_Forms_read_59 : decode prog_4_method_2_code 59 = .ok (.ifCond .eq 20, 3) := by decide +kernel
theorem d_Forms_read_62 : decode prog_4_method_2_code 62 = .ok (.aload_n 1, 1) := by decide +kernel
theorem d_Forms_read_63 : decode prog_4_method_2_code 63 = .ok (.invokevirtual 55, 3) := by decide +kernel
theorem d_Forms_read_66 : decode prog_4_method_2_code 66 = .ok (.aload_n 2, 1) := by decide +kernel
theorem d_Forms_read_67 : decode prog_4_method_2_code 67 = .ok (.invokestatic 60, 3) := by decide +kernel
theorem d_Forms_read_70 : decode prog_4_method_2_code 70 = .ok (.ifCond .eq 7, 3) := by decide +kernel
theorem d_Forms_read_73 : decode prog_4_method_2_code 73 = .ok (.iconst 0, 1) := by decide +kernel
theorem d_Forms_read_74 : decode prog_4_method_2_code 74 = .ok (.goto 4, 3) := by decide +kernel
theorem d_Forms_read_77 : decode prog_4_method_2_code 77 = .ok (.iconst 3, 1) := by decide +kernel
theorem d_Forms_read_78 : decode prog_4_method_2_code 78 = .ok (.ireturn, 1) := by decide +kernel
theorem d_Forms_read_79 : decode prog_4_method_2_code 79 = .ok (.aload_n 0, 1) := by decide +kernel
theorem d_Forms_read_80 : decode prog_4_method_2_code 80 = .ok (.aload_n 1, 1) := by decide +kernel
theorem d_Forms_read_81 : decode prog_4_method_2_code 81 = .ok (.getfield 64, 3) := by decide +kernel
theorem d_Forms_read_84 : decode prog_4_method_2_code 84 = .ok (.aload_n 2, 1) := by decide +kernel
theorem d_Forms_read_85 : decode prog_4_method_2_code 85 = .ok (.iconst 0, 1) := by decide +kernel
theorem d_Forms_read_86 : decode prog_4_method_2_code 86 = .ok (.invokevirtual 67, 3) := by decide +kernel
theorem d_Forms_read_89 : decode prog_4_method_2_code 89 = .ok (.ifCond .eq 21, 3) := by decide +kernel
theorem d_Forms_read_92 : decode prog_4_method_2_code 92 = .ok (.iload_n 3, 1) := by decide +kernel
theorem d_Forms_read_93 : decode prog_4_method_2_code 93 = .ok (.ifCond .ne 19, 3) := by decide +kernel
theorem d_Forms_read_96 : decode prog_4_method_2_code 96 = .ok (.aload_n 0, 1) := by decide +kernel
theorem d_Forms_read_97 : decode prog_4_method_2_code 97 = .ok (.aload_n 1, 1) := by decide +kernel
theorem d_Forms_read_98 : decode prog_4_method_2_code 98 = .ok (.getfield 71, 3) := by decide +kernel
theorem d_Forms_read_101 : decode prog_4_method_2_code 101 = .ok (.aload_n 2, 1) := by decide +kernel
theorem d_Forms_read_102 : decode prog_4_method_2_code 102 = .ok (.bipush 48, 2) := by decide +kernel
theorem d_Forms_read_104 : decode prog_4_method_2_code 104 = .ok (.invokevirtual 67, 3) := by decide +kernel
theorem d_Forms_read_107 : decode prog_4_method_2_code 107 = .ok (.ifCond .ne 5, 3) := by decide +kernel
theorem d_Forms_read_110 : decode prog_4_method_2_code 110 = .ok (.iconst 4, 1) := by decide +kernel
theorem d_Forms_read_111 : decode prog_4_method_2_code 111 = .ok (.ireturn, 1) := by decide +kernel
theorem d_Forms_read_112 : decode prog_4_method_2_code 112 = .ok (.aload_n 0, 1) := by decide +kernel
theorem d_Forms_read_113 : decode prog_4_method_2_code 113 = .ok (.getfield 28, 3) := by decide +kernel
theorem d_Forms_read_116 : decode prog_4_method_2_code 116 = .ok (.aload_n 0, 1) := by decide +kernel
theorem d_Forms_read_117 : decode prog_4_method_2_code 117 = .ok (.getfield 15, 3) := by decide +kernel
theorem d_Forms_read_120 : decode prog_4_method_2_code 120 = .ok (.aload_n 1, 1) := by decide +kernel
theorem d_Forms_read_121 : decode prog_4_method_2_code 121 = .ok (.getfield 64, 3) := by decide +kernel
theorem d_Forms_read_124 : decode prog_4_method_2_code 124 = .ok (.invokevirtual 74, 3) := by decide +kernel
theorem d_Forms_read_127 : decode prog_4_method_2_code 127 = .ok (.iload_n 3, 1) := by decide +kernel
theorem d_Forms_read_128 : decode prog_4_method_2_code 128 = .ok (.ifCond .eq 23, 3) := by decide +kernel
theorem d_Forms_read_131 : decode prog_4_method_2_code 131 = .ok (.aload_n 0, 1) := by decide +kernel
theorem d_Forms_read_132 : decode prog_4_method_2_code 132 = .ok (.aload_n 1, 1) := by decide +kernel
theorem d_Forms_read_133 : decode prog_4_method_2_code 133 = .ok (.getfield 71, 3) := by decide +kernel
theorem d_Forms_read_136 : decode prog_4_method_2_code 136 = .ok (.iload 4, 2) := by decide +kernel
theorem d_Forms_read_138 : decode prog_4_method_2_code 138 = .ok (.iconst 1, 1) := by decide +kernel
theorem d_Forms_read_139 : decode prog_4_method_2_code 139 = .ok (.iand, 1) := by decide +kernel
theorem d_Forms_read_140 : decode prog_4_method_2_code 140 = .ok (.ifCond .eq 7, 3) := by decide +kernel
theorem d_Forms_read_143 : decode prog_4_method_2_code 143 = .ok (.iconst 1, 1) := by decide +kernel
theorem d_Forms_read_144 : decode prog_4_method_2_code 144 = .ok (.goto 4, 3) := by decide +kernel
theorem d_Forms_read_147 : decode prog_4_method_2_code 147 = .ok (.iconst 0, 1) := by decide +kernel
theorem d_Forms_read_148 : decode prog_4_method_2_code 148 = .ok (.invokevirtual 80, 3) := by decide +kernel
theorem d_Forms_read_151 : decode prog_4_method_2_code 151 = .ok (.aload_n 1, 1) := by decide +kernel
theorem d_Forms_read_152 : decode prog_4_method_2_code 152 = .ok (.getfield 84, 3) := by decide +kernel
theorem d_Forms_read_155 : decode prog_4_method_2_code 155 = .ok (.aload_n 0, 1) := by decide +kernel
theorem d_Forms_read_156 : decode prog_4_method_2_code 156 = .ok (.getfield 24, 3) := by decide +kernel
theorem d_Forms_read_159 : decode prog_4_method_2_code 159 = .ok (.getfield 87, 3) := by decide +kernel
theorem d_Forms_read_162 : decode prog_4_method_2_code 162 = .ok (.invokestatic 90, 3) := by decide +kernel
theorem d_Forms_read_165 : decode prog_4_method_2_code 165 = .ok (.aload_n 0, 1) := by decide +kernel
theorem d_Forms_read_166 : decode prog_4_method_2_code 166 = .ok (.getfield 24, 3) := by decide +kernel
theorem d_Forms_read_169 : decode prog_4_method_2_code 169 = .ok (.aload_n 0, 1) := by decide +kernel
theorem d_Forms_read_170 : decode prog_4_method_2_code 170 = .ok (.getfield 18, 3) := by decide +kernel
theorem d_Forms_read_173 : decode prog_4_method_2_code 173 = .ok (.aload_n 1, 1) := by decide +kernel
theorem d_Forms_read_174 : decode prog_4_method_2_code 174 = .ok (.getfield 71, 3) := by decide +kernel
theorem d_Forms_read_177 : decode prog_4_method_2_code 177 = .ok (.aload_n 1, 1) := by decide +kernel
theorem d_Forms_read_178 : decode prog_4_method_2_code 178 = .ok (.getfield 71, 3) := by decide +kernel
theorem d_Forms_read_181 : decode prog_4_method_2_code 181 = .ok (.invokevirtual 93, 3) := by decide +kernel
theorem d_Forms_read_184 : decode prog_4_method_2_code 184 = .ok (.aload_n 0, 1) := by decide +kernel
theorem d_Forms_read_185 : decode prog_4_method_2_code 185 = .ok (.getfield 18, 3) := by decide +kernel
theorem d_Forms_read_188 : decode prog_4_method_2_code 188 = .ok (.aload_n 0, 1) := by decide +kernel
theorem d_Forms_read_189 : decode prog_4_method_2_code 189 = .ok (.getfield 15, 3) := by decide +kernel
theorem d_Forms_read_192 : decode prog_4_method_2_code 192 = .ok (.invokestatic 97, 3) := by decide +kernel
theorem d_Forms_read_195 : decode prog_4_method_2_code 195 = .ok (.ifCond .eq 7, 3) := by decide +kernel
theorem d_Forms_read_198 : decode prog_4_method_2_code 198 = .ok (.iconst 0, 1) := by decide +kernel
theorem d_Forms_read_199 : decode prog_4_method_2_code 199 = .ok (.goto 4, 3) := by decide +kernel
theorem d_Forms_read_202 : decode prog_4_method_2_code 202 = .ok (.iconst 5, 1) := by decide +kernel
theorem d_Forms_read_203 : decode prog_4_method_2_code 203 = .ok (.ireturn, 1) := by decide +kernel
set_option maxHeartbeats 4000000 in
set_option maxRecDepth 100000 in
theorem v_Field_invert (l : Launch) (g : WG) (n0 : Nat → Prop) (o t a : Nat) (F : Nat → Nat) (mi : Int64) : Ctr l y_Field_invert (.code y_Field_invert prog_3_method_12_code 3 none) 3 160 0 0 n0 g [.ref o, .ref t, .ref a] (fun H => FD g n0 H o F mi ∧ J14 g n0 H t ∧ J14 g n0 H a) (QV (fun H H' => KJ g (fun q => q = t ∨ q = F 5) H H')) := by
  refine ctr_mk l (lv0 := [(0, .ref o), (1, .ref t), (2, .ref a)]) (by decide) (Nat.le_of_ble_eq_true rfl) rfl ?_
  intro p e s m below meth c ls E hr hlk hnm hl hP
  have hx := E.1
  have hb := E.2.1
  have hK := E.2.2.2.2.2
  have hF : ∀ q ∈ ([] : List Loc), n0 q.base := fun q hq => absurd hq List.not_mem_nil
  refine lv_aload_n hx hb d_Field_invert_0 rfl (lv_at hl 0 rfl) ?_
  refine lv_aload_n hx hb d_Field_invert_1 rfl (lv_at hl 1 rfl) ?_
  refine lv_aload_n hx hb d_Field_invert_2 rfl (lv_at hl 2 rfl) ?_
  refine lv_aload_n hx hb d_Field_invert_3 rfl (lv_at hl 0 rfl) ?_
  refine q_get (C := "KateDesk$Field") (T := T_Field) (N := 7) (ci := 1) E hP.1.1 in_Field rfl 4 (by decide) w_180 rfl rfl d_Field_invert_4 ?_
  refine q_cV (rest := []) E (c_Field_raise l g n0 o t a (F 4) F mi) w_574 w_4 w_571 w_572 w_573 hd_Field_raise rfl ⟨by decide, by decide⟩ (OB.recv E.2.2.2.2.2 (by rfl) hP.1.1) (⟨hP.1, hP.2.1, hP.2.2, hP.1.2 4 (by decide)⟩) hF hl.1 rfl (Nat.le_of_ble_eq_true rfl) d_Field_invert_7 ⟨by decide, by decide⟩ (qv (fun H1 locs hq hF => ?_))
  exact q_vret E hr hlk (⟨rfl, hq⟩) hF d_Field_invert_10
set_option maxHeartbeats 4000000 in
set_option maxRecDepth 100000 in
theorem v_Forms_isGreater (l : Launch) (g : WG) (n0 : Nat → Prop) (o cu fi : Nat) (F : Nat → Nat) (mi : Int64) (X : Nat → Nat) (r1 r2 r3 r4 : Nat) (y : Nat) : Ctr l y_Forms_isGreater (.code y_Forms_isGreater prog_4_method_7_code 2 (some FieldType.boolean)) 3 66 0 0 n0 g [.ref o, .ref y] (fun H => FMX g n0 H o cu fi F mi X r1 r2 r3 r4 ∧ J14 g n0 H y) (QI (fun r H H' => (r = 0 ∨ r = 1) ∧ KJ g (fun q => n0 q) H H')) := by
  refine ctr_mk l (lv0 := [(0, .ref o), (1, .ref y)]) (by decide) (Nat.le_of_ble_eq_true rfl) rfl ?_
  intro p e s m below meth c ls E hr hlk hnm hl hP
  have hx := E.1
  have hb := E.2.1
  have hK := E.2.2.2.2.2
  have hF : ∀ q ∈ ([] : List Loc), n0 q.base := fun q hq => absurd hq List.not_mem_nil
  obtain ⟨hfm, h_y⟩ := hP
  have hk : KJ g (fun q => n0 q) s.heap s.heap := KJ.rf
  refine lv_aload_n hx hb d_Forms_isGreater_0 rfl (lv_at hl 0 rfl) ?_
  refine q_get (C := "KateDesk$Forms") (T := T_Forms) (N := 6) (ci := 6) E ((hk.fmx hK hfm).1) in_Forms rfl 0 (by decide) w_272 rfl rfl d_Forms_isGreater_1 ?_
  refine lv_aload_n hx hb d_Forms_isGreater_4 rfl (lv_at hl 0 rfl) ?_
  refine q_get (C := "KateDesk$Forms") (T := T_Forms) (N := 6) (ci := 6) E ((hk.fmx hK hfm).1) in_Forms rfl 4 (by decide) w_276 rfl rfl d_Forms_isGreater_5 ?_
  refine lv_aload_n hx hb d_Forms_isGreater_8 rfl (lv_at hl 1 rfl) ?_
  refine q_cV (rest := []) E (c_Field_negate l g n0 fi r3 y F mi) w_609 w_4 w_664 w_607 w_608 hd_Field_negate rfl ⟨by decide, by decide⟩ (OB.recv E.2.2.2.2.2 (by rfl) (((hk.fmx hK hfm).2.1.2.1).1)) (⟨(hk.fmx hK hfm).2.1.2.1, ((hk.fmx hK hfm).2.2.2.2.1), (hk.j h_y)⟩) hF hl.1 rfl (Nat.le_of_ble_eq_true rfl) d_Forms_isGreater_9 ⟨by decide, by decide⟩ (qv (fun H1 locs hq hF => ?_))
  have hk := hk.tr (hq.w2 (((hk.fmx hK hfm).2.2.2.2.1)).1 ((hk.fmx hK hfm).2.1.2.1.2 5 (by decide)).1)
  refine lv_aload_n hx hb d_Forms_isGreater_12 rfl (lv_at hl 0 rfl) ?_
  refine q_get (C := "KateDesk$Forms") (T := T_Forms) (N := 6) (ci := 6) E ((hk.fmx hK hfm).1) in_Forms rfl 4 (by decide) w_276 rfl rfl d_Forms_isGreater_13 ?_
  refine lv_aload_n hx hb d_Forms_isGreater_16 rfl (lv_at hl 1 rfl) ?_
  refine q_cS (rest := []) E (v_Limbs_less l g n0 r3 y) w_512 w_5 w_647 w_511 hd_Limbs_less rfl ⟨by decide, by decide⟩ (⟨((hk.fmx hK hfm).2.2.2.2.1), (hk.j h_y)⟩) hF hl.1 rfl (Nat.le_of_ble_eq_true rfl) d_Forms_isGreater_17 ⟨by decide, by decide⟩ (qi (fun rz1 H2 locs hq hF => ?_))
  obtain ⟨hbrz1, hq⟩ := hq
  have hq := hq.symm
  subst hq
  exact q_zret E hr (bool_n hbrz1) hlk (⟨_, rfl, hbrz1, hk⟩) hF d_Forms_isGreater_20
set_option maxHeartbeats 4000000 in
set_option maxRecDepth 100000 in
theorem v_Forms_findY (l : Launch) (g : WG) (n0 : Nat → Prop) (o cu fi : Nat) (F : Nat → Nat) (mi : Int64) (X : Nat → Nat) (r1 r2 r3 r4 : Nat) (t : Nat) (gr : Int32) : Ctr l y_Forms_findY (.code y_Forms_findY prog_4_method_6_code 3 none) 4 160 0 0 n0 g [.ref o, .ref t, .int gr] (fun H => FMX g n0 H o cu fi F mi X r1 r2 r3 r4 ∧ J14 g n0 H t) (QV (fun H H' => KJ g (fun q => n0 q) H H')) := by
  refine ctr_mk l (lv0 := [(0, .ref o), (1, .ref t), (2, .int gr)]) (by decide) (Nat.le_of_ble_eq_true rfl) rfl ?_
  intro p e s m below meth c ls E hr hlk hnm hl hP
  have hx := E.1
  have hb := E.2.1
  have hK := E.2.2.2.2.2
  have hF : ∀ q ∈ ([] : List Loc), n0 q.base := fun q hq => absurd hq List.not_mem_nil
  obtain ⟨hfm, h_t⟩ := hP
  have hk : KJ g (fun q => n0 q) s.heap s.heap := KJ.rf
  refine lv_aload_n hx hb d_Forms_findY_0 rfl (lv_at hl 0 rfl) ?_
  refine q_get (C := "KateDesk$Forms") (T := T_Forms) (N := 6) (ci := 6) E ((hk.fmx hK hfm).1) in_Forms rfl 0 (by decide) w_272 rfl rfl d_Forms_findY_1 ?_
  refine lv_aload_n hx hb d_Forms_findY_4 rfl (lv_at hl 1 rfl) ?_
  refine lv_aload_n hx hb d_Forms_findY_5 rfl (lv_at hl 0 rfl) ?_
  refine q_get (C := "KateDesk$Forms") (T := T_Forms) (N := 6) (ci := 6) E ((hk.fmx hK hfm).1) in_Forms rfl 3 (by decide) w_275 rfl rfl d_Forms_findY_6 ?_
  refine lv_aload_n hx hb d_Forms_findY_9 rfl (lv_at hl 0 rfl) ?_
  refine q_get (C := "KateDesk$Forms") (T := T_Forms) (N := 6) (ci := 6) E ((hk.fmx hK hfm).1) in_Forms rfl 2 (by decide) w_274 rfl rfl d_Forms_findY_10 ?_
  refine q_cV (rest := []) E (c_Field_raise l g n0 fi t r2 r1 F mi) w_574 w_4 w_658 w_572 w_573 hd_Field_raise rfl ⟨by decide, by decide⟩ (OB.recv E.2.2.2.2.2 (by rfl) (((hk.fmx hK hfm).2.1.2.1).1)) (⟨(hk.fmx hK hfm).2.1.2.1, (hk.j h_t), ((hk.fmx hK hfm).2.2.2.1), ((hk.fmx hK hfm).2.2.1)⟩) hF hl.1 rfl (Nat.le_of_ble_eq_true rfl) d_Forms_findY_13 ⟨by decide, by decide⟩ (qv (fun H1 locs hq hF => ?_))
  have hk := hk.tr (hq.w2 ((hk.j h_t)).1 ((hk.fmx hK hfm).2.1.2.1.2 5 (by decide)).1)
  refine lv_aload_n hx hb d_Forms_findY_16 rfl (lv_at hl 0 rfl) ?_
  refine q_get (C := "KateDesk$Forms") (T := T_Forms) (N := 6) (ci := 6) E ((hk.fmx hK hfm).1) in_Forms rfl 0 (by decide) w_272 rfl rfl d_Forms_findY_17 ?_
  refine lv_aload_n hx hb d_Forms_findY_20 rfl (lv_at hl 0 rfl) ?_
  refine q_get (C := "KateDesk$Forms") (T := T_Forms) (N := 6) (ci := 6) E ((hk.fmx hK hfm).1) in_Forms rfl 5 (by decide) w_277 rfl rfl d_Forms_findY_21 ?_
  refine lv_aload_n hx hb d_Forms_findY_24 rfl (lv_at hl 1 rfl) ?_
  refine q_cV (rest := []) E (c_Field_lower l g n0 fi r4 t F mi) w_589 w_4 w_659 w_587 w_588 hd_Field_lower rfl ⟨by decide, by decide⟩ (OB.recv E.2.2.2.2.2 (by rfl) (((hk.fmx hK hfm).2.1.2.1).1)) (⟨(hk.fmx hK hfm).2.1.2.1, ((hk.fmx hK hfm).2.2.2.2.2), (hk.j h_t)⟩) hF hl.1 rfl (Nat.le_of_ble_eq_true rfl) d_Forms_findY_25 ⟨by decide, by decide⟩ (qv (fun H2 locs hq hF => ?_))
  have hk := hk.tr (hq.w1 (((hk.fmx hK hfm).2.2.2.2.2)).1)
  refine lv_aload_n hx hb d_Forms_findY_28 rfl (lv_at hl 0 rfl) ?_
  refine lv_aload_n hx hb d_Forms_findY_29 rfl (lv_at hl 0 rfl) ?_
  refine q_get (C := "KateDesk$Forms") (T := T_Forms) (N := 6) (ci := 6) E ((hk.fmx hK hfm).1) in_Forms rfl 5 (by decide) w_277 rfl rfl d_Forms_findY_30 ?_
  refine q_cV (rest := []) E (v_Forms_isGreater l g n0 o cu fi F mi X r1 r2 r3 r4 r4) w_663 w_13 w_660 w_662 (bw_s 6 rfl) hd_Forms_isGreater rfl ⟨by decide, by decide⟩ (OB.recv E.2.2.2.2.2 (by rfl) ((hk.fmx hK hfm).1)) (⟨(hk.fmx hK hfm), ((hk.fmx hK hfm).2.2.2.2.2)⟩) hF hl.1 rfl (Nat.le_of_ble_eq_true rfl) d_Forms_findY_33 ⟨by decide, by decide⟩ (qi (fun rz1 H3 locs hq hF => ?_))
  obtain ⟨hbrz1, hq⟩ := hq
  have hk := hk.tr hq
  refine lv_iload_n hx hb d_Forms_findY_36 rfl (lv_at hl 2 rfl) ?_
  refine lv_icmp_eq (tgt := 49) hx hb d_Forms_findY_37 (by decide) (fun _ => ?_) (fun _ => ?_)
  · skip
    exact q_vret E hr hlk (⟨rfl, hk⟩) hF d_Forms_findY_49
  · skip
    refine lv_aload_n hx hb d_Forms_findY_40 rfl (lv_at hl 0 rfl) ?_
    refine q_get (C := "KateDesk$Forms") (T := T_Forms) (N := 6) (ci := 6) E ((hk.fmx hK hfm).1) in_Forms rfl 0 (by decide) w_272 rfl rfl d_Forms_findY_41 ?_
    refine lv_aload_n hx hb d_Forms_findY_44 rfl (lv_at hl 1 rfl) ?_
    refine lv_aload_n hx hb d_Forms_findY_45 rfl (lv_at hl 1 rfl) ?_
    refine q_cV (rest := []) E (c_Field_negate l g n0 fi t t F mi) w_609 w_4 w_664 w_607 w_608 hd_Field_negate rfl ⟨by decide, by decide⟩ (OB.recv E.2.2.2.2.2 (by rfl) (((hk.fmx hK hfm).2.1.2.1).1)) (⟨(hk.fmx hK hfm).2.1.2.1, (hk.j h_t), (hk.j h_t)⟩) hF hl.1 rfl (Nat.le_of_ble_eq_true rfl) d_Forms_findY_46 ⟨by decide, by decide⟩ (qv (fun H4 locs hq hF => ?_))
    have hk := hk.tr (hq.w2 ((hk.j h_t)).1 ((hk.fmx hK hfm).2.1.2.1.2 5 (by decide)).1)
    exact q_vret E hr hlk (⟨rfl, hk⟩) hF d_Forms_findY_49
set_option maxHeartbeats 4000000 in
set_option maxRecDepth 100000 in
theorem v_Forms_canBe (l : Launch) (g : WG) (n0 : Nat → Prop) (mk sh : Int32) : Ctr l y_Forms_canBe (.code y_Forms_canBe prog_4_method_3_code 2 (some FieldType.boolean)) 0 0 0 0 n0 g [.int mk, .int sh] (fun H => True) (QI (fun r H H' => (r = 0 ∨ r = 1) ∧ H' = H)) := by
  refine ctr_mk l (lv0 := [(0, .int mk), (1, .int sh)]) (by decide) (Nat.le_of_ble_eq_true rfl) rfl ?_
  intro p e s m below meth c ls E hr hlk hnm hl hP
  have hx := E.1
  have hb := E.2.1
  have hK := E.2.2.2.2.2
  have hF : ∀ q ∈ ([] : List Loc), n0 q.base := fun q hq => absurd hq List.not_mem_nil
  refine lv_iload_n hx hb d_Forms_canBe_0 rfl (lv_at hl 1 rfl) ?_
  refine lv_if_eq (tgt := 26) hx hb d_Forms_canBe_1 (by decide) (fun _ => ?_) (fun _ => ?_)
  · skip
    refine lv_iload_n hx hb d_Forms_canBe_26 rfl (lv_at hl 0 rfl) ?_
    refine lv_if_eq (tgt := 35) hx hb d_Forms_canBe_27 (by decide) (fun _ => ?_) (fun _ => ?_)
    · skip
      refine lv_iconst (v := nI 1) hx hb d_Forms_canBe_35 (by decide) ?_
      refine lv_goto (tgt := 40) hx hb d_Forms_canBe_36 (by decide) ?_
      exact q_zret E hr rfl hlk (⟨_, rfl, Or.inr rfl, rfl⟩) hF d_Forms_canBe_40
    · skip
      refine lv_iload_n hx hb d_Forms_canBe_30 rfl (lv_at hl 0 rfl) ?_
      refine lv_iconst (v := nI 2) hx hb d_Forms_canBe_31 (by decide) ?_
      refine lv_icmp_ne (tgt := 39) hx hb d_Forms_canBe_32 (by decide) (fun _ => ?_) (fun _ => ?_)
      · skip
        refine lv_iconst (v := nI 0) hx hb d_Forms_canBe_39 (by decide) ?_
        exact q_zret E hr rfl hlk (⟨_, rfl, Or.inl rfl, rfl⟩) hF d_Forms_canBe_40
      · skip
        refine lv_iconst (v := nI 1) hx hb d_Forms_canBe_35 (by decide) ?_
        refine lv_goto (tgt := 40) hx hb d_Forms_canBe_36 (by decide) ?_
        exact q_zret E hr rfl hlk (⟨_, rfl, Or.inr rfl, rfl⟩) hF d_Forms_canBe_40
  · skip
    refine lv_iload_n hx hb d_Forms_canBe_4 rfl (lv_at hl 0 rfl) ?_
    refine lv_iconst (v := nI 4) hx hb d_Forms_canBe_5 (by decide) ?_
    refine lv_icmp_eq (tgt := 20) hx hb d_Forms_canBe_6 (by decide) (fun _ => ?_) (fun _ => ?_)
    · skip
      refine lv_iconst (v := nI 1) hx hb d_Forms_canBe_20 (by decide) ?_
      refine lv_goto (tgt := 25) hx hb d_Forms_canBe_21 (by decide) ?_
      exact q_zret E hr rfl hlk (⟨_, rfl, Or.inr rfl, rfl⟩) hF d_Forms_canBe_25
    · skip
      refine lv_iload_n hx hb d_Forms_canBe_9 rfl (lv_at hl 0 rfl) ?_
      refine lv_iconst (v := nI 5) hx hb d_Forms_canBe_10 (by decide) ?_
      refine lv_icmp_eq (tgt := 20) hx hb d_Forms_canBe_11 (by decide) (fun _ => ?_) (fun _ => ?_)
      · skip
        refine lv_iconst (v := nI 1) hx hb d_Forms_canBe_20 (by decide) ?_
        refine lv_goto (tgt := 25) hx hb d_Forms_canBe_21 (by decide) ?_
        exact q_zret E hr rfl hlk (⟨_, rfl, Or.inr rfl, rfl⟩) hF d_Forms_canBe_25
      · skip
        refine lv_iload_n hx hb d_Forms_canBe_14 rfl (lv_at hl 0 rfl) ?_
        refine lv_bipush (v := nI 6) hx hb d_Forms_canBe_15 (by decide) ?_
        refine lv_icmp_ne (tgt := 24) hx hb d_Forms_canBe_17 (by decide) (fun _ => ?_) (fun _ => ?_)
        · skip
          refine lv_iconst (v := nI 0) hx hb d_Forms_canBe_24 (by decide) ?_
          exact q_zret E hr rfl hlk (⟨_, rfl, Or.inl rfl, rfl⟩) hF d_Forms_canBe_25
        · skip
          refine lv_iconst (v := nI 1) hx hb d_Forms_canBe_20 (by decide) ?_
          refine lv_goto (tgt := 25) hx hb d_Forms_canBe_21 (by decide) ?_
          exact q_zret E hr rfl hlk (⟨_, rfl, Or.inr rfl, rfl⟩) hF d_Forms_canBe_25
set_option maxHeartbeats 4000000 in
set_option maxRecDepth 100000 in
theorem v_Forms_isBare (l : Launch) (g : WG) (n0 : Nat → Prop) (rw ce t : Nat) (ht : t ≤ 96) : Ctr l y_Forms_isBare (.code y_Forms_isBare prog_4_method_4_code 3 (some FieldType.boolean)) 1 21 0 0 n0 g [.ref rw] (fun H => RW9 g H rw ce t) (QI (fun r H H' => (r = 0 ∨ r = 1) ∧ H' = H)) := by
  refine ctr_mk l (lv0 := [(0, .ref rw)]) (by decide) (Nat.le_of_ble_eq_true rfl) rfl ?_
  intro p e s m below meth c ls E hr hlk hnm hl hP
  have hx := E.1
  have hb := E.2.1
  have hK := E.2.2.2.2.2
  have hF : ∀ q ∈ ([] : List Loc), n0 q.base := fun q hq => absurd hq List.not_mem_nil
  have lp : ∀ (k : Nat) (i : Nat) (ot : Int32) (locs : List Loc) (ls : Array Slot), 96 ≤ i + k ∧ i + k < 200 → (∀ q ∈ locs, n0 q.base) → lv_has ls 3 [(2, .int (nI i)), (1, .int ot), (0, .ref rw)] → W p l e { frames := 1, cells := 0, slots := 0, locals := 21 } s m [.ref rw].toArray below meth c s.heap locs 0 0 (MQ below (QcP (QI (fun r H H' => (r = 0 ∨ r = 1) ∧ H' = H))) [.ref rw].toArray s 0 0 (fun q => n0 q)) (F0 m 11 ls []) := by
    intro k
    induction k with
    | zero =>
      intro  i   ot   locs   ls hi hF hl
      refine lv_iload_n hx hb d_Forms_isBare_11 rfl (lv_at hl 0 rfl) ?_
      refine lv_aload_n hx hb d_Forms_isBare_12 rfl (lv_at hl 2 rfl) ?_
      refine q_get (C := "KateDesk$Row") (T := T_Row) (N := 2) (ci := 3) E hP.1 in_Row rfl 1 (by decide) w_73 rfl rfl d_Forms_isBare_13 ?_
      refine lv_icmp_ge (tgt := 33) hx hb d_Forms_isBare_16 (by decide) (fun _ => ?_) (fun h9 => absurd (nI_le (by omega) (by omega)) h9)
      refine lv_iload_n hx hb d_Forms_isBare_33 rfl (lv_at hl 1 rfl) ?_
      refine lv_if_ne (tgt := 41) hx hb d_Forms_isBare_34 (by decide) (fun _ => ?_) (fun _ => ?_)
      · skip
        refine lv_iconst (v := nI 0) hx hb d_Forms_isBare_41 (by decide) ?_
        exact q_zret E hr rfl hlk (⟨_, rfl, Or.inl rfl, rfl⟩) hF d_Forms_isBare_42
      · skip
        refine lv_iconst (v := nI 1) hx hb d_Forms_isBare_37 (by decide) ?_
        refine lv_goto (tgt := 42) hx hb d_Forms_isBare_38 (by decide) ?_
        exact q_zret E hr rfl hlk (⟨_, rfl, Or.inr rfl, rfl⟩) hF d_Forms_isBare_42
    | succ k ih =>
      intro  i   ot   locs   ls hi hF hl
      refine lv_iload_n hx hb d_Forms_isBare_11 rfl (lv_at hl 0 rfl) ?_
      refine lv_aload_n hx hb d_Forms_isBare_12 rfl (lv_at hl 2 rfl) ?_
      refine q_get (C := "KateDesk$Row") (T := T_Row) (N := 2) (ci := 3) E hP.1 in_Row rfl 1 (by decide) w_73 rfl rfl d_Forms_isBare_13 ?_
      refine lv_icmp_ge (tgt := 33) hx hb d_Forms_isBare_16 (by decide) (fun h1 => ?_) (fun h1 => ?_)
      · skip
        refine lv_iload_n hx hb d_Forms_isBare_33 rfl (lv_at hl 1 rfl) ?_
        refine lv_if_ne (tgt := 41) hx hb d_Forms_isBare_34 (by decide) (fun _ => ?_) (fun _ => ?_)
        · skip
          refine lv_iconst (v := nI 0) hx hb d_Forms_isBare_41 (by decide) ?_
          exact q_zret E hr rfl hlk (⟨_, rfl, Or.inl rfl, rfl⟩) hF d_Forms_isBare_42
        · skip
          refine lv_iconst (v := nI 1) hx hb d_Forms_isBare_37 (by decide) ?_
          refine lv_goto (tgt := 42) hx hb d_Forms_isBare_38 (by decide) ?_
          exact q_zret E hr rfl hlk (⟨_, rfl, Or.inr rfl, rfl⟩) hF d_Forms_isBare_42
      · skip
        refine lv_iload_n hx hb d_Forms_isBare_19 rfl (lv_at hl 1 rfl) ?_
        refine lv_aload_n hx hb d_Forms_isBare_20 rfl (lv_at hl 2 rfl) ?_
        refine lv_iload_n hx hb d_Forms_isBare_21 rfl (lv_at hl 0 rfl) ?_
        refine q_cV (rest := [.int ot]) E (v_Row_at l g n0 rw ce t (nI i) ht) w_505 w_3 w_628 w_503 w_504 hd_Row_at rfl ⟨by decide, by decide⟩ (OB.recv E.2.2.2.2.2 (by rfl) hP.1) (⟨hP.1, hP.2⟩) hF hl.1 rfl (Nat.le_of_ble_eq_true rfl) d_Forms_isBare_22 ⟨by decide, by decide⟩ (qi (fun rz1 H1 locs hq hF => ?_))
        obtain ⟨-, hq⟩ := hq
        have hq := hq.symm
        subst hq
        refine lv_ior hx hb d_Forms_isBare_25 ?_
        refine lv_istore_n (lv' := [(1, .int (ot ||| rz1)), (2, .int (nI i)), (0, .ref rw)]) hx hb d_Forms_isBare_26 rfl hl (by decide) rfl (fun ls hl => ?_)
        refine lv_iinc (k := 1) (v := nI (i + 1)) (lv' := [(2, .int (nI (i + 1))), (1, .int (ot ||| rz1)), (0, .ref rw)]) hx hb d_Forms_isBare_27 hl rfl (i_inc i) (by decide) rfl (fun ls hl => ?_)
        refine lv_goto (tgt := 11) hx hb d_Forms_isBare_30 (by decide) ?_
        have hl : lv_has ls 3 [(2, .int (nI (i + 1))), (1, .int (ot ||| rz1)), (0, .ref rw)] := lv_sub hl [0, 1, 2] rfl
        exact ih (i + 1) _ _ ls (by omega) hF hl
  refine lv_aload_n hx hb d_Forms_isBare_0 rfl (lv_at hl 0 rfl) ?_
  refine lv_iconst (v := nI 0) hx hb d_Forms_isBare_1 (by decide) ?_
  refine q_cV (rest := []) E (v_Row_at l g n0 rw ce t (nI 0) ht) w_505 w_3 w_628 w_503 w_504 hd_Row_at rfl ⟨by decide, by decide⟩ (OB.recv E.2.2.2.2.2 (by rfl) hP.1) (⟨hP.1, hP.2⟩) hF hl.1 rfl (Nat.le_of_ble_eq_true rfl) d_Forms_isBare_2 ⟨by decide, by decide⟩ (qi (fun rz1 H1 locs hq hF => ?_))
  obtain ⟨-, hq⟩ := hq
  have hq := hq.symm
  subst hq
  refine lv_bipush (v := nI 31) hx hb d_Forms_isBare_5 (by decide) ?_
  refine lv_iand hx hb d_Forms_isBare_7 ?_
  refine lv_istore_n (lv' := [(1, .int (rz1 &&& (nI 31))), (0, .ref rw)]) hx hb d_Forms_isBare_8 rfl hl (by decide) rfl (fun ls hl => ?_)
  refine lv_iconst (v := nI 1) hx hb d_Forms_isBare_9 (by decide) ?_
  refine lv_istore_n (lv' := [(2, .int (nI 1)), (1, .int (rz1 &&& (nI 31))), (0, .ref rw)]) hx hb d_Forms_isBare_10 rfl hl (by decide) rfl (fun ls hl => ?_)
  have hl : lv_has ls 3 [(2, .int (nI 1)), (1, .int (rz1 &&& (nI 31))), (0, .ref rw)] := lv_sub hl [0, 1, 2] rfl
  exact lp 96 1 _ _ ls (by omega) hF hl
set_option maxHeartbeats 4000000 in
set_option maxRecDepth 100000 in
theorem v_Forms_readCoordinate (l : Launch) (g : WG) (n0 : Nat → Prop) (o cu fi : Nat) (F : Nat → Nat) (mi : Int64) (X : Nat → Nat) (r1 r2 r3 r4 : Nat) (t rw ce ts f9 : Nat) (hts : ts ≤ 96) (hf9 : f9 ≤ 48) : Ctr l y_Forms_readCoordinate (.code y_Forms_readCoordinate prog_4_method_5_code 6 (some FieldType.boolean)) 3 157 0 0 n0 g [.ref o, .ref t, .ref rw, .int (nI f9)] (fun H => FMX g n0 H o cu fi F mi X r1 r2 r3 r4 ∧ J14 g n0 H t ∧ RW9 g H rw ce ts) (QI (fun r H H' => (r = 0 ∨ r = 1) ∧ KJ g (fun q => n0 q) H H')) := by
  refine ctr_mk l (lv0 := [(0, .ref o), (1, .ref t), (2, .ref rw), (3, .int (nI f9))]) (by decide) (Nat.le_of_ble_eq_true rfl) rfl ?_
  intro p e s m below meth c ls E hr hlk hnm hl hP
  have hx := E.1
  have hb := E.2.1
  have hK := E.2.2.2.2.2
  have hF : ∀ q ∈ ([] : List Loc), n0 q.base := fun q hq => absurd hq List.not_mem_nil
  obtain ⟨hfm, h_t, hrw⟩ := hP
  have hk : KJ g (fun q => n0 q) s.heap s.heap := KJ.rf
  have lp : ∀ (k : Nat) (i : Nat) (H : Heap) (locs : List Loc) (ls : Array Slot), i + k = 48 → KJ g (fun q => n0 q) s.heap H → (∀ q ∈ locs, n0 q.base) → lv_has ls 6 [(4, .int (nI i)), (0, .ref o), (1, .ref t), (2, .ref rw), (3, .int (nI f9))] → W p l e { frames := 3, cells := 0, slots := 0, locals := 157 } s m [.ref o, .ref t, .ref rw, .int (nI f9)].toArray below meth c H locs 0 0 (MQ below (QcP (QI (fun r H H' => (r = 0 ∨ r = 1) ∧ KJ g (fun q => n0 q) H H'))) [.ref o, .ref t, .ref rw, .int (nI f9)].toArray s 0 0 (fun q => n0 q)) (F0 m 10 ls []) := by
    intro k
    induction k with
    | zero =>
      intro  i   H   locs   ls hi hk hF hl
      obtain rfl : i = 48 := by omega
      refine lv_iload hx hb d_Forms_readCoordinate_10 (lv_at hl 0 rfl) ?_
      refine lv_bipush (v := nI 48) hx hb d_Forms_readCoordinate_12 (by decide) ?_
      refine lv_icmp_ge (tgt := 63) hx hb d_Forms_readCoordinate_14 (by decide) (fun _ => ?_) (fun h9 => absurd (by decide) h9)
      refine lv_aload_n hx hb d_Forms_readCoordinate_63 rfl (lv_at hl 1 rfl) ?_
      refine q_get (C := "KateDesk$Forms") (T := T_Forms) (N := 6) (ci := 6) E ((hk.fmx hK hfm).1) in_Forms rfl 0 (by decide) w_272 rfl rfl d_Forms_readCoordinate_64 ?_
      refine lv_aload_n hx hb d_Forms_readCoordinate_67 rfl (lv_at hl 2 rfl) ?_
      refine lv_aload_n hx hb d_Forms_readCoordinate_68 rfl (lv_at hl 1 rfl) ?_
      refine q_get (C := "KateDesk$Forms") (T := T_Forms) (N := 6) (ci := 6) E ((hk.fmx hK hfm).1) in_Forms rfl 5 (by decide) w_277 rfl rfl d_Forms_readCoordinate_69 ?_
      refine q_cV (rest := []) E (c_Field_lift l g n0 fi t r4 F mi) w_302 w_4 w_646 w_300 w_301 hd_Field_lift rfl ⟨by decide, by decide⟩ (OB.recv E.2.2.2.2.2 (by rfl) (((hk.fmx hK hfm).2.1.2.1).1)) (⟨(hk.fmx hK hfm).2.1.2.1, (hk.j h_t), ((hk.fmx hK hfm).2.2.2.2.2)⟩) hF hl.1 rfl (Nat.le_of_ble_eq_true rfl) d_Forms_readCoordinate_72 ⟨by decide, by decide⟩ (qv (fun H1 locs hq hF => ?_))
      have hk := hk.tr (hq.w1 ((hk.j h_t)).1)
      refine lv_aload_n hx hb d_Forms_readCoordinate_75 rfl (lv_at hl 1 rfl) ?_
      refine q_get (C := "KateDesk$Forms") (T := T_Forms) (N := 6) (ci := 6) E ((hk.fmx hK hfm).1) in_Forms rfl 5 (by decide) w_277 rfl rfl d_Forms_readCoordinate_76 ?_
      refine lv_aload_n hx hb d_Forms_readCoordinate_79 rfl (lv_at hl 1 rfl) ?_
      refine q_get (C := "KateDesk$Forms") (T := T_Forms) (N := 6) (ci := 6) E ((hk.fmx hK hfm).1) in_Forms rfl 0 (by decide) w_272 rfl rfl d_Forms_readCoordinate_80 ?_
      refine q_get (C := "KateDesk$Field") (T := T_Field) (N := 7) (ci := 1) E ((hk.fmx hK hfm).2.1.2.1.1) in_Field rfl 0 (by decide) w_171 rfl rfl d_Forms_readCoordinate_83 ?_
      refine q_cS (rest := []) E (v_Limbs_less l g n0 r4 (F 0)) w_512 w_5 w_647 w_511 hd_Limbs_less rfl ⟨by decide, by decide⟩ (⟨((hk.fmx hK hfm).2.2.2.2.2), ((hk.fmx hK hfm).2.1.2.1.2 0 (by decide))⟩) hF hl.1 rfl (Nat.le_of_ble_eq_true rfl) d_Forms_readCoordinate_86 ⟨by decide, by decide⟩ (qi (fun rz1 H2 locs hq hF => ?_))
      obtain ⟨hbrz1, hq⟩ := hq
      have hq := hq.symm
      subst hq
      exact q_zret E hr (bool_n hbrz1) hlk (⟨_, rfl, hbrz1, hk⟩) hF d_Forms_readCoordinate_89
    | succ k ih =>
      intro  i   H   locs   ls hi hk hF hl
      have hi48 : i < 48 := by omega
      refine lv_iload hx hb d_Forms_readCoordinate_10 (lv_at hl 0 rfl) ?_
      refine lv_bipush (v := nI 48) hx hb d_Forms_readCoordinate_12 (by decide) ?_
      refine lv_icmp_ge (tgt := 63) hx hb d_Forms_readCoordinate_14 (by decide) (fun h9 => absurd h9 (nI_ge hi48 (by decide))) (fun _ => ?_)
      refine lv_iload_n hx hb d_Forms_readCoordinate_17 rfl (lv_at hl 4 rfl) ?_
      refine lv_iload hx hb d_Forms_readCoordinate_18 (lv_at hl 0 rfl) ?_
      refine lv_iadd hx hb d_Forms_readCoordinate_20 ?_
      refine lv_if_ne (tgt := 29) hx hb d_Forms_readCoordinate_21 (by decide) (fun _ => ?_) (fun _ => ?_)
      · skip
        refine lv_sipush (v := nI 255) hx hb d_Forms_readCoordinate_29 (by decide) ?_
        refine lv_istore (lv' := [(5, .int (nI 255)), (4, .int (nI i)), (0, .ref o), (1, .ref t), (2, .ref rw), (3, .int (nI f9))]) hx hb d_Forms_readCoordinate_32 hl (by decide) rfl (fun ls hl => ?_)
        refine lv_aload_n hx hb d_Forms_readCoordinate_34 rfl (lv_at hl 2 rfl) ?_
        refine q_get (C := "KateDesk$Forms") (T := T_Forms) (N := 6) (ci := 6) E ((hk.fmx hK hfm).1) in_Forms rfl 5 (by decide) w_277 rfl rfl d_Forms_readCoordinate_35 ?_
        refine lv_bipush (v := nI 47) hx hb d_Forms_readCoordinate_38 (by decide) ?_
        refine lv_iload hx hb d_Forms_readCoordinate_40 (lv_at hl 1 rfl) ?_
        refine lv_isub hx hb d_Forms_readCoordinate_42 ?_
        refine lv_topi (fun t9 e9 => ?_)
        obtain rfl : t9 = nI (47 - i) := e9.trans (pk_sub (by omega))
        refine lv_aload_n hx hb d_Forms_readCoordinate_43 rfl (lv_at hl 4 rfl) ?_
        refine lv_iload_n hx hb d_Forms_readCoordinate_44 rfl (lv_at hl 5 rfl) ?_
        refine lv_iload hx hb d_Forms_readCoordinate_45 (lv_at hl 1 rfl) ?_
        refine lv_iadd hx hb d_Forms_readCoordinate_47 ?_
        refine q_cV (rest := [.int (nI (47 - i)), .ref r4]) E (v_Row_at l g n0 rw ce ts ((nI f9) + (nI i)) hts) w_505 w_3 w_628 w_503 w_504 hd_Row_at rfl ⟨by decide, by decide⟩ (OB.recv E.2.2.2.2.2 (by rfl) ((hk.rw9 hK hrw).1)) (⟨(hk.rw9 hK hrw).1, (hk.rw9 hK hrw).2⟩) hF hl.1 rfl (Nat.le_of_ble_eq_true rfl) d_Forms_readCoordinate_48 ⟨by decide, by decide⟩ (qi (fun rz1 H1 locs hq hF => ?_))
        obtain ⟨-, hq⟩ := hq
        have hq := hq.symm
        subst hq
        refine lv_iload hx hb d_Forms_readCoordinate_51 (lv_at hl 0 rfl) ?_
        refine lv_iand hx hb d_Forms_readCoordinate_53 ?_
        refine q_cS (rest := []) E (v_Limbs_orByte l g n0 r4 (47 - i) (rz1 &&& (nI 255)) (by omega)) w_508 w_5 w_645 w_507 hd_Limbs_orByte rfl ⟨by decide, by decide⟩ ((hk.fmx hK hfm).2.2.2.2.2) hF hl.1 rfl (Nat.le_of_ble_eq_true rfl) d_Forms_readCoordinate_54 ⟨by decide, by decide⟩ (qv (fun H2 locs hq hF => ?_))
        have hk := hk.tr (hq.w1 (((hk.fmx hK hfm).2.2.2.2.2)).1)
        refine lv_iinc (k := 1) (v := nI (i + 1)) (lv' := [(4, .int (nI (i + 1))), (5, .int (nI 255)), (0, .ref o), (1, .ref t), (2, .ref rw), (3, .int (nI f9))]) hx hb d_Forms_readCoordinate_57 hl rfl (i_inc i) (by decide) rfl (fun ls hl => ?_)
        refine lv_goto (tgt := 10) hx hb d_Forms_readCoordinate_60 (by decide) ?_
        have hl : lv_has ls 6 [(4, .int (nI (i + 1))), (0, .ref o), (1, .ref t), (2, .ref rw), (3, .int (nI f9))] := lv_sub hl [0, 2, 3, 4, 5] rfl
        exact ih (i + 1) _ _ ls (by omega) hk hF hl
      · skip
        refine lv_bipush (v := nI 31) hx hb d_Forms_readCoordinate_24 (by decide) ?_
        refine lv_goto (tgt := 32) hx hb d_Forms_readCoordinate_26 (by decide) ?_
        refine lv_istore (lv' := [(5, .int (nI 31)), (4, .int (nI i)), (0, .ref o), (1, .ref t), (2, .ref rw), (3, .int (nI f9))]) hx hb d_Forms_readCoordinate_32 hl (by decide) rfl (fun ls hl => ?_)
        refine lv_aload_n hx hb d_Forms_readCoordinate_34 rfl (lv_at hl 2 rfl) ?_
        refine q_get (C := "KateDesk$Forms") (T := T_Forms) (N := 6) (ci := 6) E ((hk.fmx hK hfm).1) in_Forms rfl 5 (by decide) w_277 rfl rfl d_Forms_readCoordinate_35 ?_
        refine lv_bipush (v := nI 47) hx hb d_Forms_readCoordinate_38 (by decide) ?_
        refine lv_iload hx hb d_Forms_readCoordinate_40 (lv_at hl 1 rfl) ?_
        refine lv_isub hx hb d_Forms_readCoordinate_42 ?_
        refine lv_topi (fun t9 e9 => ?_)
        obtain rfl : t9 = nI (47 - i) := e9.trans (pk_sub (by omega))
        refine lv_aload_n hx hb d_Forms_readCoordinate_43 rfl (lv_at hl 4 rfl) ?_
        refine lv_iload_n hx hb d_Forms_readCoordinate_44 rfl (lv_at hl 5 rfl) ?_
        refine lv_iload hx hb d_Forms_readCoordinate_45 (lv_at hl 1 rfl) ?_
        refine lv_iadd hx hb d_Forms_readCoordinate_47 ?_
        refine q_cV (rest := [.int (nI (47 - i)), .ref r4]) E (v_Row_at l g n0 rw ce ts ((nI f9) + (nI i)) hts) w_505 w_3 w_628 w_503 w_504 hd_Row_at rfl ⟨by decide, by decide⟩ (OB.recv E.2.2.2.2.2 (by rfl) ((hk.rw9 hK hrw).1)) (⟨(hk.rw9 hK hrw).1, (hk.rw9 hK hrw).2⟩) hF hl.1 rfl (Nat.le_of_ble_eq_true rfl) d_Forms_readCoordinate_48 ⟨by decide, by decide⟩ (qi (fun rz1 H1 locs hq hF => ?_))
        obtain ⟨-, hq⟩ := hq
        have hq := hq.symm
        subst hq
        refine lv_iload hx hb d_Forms_readCoordinate_51 (lv_at hl 0 rfl) ?_
        refine lv_iand hx hb d_Forms_readCoordinate_53 ?_
        refine q_cS (rest := []) E (v_Limbs_orByte l g n0 r4 (47 - i) (rz1 &&& (nI 31)) (by omega)) w_508 w_5 w_645 w_507 hd_Limbs_orByte rfl ⟨by decide, by decide⟩ ((hk.fmx hK hfm).2.2.2.2.2) hF hl.1 rfl (Nat.le_of_ble_eq_true rfl) d_Forms_readCoordinate_54 ⟨by decide, by decide⟩ (qv (fun H2 locs hq hF => ?_))
        have hk := hk.tr (hq.w1 (((hk.fmx hK hfm).2.2.2.2.2)).1)
        refine lv_iinc (k := 1) (v := nI (i + 1)) (lv' := [(4, .int (nI (i + 1))), (5, .int (nI 31)), (0, .ref o), (1, .ref t), (2, .ref rw), (3, .int (nI f9))]) hx hb d_Forms_readCoordinate_57 hl rfl (i_inc i) (by decide) rfl (fun ls hl => ?_)
        refine lv_goto (tgt := 10) hx hb d_Forms_readCoordinate_60 (by decide) ?_
        have hl : lv_has ls 6 [(4, .int (nI (i + 1))), (0, .ref o), (1, .ref t), (2, .ref rw), (3, .int (nI f9))] := lv_sub hl [0, 2, 3, 4, 5] rfl
        exact ih (i + 1) _ _ ls (by omega) hk hF hl
  refine lv_aload_n hx hb d_Forms_readCoordinate_0 rfl (lv_at hl 0 rfl) ?_
  refine q_get (C := "KateDesk$Forms") (T := T_Forms) (N := 6) (ci := 6) E ((hk.fmx hK hfm).1) in_Forms rfl 5 (by decide) w_277 rfl rfl d_Forms_readCoordinate_1 ?_
  refine q_cS (rest := []) E (c_Limbs_clear l g n0 r4) w_498 w_5 w_644 w_497 hd_Limbs_clear rfl ⟨by decide, by decide⟩ ((hk.fmx hK hfm).2.2.2.2.2) hF hl.1 rfl (Nat.le_of_ble_eq_true rfl) d_Forms_readCoordinate_4 ⟨by decide, by decide⟩ (qv (fun H1 locs hq hF => ?_))
  have hk := hk.tr (hq.1.w1 (((hk.fmx hK hfm).2.2.2.2.2)).1)
  refine lv_iconst (v := nI 0) hx hb d_Forms_readCoordinate_7 (by decide) ?_
  refine lv_istore (lv' := [(4, .int (nI 0)), (0, .ref o), (1, .ref t), (2, .ref rw), (3, .int (nI f9))]) hx hb d_Forms_readCoordinate_8 hl (by decide) rfl (fun ls hl => ?_)
  have hl : lv_has ls 6 [(4, .int (nI 0)), (0, .ref o), (1, .ref t), (2, .ref rw), (3, .int (nI f9))] := lv_sub hl [0, 1, 2, 3, 4] rfl
  exact lp 48 0 _ _ ls (by omega) hk hF hl
set_option maxHeartbeats 4000000 in
set_option maxRecDepth 100000 in
theorem v_Forms_read (l : Launch) (g : WG) (n0 : Nat → Prop) (o cu fi : Nat) (F : Nat → Nat) (mi : Int64) (X : Nat → Nat) (r1 r2 r3 r4 : Nat) (t t1 t2 t3 rw ce ts : Nat) (hts : ts ≤ 96) (h32 : t3 ≠ t2) : Ctr l y_Forms_read (.code y_Forms_read prog_4_method_2_code 5 (some FieldType.int)) 5 182 0 0 n0 g [.ref o, .ref t, .ref rw] (fun H => FMX g n0 H o cu fi F mi X r1 r2 r3 r4 ∧ PT g n0 H t t1 t2 t3 ∧ RW9 g H rw ce ts) (QI (fun r H H' => KJ g (fun q => n0 q) H H')) := by
  refine ctr_mk l (lv0 := [(0, .ref o), (1, .ref t), (2, .ref rw)]) (by decide) (Nat.le_of_ble_eq_true rfl) rfl ?_
  intro p e s m below meth c ls E hr hlk hnm hl hP
  have hx := E.1
  have hb := E.2.1
  have hK := E.2.2.2.2.2
  have hF : ∀ q ∈ ([] : List Loc), n0 q.base := fun q hq => absurd hq List.not_mem_nil
  obtain ⟨hfm, h_t, hrw⟩ := hP
  have hk : KJ g (fun q => n0 q) s.heap s.heap := KJ.rf
  refine lv_aload_n hx hb d_Forms_read_0 rfl (lv_at hl 2 rfl) ?_
  refine q_get (C := "KateDesk$Row") (T := T_Row) (N := 2) (ci := 3) E ((hk.rw9 hK hrw).1) in_Row rfl 1 (by decide) w_73 rfl rfl d_Forms_read_1 ?_
  refine lv_bipush (v := nI 48) hx hb d_Forms_read_4 (by decide) ?_
  refine lv_icmp_eq (tgt := 20) hx hb d_Forms_read_6 (by decide) (fun _ => ?_) (fun _ => ?_)
  · skip
    refine lv_aload_n hx hb d_Forms_read_20 rfl (lv_at hl 2 rfl) ?_
    refine q_get (C := "KateDesk$Row") (T := T_Row) (N := 2) (ci := 3) E ((hk.rw9 hK hrw).1) in_Row rfl 1 (by decide) w_73 rfl rfl d_Forms_read_21 ?_
    refine lv_bipush (v := nI 48) hx hb d_Forms_read_24 (by decide) ?_
    refine lv_icmp_ne (tgt := 33) hx hb d_Forms_read_26 (by decide) (fun _ => ?_) (fun _ => ?_)
    · skip
      refine lv_iconst (v := nI 0) hx hb d_Forms_read_33 (by decide) ?_
      refine lv_istore_n (lv' := [(3, .int (nI 0)), (0, .ref o), (1, .ref t), (2, .ref rw)]) hx hb d_Forms_read_34 rfl hl (by decide) rfl (fun ls hl => ?_)
      refine lv_aload_n hx hb d_Forms_read_35 rfl (lv_at hl 3 rfl) ?_
      refine lv_iconst (v := nI 0) hx hb d_Forms_read_36 (by decide) ?_
      refine q_cV (rest := []) E (v_Row_at l g n0 rw ce ts (nI 0) hts) w_505 w_3 w_628 w_503 w_504 hd_Row_at rfl ⟨by decide, by decide⟩ (OB.recv E.2.2.2.2.2 (by rfl) ((hk.rw9 hK hrw).1)) (⟨(hk.rw9 hK hrw).1, (hk.rw9 hK hrw).2⟩) hF hl.1 rfl (Nat.le_of_ble_eq_true rfl) d_Forms_read_37 ⟨by decide, by decide⟩ (qi (fun rz1 H1 locs hq hF => ?_))
      obtain ⟨-, hq⟩ := hq
      have hq := hq.symm
      subst hq
      refine lv_iconst (v := nI 5) hx hb d_Forms_read_40 (by decide) ?_
      refine lv_ishr hx hb d_Forms_read_41 ?_
      refine lv_istore (lv' := [(4, .int (rz1 >>> ((nI 5) &&& 31))), (3, .int (nI 0)), (0, .ref o), (1, .ref t), (2, .ref rw)]) hx hb d_Forms_read_42 hl (by decide) rfl (fun ls hl => ?_)
      refine lv_iload hx hb d_Forms_read_44 (lv_at hl 0 rfl) ?_
      refine lv_iload_n hx hb d_Forms_read_46 rfl (lv_at hl 1 rfl) ?_
      refine q_cS (rest := []) E (v_Forms_canBe l g n0 (rz1 >>> ((nI 5) &&& 31)) (nI 0)) w_631 w_13 w_629 w_630 hd_Forms_canBe rfl ⟨by decide, by decide⟩ trivial hF hl.1 rfl (Nat.le_of_ble_eq_true rfl) d_Forms_read_47 ⟨by decide, by decide⟩ (qi (fun rz2 H2 locs hq hF => ?_))
      obtain ⟨hbrz2, hq⟩ := hq
      have hq := hq.symm
      subst hq
      refine lv_if_ne (tgt := 55) hx hb d_Forms_read_50 (by decide) (fun _ => ?_) (fun _ => ?_)
      · skip
        refine lv_iload hx hb d_Forms_read_55 (lv_at hl 0 rfl) ?_
        refine lv_iconst (v := nI 2) hx hb d_Forms_read_57 (by decide) ?_
        refine lv_iand hx hb d_Forms_read_58 ?_
        refine lv_if_eq (tgt := 79) hx hb d_Forms_read_59 (by decide) (fun _ => ?_) (fun _ => ?_)
        · skip
          refine lv_aload_n hx hb d_Forms_read_79 rfl (lv_at hl 2 rfl) ?_
          refine lv_aload_n hx hb d_Forms_read_80 rfl (lv_at hl 3 rfl) ?_
          refine q_get (C := "KateDesk$Point") (T := T_Point) (N := 3) (ci := 2) E ((hk.pt hK h_t).1) in_Point rfl 0 (by decide) w_47 rfl rfl d_Forms_read_81 ?_
          refine lv_aload_n hx hb d_Forms_read_84 rfl (lv_at hl 4 rfl) ?_
          refine lv_iconst (v := nI 0) hx hb d_Forms_read_85 (by decide) ?_
          refine q_cV (rest := []) E (v_Forms_readCoordinate l g n0 o cu fi F mi X r1 r2 r3 r4 t1 rw ce ts 0 hts (by decide)) w_643 w_13 w_640 w_642 (bw_s 4 rfl) hd_Forms_readCoordinate rfl ⟨by decide, by decide⟩ (OB.recv E.2.2.2.2.2 (by rfl) ((hk.fmx hK hfm).1)) (⟨(hk.fmx hK hfm), ((hk.pt hK h_t).2.1), hk.rw9 hK hrw⟩) hF hl.1 rfl (Nat.le_of_ble_eq_true rfl) d_Forms_read_86 ⟨by decide, by decide⟩ (qi (fun rz3 H3 locs hq hF => ?_))
          obtain ⟨hbrz3, hq⟩ := hq
          have hk := hk.tr hq
          refine lv_if_eq (tgt := 110) hx hb d_Forms_read_89 (by decide) (fun _ => ?_) (fun _ => ?_)
          · skip
            refine lv_iconst (v := nI 4) hx hb d_Forms_read_110 (by decide) ?_
            exact q_iret E hr hlk (⟨_, rfl, hk⟩) hF d_Forms_read_111
          · skip
            refine lv_iload_n hx hb d_Forms_read_92 rfl (lv_at hl 1 rfl) ?_
            refine lv_if_ne (tgt := 112) hx hb d_Forms_read_93 (by decide) (fun _ => ?_) (fun _ => ?_)
            · skip
              refine lv_aload_n hx hb d_Forms_read_112 rfl (lv_at hl 2 rfl) ?_
              refine q_get (C := "KateDesk$Forms") (T := T_Forms) (N := 6) (ci := 6) E ((hk.fmx hK hfm).1) in_Forms rfl 1 (by decide) w_273 rfl rfl d_Forms_read_113 ?_
              refine lv_aload_n hx hb d_Forms_read_116 rfl (lv_at hl 2 rfl) ?_
              refine q_get (C := "KateDesk$Forms") (T := T_Forms) (N := 6) (ci := 6) E ((hk.fmx hK hfm).1) in_Forms rfl 3 (by decide) w_275 rfl rfl d_Forms_read_117 ?_
              refine lv_aload_n hx hb d_Forms_read_120 rfl (lv_at hl 3 rfl) ?_
              refine q_get (C := "KateDesk$Point") (T := T_Point) (N := 3) (ci := 2) E ((hk.pt hK h_t).1) in_Point rfl 0 (by decide) w_47 rfl rfl d_Forms_read_121 ?_
              refine q_cV (rest := []) E (v_Curve_squareOfY l g n0 cu fi F mi X r2 t1) w_651 w_11 w_648 w_649 w_650 hd_Curve_squareOfY rfl ⟨by decide, by decide⟩ (OB.recv E.2.2.2.2.2 (by rfl) ((hk.fmx hK hfm).2.1.1)) (⟨(hk.fmx hK hfm).2.1, ((hk.fmx hK hfm).2.2.2.1), ((hk.pt hK h_t).2.1)⟩) hF hl.1 rfl (Nat.le_of_ble_eq_true rfl) d_Forms_read_124 ⟨by decide, by decide⟩ (qv (fun H4 locs hq hF => ?_))
              have hk := hk.tr (hq.mono (fun q h => h.elim (fun h => h ▸ ((hk.fmx hK hfm).2.1.2.2 6 (by decide)).1) (fun h => h.elim (fun h => h ▸ ((hk.fmx hK hfm).2.1.2.2 7 (by decide)).1) (fun h => h ▸ (((hk.fmx hK hfm).2.2.2.1)).1))))
              refine lv_iload_n hx hb d_Forms_read_127 rfl (lv_at hl 1 rfl) ?_
              refine lv_if_eq (tgt := 151) hx hb d_Forms_read_128 (by decide) (fun _ => ?_) (fun _ => ?_)
              · skip
                refine lv_aload_n hx hb d_Forms_read_151 rfl (lv_at hl 3 rfl) ?_
                refine q_get (C := "KateDesk$Point") (T := T_Point) (N := 3) (ci := 2) E ((hk.pt hK h_t).1) in_Point rfl 2 (by decide) w_55 rfl rfl d_Forms_read_152 ?_
                refine lv_aload_n hx hb d_Forms_read_155 rfl (lv_at hl 2 rfl) ?_
                refine q_get (C := "KateDesk$Forms") (T := T_Forms) (N := 6) (ci := 6) E ((hk.fmx hK hfm).1) in_Forms rfl 0 (by decide) w_272 rfl rfl d_Forms_read_156 ?_
                refine q_get (C := "KateDesk$Field") (T := T_Field) (N := 7) (ci := 1) E ((hk.fmx hK hfm).2.1.2.1.1) in_Field rfl 1 (by decide) w_174 rfl rfl d_Forms_read_159 ?_
                obtain ⟨f4, hf4⟩ := (((hk.fmx hK hfm).2.1.2.1.2 1 (by decide))).2
                refine q_cS (rest := []) E (c_Limbs_copy l g n0 t3 (F 1) f4) w_146 w_5 w_665 w_145 hd_Limbs_copy rfl ⟨by decide, by decide⟩ (⟨((hk.pt hK h_t).2.2.2), hf4⟩) hF hl.1 rfl (Nat.le_of_ble_eq_true rfl) d_Forms_read_162 ⟨by decide, by decide⟩ (qv (fun H5 locs hq hF => ?_))
                have hk := hk.tr (hq.1.w1 (((hk.pt hK h_t).2.2.2)).1)
                refine lv_aload_n hx hb d_Forms_read_165 rfl (lv_at hl 2 rfl) ?_
                refine q_get (C := "KateDesk$Forms") (T := T_Forms) (N := 6) (ci := 6) E ((hk.fmx hK hfm).1) in_Forms rfl 0 (by decide) w_272 rfl rfl d_Forms_read_166 ?_
                refine lv_aload_n hx hb d_Forms_read_169 rfl (lv_at hl 2 rfl) ?_
                refine q_get (C := "KateDesk$Forms") (T := T_Forms) (N := 6) (ci := 6) E ((hk.fmx hK hfm).1) in_Forms rfl 4 (by decide) w_276 rfl rfl d_Forms_read_170 ?_
                refine lv_aload_n hx hb d_Forms_read_173 rfl (lv_at hl 3 rfl) ?_
                refine q_get (C := "KateDesk$Point") (T := T_Point) (N := 3) (ci := 2) E ((hk.pt hK h_t).1) in_Point rfl 1 (by decide) w_51 rfl rfl d_Forms_read_174 ?_
                refine lv_aload_n hx hb d_Forms_read_177 rfl (lv_at hl 3 rfl) ?_
                refine q_get (C := "KateDesk$Point") (T := T_Point) (N := 3) (ci := 2) E ((hk.pt hK h_t).1) in_Point rfl 1 (by decide) w_51 rfl rfl d_Forms_read_178 ?_
                refine q_cV (rest := []) E (c_Field_multiply l g n0 fi r3 t2 t2 F mi) w_165 w_4 w_666 w_163 w_164 hd_Field_multiply rfl ⟨by decide, by decide⟩ (OB.recv E.2.2.2.2.2 (by rfl) (((hk.fmx hK hfm).2.1.2.1).1)) (⟨(hk.fmx hK hfm).2.1.2.1, ((hk.fmx hK hfm).2.2.2.2.1), ((hk.pt hK h_t).2.2.1), ((hk.pt hK h_t).2.2.1)⟩) hF hl.1 rfl (Nat.le_of_ble_eq_true rfl) d_Forms_read_181 ⟨by decide, by decide⟩ (qv (fun H6 locs hq hF => ?_))
                have hk := hk.tr (hq.w1 (((hk.fmx hK hfm).2.2.2.2.1)).1)
                refine lv_aload_n hx hb d_Forms_read_184 rfl (lv_at hl 2 rfl) ?_
                refine q_get (C := "KateDesk$Forms") (T := T_Forms) (N := 6) (ci := 6) E ((hk.fmx hK hfm).1) in_Forms rfl 4 (by decide) w_276 rfl rfl d_Forms_read_185 ?_
                refine lv_aload_n hx hb d_Forms_read_188 rfl (lv_at hl 2 rfl) ?_
                refine q_get (C := "KateDesk$Forms") (T := T_Forms) (N := 6) (ci := 6) E ((hk.fmx hK hfm).1) in_Forms rfl 3 (by decide) w_275 rfl rfl d_Forms_read_189 ?_
                refine q_cS (rest := []) E (v_Limbs_equal l g n0 r3 r2) w_669 w_5 w_667 w_668 hd_Limbs_equal rfl ⟨by decide, by decide⟩ (⟨((hk.fmx hK hfm).2.2.2.2.1), ((hk.fmx hK hfm).2.2.2.1)⟩) hF hl.1 rfl (Nat.le_of_ble_eq_true rfl) d_Forms_read_192 ⟨by decide, by decide⟩ (qi (fun rz5 H7 locs hq hF => ?_))
                obtain ⟨hbrz5, hq⟩ := hq
                have hq := hq.symm
                subst hq
                refine lv_if_eq (tgt := 202) hx hb d_Forms_read_195 (by decide) (fun _ => ?_) (fun _ => ?_)
                · skip
                  refine lv_iconst (v := nI 5) hx hb d_Forms_read_202 (by decide) ?_
                  exact q_iret E hr hlk (⟨_, rfl, hk⟩) hF d_Forms_read_203
                · skip
                  refine lv_iconst (v := nI 0) hx hb d_Forms_read_198 (by decide) ?_
                  refine lv_goto (tgt := 203) hx hb d_Forms_read_199 (by decide) ?_
                  exact q_iret E hr hlk (⟨_, rfl, hk⟩) hF d_Forms_read_203
              · skip
                refine lv_aload_n hx hb d_Forms_read_131 rfl (lv_at hl 2 rfl) ?_
                refine lv_aload_n hx hb d_Forms_read_132 rfl (lv_at hl 3 rfl) ?_
                refine q_get (C := "KateDesk$Point") (T := T_Point) (N := 3) (ci := 2) E ((hk.pt hK h_t).1) in_Point rfl 1 (by decide) w_51 rfl rfl d_Forms_read_133 ?_
                refine lv_iload hx hb d_Forms_read_136 (lv_at hl 0 rfl) ?_
                refine lv_iconst (v := nI 1) hx hb d_Forms_read_138 (by decide) ?_
                refine lv_iand hx hb d_Forms_read_139 ?_
                refine lv_if_eq (tgt := 147) hx hb d_Forms_read_140 (by decide) (fun _ => ?_) (fun _ => ?_)
                · skip
                  refine lv_iconst (v := nI 0) hx hb d_Forms_read_147 (by decide) ?_
                  refine q_cV (rest := []) E (v_Forms_findY l g n0 o cu fi F mi X r1 r2 r3 r4 t2 (nI 0)) w_657 w_13 w_654 w_656 (bw_s 5 rfl) hd_Forms_findY rfl ⟨by decide, by decide⟩ (OB.recv E.2.2.2.2.2 (by rfl) ((hk.fmx hK hfm).1)) (⟨(hk.fmx hK hfm), ((hk.pt hK h_t).2.2.1)⟩) hF hl.1 rfl (Nat.le_of_ble_eq_true rfl) d_Forms_read_148 ⟨by decide, by decide⟩ (qv (fun H5 locs hq hF => ?_))
                  have hk := hk.tr hq
                  refine lv_aload_n hx hb d_Forms_read_151 rfl (lv_at hl 3 rfl) ?_
                  refine q_get (C := "KateDesk$Point") (T := T_Point) (N := 3) (ci := 2) E ((hk.pt hK h_t).1) in_Point rfl 2 (by decide) w_55 rfl rfl d_Forms_read_152 ?_
                  refine lv_aload_n hx hb d_Forms_read_155 rfl (lv_at hl 2 rfl) ?_
                  refine q_get (C := "KateDesk$Forms") (T := T_Forms) (N := 6) (ci := 6) E ((hk.fmx hK hfm).1) in_Forms rfl 0 (by decide) w_272 rfl rfl d_Forms_read_156 ?_
                  refine q_get (C := "KateDesk$Field") (T := T_Field) (N := 7) (ci := 1) E ((hk.fmx hK hfm).2.1.2.1.1) in_Field rfl 1 (by decide) w_174 rfl rfl d_Forms_read_159 ?_
                  obtain ⟨f4, hf4⟩ := (((hk.fmx hK hfm).2.1.2.1.2 1 (by decide))).2
                  refine q_cS (rest := []) E (c_Limbs_copy l g n0 t3 (F 1) f4) w_146 w_5 w_665 w_145 hd_Limbs_copy rfl ⟨by decide, by decide⟩ (⟨((hk.pt hK h_t).2.2.2), hf4⟩) hF hl.1 rfl (Nat.le_of_ble_eq_true rfl) d_Forms_read_162 ⟨by decide, by decide⟩ (qv (fun H6 locs hq hF => ?_))
                  have hk := hk.tr (hq.1.w1 (((hk.pt hK h_t).2.2.2)).1)
                  refine lv_aload_n hx hb d_Forms_read_165 rfl (lv_at hl 2 rfl) ?_
                  refine q_get (C := "KateDesk$Forms") (T := T_Forms) (N := 6) (ci := 6) E ((hk.fmx hK hfm).1) in_Forms rfl 0 (by decide) w_272 rfl rfl d_Forms_read_166 ?_
                  refine lv_aload_n hx hb d_Forms_read_169 rfl (lv_at hl 2 rfl) ?_
                  refine q_get (C := "KateDesk$Forms") (T := T_Forms) (N := 6) (ci := 6) E ((hk.fmx hK hfm).1) in_Forms rfl 4 (by decide) w_276 rfl rfl d_Forms_read_170 ?_
                  refine lv_aload_n hx hb d_Forms_read_173 rfl (lv_at hl 3 rfl) ?_
                  refine q_get (C := "KateDesk$Point") (T := T_Point) (N := 3) (ci := 2) E ((hk.pt hK h_t).1) in_Point rfl 1 (by decide) w_51 rfl rfl d_Forms_read_174 ?_
                  refine lv_aload_n hx hb d_Forms_read_177 rfl (lv_at hl 3 rfl) ?_
                  refine q_get (C := "KateDesk$Point") (T := T_Point) (N := 3) (ci := 2) E ((hk.pt hK h_t).1) in_Point rfl 1 (by decide) w_51 rfl rfl d_Forms_read_178 ?_
                  refine q_cV (rest := []) E (c_Field_multiply l g n0 fi r3 t2 t2 F mi) w_165 w_4 w_666 w_163 w_164 hd_Field_multiply rfl ⟨by decide, by decide⟩ (OB.recv E.2.2.2.2.2 (by rfl) (((hk.fmx hK hfm).2.1.2.1).1)) (⟨(hk.fmx hK hfm).2.1.2.1, ((hk.fmx hK hfm).2.2.2.2.1), ((hk.pt hK h_t).2.2.1), ((hk.pt hK h_t).2.2.1)⟩) hF hl.1 rfl (Nat.le_of_ble_eq_true rfl) d_Forms_read_181 ⟨by decide, by decide⟩ (qv (fun H7 locs hq hF => ?_))
                  have hk := hk.tr (hq.w1 (((hk.fmx hK hfm).2.2.2.2.1)).1)
                  refine lv_aload_n hx hb d_Forms_read_184 rfl (lv_at hl 2 rfl) ?_
                  refine q_get (C := "KateDesk$Forms") (T := T_Forms) (N := 6) (ci := 6) E ((hk.fmx hK hfm).1) in_Forms rfl 4 (by decide) w_276 rfl rfl d_Forms_read_185 ?_
                  refine lv_aload_n hx hb d_Forms_read_188 rfl (lv_at hl 2 rfl) ?_
                  refine q_get (C := "KateDesk$Forms") (T := T_Forms) (N := 6) (ci := 6) E ((hk.fmx hK hfm).1) in_Forms rfl 3 (by decide) w_275 rfl rfl d_Forms_read_189 ?_
                  refine q_cS (rest := []) E (v_Limbs_equal l g n0 r3 r2) w_669 w_5 w_667 w_668 hd_Limbs_equal rfl ⟨by decide, by decide⟩ (⟨((hk.fmx hK hfm).2.2.2.2.1), ((hk.fmx hK hfm).2.2.2.1)⟩) hF hl.1 rfl (Nat.le_of_ble_eq_true rfl) d_Forms_read_192 ⟨by decide, by decide⟩ (qi (fun rz5 H8 locs hq hF => ?_))
                  obtain ⟨hbrz5, hq⟩ := hq
                  have hq := hq.symm
                  subst hq
                  refine lv_if_eq (tgt := 202) hx hb d_Forms_read_195 (by decide) (fun _ => ?_) (fun _ => ?_)
                  · skip
                    refine lv_iconst (v := nI 5) hx hb d_Forms_read_202 (by decide) ?_
                    exact q_iret E hr hlk (⟨_, rfl, hk⟩) hF d_Forms_read_203
                  · skip
                    refine lv_iconst (v := nI 0) hx hb d_Forms_read_198 (by decide) ?_
                    refine lv_goto (tgt := 203) hx hb d_Forms_read_199 (by decide) ?_
                    exact q_iret E hr hlk (⟨_, rfl, hk⟩) hF d_Forms_read_203
                · skip
                  refine lv_iconst (v := nI 1) hx hb d_Forms_read_143 (by decide) ?_
                  refine lv_goto (tgt := 148) hx hb d_Forms_read_144 (by decide) ?_
                  refine q_cV (rest := []) E (v_Forms_findY l g n0 o cu fi F mi X r1 r2 r3 r4 t2 (nI 1)) w_657 w_13 w_654 w_656 (bw_s 5 rfl) hd_Forms_findY rfl ⟨by decide, by decide⟩ (OB.recv E.2.2.2.2.2 (by rfl) ((hk.fmx hK hfm).1)) (⟨(hk.fmx hK hfm), ((hk.pt hK h_t).2.2.1)⟩) hF hl.1 rfl (Nat.le_of_ble_eq_true rfl) d_Forms_read_148 ⟨by decide, by decide⟩ (qv (fun H5 locs hq hF => ?_))
                  have hk := hk.tr hq
                  refine lv_aload_n hx hb d_Forms_read_151 rfl (lv_at hl 3 rfl) ?_
                  refine q_get (C := "KateDesk$Point") (T := T_Point) (N := 3) (ci := 2) E ((hk.pt hK h_t).1) in_Point rfl 2 (by decide) w_55 rfl rfl d_Forms_read_152 ?_
                  refine lv_aload_n hx hb d_Forms_read_155 rfl (lv_at hl 2 rfl) ?_
                  refine q_get (C := "KateDesk$Forms") (T := T_Forms) (N := 6) (ci := 6) E ((hk.fmx hK hfm).1) in_Forms rfl 0 (by decide) w_272 rfl rfl d_Forms_read_156 ?_
                  refine q_get (C := "KateDesk$Field") (T := T_Field) (N := 7) (ci := 1) E ((hk.fmx hK hfm).2.1.2.1.1) in_Field rfl 1 (by decide) w_174 rfl rfl d_Forms_read_159 ?_
                  obtain ⟨f4, hf4⟩ := (((hk.fmx hK hfm).2.1.2.1.2 1 (by decide))).2
                  refine q_cS (rest := []) E (c_Limbs_copy l g n0 t3 (F 1) f4) w_146 w_5 w_665 w_145 hd_Limbs_copy rfl ⟨by decide, by decide⟩ (⟨((hk.pt hK h_t).2.2.2), hf4⟩) hF hl.1 rfl (Nat.le_of_ble_eq_true rfl) d_Forms_read_162 ⟨by decide, by decide⟩ (qv (fun H6 locs hq hF => ?_))
                  have hk := hk.tr (hq.1.w1 (((hk.pt hK h_t).2.2.2)).1)
                  refine lv_aload_n hx hb d_Forms_read_165 rfl (lv_at hl 2 rfl) ?_
                  refine q_get (C := "KateDesk$Forms") (T := T_Forms) (N := 6) (ci := 6) E ((hk.fmx hK hfm).1) in_Forms rfl 0 (by decide) w_272 rfl rfl d_Forms_read_166 ?_
                  refine lv_aload_n hx hb d_Forms_read_169 rfl (lv_at hl 2 rfl) ?_
                  refine q_get (C := "KateDesk$Forms") (T := T_Forms) (N := 6) (ci := 6) E ((hk.fmx hK hfm).1) in_Forms rfl 4 (by decide) w_276 rfl rfl d_Forms_read_170 ?_
                  refine lv_aload_n hx hb d_Forms_read_173 rfl (lv_at hl 3 rfl) ?_
                  refine q_get (C := "KateDesk$Point") (T := T_Point) (N := 3) (ci := 2) E ((hk.pt hK h_t).1) in_Point rfl 1 (by decide) w_51 rfl rfl d_Forms_read_174 ?_
                  refine lv_aload_n hx hb d_Forms_read_177 rfl (lv_at hl 3 rfl) ?_
                  refine q_get (C := "KateDesk$Point") (T := T_Point) (N := 3) (ci := 2) E ((hk.pt hK h_t).1) in_Point rfl 1 (by decide) w_51 rfl rfl d_Forms_read_178 ?_
                  refine q_cV (rest := []) E (c_Field_multiply l g n0 fi r3 t2 t2 F mi) w_165 w_4 w_666 w_163 w_164 hd_Field_multiply rfl ⟨by decide, by decide⟩ (OB.recv E.2.2.2.2.2 (by rfl) (((hk.fmx hK hfm).2.1.2.1).1)) (⟨(hk.fmx hK hfm).2.1.2.1, ((hk.fmx hK hfm).2.2.2.2.1), ((hk.pt hK h_t).2.2.1), ((hk.pt hK h_t).2.2.1)⟩) hF hl.1 rfl (Nat.le_of_ble_eq_true rfl) d_Forms_read_181 ⟨by decide, by decide⟩ (qv (fun H7 locs hq hF => ?_))
                  have hk := hk.tr (hq.w1 (((hk.fmx hK hfm).2.2.2.2.1)).1)
                  refine lv_aload_n hx hb d_Forms_read_184 rfl (lv_at hl 2 rfl) ?_
                  refine q_get (C := "KateDesk$Forms") (T := T_Forms) (N := 6) (ci := 6) E ((hk.fmx hK hfm).1) in_Forms rfl 4 (by decide) w_276 rfl rfl d_Forms_read_185 ?_
                  refine lv_aload_n hx hb d_Forms_read_188 rfl (lv_at hl 2 rfl) ?_
                  refine q_get (C := "KateDesk$Forms") (T := T_Forms) (N := 6) (ci := 6) E ((hk.fmx hK hfm).1) in_Forms rfl 3 (by decide) w_275 rfl rfl d_Forms_read_189 ?_
                  refine q_cS (rest := []) E (v_Limbs_equal l g n0 r3 r2) w_669 w_5 w_667 w_668 hd_Limbs_equal rfl ⟨by decide, by decide⟩ (⟨((hk.fmx hK hfm).2.2.2.2.1), ((hk.fmx hK hfm).2.2.2.1)⟩) hF hl.1 rfl (Nat.le_of_ble_eq_true rfl) d_Forms_read_192 ⟨by decide, by decide⟩ (qi (fun rz5 H8 locs hq hF => ?_))
                  obtain ⟨hbrz5, hq⟩ := hq
                  have hq := hq.symm
                  subst hq
                  refine lv_if_eq (tgt := 202) hx hb d_Forms_read_195 (by decide) (fun _ => ?_) (fun _ => ?_)
                  · skip
                    refine lv_iconst (v := nI 5) hx hb d_Forms_read_202 (by decide) ?_
                    exact q_iret E hr hlk (⟨_, rfl, hk⟩) hF d_Forms_read_203
                  · skip
                    refine lv_iconst (v := nI 0) hx hb d_Forms_read_198 (by decide) ?_
                    refine lv_goto (tgt := 203) hx hb d_Forms_read_199 (by decide) ?_
                    exact q_iret E hr hlk (⟨_, rfl, hk⟩) hF d_Forms_read_203
            · skip
              refine lv_aload_n hx hb d_Forms_read_96 rfl (lv_at hl 2 rfl) ?_
              refine lv_aload_n hx hb d_Forms_read_97 rfl (lv_at hl 3 rfl) ?_
              refine q_get (C := "KateDesk$Point") (T := T_Point) (N := 3) (ci := 2) E ((hk.pt hK h_t).1) in_Point rfl 1 (by decide) w_51 rfl rfl d_Forms_read_98 ?_
              refine lv_aload_n hx hb d_Forms_read_101 rfl (lv_at hl 4 rfl) ?_
              refine lv_bipush (v := nI 48) hx hb d_Forms_read_102 (by decide) ?_
              refine q_cV (rest := []) E (v_Forms_readCoordinate l g n0 o cu fi F mi X r1 r2 r3 r4 t2 rw ce ts 48 hts (by decide)) w_643 w_13 w_640 w_642 (bw_s 4 rfl) hd_Forms_readCoordinate rfl ⟨by decide, by decide⟩ (OB.recv E.2.2.2.2.2 (by rfl) ((hk.fmx hK hfm).1)) (⟨(hk.fmx hK hfm), ((hk.pt hK h_t).2.2.1), hk.rw9 hK hrw⟩) hF hl.1 rfl (Nat.le_of_ble_eq_true rfl) d_Forms_read_104 ⟨by decide, by decide⟩ (qi (fun rz4 H4 locs hq hF => ?_))
              obtain ⟨hbrz4, hq⟩ := hq
              have hk := hk.tr hq
              refine lv_if_ne (tgt := 112) hx hb d_Forms_read_107 (by decide) (fun _ => ?_) (fun _ => ?_)
              · skip
                refine lv_aload_n hx hb d_Forms_read_112 rfl (lv_at hl 2 rfl) ?_
                refine q_get (C := "KateDesk$Forms") (T := T_Forms) (N := 6) (ci := 6) E ((hk.fmx hK hfm).1) in_Forms rfl 1 (by decide) w_273 rfl rfl d_Forms_read_113 ?_
                refine lv_aload_n hx hb d_Forms_read_116 rfl (lv_at hl 2 rfl) ?_
                refine q_get (C := "KateDesk$Forms") (T := T_Forms) (N := 6) (ci := 6) E ((hk.fmx hK hfm).1) in_Forms rfl 3 (by decide) w_275 rfl rfl d_Forms_read_117 ?_
                refine lv_aload_n hx hb d_Forms_read_120 rfl (lv_at hl 3 rfl) ?_
                refine q_get (C := "KateDesk$Point") (T := T_Point) (N := 3) (ci := 2) E ((hk.pt hK h_t).1) in_Point rfl 0 (by decide) w_47 rfl rfl d_Forms_read_121 ?_
                refine q_cV (rest := []) E (v_Curve_squareOfY l g n0 cu fi F mi X r2 t1) w_651 w_11 w_648 w_649 w_650 hd_Curve_squareOfY rfl ⟨by decide, by decide⟩ (OB.recv E.2.2.2.2.2 (by rfl) ((hk.fmx hK hfm).2.1.1)) (⟨(hk.fmx hK hfm).2.1, ((hk.fmx hK hfm).2.2.2.1), ((hk.pt hK h_t).2.1)⟩) hF hl.1 rfl (Nat.le_of_ble_eq_true rfl) d_Forms_read_124 ⟨by decide, by decide⟩ (qv (fun H5 locs hq hF => ?_))
                have hk := hk.tr (hq.mono (fun q h => h.elim (fun h => h ▸ ((hk.fmx hK hfm).2.1.2.2 6 (by decide)).1) (fun h => h.elim (fun h => h ▸ ((hk.fmx hK hfm).2.1.2.2 7 (by decide)).1) (fun h => h ▸ (((hk.fmx hK hfm).2.2.2.1)).1))))
                refine lv_iload_n hx hb d_Forms_read_127 rfl (lv_at hl 1 rfl) ?_
                refine lv_if_eq (tgt := 151) hx hb d_Forms_read_128 (by decide) (fun _ => ?_) (fun _ => ?_)
                · skip
                  refine lv_aload_n hx hb d_Forms_read_151 rfl (lv_at hl 3 rfl) ?_
                  refine q_get (C := "KateDesk$Point") (T := T_Point) (N := 3) (ci := 2) E ((hk.pt hK h_t).1) in_Point rfl 2 (by decide) w_55 rfl rfl d_Forms_read_152 ?_
                  refine lv_aload_n hx hb d_Forms_read_155 rfl (lv_at hl 2 rfl) ?_
                  refine q_get (C := "KateDesk$Forms") (T := T_Forms) (N := 6) (ci := 6) E ((hk.fmx hK hfm).1) in_Forms rfl 0 (by decide) w_272 rfl rfl d_Forms_read_156 ?_
                  refine q_get (C := "KateDesk$Field") (T := T_Field) (N := 7) (ci := 1) E ((hk.fmx hK hfm).2.1.2.1.1) in_Field rfl 1 (by decide) w_174 rfl rfl d_Forms_read_159 ?_
                  obtain ⟨f5, hf5⟩ := (((hk.fmx hK hfm).2.1.2.1.2 1 (by decide))).2
                  refine q_cS (rest := []) E (c_Limbs_copy l g n0 t3 (F 1) f5) w_146 w_5 w_665 w_145 hd_Limbs_copy rfl ⟨by decide, by decide⟩ (⟨((hk.pt hK h_t).2.2.2), hf5⟩) hF hl.1 rfl (Nat.le_of_ble_eq_true rfl) d_Forms_read_162 ⟨by decide, by decide⟩ (qv (fun H6 locs hq hF => ?_))
                  have hk := hk.tr (hq.1.w1 (((hk.pt hK h_t).2.2.2)).1)
                  refine lv_aload_n hx hb d_Forms_read_165 rfl (lv_at hl 2 rfl) ?_
                  refine q_get (C := "KateDesk$Forms") (T := T_Forms) (N := 6) (ci := 6) E ((hk.fmx hK hfm).1) in_Forms rfl 0 (by decide) w_272 rfl rfl d_Forms_read_166 ?_
                  refine lv_aload_n hx hb d_Forms_read_169 rfl (lv_at hl 2 rfl) ?_
                  refine q_get (C := "KateDesk$Forms") (T := T_Forms) (N := 6) (ci := 6) E ((hk.fmx hK hfm).1) in_Forms rfl 4 (by decide) w_276 rfl rfl d_Forms_read_170 ?_
                  refine lv_aload_n hx hb d_Forms_read_173 rfl (lv_at hl 3 rfl) ?_
                  refine q_get (C := "KateDesk$Point") (T := T_Point) (N := 3) (ci := 2) E ((hk.pt hK h_t).1) in_Point rfl 1 (by decide) w_51 rfl rfl d_Forms_read_174 ?_
                  refine lv_aload_n hx hb d_Forms_read_177 rfl (lv_at hl 3 rfl) ?_
                  refine q_get (C := "KateDesk$Point") (T := T_Point) (N := 3) (ci := 2) E ((hk.pt hK h_t).1) in_Point rfl 1 (by decide) w_51 rfl rfl d_Forms_read_178 ?_
                  refine q_cV (rest := []) E (c_Field_multiply l g n0 fi r3 t2 t2 F mi) w_165 w_4 w_666 w_163 w_164 hd_Field_multiply rfl ⟨by decide, by decide⟩ (OB.recv E.2.2.2.2.2 (by rfl) (((hk.fmx hK hfm).2.1.2.1).1)) (⟨(hk.fmx hK hfm).2.1.2.1, ((hk.fmx hK hfm).2.2.2.2.1), ((hk.pt hK h_t).2.2.1), ((hk.pt hK h_t).2.2.1)⟩) hF hl.1 rfl (Nat.le_of_ble_eq_true rfl) d_Forms_read_181 ⟨by decide, by decide⟩ (qv (fun H7 locs hq hF => ?_))
                  have hk := hk.tr (hq.w1 (((hk.fmx hK hfm).2.2.2.2.1)).1)
                  refine lv_aload_n hx hb d_Forms_read_184 rfl (lv_at hl 2 rfl) ?_
                  refine q_get (C := "KateDesk$Forms") (T := T_Forms) (N := 6) (ci := 6) E ((hk.fmx hK hfm).1) in_Forms rfl 4 (by decide) w_276 rfl rfl d_Forms_read_185 ?_
                  refine lv_aload_n hx hb d_Forms_read_188 rfl (lv_at hl 2 rfl) ?_
                  refine q_get (C := "KateDesk$Forms") (T := T_Forms) (N := 6) (ci := 6) E ((hk.fmx hK hfm).1) in_Forms rfl 3 (by decide) w_275 rfl rfl d_Forms_read_189 ?_
                  refine q_cS (rest := []) E (v_Limbs_equal l g n0 r3 r2) w_669 w_5 w_667 w_668 hd_Limbs_equal rfl ⟨by decide, by decide⟩ (⟨((hk.fmx hK hfm).2.2.2.2.1), ((hk.fmx hK hfm).2.2.2.1)⟩) hF hl.1 rfl (Nat.le_of_ble_eq_true rfl) d_Forms_read_192 ⟨by decide, by decide⟩ (qi (fun rz6 H8 locs hq hF => ?_))
                  obtain ⟨hbrz6, hq⟩ := hq
                  have hq := hq.symm
                  subst hq
                  refine lv_if_eq (tgt := 202) hx hb d_Forms_read_195 (by decide) (fun _ => ?_) (fun _ => ?_)
                  · skip
                    refine lv_iconst (v := nI 5) hx hb d_Forms_read_202 (by decide) ?_
                    exact q_iret E hr hlk (⟨_, rfl, hk⟩) hF d_Forms_read_203
                  · skip
                    refine lv_iconst (v := nI 0) hx hb d_Forms_read_198 (by decide) ?_
                    refine lv_goto (tgt := 203) hx hb d_Forms_read_199 (by decide) ?_
                    exact q_iret E hr hlk (⟨_, rfl, hk⟩) hF d_Forms_read_203
                · skip
                  refine lv_aload_n hx hb d_Forms_read_131 rfl (lv_at hl 2 rfl) ?_
                  refine lv_aload_n hx hb d_Forms_read_132 rfl (lv_at hl 3 rfl) ?_
                  refine q_get (C := "KateDesk$Point") (T := T_Point) (N := 3) (ci := 2) E ((hk.pt hK h_t).1) in_Point rfl 1 (by decide) w_51 rfl rfl d_Forms_read_133 ?_
                  refine lv_iload hx hb d_Forms_read_136 (lv_at hl 0 rfl) ?_
                  refine lv_iconst (v := nI 1) hx hb d_Forms_read_138 (by decide) ?_
                  refine lv_iand hx hb d_Forms_read_139 ?_
                  refine lv_if_eq (tgt := 147) hx hb d_Forms_read_140 (by decide) (fun _ => ?_) (fun _ => ?_)
                  · skip
                    refine lv_iconst (v := nI 0) hx hb d_Forms_read_147 (by decide) ?_
                    refine q_cV (rest := []) E (v_Forms_findY l g n0 o cu fi F mi X r1 r2 r3 r4 t2 (nI 0)) w_657 w_13 w_654 w_656 (bw_s 5 rfl) hd_Forms_findY rfl ⟨by decide, by decide⟩ (OB.recv E.2.2.2.2.2 (by rfl) ((hk.fmx hK hfm).1)) (⟨(hk.fmx hK hfm), ((hk.pt hK h_t).2.2.1)⟩) hF hl.1 rfl (Nat.le_of_ble_eq_true rfl) d_Forms_read_148 ⟨by decide, by decide⟩ (qv (fun H6 locs hq hF => ?_))
                    have hk := hk.tr hq
                    refine lv_aload_n hx hb d_Forms_read_151 rfl (lv_at hl 3 rfl) ?_
                    refine q_get (C := "KateDesk$Point") (T := T_Point) (N := 3) (ci := 2) E ((hk.pt hK h_t).1) in_Point rfl 2 (by decide) w_55 rfl rfl d_Forms_read_152 ?_
                    refine lv_aload_n hx hb d_Forms_read_155 rfl (lv_at hl 2 rfl) ?_
                    refine q_get (C := "KateDesk$Forms") (T := T_Forms) (N := 6) (ci := 6) E ((hk.fmx hK hfm).1) in_Forms rfl 0 (by decide) w_272 rfl rfl d_Forms_read_156 ?_
                    refine q_get (C := "KateDesk$Field") (T := T_Field) (N := 7) (ci := 1) E ((hk.fmx hK hfm).2.1.2.1.1) in_Field rfl 1 (by decide) w_174 rfl rfl d_Forms_read_159 ?_
                    obtain ⟨f5, hf5⟩ := (((hk.fmx hK hfm).2.1.2.1.2 1 (by decide))).2
                    refine q_cS (rest := []) E (c_Limbs_copy l g n0 t3 (F 1) f5) w_146 w_5 w_665 w_145 hd_Limbs_copy rfl ⟨by decide, by decide⟩ (⟨((hk.pt hK h_t).2.2.2), hf5⟩) hF hl.1 rfl (Nat.le_of_ble_eq_true rfl) d_Forms_read_162 ⟨by decide, by decide⟩ (qv (fun H7 locs hq hF => ?_))
                    have hk := hk.tr (hq.1.w1 (((hk.pt hK h_t).2.2.2)).1)
                    refine lv_aload_n hx hb d_Forms_read_165 rfl (lv_at hl 2 rfl) ?_
                    refine q_get (C := "KateDesk$Forms") (T := T_Forms) (N := 6) (ci := 6) E ((hk.fmx hK hfm).1) in_Forms rfl 0 (by decide) w_272 rfl rfl d_Forms_read_166 ?_
                    refine lv_aload_n hx hb d_Forms_read_169 rfl (lv_at hl 2 rfl) ?_
                    refine q_get (C := "KateDesk$Forms") (T := T_Forms) (N := 6) (ci := 6) E ((hk.fmx hK hfm).1) in_Forms rfl 4 (by decide) w_276 rfl rfl d_Forms_read_170 ?_
                    refine lv_aload_n hx hb d_Forms_read_173 rfl (lv_at hl 3 rfl) ?_
                    refine q_get (C := "KateDesk$Point") (T := T_Point) (N := 3) (ci := 2) E ((hk.pt hK h_t).1) in_Point rfl 1 (by decide) w_51 rfl rfl d_Forms_read_174 ?_
                    refine lv_aload_n hx hb d_Forms_read_177 rfl (lv_at hl 3 rfl) ?_
                    refine q_get (C := "KateDesk$Point") (T := T_Point) (N := 3) (ci := 2) E ((hk.pt hK h_t).1) in_Point rfl 1 (by decide) w_51 rfl rfl d_Forms_read_178 ?_
                    refine q_cV (rest := []) E (c_Field_multiply l g n0 fi r3 t2 t2 F mi) w_165 w_4 w_666 w_163 w_164 hd_Field_multiply rfl ⟨by decide, by decide⟩ (OB.recv E.2.2.2.2.2 (by rfl) (((hk.fmx hK hfm).2.1.2.1).1)) (⟨(hk.fmx hK hfm).2.1.2.1, ((hk.fmx hK hfm).2.2.2.2.1), ((hk.pt hK h_t).2.2.1), ((hk.pt hK h_t).2.2.1)⟩) hF hl.1 rfl (Nat.le_of_ble_eq_true rfl) d_Forms_read_181 ⟨by decide, by decide⟩ (qv (fun H8 locs hq hF => ?_))
                    have hk := hk.tr (hq.w1 (((hk.fmx hK hfm).2.2.2.2.1)).1)
                    refine lv_aload_n hx hb d_Forms_read_184 rfl (lv_at hl 2 rfl) ?_
                    refine q_get (C := "KateDesk$Forms") (T := T_Forms) (N := 6) (ci := 6) E ((hk.fmx hK hfm).1) in_Forms rfl 4 (by decide) w_276 rfl rfl d_Forms_read_185 ?_
                    refine lv_aload_n hx hb d_Forms_read_188 rfl (lv_at hl 2 rfl) ?_
                    refine q_get (C := "KateDesk$Forms") (T := T_Forms) (N := 6) (ci := 6) E ((hk.fmx hK hfm).1) in_Forms rfl 3 (by decide) w_275 rfl rfl d_Forms_read_189 ?_
                    refine q_cS (rest := []) E (v_Limbs_equal l g n0 r3 r2) w_669 w_5 w_667 w_668 hd_Limbs_equal rfl ⟨by decide, by decide⟩ (⟨((hk.fmx hK hfm).2.2.2.2.1), ((hk.fmx hK hfm).2.2.2.1)⟩) hF hl.1 rfl (Nat.le_of_ble_eq_true rfl) d_Forms_read_192 ⟨by decide, by decide⟩ (qi (fun rz6 H9 locs hq hF => ?_))
                    obtain ⟨hbrz6, hq⟩ := hq
                    have hq := hq.symm
                    subst hq
                    refine lv_if_eq (tgt := 202) hx hb d_Forms_read_195 (by decide) (fun _ => ?_) (fun _ => ?_)
                    · skip
                      refine lv_iconst (v := nI 5) hx hb d_Forms_read_202 (by decide) ?_
                      exact q_iret E hr hlk (⟨_, rfl, hk⟩) hF d_Forms_read_203
                    · skip
                      refine lv_iconst (v := nI 0) hx hb d_Forms_read_198 (by decide) ?_
                      refine lv_goto (tgt := 203) hx hb d_Forms_read_199 (by decide) ?_
                      exact q_iret E hr hlk (⟨_, rfl, hk⟩) hF d_Forms_read_203
                  · skip
                    refine lv_iconst (v := nI 1) hx hb d_Forms_read_143 (by decide) ?_
                    refine lv_goto (tgt := 148) hx hb d_Forms_read_144 (by decide) ?_
                    refine q_cV (rest := []) E (v_Forms_findY l g n0 o cu fi F mi X r1 r2 r3 r4 t2 (nI 1)) w_657 w_13 w_654 w_656 (bw_s 5 rfl) hd_Forms_findY rfl ⟨by decide, by decide⟩ (OB.recv E.2.2.2.2.2 (by rfl) ((hk.fmx hK hfm).1)) (⟨(hk.fmx hK hfm), ((hk.pt hK h_t).2.2.1)⟩) hF hl.1 rfl (Nat.le_of_ble_eq_true rfl) d_Forms_read_148 ⟨by decide, by decide⟩ (qv (fun H6 locs hq hF => ?_))
                    have hk := hk.tr hq
                    refine lv_aload_n hx hb d_Forms_read_151 rfl (lv_at hl 3 rfl) ?_
                    refine q_get (C := "KateDesk$Point") (T := T_Point) (N := 3) (ci := 2) E ((hk.pt hK h_t).1) in_Point rfl 2 (by decide) w_55 rfl rfl d_Forms_read_152 ?_
                    refine lv_aload_n hx hb d_Forms_read_155 rfl (lv_at hl 2 rfl) ?_
                    refine q_get (C := "KateDesk$Forms") (T := T_Forms) (N := 6) (ci := 6) E ((hk.fmx hK hfm).1) in_Forms rfl 0 (by decide) w_272 rfl rfl d_Forms_read_156 ?_
                    refine q_get (C := "KateDesk$Field") (T := T_Field) (N := 7) (ci := 1) E ((hk.fmx hK hfm).2.1.2.1.1) in_Field rfl 1 (by decide) w_174 rfl rfl d_Forms_read_159 ?_
                    obtain ⟨f5, hf5⟩ := (((hk.fmx hK hfm).2.1.2.1.2 1 (by decide))).2
                    refine q_cS (rest := []) E (c_Limbs_copy l g n0 t3 (F 1) f5) w_146 w_5 w_665 w_145 hd_Limbs_copy rfl ⟨by decide, by decide⟩ (⟨((hk.pt hK h_t).2.2.2), hf5⟩) hF hl.1 rfl (Nat.le_of_ble_eq_true rfl) d_Forms_read_162 ⟨by decide, by decide⟩ (qv (fun H7 locs hq hF => ?_))
                    have hk := hk.tr (hq.1.w1 (((hk.pt hK h_t).2.2.2)).1)
                    refine lv_aload_n hx hb d_Forms_read_165 rfl (lv_at hl 2 rfl) ?_
                    refine q_get (C := "KateDesk$Forms") (T := T_Forms) (N := 6) (ci := 6) E ((hk.fmx hK hfm).1) in_Forms rfl 0 (by decide) w_272 rfl rfl d_Forms_read_166 ?_
                    refine lv_aload_n hx hb d_Forms_read_169 rfl (lv_at hl 2 rfl) ?_
                    refine q_get (C := "KateDesk$Forms") (T := T_Forms) (N := 6) (ci := 6) E ((hk.fmx hK hfm).1) in_Forms rfl 4 (by decide) w_276 rfl rfl d_Forms_read_170 ?_
                    refine lv_aload_n hx hb d_Forms_read_173 rfl (lv_at hl 3 rfl) ?_
                    refine q_get (C := "KateDesk$Point") (T := T_Point) (N := 3) (ci := 2) E ((hk.pt hK h_t).1) in_Point rfl 1 (by decide) w_51 rfl rfl d_Forms_read_174 ?_
                    refine lv_aload_n hx hb d_Forms_read_177 rfl (lv_at hl 3 rfl) ?_
                    refine q_get (C := "KateDesk$Point") (T := T_Point) (N := 3) (ci := 2) E ((hk.pt hK h_t).1) in_Point rfl 1 (by decide) w_51 rfl rfl d_Forms_read_178 ?_
                    refine q_cV (rest := []) E (c_Field_multiply l g n0 fi r3 t2 t2 F mi) w_165 w_4 w_666 w_163 w_164 hd_Field_multiply rfl ⟨by decide, by decide⟩ (OB.recv E.2.2.2.2.2 (by rfl) (((hk.fmx hK hfm).2.1.2.1).1)) (⟨(hk.fmx hK hfm).2.1.2.1, ((hk.fmx hK hfm).2.2.2.2.1), ((hk.pt hK h_t).2.2.1), ((hk.pt hK h_t).2.2.1)⟩) hF hl.1 rfl (Nat.le_of_ble_eq_true rfl) d_Forms_read_181 ⟨by decide, by decide⟩ (qv (fun H8 locs hq hF => ?_))
                    have hk := hk.tr (hq.w1 (((hk.fmx hK hfm).2.2.2.2.1)).1)
                    refine lv_aload_n hx hb d_Forms_read_184 rfl (lv_at hl 2 rfl) ?_
                    refine q_get (C := "KateDesk$Forms") (T := T_Forms) (N := 6) (ci := 6) E ((hk.fmx hK hfm).1) in_Forms rfl 4 (by decide) w_276 rfl rfl d_Forms_read_185 ?_
                    refine lv_aload_n hx hb d_Forms_read_188 rfl (lv_at hl 2 rfl) ?_
                    refine q_get (C := "KateDesk$Forms") (T := T_Forms) (N := 6) (ci := 6) E ((hk.fmx hK hfm).1) in_Forms rfl 3 (by decide) w_275 rfl rfl d_Forms_read_189 ?_
                    refine q_cS (rest := []) E (v_Limbs_equal l g n0 r3 r2) w_669 w_5 w_667 w_668 hd_Limbs_equal rfl ⟨by decide, by decide⟩ (⟨((hk.fmx hK hfm).2.2.2.2.1), ((hk.fmx hK hfm).2.2.2.1)⟩) hF hl.1 rfl (Nat.le_of_ble_eq_true rfl) d_Forms_read_192 ⟨by decide, by decide⟩ (qi (fun rz6 H9 locs hq hF => ?_))
                    obtain ⟨hbrz6, hq⟩ := hq
                    have hq := hq.symm
                    subst hq
                    refine lv_if_eq (tgt := 202) hx hb d_Forms_read_195 (by decide) (fun _ => ?_) (fun _ => ?_)
                    · skip
                      refine lv_iconst (v := nI 5) hx hb d_Forms_read_202 (by decide) ?_
                      exact q_iret E hr hlk (⟨_, rfl, hk⟩) hF d_Forms_read_203
                    · skip
                      refine lv_iconst (v := nI 0) hx hb d_Forms_read_198 (by decide) ?_
                      refine lv_goto (tgt := 203) hx hb d_Forms_read_199 (by decide) ?_
                      exact q_iret E hr hlk (⟨_, rfl, hk⟩) hF d_Forms_read_203
              · skip
                refine lv_iconst (v := nI 4) hx hb d_Forms_read_110 (by decide) ?_
                exact q_iret E hr hlk (⟨_, rfl, hk⟩) hF d_Forms_read_111
        · skip
          refine lv_aload_n hx hb d_Forms_read_62 rfl (lv_at hl 3 rfl) ?_
          refine q_cV (rest := []) E (c_Point_becomeNothing l g n0 t t1 t2 t3 h32) w_635 w_2 w_632 w_633 w_634 hd_Point_becomeNothing rfl ⟨by decide, by decide⟩ (OB.recv E.2.2.2.2.2 (by rfl) (((hk.pt hK h_t)).1)) (hk.pt hK h_t) hF hl.1 rfl (Nat.le_of_ble_eq_true rfl) d_Forms_read_63 ⟨by decide, by decide⟩ (qv (fun H3 locs hq hF => ?_))
          have hk := hk.tr (hq.1.mono (pt_le (hk.pt hK h_t)))
          refine lv_aload_n hx hb d_Forms_read_66 rfl (lv_at hl 4 rfl) ?_
          refine q_cS (rest := []) E (v_Forms_isBare l g n0 rw ce ts hts) w_639 w_13 w_637 w_638 hd_Forms_isBare rfl ⟨by decide, by decide⟩ (hk.rw9 hK hrw) hF hl.1 rfl (Nat.le_of_ble_eq_true rfl) d_Forms_read_67 ⟨by decide, by decide⟩ (qi (fun rz3 H4 locs hq hF => ?_))
          obtain ⟨hbrz3, hq⟩ := hq
          have hq := hq.symm
          subst hq
          refine lv_if_eq (tgt := 77) hx hb d_Forms_read_70 (by decide) (fun _ => ?_) (fun _ => ?_)
          · skip
            refine lv_iconst (v := nI 3) hx hb d_Forms_read_77 (by decide) ?_
            exact q_iret E hr hlk (⟨_, rfl, hk⟩) hF d_Forms_read_78
          · skip
            refine lv_iconst (v := nI 0) hx hb d_Forms_read_73 (by decide) ?_
            refine lv_goto (tgt := 78) hx hb d_Forms_read_74 (by decide) ?_
            exact q_iret E hr hlk (⟨_, rfl, hk⟩) hF d_Forms_read_78
      · skip
        refine lv_iconst (v := nI 2) hx hb d_Forms_read_53 (by decide) ?_
        exact q_iret E hr hlk (⟨_, rfl, hk⟩) hF d_Forms_read_54
    · skip
      refine lv_iconst (v := nI 1) hx hb d_Forms_read_29 (by decide) ?_
      refine lv_goto (tgt := 34) hx hb d_Forms_read_30 (by decide) ?_
      refine lv_istore_n (lv' := [(3, .int (nI 1)), (0, .ref o), (1, .ref t), (2, .ref rw)]) hx hb d_Forms_read_34 rfl hl (by decide) rfl (fun ls hl => ?_)
      refine lv_aload_n hx hb d_Forms_read_35 rfl (lv_at hl 3 rfl) ?_
      refine lv_iconst (v := nI 0) hx hb d_Forms_read_36 (by decide) ?_
      refine q_cV (rest := []) E (v_Row_at l g n0 rw ce ts (nI 0) hts) w_505 w_3 w_628 w_503 w_504 hd_Row_at rfl ⟨by decide, by decide⟩ (OB.recv E.2.2.2.2.2 (by rfl) ((hk.rw9 hK hrw).1)) (⟨(hk.rw9 hK hrw).1, (hk.rw9 hK hrw).2⟩) hF hl.1 rfl (Nat.le_of_ble_eq_true rfl) d_Forms_read_37 ⟨by decide, by decide⟩ (qi (fun rz1 H1 locs hq hF => ?_))
      obtain ⟨-, hq⟩ := hq
      have hq := hq.symm
      subst hq
      refine lv_iconst (v := nI 5) hx hb d_Forms_read_40 (by decide) ?_
      refine lv_ishr hx hb d_Forms_read_41 ?_
      refine lv_istore (lv' := [(4, .int (rz1 >>> ((nI 5) &&& 31))), (3, .int (nI 1)), (0, .ref o), (1, .ref t), (2, .ref rw)]) hx hb d_Forms_read_42 hl (by decide) rfl (fun ls hl => ?_)
      refine lv_iload hx hb d_Forms_read_44 (lv_at hl 0 rfl) ?_
      refine lv_iload_n hx hb d_Forms_read_46 rfl (lv_at hl 1 rfl) ?_
      refine q_cS (rest := []) E (v_Forms_canBe l g n0 (rz1 >>> ((nI 5) &&& 31)) (nI 1)) w_631 w_13 w_629 w_630 hd_Forms_canBe rfl ⟨by decide, by decide⟩ trivial hF hl.1 rfl (Nat.le_of_ble_eq_true rfl) d_Forms_read_47 ⟨by decide, by decide⟩ (qi (fun rz2 H2 locs hq hF => ?_))
      obtain ⟨hbrz2, hq⟩ := hq
      have hq := hq.symm
      subst hq
      refine lv_if_ne (tgt := 55) hx hb d_Forms_read_50 (by decide) (fun _ => ?_) (fun _ => ?_)
      · skip
        refine lv_iload hx hb d_Forms_read_55 (lv_at hl 0 rfl) ?_
        refine lv_iconst (v := nI 2) hx hb d_Forms_read_57 (by decide) ?_
        refine lv_iand hx hb d_Forms_read_58 ?_
        refine lv_if_eq (tgt := 79) hx hb d_Forms_read_59 (by decide) (fun _ => ?_) (fun _ => ?_)
        · skip
          refine lv_aload_n hx hb d_Forms_read_79 rfl (lv_at hl 2 rfl) ?_
          refine lv_aload_n hx hb d_Forms_read_80 rfl (lv_at hl 3 rfl) ?_
          refine q_get (C := "KateDesk$Point") (T := T_Point) (N := 3) (ci := 2) E ((hk.pt hK h_t).1) in_Point rfl 0 (by decide) w_47 rfl rfl d_Forms_read_81 ?_
          refine lv_aload_n hx hb d_Forms_read_84 rfl (lv_at hl 4 rfl) ?_
          refine lv_iconst (v := nI 0) hx hb d_Forms_read_85 (by decide) ?_
          refine q_cV (rest := []) E (v_Forms_readCoordinate l g n0 o cu fi F mi X r1 r2 r3 r4 t1 rw ce ts 0 hts (by decide)) w_643 w_13 w_640 w_642 (bw_s 4 rfl) hd_Forms_readCoordinate rfl ⟨by decide, by decide⟩ (OB.recv E.2.2.2.2.2 (by rfl) ((hk.fmx hK hfm).1)) (⟨(hk.fmx hK hfm), ((hk.pt hK h_t).2.1), hk.rw9 hK hrw⟩) hF hl.1 rfl (Nat.le_of_ble_eq_true rfl) d_Forms_read_86 ⟨by decide, by decide⟩ (qi (fun rz3 H3 locs hq hF => ?_))
          obtain ⟨hbrz3, hq⟩ := hq
          have hk := hk.tr hq
          refine lv_if_eq (tgt := 110) hx hb d_Forms_read_89 (by decide) (fun _ => ?_) (fun _ => ?_)
          · skip
            refine lv_iconst (v := nI 4) hx hb d_Forms_read_110 (by decide) ?_
            exact q_iret E hr hlk (⟨_, rfl, hk⟩) hF d_Forms_read_111
          · skip
            refine lv_iload_n hx hb d_Forms_read_92 rfl (lv_at hl 1 rfl) ?_
            refine lv_if_ne (tgt := 112) hx hb d_Forms_read_93 (by decide) (fun _ => ?_) (fun _ => ?_)
            · skip
              refine lv_aload_n hx hb d_Forms_read_112 rfl (lv_at hl 2 rfl) ?_
              refine q_get (C := "KateDesk$Forms") (T := T_Forms) (N := 6) (ci := 6) E ((hk.fmx hK hfm).1) in_Forms rfl 1 (by decide) w_273 rfl rfl d_Forms_read_113 ?_
              refine lv_aload_n hx hb d_Forms_read_116 rfl (lv_at hl 2 rfl) ?_
              refine q_get (C := "KateDesk$Forms") (T := T_Forms) (N := 6) (ci := 6) E ((hk.fmx hK hfm).1) in_Forms rfl 3 (by decide) w_275 rfl rfl d_Forms_read_117 ?_
              refine lv_aload_n hx hb d_Forms_read_120 rfl (lv_at hl 3 rfl) ?_
              refine q_get (C := "KateDesk$Point") (T := T_Point) (N := 3) (ci := 2) E ((hk.pt hK h_t).1) in_Point rfl 0 (by decide) w_47 rfl rfl d_Forms_read_121 ?_
              refine q_cV (rest := []) E (v_Curve_squareOfY l g n0 cu fi F mi X r2 t1) w_651 w_11 w_648 w_649 w_650 hd_Curve_squareOfY rfl ⟨by decide, by decide⟩ (OB.recv E.2.2.2.2.2 (by rfl) ((hk.fmx hK hfm).2.1.1)) (⟨(hk.fmx hK hfm).2.1, ((hk.fmx hK hfm).2.2.2.1), ((hk.pt hK h_t).2.1)⟩) hF hl.1 rfl (Nat.le_of_ble_eq_true rfl) d_Forms_read_124 ⟨by decide, by decide⟩ (qv (fun H4 locs hq hF => ?_))
              have hk := hk.tr (hq.mono (fun q h => h.elim (fun h => h ▸ ((hk.fmx hK hfm).2.1.2.2 6 (by decide)).1) (fun h => h.elim (fun h => h ▸ ((hk.fmx hK hfm).2.1.2.2 7 (by decide)).1) (fun h => h ▸ (((hk.fmx hK hfm).2.2.2.1)).1))))
              refine lv_iload_n hx hb d_Forms_read_127 rfl (lv_at hl 1 rfl) ?_
              refine lv_if_eq (tgt := 151) hx hb d_Forms_read_128 (by decide) (fun _ => ?_) (fun _ => ?_)
              · skip
                refine lv_aload_n hx hb d_Forms_read_151 rfl (lv_at hl 3 rfl) ?_
                refine q_get (C := "KateDesk$Point") (T := T_Point) (N := 3) (ci := 2) E ((hk.pt hK h_t).1) in_Point rfl 2 (by decide) w_55 rfl rfl d_Forms_read_152 ?_
                refine lv_aload_n hx hb d_Forms_read_155 rfl (lv_at hl 2 rfl) ?_
                refine q_get (C := "KateDesk$Forms") (T := T_Forms) (N := 6) (ci := 6) E ((hk.fmx hK hfm).1) in_Forms rfl 0 (by decide) w_272 rfl rfl d_Forms_read_156 ?_
                refine q_get (C := "KateDesk$Field") (T := T_Field) (N := 7) (ci := 1) E ((hk.fmx hK hfm).2.1.2.1.1) in_Field rfl 1 (by decide) w_174 rfl rfl d_Forms_read_159 ?_
                obtain ⟨f4, hf4⟩ := (((hk.fmx hK hfm).2.1.2.1.2 1 (by decide))).2
                refine q_cS (rest := []) E (c_Limbs_copy l g n0 t3 (F 1) f4) w_146 w_5 w_665 w_145 hd_Limbs_copy rfl ⟨by decide, by decide⟩ (⟨((hk.pt hK h_t).2.2.2), hf4⟩) hF hl.1 rfl (Nat.le_of_ble_eq_true rfl) d_Forms_read_162 ⟨by decide, by decide⟩ (qv (fun H5 locs hq hF => ?_))
                have hk := hk.tr (hq.1.w1 (((hk.pt hK h_t).2.2.2)).1)
                refine lv_aload_n hx hb d_Forms_read_165 rfl (lv_at hl 2 rfl) ?_
                refine q_get (C := "KateDesk$Forms") (T := T_Forms) (N := 6) (ci := 6) E ((hk.fmx hK hfm).1) in_Forms rfl 0 (by decide) w_272 rfl rfl d_Forms_read_166 ?_
                refine lv_aload_n hx hb d_Forms_read_169 rfl (lv_at hl 2 rfl) ?_
                refine q_get (C := "KateDesk$Forms") (T := T_Forms) (N := 6) (ci := 6) E ((hk.fmx hK hfm).1) in_Forms rfl 4 (by decide) w_276 rfl rfl d_Forms_read_170 ?_
                refine lv_aload_n hx hb d_Forms_read_173 rfl (lv_at hl 3 rfl) ?_
                refine q_get (C := "KateDesk$Point") (T := T_Point) (N := 3) (ci := 2) E ((hk.pt hK h_t).1) in_Point rfl 1 (by decide) w_51 rfl rfl d_Forms_read_174 ?_
                refine lv_aload_n hx hb d_Forms_read_177 rfl (lv_at hl 3 rfl) ?_
                refine q_get (C := "KateDesk$Point") (T := T_Point) (N := 3) (ci := 2) E ((hk.pt hK h_t).1) in_Point rfl 1 (by decide) w_51 rfl rfl d_Forms_read_178 ?_
                refine q_cV (rest := []) E (c_Field_multiply l g n0 fi r3 t2 t2 F mi) w_165 w_4 w_666 w_163 w_164 hd_Field_multiply rfl ⟨by decide, by decide⟩ (OB.recv E.2.2.2.2.2 (by rfl) (((hk.fmx hK hfm).2.1.2.1).1)) (⟨(hk.fmx hK hfm).2.1.2.1, ((hk.fmx hK hfm).2.2.2.2.1), ((hk.pt hK h_t).2.2.1), ((hk.pt hK h_t).2.2.1)⟩) hF hl.1 rfl (Nat.le_of_ble_eq_true rfl) d_Forms_read_181 ⟨by decide, by decide⟩ (qv (fun H6 locs hq hF => ?_))
                have hk := hk.tr (hq.w1 (((hk.fmx hK hfm).2.2.2.2.1)).1)
                refine lv_aload_n hx hb d_Forms_read_184 rfl (lv_at hl 2 rfl) ?_
                refine q_get (C := "KateDesk$Forms") (T := T_Forms) (N := 6) (ci := 6) E ((hk.fmx hK hfm).1) in_Forms rfl 4 (by decide) w_276 rfl rfl d_Forms_read_185 ?_
                refine lv_aload_n hx hb d_Forms_read_188 rfl (lv_at hl 2 rfl) ?_
                refine q_get (C := "KateDesk$Forms") (T := T_Forms) (N := 6) (ci := 6) E ((hk.fmx hK hfm).1) in_Forms rfl 3 (by decide) w_275 rfl rfl d_Forms_read_189 ?_
                refine q_cS (rest := []) E (v_Limbs_equal l g n0 r3 r2) w_669 w_5 w_667 w_668 hd_Limbs_equal rfl ⟨by decide, by decide⟩ (⟨((hk.fmx hK hfm).2.2.2.2.1), ((hk.fmx hK hfm).2.2.2.1)⟩) hF hl.1 rfl (Nat.le_of_ble_eq_true rfl) d_Forms_read_192 ⟨by decide, by decide⟩ (qi (fun rz5 H7 locs hq hF => ?_))
                obtain ⟨hbrz5, hq⟩ := hq
                have hq := hq.symm
                subst hq
                refine lv_if_eq (tgt := 202) hx hb d_Forms_read_195 (by decide) (fun _ => ?_) (fun _ => ?_)
                · skip
                  refine lv_iconst (v := nI 5) hx hb d_Forms_read_202 (by decide) ?_
                  exact q_iret E hr hlk (⟨_, rfl, hk⟩) hF d_Forms_read_203
                · skip
                  refine lv_iconst (v := nI 0) hx hb d_Forms_read_198 (by decide) ?_
                  refine lv_goto (tgt := 203) hx hb d_Forms_read_199 (by decide) ?_
                  exact q_iret E hr hlk (⟨_, rfl, hk⟩) hF d_Forms_read_203
              · skip
                refine lv_aload_n hx hb d_Forms_read_131 rfl (lv_at hl 2 rfl) ?_
                refine lv_aload_n hx hb d_Forms_read_132 rfl (lv_at hl 3 rfl) ?_
                refine q_get (C := "KateDesk$Point") (T := T_Point) (N := 3) (ci := 2) E ((hk.pt hK h_t).1) in_Point rfl 1 (by decide) w_51 rfl rfl d_Forms_read_133 ?_
                refine lv_iload hx hb d_Forms_read_136 (lv_at hl 0 rfl) ?_
                refine lv_iconst (v := nI 1) hx hb d_Forms_read_138 (by decide) ?_
                refine lv_iand hx hb d_Forms_read_139 ?_
                refine lv_if_eq (tgt := 147) hx hb d_Forms_read_140 (by decide) (fun _ => ?_) (fun _ => ?_)
                · skip
                  refine lv_iconst (v := nI 0) hx hb d_Forms_read_147 (by decide) ?_
                  refine q_cV (rest := []) E (v_Forms_findY l g n0 o cu fi F mi X r1 r2 r3 r4 t2 (nI 0)) w_657 w_13 w_654 w_656 (bw_s 5 rfl) hd_Forms_findY rfl ⟨by decide, by decide⟩ (OB.recv E.2.2.2.2.2 (by rfl) ((hk.fmx hK hfm).1)) (⟨(hk.fmx hK hfm), ((hk.pt hK h_t).2.2.1)⟩) hF hl.1 rfl (Nat.le_of_ble_eq_true rfl) d_Forms_read_148 ⟨by decide, by decide⟩ (qv (fun H5 locs hq hF => ?_))
                  have hk := hk.tr hq
                  refine lv_aload_n hx hb d_Forms_read_151 rfl (lv_at hl 3 rfl) ?_
                  refine q_get (C := "KateDesk$Point") (T := T_Point) (N := 3) (ci := 2) E ((hk.pt hK h_t).1) in_Point rfl 2 (by decide) w_55 rfl rfl d_Forms_read_152 ?_
                  refine lv_aload_n hx hb d_Forms_read_155 rfl (lv_at hl 2 rfl) ?_
                  refine q_get (C := "KateDesk$Forms") (T := T_Forms) (N := 6) (ci := 6) E ((hk.fmx hK hfm).1) in_Forms rfl 0 (by decide) w_272 rfl rfl d_Forms_read_156 ?_
                  refine q_get (C := "KateDesk$Field") (T := T_Field) (N := 7) (ci := 1) E ((hk.fmx hK hfm).2.1.2.1.1) in_Field rfl 1 (by decide) w_174 rfl rfl d_Forms_read_159 ?_
                  obtain ⟨f4, hf4⟩ := (((hk.fmx hK hfm).2.1.2.1.2 1 (by decide))).2
                  refine q_cS (rest := []) E (c_Limbs_copy l g n0 t3 (F 1) f4) w_146 w_5 w_665 w_145 hd_Limbs_copy rfl ⟨by decide, by decide⟩ (⟨((hk.pt hK h_t).2.2.2), hf4⟩) hF hl.1 rfl (Nat.le_of_ble_eq_true rfl) d_Forms_read_162 ⟨by decide, by decide⟩ (qv (fun H6 locs hq hF => ?_))
                  have hk := hk.tr (hq.1.w1 (((hk.pt hK h_t).2.2.2)).1)
                  refine lv_aload_n hx hb d_Forms_read_165 rfl (lv_at hl 2 rfl) ?_
                  refine q_get (C := "KateDesk$Forms") (T := T_Forms) (N := 6) (ci := 6) E ((hk.fmx hK hfm).1) in_Forms rfl 0 (by decide) w_272 rfl rfl d_Forms_read_166 ?_
                  refine lv_aload_n hx hb d_Forms_read_169 rfl (lv_at hl 2 rfl) ?_
                  refine q_get (C := "KateDesk$Forms") (T := T_Forms) (N := 6) (ci := 6) E ((hk.fmx hK hfm).1) in_Forms rfl 4 (by decide) w_276 rfl rfl d_Forms_read_170 ?_
                  refine lv_aload_n hx hb d_Forms_read_173 rfl (lv_at hl 3 rfl) ?_
                  refine q_get (C := "KateDesk$Point") (T := T_Point) (N := 3) (ci := 2) E ((hk.pt hK h_t).1) in_Point rfl 1 (by decide) w_51 rfl rfl d_Forms_read_174 ?_
                  refine lv_aload_n hx hb d_Forms_read_177 rfl (lv_at hl 3 rfl) ?_
                  refine q_get (C := "KateDesk$Point") (T := T_Point) (N := 3) (ci := 2) E ((hk.pt hK h_t).1) in_Point rfl 1 (by decide) w_51 rfl rfl d_Forms_read_178 ?_
                  refine q_cV (rest := []) E (c_Field_multiply l g n0 fi r3 t2 t2 F mi) w_165 w_4 w_666 w_163 w_164 hd_Field_multiply rfl ⟨by decide, by decide⟩ (OB.recv E.2.2.2.2.2 (by rfl) (((hk.fmx hK hfm).2.1.2.1).1)) (⟨(hk.fmx hK hfm).2.1.2.1, ((hk.fmx hK hfm).2.2.2.2.1), ((hk.pt hK h_t).2.2.1), ((hk.pt hK h_t).2.2.1)⟩) hF hl.1 rfl (Nat.le_of_ble_eq_true rfl) d_Forms_read_181 ⟨by decide, by decide⟩ (qv (fun H7 locs hq hF => ?_))
                  have hk := hk.tr (hq.w1 (((hk.fmx hK hfm).2.2.2.2.1)).1)
                  refine lv_aload_n hx hb d_Forms_read_184 rfl (lv_at hl 2 rfl) ?_
                  refine q_get (C := "KateDesk$Forms") (T := T_Forms) (N := 6) (ci := 6) E ((hk.fmx hK hfm).1) in_Forms rfl 4 (by decide) w_276 rfl rfl d_Forms_read_185 ?_
                  refine lv_aload_n hx hb d_Forms_read_188 rfl (lv_at hl 2 rfl) ?_
                  refine q_get (C := "KateDesk$Forms") (T := T_Forms) (N := 6) (ci := 6) E ((hk.fmx hK hfm).1) in_Forms rfl 3 (by decide) w_275 rfl rfl d_Forms_read_189 ?_
                  refine q_cS (rest := []) E (v_Limbs_equal l g n0 r3 r2) w_669 w_5 w_667 w_668 hd_Limbs_equal rfl ⟨by decide, by decide⟩ (⟨((hk.fmx hK hfm).2.2.2.2.1), ((hk.fmx hK hfm).2.2.2.1)⟩) hF hl.1 rfl (Nat.le_of_ble_eq_true rfl) d_Forms_read_192 ⟨by decide, by decide⟩ (qi (fun rz5 H8 locs hq hF => ?_))
                  obtain ⟨hbrz5, hq⟩ := hq
                  have hq := hq.symm
                  subst hq
                  refine lv_if_eq (tgt := 202) hx hb d_Forms_read_195 (by decide) (fun _ => ?_) (fun _ => ?_)
                  · skip
                    refine lv_iconst (v := nI 5) hx hb d_Forms_read_202 (by decide) ?_
                    exact q_iret E hr hlk (⟨_, rfl, hk⟩) hF d_Forms_read_203
                  · skip
                    refine lv_iconst (v := nI 0) hx hb d_Forms_read_198 (by decide) ?_
                    refine lv_goto (tgt := 203) hx hb d_Forms_read_199 (by decide) ?_
                    exact q_iret E hr hlk (⟨_, rfl, hk⟩) hF d_Forms_read_203
                · skip
                  refine lv_iconst (v := nI 1) hx hb d_Forms_read_143 (by decide) ?_
                  refine lv_goto (tgt := 148) hx hb d_Forms_read_144 (by decide) ?_
                  refine q_cV (rest := []) E (v_Forms_findY l g n0 o cu fi F mi X r1 r2 r3 r4 t2 (nI 1)) w_657 w_13 w_654 w_656 (bw_s 5 rfl) hd_Forms_findY rfl ⟨by decide, by decide⟩ (OB.recv E.2.2.2.2.2 (by rfl) ((hk.fmx hK hfm).1)) (⟨(hk.fmx hK hfm), ((hk.pt hK h_t).2.2.1)⟩) hF hl.1 rfl (Nat.le_of_ble_eq_true rfl) d_Forms_read_148 ⟨by decide, by decide⟩ (qv (fun H5 locs hq hF => ?_))
                  have hk := hk.tr hq
                  refine lv_aload_n hx hb d_Forms_read_151 rfl (lv_at hl 3 rfl) ?_
                  refine q_get (C := "KateDesk$Point") (T := T_Point) (N := 3) (ci := 2) E ((hk.pt hK h_t).1) in_Point rfl 2 (by decide) w_55 rfl rfl d_Forms_read_152 ?_
                  refine lv_aload_n hx hb d_Forms_read_155 rfl (lv_at hl 2 rfl) ?_
                  refine q_get (C := "KateDesk$Forms") (T := T_Forms) (N := 6) (ci := 6) E ((hk.fmx hK hfm).1) in_Forms rfl 0 (by decide) w_272 rfl rfl d_Forms_read_156 ?_
                  refine q_get (C := "KateDesk$Field") (T := T_Field) (N := 7) (ci := 1) E ((hk.fmx hK hfm).2.1.2.1.1) in_Field rfl 1 (by decide) w_174 rfl rfl d_Forms_read_159 ?_
                  obtain ⟨f4, hf4⟩ := (((hk.fmx hK hfm).2.1.2.1.2 1 (by decide))).2
                  refine q_cS (rest := []) E (c_Limbs_copy l g n0 t3 (F 1) f4) w_146 w_5 w_665 w_145 hd_Limbs_copy rfl ⟨by decide, by decide⟩ (⟨((hk.pt hK h_t).2.2.2), hf4⟩) hF hl.1 rfl (Nat.le_of_ble_eq_true rfl) d_Forms_read_162 ⟨by decide, by decide⟩ (qv (fun H6 locs hq hF => ?_))
                  have hk := hk.tr (hq.1.w1 (((hk.pt hK h_t).2.2.2)).1)
                  refine lv_aload_n hx hb d_Forms_read_165 rfl (lv_at hl 2 rfl) ?_
                  refine q_get (C := "KateDesk$Forms") (T := T_Forms) (N := 6) (ci := 6) E ((hk.fmx hK hfm).1) in_Forms rfl 0 (by decide) w_272 rfl rfl d_Forms_read_166 ?_
                  refine lv_aload_n hx hb d_Forms_read_169 rfl (lv_at hl 2 rfl) ?_
                  refine q_get (C := "KateDesk$Forms") (T := T_Forms) (N := 6) (ci := 6) E ((hk.fmx hK hfm).1) in_Forms rfl 4 (by decide) w_276 rfl rfl d_Forms_read_170 ?_
                  refine lv_aload_n hx hb d_Forms_read_173 rfl (lv_at hl 3 rfl) ?_
                  refine q_get (C := "KateDesk$Point") (T := T_Point) (N := 3) (ci := 2) E ((hk.pt hK h_t).1) in_Point rfl 1 (by decide) w_51 rfl rfl d_Forms_read_174 ?_
                  refine lv_aload_n hx hb d_Forms_read_177 rfl (lv_at hl 3 rfl) ?_
                  refine q_get (C := "KateDesk$Point") (T := T_Point) (N := 3) (ci := 2) E ((hk.pt hK h_t).1) in_Point rfl 1 (by decide) w_51 rfl rfl d_Forms_read_178 ?_
                  refine q_cV (rest := []) E (c_Field_multiply l g n0 fi r3 t2 t2 F mi) w_165 w_4 w_666 w_163 w_164 hd_Field_multiply rfl ⟨by decide, by decide⟩ (OB.recv E.2.2.2.2.2 (by rfl) (((hk.fmx hK hfm).2.1.2.1).1)) (⟨(hk.fmx hK hfm).2.1.2.1, ((hk.fmx hK hfm).2.2.2.2.1), ((hk.pt hK h_t).2.2.1), ((hk.pt hK h_t).2.2.1)⟩) hF hl.1 rfl (Nat.le_of_ble_eq_true rfl) d_Forms_read_181 ⟨by decide, by decide⟩ (qv (fun H7 locs hq hF => ?_))
                  have hk := hk.tr (hq.w1 (((hk.fmx hK hfm).2.2.2.2.1)).1)
                  refine lv_aload_n hx hb d_Forms_read_184 rfl (lv_at hl 2 rfl) ?_
                  refine q_get (C := "KateDesk$Forms") (T := T_Forms) (N := 6) (ci := 6) E ((hk.fmx hK hfm).1) in_Forms rfl 4 (by decide) w_276 rfl rfl d_Forms_read_185 ?_
                  refine lv_aload_n hx hb d_Forms_read_188 rfl (lv_at hl 2 rfl) ?_
                  refine q_get (C := "KateDesk$Forms") (T := T_Forms) (N := 6) (ci := 6) E ((hk.fmx hK hfm).1) in_Forms rfl 3 (by decide) w_275 rfl rfl d_Forms_read_189 ?_
                  refine q_cS (rest := []) E (v_Limbs_equal l g n0 r3 r2) w_669 w_5 w_667 w_668 hd_Limbs_equal rfl ⟨by decide, by decide⟩ (⟨((hk.fmx hK hfm).2.2.2.2.1), ((hk.fmx hK hfm).2.2.2.1)⟩) hF hl.1 rfl (Nat.le_of_ble_eq_true rfl) d_Forms_read_192 ⟨by decide, by decide⟩ (qi (fun rz5 H8 locs hq hF => ?_))
                  obtain ⟨hbrz5, hq⟩ := hq
                  have hq := hq.symm
                  subst hq
                  refine lv_if_eq (tgt := 202) hx hb d_Forms_read_195 (by decide) (fun _ => ?_) (fun _ => ?_)
                  · skip
                    refine lv_iconst (v := nI 5) hx hb d_Forms_read_202 (by decide) ?_
                    exact q_iret E hr hlk (⟨_, rfl, hk⟩) hF d_Forms_read_203
                  · skip
                    refine lv_iconst (v := nI 0) hx hb d_Forms_read_198 (by decide) ?_
                    refine lv_goto (tgt := 203) hx hb d_Forms_read_199 (by decide) ?_
                    exact q_iret E hr hlk (⟨_, rfl, hk⟩) hF d_Forms_read_203
            · skip
              refine lv_aload_n hx hb d_Forms_read_96 rfl (lv_at hl 2 rfl) ?_
              refine lv_aload_n hx hb d_Forms_read_97 rfl (lv_at hl 3 rfl) ?_
              refine q_get (C := "KateDesk$Point") (T := T_Point) (N := 3) (ci := 2) E ((hk.pt hK h_t).1) in_Point rfl 1 (by decide) w_51 rfl rfl d_Forms_read_98 ?_
              refine lv_aload_n hx hb d_Forms_read_101 rfl (lv_at hl 4 rfl) ?_
              refine lv_bipush (v := nI 48) hx hb d_Forms_read_102 (by decide) ?_
              refine q_cV (rest := []) E (v_Forms_readCoordinate l g n0 o cu fi F mi X r1 r2 r3 r4 t2 rw ce ts 48 hts (by decide)) w_643 w_13 w_640 w_642 (bw_s 4 rfl) hd_Forms_readCoordinate rfl ⟨by decide, by decide⟩ (OB.recv E.2.2.2.2.2 (by rfl) ((hk.fmx hK hfm).1)) (⟨(hk.fmx hK hfm), ((hk.pt hK h_t).2.2.1), hk.rw9 hK hrw⟩) hF hl.1 rfl (Nat.le_of_ble_eq_true rfl) d_Forms_read_104 ⟨by decide, by decide⟩ (qi (fun rz4 H4 locs hq hF => ?_))
              obtain ⟨hbrz4, hq⟩ := hq
              have hk := hk.tr hq
              refine lv_if_ne (tgt := 112) hx hb d_Forms_read_107 (by decide) (fun _ => ?_) (fun _ => ?_)
              · skip
                refine lv_aload_n hx hb d_Forms_read_112 rfl (lv_at hl 2 rfl) ?_
                refine q_get (C := "KateDesk$Forms") (T := T_Forms) (N := 6) (ci := 6) E ((hk.fmx hK hfm).1) in_Forms rfl 1 (by decide) w_273 rfl rfl d_Forms_read_113 ?_
                refine lv_aload_n hx hb d_Forms_read_116 rfl (lv_at hl 2 rfl) ?_
                refine q_get (C := "KateDesk$Forms") (T := T_Forms) (N := 6) (ci := 6) E ((hk.fmx hK hfm).1) in_Forms rfl 3 (by decide) w_275 rfl rfl d_Forms_read_117 ?_
                refine lv_aload_n hx hb d_Forms_read_120 rfl (lv_at hl 3 rfl) ?_
                refine q_get (C := "KateDesk$Point") (T := T_Point) (N := 3) (ci := 2) E ((hk.pt hK h_t).1) in_Point rfl 0 (by decide) w_47 rfl rfl d_Forms_read_121 ?_
                refine q_cV (rest := []) E (v_Curve_squareOfY l g n0 cu fi F mi X r2 t1) w_651 w_11 w_648 w_649 w_650 hd_Curve_squareOfY rfl ⟨by decide, by decide⟩ (OB.recv E.2.2.2.2.2 (by rfl) ((hk.fmx hK hfm).2.1.1)) (⟨(hk.fmx hK hfm).2.1, ((hk.fmx hK hfm).2.2.2.1), ((hk.pt hK h_t).2.1)⟩) hF hl.1 rfl (Nat.le_of_ble_eq_true rfl) d_Forms_read_124 ⟨by decide, by decide⟩ (qv (fun H5 locs hq hF => ?_))
                have hk := hk.tr (hq.mono (fun q h => h.elim (fun h => h ▸ ((hk.fmx hK hfm).2.1.2.2 6 (by decide)).1) (fun h => h.elim (fun h => h ▸ ((hk.fmx hK hfm).2.1.2.2 7 (by decide)).1) (fun h => h ▸ (((hk.fmx hK hfm).2.2.2.1)).1))))
                refine lv_iload_n hx hb d_Forms_read_127 rfl (lv_at hl 1 rfl) ?_
                refine lv_if_eq (tgt := 151) hx hb d_Forms_read_128 (by decide) (fun _ => ?_) (fun _ => ?_)
                · skip
                  refine lv_aload_n hx hb d_Forms_read_151 rfl (lv_at hl 3 rfl) ?_
                  refine q_get (C := "KateDesk$Point") (T := T_Point) (N := 3) (ci := 2) E ((hk.pt hK h_t).1) in_Point rfl 2 (by decide) w_55 rfl rfl d_Forms_read_152 ?_
                  refine lv_aload_n hx hb d_Forms_read_155 rfl (lv_at hl 2 rfl) ?_
                  refine q_get (C := "KateDesk$Forms") (T := T_Forms) (N := 6) (ci := 6) E ((hk.fmx hK hfm).1) in_Forms rfl 0 (by decide) w_272 rfl rfl d_Forms_read_156 ?_
                  refine q_get (C := "KateDesk$Field") (T := T_Field) (N := 7) (ci := 1) E ((hk.fmx hK hfm).2.1.2.1.1) in_Field rfl 1 (by decide) w_174 rfl rfl d_Forms_read_159 ?_
                  obtain ⟨f5, hf5⟩ := (((hk.fmx hK hfm).2.1.2.1.2 1 (by decide))).2
                  refine q_cS (rest := []) E (c_Limbs_copy l g n0 t3 (F 1) f5) w_146 w_5 w_665 w_145 hd_Limbs_copy rfl ⟨by decide, by decide⟩ (⟨((hk.pt hK h_t).2.2.2), hf5⟩) hF hl.1 rfl (Nat.le_of_ble_eq_true rfl) d_Forms_read_162 ⟨by decide, by decide⟩ (qv (fun H6 locs hq hF => ?_))
                  have hk := hk.tr (hq.1.w1 (((hk.pt hK h_t).2.2.2)).1)
                  refine lv_aload_n hx hb d_Forms_read_165 rfl (lv_at hl 2 rfl) ?_
                  refine q_get (C := "KateDesk$Forms") (T := T_Forms) (N := 6) (ci := 6) E ((hk.fmx hK hfm).1) in_Forms rfl 0 (by decide) w_272 rfl rfl d_Forms_read_166 ?_
                  refine lv_aload_n hx hb d_Forms_read_169 rfl (lv_at hl 2 rfl) ?_
                  refine q_get (C := "KateDesk$Forms") (T := T_Forms) (N := 6) (ci := 6) E ((hk.fmx hK hfm).1) in_Forms rfl 4 (by decide) w_276 rfl rfl d_Forms_read_170 ?_
                  refine lv_aload_n hx hb d_Forms_read_173 rfl (lv_at hl 3 rfl) ?_
                  refine q_get (C := "KateDesk$Point") (T := T_Point) (N := 3) (ci := 2) E ((hk.pt hK h_t).1) in_Point rfl 1 (by decide) w_51 rfl rfl d_Forms_read_174 ?_
                  refine lv_aload_n hx hb d_Forms_read_177 rfl (lv_at hl 3 rfl) ?_
                  refine q_get (C := "KateDesk$Point") (T := T_Point) (N := 3) (ci := 2) E ((hk.pt hK h_t).1) in_Point rfl 1 (by decide) w_51 rfl rfl d_Forms_read_178 ?_
                  refine q_cV (rest := []) E (c_Field_multiply l g n0 fi r3 t2 t2 F mi) w_165 w_4 w_666 w_163 w_164 hd_Field_multiply rfl ⟨by decide, by decide⟩ (OB.recv E.2.2.2.2.2 (by rfl) (((hk.fmx hK hfm).2.1.2.1).1)) (⟨(hk.fmx hK hfm).2.1.2.1, ((hk.fmx hK hfm).2.2.2.2.1), ((hk.pt hK h_t).2.2.1), ((hk.pt hK h_t).2.2.1)⟩) hF hl.1 rfl (Nat.le_of_ble_eq_true rfl) d_Forms_read_181 ⟨by decide, by decide⟩ (qv (fun H7 locs hq hF => ?_))
                  have hk := hk.tr (hq.w1 (((hk.fmx hK hfm).2.2.2.2.1)).1)
                  refine lv_aload_n hx hb d_Forms_read_184 rfl (lv_at hl 2 rfl) ?_
                  refine q_get (C := "KateDesk$Forms") (T := T_Forms) (N := 6) (ci := 6) E ((hk.fmx hK hfm).1) in_Forms rfl 4 (by decide) w_276 rfl rfl d_Forms_read_185 ?_
                  refine lv_aload_n hx hb d_Forms_read_188 rfl (lv_at hl 2 rfl) ?_
                  refine q_get (C := "KateDesk$Forms") (T := T_Forms) (N := 6) (ci := 6) E ((hk.fmx hK hfm).1) in_Forms rfl 3 (by decide) w_275 rfl rfl d_Forms_read_189 ?_
                  refine q_cS (rest := []) E (v_Limbs_equal l g n0 r3 r2) w_669 w_5 w_667 w_668 hd_Limbs_equal rfl ⟨by decide, by decide⟩ (⟨((hk.fmx hK hfm).2.2.2.2.1), ((hk.fmx hK hfm).2.2.2.1)⟩) hF hl.1 rfl (Nat.le_of_ble_eq_true rfl) d_Forms_read_192 ⟨by decide, by decide⟩ (qi (fun rz6 H8 locs hq hF => ?_))
                  obtain ⟨hbrz6, hq⟩ := hq
                  have hq := hq.symm
                  subst hq
                  refine lv_if_eq (tgt := 202) hx hb d_Forms_read_195 (by decide) (fun _ => ?_) (fun _ => ?_)
                  · skip
                    refine lv_iconst (v := nI 5) hx hb d_Forms_read_202 (by decide) ?_
                    exact q_iret E hr hlk (⟨_, rfl, hk⟩) hF d_Forms_read_203
                  · skip
                    refine lv_iconst (v := nI 0) hx hb d_Forms_read_198 (by decide) ?_
                    refine lv_goto (tgt := 203) hx hb d_Forms_read_199 (by decide) ?_
                    exact q_iret E hr hlk (⟨_, rfl, hk⟩) hF d_Forms_read_203
                · skip
                  refine lv_aload_n hx hb d_Forms_read_131 rfl (lv_at hl 2 rfl) ?_
                  refine lv_aload_n hx hb d_Forms_read_132 rfl (lv_at hl 3 rfl) ?_
                  refine q_get (C := "KateDesk$Point") (T := T_Point) (N := 3) (ci := 2) E ((hk.pt hK h_t).1) in_Point rfl 1 (by decide) w_51 rfl rfl d_Forms_read_133 ?_
                  refine lv_iload hx hb d_Forms_read_136 (lv_at hl 0 rfl) ?_
                  refine lv_iconst (v := nI 1) hx hb d_Forms_read_138 (by decide) ?_
                  refine lv_iand hx hb d_Forms_read_139 ?_
                  refine lv_if_eq (tgt := 147) hx hb d_Forms_read_140 (by decide) (fun _ => ?_) (fun _ => ?_)
                  · skip
                    refine lv_iconst (v := nI 0) hx hb d_Forms_read_147 (by decide) ?_
                    refine q_cV (rest := []) E (v_Forms_findY l g n0 o cu fi F mi X r1 r2 r3 r4 t2 (nI 0)) w_657 w_13 w_654 w_656 (bw_s 5 rfl) hd_Forms_findY rfl ⟨by decide, by decide⟩ (OB.recv E.2.2.2.2.2 (by rfl) ((hk.fmx hK hfm).1)) (⟨(hk.fmx hK hfm), ((hk.pt hK h_t).2.2.1)⟩) hF hl.1 rfl (Nat.le_of_ble_eq_true rfl) d_Forms_read_148 ⟨by decide, by decide⟩ (qv (fun H6 locs hq hF => ?_))
                    have hk := hk.tr hq
                    refine lv_aload_n hx hb d_Forms_read_151 rfl (lv_at hl 3 rfl) ?_
                    refine q_get (C := "KateDesk$Point") (T := T_Point) (N := 3) (ci := 2) E ((hk.pt hK h_t).1) in_Point rfl 2 (by decide) w_55 rfl rfl d_Forms_read_152 ?_
                    refine lv_aload_n hx hb d_Forms_read_155 rfl (lv_at hl 2 rfl) ?_
                    refine q_get (C := "KateDesk$Forms") (T := T_Forms) (N := 6) (ci := 6) E ((hk.fmx hK hfm).1) in_Forms rfl 0 (by decide) w_272 rfl rfl d_Forms_read_156 ?_
                    refine q_get (C := "KateDesk$Field") (T := T_Field) (N := 7) (ci := 1) E ((hk.fmx hK hfm).2.1.2.1.1) in_Field rfl 1 (by decide) w_174 rfl rfl d_Forms_read_159 ?_
                    obtain ⟨f5, hf5⟩ := (((hk.fmx hK hfm).2.1.2.1.2 1 (by decide))).2
                    refine q_cS (rest := []) E (c_Limbs_copy l g n0 t3 (F 1) f5) w_146 w_5 w_665 w_145 hd_Limbs_copy rfl ⟨by decide, by decide⟩ (⟨((hk.pt hK h_t).2.2.2), hf5⟩) hF hl.1 rfl (Nat.le_of_ble_eq_true rfl) d_Forms_read_162 ⟨by decide, by decide⟩ (qv (fun H7 locs hq hF => ?_))
                    have hk := hk.tr (hq.1.w1 (((hk.pt hK h_t).2.2.2)).1)
                    refine lv_aload_n hx hb d_Forms_read_165 rfl (lv_at hl 2 rfl) ?_
                    refine q_get (C := "KateDesk$Forms") (T := T_Forms) (N := 6) (ci := 6) E ((hk.fmx hK hfm).1) in_Forms rfl 0 (by decide) w_272 rfl rfl d_Forms_read_166 ?_
                    refine lv_aload_n hx hb d_Forms_read_169 rfl (lv_at hl 2 rfl) ?_
                    refine q_get (C := "KateDesk$Forms") (T := T_Forms) (N := 6) (ci := 6) E ((hk.fmx hK hfm).1) in_Forms rfl 4 (by decide) w_276 rfl rfl d_Forms_read_170 ?_
                    refine lv_aload_n hx hb d_Forms_read_173 rfl (lv_at hl 3 rfl) ?_
                    refine q_get (C := "KateDesk$Point") (T := T_Point) (N := 3) (ci := 2) E ((hk.pt hK h_t).1) in_Point rfl 1 (by decide) w_51 rfl rfl d_Forms_read_174 ?_
                    refine lv_aload_n hx hb d_Forms_read_177 rfl (lv_at hl 3 rfl) ?_
                    refine q_get (C := "KateDesk$Point") (T := T_Point) (N := 3) (ci := 2) E ((hk.pt hK h_t).1) in_Point rfl 1 (by decide) w_51 rfl rfl d_Forms_read_178 ?_
                    refine q_cV (rest := []) E (c_Field_multiply l g n0 fi r3 t2 t2 F mi) w_165 w_4 w_666 w_163 w_164 hd_Field_multiply rfl ⟨by decide, by decide⟩ (OB.recv E.2.2.2.2.2 (by rfl) (((hk.fmx hK hfm).2.1.2.1).1)) (⟨(hk.fmx hK hfm).2.1.2.1, ((hk.fmx hK hfm).2.2.2.2.1), ((hk.pt hK h_t).2.2.1), ((hk.pt hK h_t).2.2.1)⟩) hF hl.1 rfl (Nat.le_of_ble_eq_true rfl) d_Forms_read_181 ⟨by decide, by decide⟩ (qv (fun H8 locs hq hF => ?_))
                    have hk := hk.tr (hq.w1 (((hk.fmx hK hfm).2.2.2.2.1)).1)
                    refine lv_aload_n hx hb d_Forms_read_184 rfl (lv_at hl 2 rfl) ?_
                    refine q_get (C := "KateDesk$Forms") (T := T_Forms) (N := 6) (ci := 6) E ((hk.fmx hK hfm).1) in_Forms rfl 4 (by decide) w_276 rfl rfl d_Forms_read_185 ?_
                    refine lv_aload_n hx hb d_Forms_read_188 rfl (lv_at hl 2 rfl) ?_
                    refine q_get (C := "KateDesk$Forms") (T := T_Forms) (N := 6) (ci := 6) E ((hk.fmx hK hfm).1) in_Forms rfl 3 (by decide) w_275 rfl rfl d_Forms_read_189 ?_
                    refine q_cS (rest := []) E (v_Limbs_equal l g n0 r3 r2) w_669 w_5 w_667 w_668 hd_Limbs_equal rfl ⟨by decide, by decide⟩ (⟨((hk.fmx hK hfm).2.2.2.2.1), ((hk.fmx hK hfm).2.2.2.1)⟩) hF hl.1 rfl (Nat.le_of_ble_eq_true rfl) d_Forms_read_192 ⟨by decide, by decide⟩ (qi (fun rz6 H9 locs hq hF => ?_))
                    obtain ⟨hbrz6, hq⟩ := hq
                    have hq := hq.symm
                    subst hq
                    refine lv_if_eq (tgt := 202) hx hb d_Forms_read_195 (by decide) (fun _ => ?_) (fun _ => ?_)
                    · skip
                      refine lv_iconst (v := nI 5) hx hb d_Forms_read_202 (by decide) ?_
                      exact q_iret E hr hlk (⟨_, rfl, hk⟩) hF d_Forms_read_203
                    · skip
                      refine lv_iconst (v := nI 0) hx hb d_Forms_read_198 (by decide) ?_
                      refine lv_goto (tgt := 203) hx hb d_Forms_read_199 (by decide) ?_
                      exact q_iret E hr hlk (⟨_, rfl, hk⟩) hF d_Forms_read_203
                  · skip
                    refine lv_iconst (v := nI 1) hx hb d_Forms_read_143 (by decide) ?_
                    refine lv_goto (tgt := 148) hx hb d_Forms_read_144 (by decide) ?_
                    refine q_cV (rest := []) E (v_Forms_findY l g n0 o cu fi F mi X r1 r2 r3 r4 t2 (nI 1)) w_657 w_13 w_654 w_656 (bw_s 5 rfl) hd_Forms_findY rfl ⟨by decide, by decide⟩ (OB.recv E.2.2.2.2.2 (by rfl) ((hk.fmx hK hfm).1)) (⟨(hk.fmx hK hfm), ((hk.pt hK h_t).2.2.1)⟩) hF hl.1 rfl (Nat.le_of_ble_eq_true rfl) d_Forms_read_148 ⟨by decide, by decide⟩ (qv (fun H6 locs hq hF => ?_))
                    have hk := hk.tr hq
                    refine lv_aload_n hx hb d_Forms_read_151 rfl (lv_at hl 3 rfl) ?_
                    refine q_get (C := "KateDesk$Point") (T := T_Point) (N := 3) (ci := 2) E ((hk.pt hK h_t).1) in_Point rfl 2 (by decide) w_55 rfl rfl d_Forms_read_152 ?_
                    refine lv_aload_n hx hb d_Forms_read_155 rfl (lv_at hl 2 rfl) ?_
                    refine q_get (C := "KateDesk$Forms") (T := T_Forms) (N := 6) (ci := 6) E ((hk.fmx hK hfm).1) in_Forms rfl 0 (by decide) w_272 rfl rfl d_Forms_read_156 ?_
                    refine q_get (C := "KateDesk$Field") (T := T_Field) (N := 7) (ci := 1) E ((hk.fmx hK hfm).2.1.2.1.1) in_Field rfl 1 (by decide) w_174 rfl rfl d_Forms_read_159 ?_
                    obtain ⟨f5, hf5⟩ := (((hk.fmx hK hfm).2.1.2.1.2 1 (by decide))).2
                    refine q_cS (rest := []) E (c_Limbs_copy l g n0 t3 (F 1) f5) w_146 w_5 w_665 w_145 hd_Limbs_copy rfl ⟨by decide, by decide⟩ (⟨((hk.pt hK h_t).2.2.2), hf5⟩) hF hl.1 rfl (Nat.le_of_ble_eq_true rfl) d_Forms_read_162 ⟨by decide, by decide⟩ (qv (fun H7 locs hq hF => ?_))
                    have hk := hk.tr (hq.1.w1 (((hk.pt hK h_t).2.2.2)).1)
                    refine lv_aload_n hx hb d_Forms_read_165 rfl (lv_at hl 2 rfl) ?_
                    refine q_get (C := "KateDesk$Forms") (T := T_Forms) (N := 6) (ci := 6) E ((hk.fmx hK hfm).1) in_Forms rfl 0 (by decide) w_272 rfl rfl d_Forms_read_166 ?_
                    refine lv_aload_n hx hb d_Forms_read_169 rfl (lv_at hl 2 rfl) ?_
                    refine q_get (C := "KateDesk$Forms") (T := T_Forms) (N := 6) (ci := 6) E ((hk.fmx hK hfm).1) in_Forms rfl 4 (by decide) w_276 rfl rfl d_Forms_read_170 ?_
                    refine lv_aload_n hx hb d_Forms_read_173 rfl (lv_at hl 3 rfl) ?_
                    refine q_get (C := "KateDesk$Point") (T := T_Point) (N := 3) (ci := 2) E ((hk.pt hK h_t).1) in_Point rfl 1 (by decide) w_51 rfl rfl d_Forms_read_174 ?_
                    refine lv_aload_n hx hb d_Forms_read_177 rfl (lv_at hl 3 rfl) ?_
                    refine q_get (C := "KateDesk$Point") (T := T_Point) (N := 3) (ci := 2) E ((hk.pt hK h_t).1) in_Point rfl 1 (by decide) w_51 rfl rfl d_Forms_read_178 ?_
                    refine q_cV (rest := []) E (c_Field_multiply l g n0 fi r3 t2 t2 F mi) w_165 w_4 w_666 w_163 w_164 hd_Field_multiply rfl ⟨by decide, by decide⟩ (OB.recv E.2.2.2.2.2 (by rfl) (((hk.fmx hK hfm).2.1.2.1).1)) (⟨(hk.fmx hK hfm).2.1.2.1, ((hk.fmx hK hfm).2.2.2.2.1), ((hk.pt hK h_t).2.2.1), ((hk.pt hK h_t).2.2.1)⟩) hF hl.1 rfl (Nat.le_of_ble_eq_true rfl) d_Forms_read_181 ⟨by decide, by decide⟩ (qv (fun H8 locs hq hF => ?_))
                    have hk := hk.tr (hq.w1 (((hk.fmx hK hfm).2.2.2.2.1)).1)
                    refine lv_aload_n hx hb d_Forms_read_184 rfl (lv_at hl 2 rfl) ?_
                    refine q_get (C := "KateDesk$Forms") (T := T_Forms) (N := 6) (ci := 6) E ((hk.fmx hK hfm).1) in_Forms rfl 4 (by decide) w_276 rfl rfl d_Forms_read_185 ?_
                    refine lv_aload_n hx hb d_Forms_read_188 rfl (lv_at hl 2 rfl) ?_
                    refine q_get (C := "KateDesk$Forms") (T := T_Forms) (N := 6) (ci := 6) E ((hk.fmx hK hfm).1) in_Forms rfl 3 (by decide) w_275 rfl rfl d_Forms_read_189 ?_
                    refine q_cS (rest := []) E (v_Limbs_equal l g n0 r3 r2) w_669 w_5 w_667 w_668 hd_Limbs_equal rfl ⟨by decide, by decide⟩ (⟨((hk.fmx hK hfm).2.2.2.2.1), ((hk.fmx hK hfm).2.2.2.1)⟩) hF hl.1 rfl (Nat.le_of_ble_eq_true rfl) d_Forms_read_192 ⟨by decide, by decide⟩ (qi (fun rz6 H9 locs hq hF => ?_))
                    obtain ⟨hbrz6, hq⟩ := hq
                    have hq := hq.symm
                    subst hq
                    refine lv_if_eq (tgt := 202) hx hb d_Forms_read_195 (by decide) (fun _ => ?_) (fun _ => ?_)
                    · skip
                      refine lv_iconst (v := nI 5) hx hb d_Forms_read_202 (by decide) ?_
                      exact q_iret E hr hlk (⟨_, rfl, hk⟩) hF d_Forms_read_203
                    · skip
                      refine lv_iconst (v := nI 0) hx hb d_Forms_read_198 (by decide) ?_
                      refine lv_goto (tgt := 203) hx hb d_Forms_read_199 (by decide) ?_
                      exact q_iret E hr hlk (⟨_, rfl, hk⟩) hF d_Forms_read_203
              · skip
                refine lv_iconst (v := nI 4) hx hb d_Forms_read_110 (by decide) ?_
                exact q_iret E hr hlk (⟨_, rfl, hk⟩) hF d_Forms_read_111
        · skip
          refine lv_aload_n hx hb d_Forms_read_62 rfl (lv_at hl 3 rfl) ?_
          refine q_cV (rest := []) E (c_Point_becomeNothing l g n0 t t1 t2 t3 h32) w_635 w_2 w_632 w_633 w_634 hd_Point_becomeNothing rfl ⟨by decide, by decide⟩ (OB.recv E.2.2.2.2.2 (by rfl) (((hk.pt hK h_t)).1)) (hk.pt hK h_t) hF hl.1 rfl (Nat.le_of_ble_eq_true rfl) d_Forms_read_63 ⟨by decide, by decide⟩ (qv (fun H3 locs hq hF => ?_))
          have hk := hk.tr (hq.1.mono (pt_le (hk.pt hK h_t)))
          refine lv_aload_n hx hb d_Forms_read_66 rfl (lv_at hl 4 rfl) ?_
          refine q_cS (rest := []) E (v_Forms_isBare l g n0 rw ce ts hts) w_639 w_13 w_637 w_638 hd_Forms_isBare rfl ⟨by decide, by decide⟩ (hk.rw9 hK hrw) hF hl.1 rfl (Nat.le_of_ble_eq_true rfl) d_Forms_read_67 ⟨by decide, by decide⟩ (qi (fun rz3 H4 locs hq hF => ?_))
          obtain ⟨hbrz3, hq⟩ := hq
          have hq := hq.symm
          subst hq
          refine lv_if_eq (tgt := 77) hx hb d_Forms_read_70 (by decide) (fun _ => ?_) (fun _ => ?_)
          · skip
            refine lv_iconst (v := nI 3) hx hb d_Forms_read_77 (by decide) ?_
            exact q_iret E hr hlk (⟨_, rfl, hk⟩) hF d_Forms_read_78
          · skip
            refine lv_iconst (v := nI 0) hx hb d_Forms_read_73 (by decide) ?_
            refine lv_goto (tgt := 78) hx hb d_Forms_read_74 (by decide) ?_
            exact q_iret E hr hlk (⟨_, rfl, hk⟩) hF d_Forms_read_78
      · skip
        refine lv_iconst (v := nI 2) hx hb d_Forms_read_53 (by decide) ?_
        exact q_iret E hr hlk (⟨_, rfl, hk⟩) hF d_Forms_read_54
  · skip
    refine lv_aload_n hx hb d_Forms_read_9 rfl (lv_at hl 2 rfl) ?_
    refine q_get (C := "KateDesk$Row") (T := T_Row) (N := 2) (ci := 3) E ((hk.rw9 hK hrw).1) in_Row rfl 1 (by decide) w_73 rfl rfl d_Forms_read_10 ?_
    refine lv_bipush (v := nI 96) hx hb d_Forms_read_13 (by decide) ?_
    refine lv_icmp_eq (tgt := 20) hx hb d_Forms_read_15 (by decide) (fun _ => ?_) (fun _ => ?_)
    · skip
      refine lv_aload_n hx hb d_Forms_read_20 rfl (lv_at hl 2 rfl) ?_
      refine q_get (C := "KateDesk$Row") (T := T_Row) (N := 2) (ci := 3) E ((hk.rw9 hK hrw).1) in_Row rfl 1 (by decide) w_73 rfl rfl d_Forms_read_21 ?_
      refine lv_bipush (v := nI 48) hx hb d_Forms_read_24 (by decide) ?_
      refine lv_icmp_ne (tgt := 33) hx hb d_Forms_read_26 (by decide) (fun _ => ?_) (fun _ => ?_)
      · skip
        refine lv_iconst (v := nI 0) hx hb d_Forms_read_33 (by decide) ?_
        refine lv_istore_n (lv' := [(3, .int (nI 0)), (0, .ref o), (1, .ref t), (2, .ref rw)]) hx hb d_Forms_read_34 rfl hl (by decide) rfl (fun ls hl => ?_)
        refine lv_aload_n hx hb d_Forms_read_35 rfl (lv_at hl 3 rfl) ?_
        refine lv_iconst (v := nI 0) hx hb d_Forms_read_36 (by decide) ?_
        refine q_cV (rest := []) E (v_Row_at l g n0 rw ce ts (nI 0) hts) w_505 w_3 w_628 w_503 w_504 hd_Row_at rfl ⟨by decide, by decide⟩ (OB.recv E.2.2.2.2.2 (by rfl) ((hk.rw9 hK hrw).1)) (⟨(hk.rw9 hK hrw).1, (hk.rw9 hK hrw).2⟩) hF hl.1 rfl (Nat.le_of_ble_eq_true rfl) d_Forms_read_37 ⟨by decide, by decide⟩ (qi (fun rz1 H1 locs hq hF => ?_))
        obtain ⟨-, hq⟩ := hq
        have hq := hq.symm
        subst hq
        refine lv_iconst (v := nI 5) hx hb d_Forms_read_40 (by decide) ?_
        refine lv_ishr hx hb d_Forms_read_41 ?_
        refine lv_istore (lv' := [(4, .int (rz1 >>> ((nI 5) &&& 31))), (3, .int (nI 0)), (0, .ref o), (1, .ref t), (2, .ref rw)]) hx hb d_Forms_read_42 hl (by decide) rfl (fun ls hl => ?_)
        refine lv_iload hx hb d_Forms_read_44 (lv_at hl 0 rfl) ?_
        refine lv_iload_n hx hb d_Forms_read_46 rfl (lv_at hl 1 rfl) ?_
        refine q_cS (rest := []) E (v_Forms_canBe l g n0 (rz1 >>> ((nI 5) &&& 31)) (nI 0)) w_631 w_13 w_629 w_630 hd_Forms_canBe rfl ⟨by decide, by decide⟩ trivial hF hl.1 rfl (Nat.le_of_ble_eq_true rfl) d_Forms_read_47 ⟨by decide, by decide⟩ (qi (fun rz2 H2 locs hq hF => ?_))
        obtain ⟨hbrz2, hq⟩ := hq
        have hq := hq.symm
        subst hq
        refine lv_if_ne (tgt := 55) hx hb d_Forms_read_50 (by decide) (fun _ => ?_) (fun _ => ?_)
        · skip
          refine lv_iload hx hb d_Forms_read_55 (lv_at hl 0 rfl) ?_
          refine lv_iconst (v := nI 2) hx hb d_Forms_read_57 (by decide) ?_
          refine lv_iand hx hb d_Forms_read_58 ?_
          refine lv_if_eq (tgt := 79) hx hb d_Forms_read_59 (by decide) (fun _ => ?_) (fun _ => ?_)
          · skip
            refine lv_aload_n hx hb d_Forms_read_79 rfl (lv_at hl 2 rfl) ?_
            refine lv_aload_n hx hb d_Forms_read_80 rfl (lv_at hl 3 rfl) ?_
            refine q_get (C := "KateDesk$Point") (T := T_Point) (N := 3) (ci := 2) E ((hk.pt hK h_t).1) in_Point rfl 0 (by decide) w_47 rfl rfl d_Forms_read_81 ?_
            refine lv_aload_n hx hb d_Forms_read_84 rfl (lv_at hl 4 rfl) ?_
            refine lv_iconst (v := nI 0) hx hb d_Forms_read_85 (by decide) ?_
            refine q_cV (rest := []) E (v_Forms_readCoordinate l g n0 o cu fi F mi X r1 r2 r3 r4 t1 rw ce ts 0 hts (by decide)) w_643 w_13 w_640 w_642 (bw_s 4 rfl) hd_Forms_readCoordinate rfl ⟨by decide, by decide⟩ (OB.recv E.2.2.2.2.2 (by rfl) ((hk.fmx hK hfm).1)) (⟨(hk.fmx hK hfm), ((hk.pt hK h_t).2.1), hk.rw9 hK hrw⟩) hF hl.1 rfl (Nat.le_of_ble_eq_true rfl) d_Forms_read_86 ⟨by decide, by decide⟩ (qi (fun rz3 H3 locs hq hF => ?_))
            obtain ⟨hbrz3, hq⟩ := hq
            have hk := hk.tr hq
            refine lv_if_eq (tgt := 110) hx hb d_Forms_read_89 (by decide) (fun _ => ?_) (fun _ => ?_)
            · skip
              refine lv_iconst (v := nI 4) hx hb d_Forms_read_110 (by decide) ?_
              exact q_iret E hr hlk (⟨_, rfl, hk⟩) hF d_Forms_read_111
            · skip
              refine lv_iload_n hx hb d_Forms_read_92 rfl (lv_at hl 1 rfl) ?_
              refine lv_if_ne (tgt := 112) hx hb d_Forms_read_93 (by decide) (fun _ => ?_) (fun _ => ?_)
              · skip
                refine lv_aload_n hx hb d_Forms_read_112 rfl (lv_at hl 2 rfl) ?_
                refine q_get (C := "KateDesk$Forms") (T := T_Forms) (N := 6) (ci := 6) E ((hk.fmx hK hfm).1) in_Forms rfl 1 (by decide) w_273 rfl rfl d_Forms_read_113 ?_
                refine lv_aload_n hx hb d_Forms_read_116 rfl (lv_at hl 2 rfl) ?_
                refine q_get (C := "KateDesk$Forms") (T := T_Forms) (N := 6) (ci := 6) E ((hk.fmx hK hfm).1) in_Forms rfl 3 (by decide) w_275 rfl rfl d_Forms_read_117 ?_
                refine lv_aload_n hx hb d_Forms_read_120 rfl (lv_at hl 3 rfl) ?_
                refine q_get (C := "KateDesk$Point") (T := T_Point) (N := 3) (ci := 2) E ((hk.pt hK h_t).1) in_Point rfl 0 (by decide) w_47 rfl rfl d_Forms_read_121 ?_
                refine q_cV (rest := []) E (v_Curve_squareOfY l g n0 cu fi F mi X r2 t1) w_651 w_11 w_648 w_649 w_650 hd_Curve_squareOfY rfl ⟨by decide, by decide⟩ (OB.recv E.2.2.2.2.2 (by rfl) ((hk.fmx hK hfm).2.1.1)) (⟨(hk.fmx hK hfm).2.1, ((hk.fmx hK hfm).2.2.2.1), ((hk.pt hK h_t).2.1)⟩) hF hl.1 rfl (Nat.le_of_ble_eq_true rfl) d_Forms_read_124 ⟨by decide, by decide⟩ (qv (fun H4 locs hq hF => ?_))
                have hk := hk.tr (hq.mono (fun q h => h.elim (fun h => h ▸ ((hk.fmx hK hfm).2.1.2.2 6 (by decide)).1) (fun h => h.elim (fun h => h ▸ ((hk.fmx hK hfm).2.1.2.2 7 (by decide)).1) (fun h => h ▸ (((hk.fmx hK hfm).2.2.2.1)).1))))
                refine lv_iload_n hx hb d_Forms_read_127 rfl (lv_at hl 1 rfl) ?_
                refine lv_if_eq (tgt := 151) hx hb d_Forms_read_128 (by decide) (fun _ => ?_) (fun _ => ?_)
                · skip
                  refine lv_aload_n hx hb d_Forms_read_151 rfl (lv_at hl 3 rfl) ?_
                  refine q_get (C := "KateDesk$Point") (T := T_Point) (N := 3) (ci := 2) E ((hk.pt hK h_t).1) in_Point rfl 2 (by decide) w_55 rfl rfl d_Forms_read_152 ?_
                  refine lv_aload_n hx hb d_Forms_read_155 rfl (lv_at hl 2 rfl) ?_
                  refine q_get (C := "KateDesk$Forms") (T := T_Forms) (N := 6) (ci := 6) E ((hk.fmx hK hfm).1) in_Forms rfl 0 (by decide) w_272 rfl rfl d_Forms_read_156 ?_
                  refine q_get (C := "KateDesk$Field") (T := T_Field) (N := 7) (ci := 1) E ((hk.fmx hK hfm).2.1.2.1.1) in_Field rfl 1 (by decide) w_174 rfl rfl d_Forms_read_159 ?_
                  obtain ⟨f4, hf4⟩ := (((hk.fmx hK hfm).2.1.2.1.2 1 (by decide))).2
                  refine q_cS (rest := []) E (c_Limbs_copy l g n0 t3 (F 1) f4) w_146 w_5 w_665 w_145 hd_Limbs_copy rfl ⟨by decide, by decide⟩ (⟨((hk.pt hK h_t).2.2.2), hf4⟩) hF hl.1 rfl (Nat.le_of_ble_eq_true rfl) d_Forms_read_162 ⟨by decide, by decide⟩ (qv (fun H5 locs hq hF => ?_))
                  have hk := hk.tr (hq.1.w1 (((hk.pt hK h_t).2.2.2)).1)
                  refine lv_aload_n hx hb d_Forms_read_165 rfl (lv_at hl 2 rfl) ?_
                  refine q_get (C := "KateDesk$Forms") (T := T_Forms) (N := 6) (ci := 6) E ((hk.fmx hK hfm).1) in_Forms rfl 0 (by decide) w_272 rfl rfl d_Forms_read_166 ?_
                  refine lv_aload_n hx hb d_Forms_read_169 rfl (lv_at hl 2 rfl) ?_
                  refine q_get (C := "KateDesk$Forms") (T := T_Forms) (N := 6) (ci := 6) E ((hk.fmx hK hfm).1) in_Forms rfl 4 (by decide) w_276 rfl rfl d_Forms_read_170 ?_
                  refine lv_aload_n hx hb d_Forms_read_173 rfl (lv_at hl 3 rfl) ?_
                  refine q_get (C := "KateDesk$Point") (T := T_Point) (N := 3) (ci := 2) E ((hk.pt hK h_t).1) in_Point rfl 1 (by decide) w_51 rfl rfl d_Forms_read_174 ?_
                  refine lv_aload_n hx hb d_Forms_read_177 rfl (lv_at hl 3 rfl) ?_
                  refine q_get (C := "KateDesk$Point") (T := T_Point) (N := 3) (ci := 2) E ((hk.pt hK h_t).1) in_Point rfl 1 (by decide) w_51 rfl rfl d_Forms_read_178 ?_
                  refine q_cV (rest := []) E (c_Field_multiply l g n0 fi r3 t2 t2 F mi) w_165 w_4 w_666 w_163 w_164 hd_Field_multiply rfl ⟨by decide, by decide⟩ (OB.recv E.2.2.2.2.2 (by rfl) (((hk.fmx hK hfm).2.1.2.1).1)) (⟨(hk.fmx hK hfm).2.1.2.1, ((hk.fmx hK hfm).2.2.2.2.1), ((hk.pt hK h_t).2.2.1), ((hk.pt hK h_t).2.2.1)⟩) hF hl.1 rfl (Nat.le_of_ble_eq_true rfl) d_Forms_read_181 ⟨by decide, by decide⟩ (qv (fun H6 locs hq hF => ?_))
                  have hk := hk.tr (hq.w1 (((hk.fmx hK hfm).2.2.2.2.1)).1)
                  refine lv_aload_n hx hb d_Forms_read_184 rfl (lv_at hl 2 rfl) ?_
                  refine q_get (C := "KateDesk$Forms") (T := T_Forms) (N := 6) (ci := 6) E ((hk.fmx hK hfm).1) in_Forms rfl 4 (by decide) w_276 rfl rfl d_Forms_read_185 ?_
                  refine lv_aload_n hx hb d_Forms_read_188 rfl (lv_at hl 2 rfl) ?_
                  refine q_get (C := "KateDesk$Forms") (T := T_Forms) (N := 6) (ci := 6) E ((hk.fmx hK hfm).1) in_Forms rfl 3 (by decide) w_275 rfl rfl d_Forms_read_189 ?_
                  refine q_cS (rest := []) E (v_Limbs_equal l g n0 r3 r2) w_669 w_5 w_667 w_668 hd_Limbs_equal rfl ⟨by decide, by decide⟩ (⟨((hk.fmx hK hfm).2.2.2.2.1), ((hk.fmx hK hfm).2.2.2.1)⟩) hF hl.1 rfl (Nat.le_of_ble_eq_true rfl) d_Forms_read_192 ⟨by decide, by decide⟩ (qi (fun rz5 H7 locs hq hF => ?_))
                  obtain ⟨hbrz5, hq⟩ := hq
                  have hq := hq.symm
                  subst hq
                  refine lv_if_eq (tgt := 202) hx hb d_Forms_read_195 (by decide) (fun _ => ?_) (fun _ => ?_)
                  · skip
                    refine lv_iconst (v := nI 5) hx hb d_Forms_read_202 (by decide) ?_
                    exact q_iret E hr hlk (⟨_, rfl, hk⟩) hF d_Forms_read_203
                  · skip
                    refine lv_iconst (v := nI 0) hx hb d_Forms_read_198 (by decide) ?_
                    refine lv_goto (tgt := 203) hx hb d_Forms_read_199 (by decide) ?_
                    exact q_iret E hr hlk (⟨_, rfl, hk⟩) hF d_Forms_read_203
                · skip
                  refine lv_aload_n hx hb d_Forms_read_131 rfl (lv_at hl 2 rfl) ?_
                  refine lv_aload_n hx hb d_Forms_read_132 rfl (lv_at hl 3 rfl) ?_
                  refine q_get (C := "KateDesk$Point") (T := T_Point) (N := 3) (ci := 2) E ((hk.pt hK h_t).1) in_Point rfl 1 (by decide) w_51 rfl rfl d_Forms_read_133 ?_
                  refine lv_iload hx hb d_Forms_read_136 (lv_at hl 0 rfl) ?_
                  refine lv_iconst (v := nI 1) hx hb d_Forms_read_138 (by decide) ?_
                  refine lv_iand hx hb d_Forms_read_139 ?_
                  refine lv_if_eq (tgt := 147) hx hb d_Forms_read_140 (by decide) (fun _ => ?_) (fun _ => ?_)
                  · skip
                    refine lv_iconst (v := nI 0) hx hb d_Forms_read_147 (by decide) ?_
                    refine q_cV (rest := []) E (v_Forms_findY l g n0 o cu fi F mi X r1 r2 r3 r4 t2 (nI 0)) w_657 w_13 w_654 w_656 (bw_s 5 rfl) hd_Forms_findY rfl ⟨by decide, by decide⟩ (OB.recv E.2.2.2.2.2 (by rfl) ((hk.fmx hK hfm).1)) (⟨(hk.fmx hK hfm), ((hk.pt hK h_t).2.2.1)⟩) hF hl.1 rfl (Nat.le_of_ble_eq_true rfl) d_Forms_read_148 ⟨by decide, by decide⟩ (qv (fun H5 locs hq hF => ?_))
                    have hk := hk.tr hq
                    refine lv_aload_n hx hb d_Forms_read_151 rfl (lv_at hl 3 rfl) ?_
                    refine q_get (C := "KateDesk$Point") (T := T_Point) (N := 3) (ci := 2) E ((hk.pt hK h_t).1) in_Point rfl 2 (by decide) w_55 rfl rfl d_Forms_read_152 ?_
                    refine lv_aload_n hx hb d_Forms_read_155 rfl (lv_at hl 2 rfl) ?_
                    refine q_get (C := "KateDesk$Forms") (T := T_Forms) (N := 6) (ci := 6) E ((hk.fmx hK hfm).1) in_Forms rfl 0 (by decide) w_272 rfl rfl d_Forms_read_156 ?_
                    refine q_get (C := "KateDesk$Field") (T := T_Field) (N := 7) (ci := 1) E ((hk.fmx hK hfm).2.1.2.1.1) in_Field rfl 1 (by decide) w_174 rfl rfl d_Forms_read_159 ?_
                    obtain ⟨f4, hf4⟩ := (((hk.fmx hK hfm).2.1.2.1.2 1 (by decide))).2
                    refine q_cS (rest := []) E (c_Limbs_copy l g n0 t3 (F 1) f4) w_146 w_5 w_665 w_145 hd_Limbs_copy rfl ⟨by decide, by decide⟩ (⟨((hk.pt hK h_t).2.2.2), hf4⟩) hF hl.1 rfl (Nat.le_of_ble_eq_true rfl) d_Forms_read_162 ⟨by decide, by decide⟩ (qv (fun H6 locs hq hF => ?_))
                    have hk := hk.tr (hq.1.w1 (((hk.pt hK h_t).2.2.2)).1)
                    refine lv_aload_n hx hb d_Forms_read_165 rfl (lv_at hl 2 rfl) ?_
                    refine q_get (C := "KateDesk$Forms") (T := T_Forms) (N := 6) (ci := 6) E ((hk.fmx hK hfm).1) in_Forms rfl 0 (by decide) w_272 rfl rfl d_Forms_read_166 ?_
                    refine lv_aload_n hx hb d_Forms_read_169 rfl (lv_at hl 2 rfl) ?_
                    refine q_get (C := "KateDesk$Forms") (T := T_Forms) (N := 6) (ci := 6) E ((hk.fmx hK hfm).1) in_Forms rfl 4 (by decide) w_276 rfl rfl d_Forms_read_170 ?_
                    refine lv_aload_n hx hb d_Forms_read_173 rfl (lv_at hl 3 rfl) ?_
                    refine q_get (C := "KateDesk$Point") (T := T_Point) (N := 3) (ci := 2) E ((hk.pt hK h_t).1) in_Point rfl 1 (by decide) w_51 rfl rfl d_Forms_read_174 ?_
                    refine lv_aload_n hx hb d_Forms_read_177 rfl (lv_at hl 3 rfl) ?_
                    refine q_get (C := "KateDesk$Point") (T := T_Point) (N := 3) (ci := 2) E ((hk.pt hK h_t).1) in_Point rfl 1 (by decide) w_51 rfl rfl d_Forms_read_178 ?_
                    refine q_cV (rest := []) E (c_Field_multiply l g n0 fi r3 t2 t2 F mi) w_165 w_4 w_666 w_163 w_164 hd_Field_multiply rfl ⟨by decide, by decide⟩ (OB.recv E.2.2.2.2.2 (by rfl) (((hk.fmx hK hfm).2.1.2.1).1)) (⟨(hk.fmx hK hfm).2.1.2.1, ((hk.fmx hK hfm).2.2.2.2.1), ((hk.pt hK h_t).2.2.1), ((hk.pt hK h_t).2.2.1)⟩) hF hl.1 rfl (Nat.le_of_ble_eq_true rfl) d_Forms_read_181 ⟨by decide, by decide⟩ (qv (fun H7 locs hq hF => ?_))
                    have hk := hk.tr (hq.w1 (((hk.fmx hK hfm).2.2.2.2.1)).1)
                    refine lv_aload_n hx hb d_Forms_read_184 rfl (lv_at hl 2 rfl) ?_
                    refine q_get (C := "KateDesk$Forms") (T := T_Forms) (N := 6) (ci := 6) E ((hk.fmx hK hfm).1) in_Forms rfl 4 (by decide) w_276 rfl rfl d_Forms_read_185 ?_
                    refine lv_aload_n hx hb d_Forms_read_188 rfl (lv_at hl 2 rfl) ?_
                    refine q_get (C := "KateDesk$Forms") (T := T_Forms) (N := 6) (ci := 6) E ((hk.fmx hK hfm).1) in_Forms rfl 3 (by decide) w_275 rfl rfl d_Forms_read_189 ?_
                    refine q_cS (rest := []) E (v_Limbs_equal l g n0 r3 r2) w_669 w_5 w_667 w_668 hd_Limbs_equal rfl ⟨by decide, by decide⟩ (⟨((hk.fmx hK hfm).2.2.2.2.1), ((hk.fmx hK hfm).2.2.2.1)⟩) hF hl.1 rfl (Nat.le_of_ble_eq_true rfl) d_Forms_read_192 ⟨by decide, by decide⟩ (qi (fun rz5 H8 locs hq hF => ?_))
                    obtain ⟨hbrz5, hq⟩ := hq
                    have hq := hq.symm
                    subst hq
                    refine lv_if_eq (tgt := 202) hx hb d_Forms_read_195 (by decide) (fun _ => ?_) (fun _ => ?_)
                    · skip
                      refine lv_iconst (v := nI 5) hx hb d_Forms_read_202 (by decide) ?_
                      exact q_iret E hr hlk (⟨_, rfl, hk⟩) hF d_Forms_read_203
                    · skip
                      refine lv_iconst (v := nI 0) hx hb d_Forms_read_198 (by decide) ?_
                      refine lv_goto (tgt := 203) hx hb d_Forms_read_199 (by decide) ?_
                      exact q_iret E hr hlk (⟨_, rfl, hk⟩) hF d_Forms_read_203
                  · skip
                    refine lv_iconst (v := nI 1) hx hb d_Forms_read_143 (by decide) ?_
                    refine lv_goto (tgt := 148) hx hb d_Forms_read_144 (by decide) ?_
                    refine q_cV (rest := []) E (v_Forms_findY l g n0 o cu fi F mi X r1 r2 r3 r4 t2 (nI 1)) w_657 w_13 w_654 w_656 (bw_s 5 rfl) hd_Forms_findY rfl ⟨by decide, by decide⟩ (OB.recv E.2.2.2.2.2 (by rfl) ((hk.fmx hK hfm).1)) (⟨(hk.fmx hK hfm), ((hk.pt hK h_t).2.2.1)⟩) hF hl.1 rfl (Nat.le_of_ble_eq_true rfl) d_Forms_read_148 ⟨by decide, by decide⟩ (qv (fun H5 locs hq hF => ?_))
                    have hk := hk.tr hq
                    refine lv_aload_n hx hb d_Forms_read_151 rfl (lv_at hl 3 rfl) ?_
                    refine q_get (C := "KateDesk$Point") (T := T_Point) (N := 3) (ci := 2) E ((hk.pt hK h_t).1) in_Point rfl 2 (by decide) w_55 rfl rfl d_Forms_read_152 ?_
                    refine lv_aload_n hx hb d_Forms_read_155 rfl (lv_at hl 2 rfl) ?_
                    refine q_get (C := "KateDesk$Forms") (T := T_Forms) (N := 6) (ci := 6) E ((hk.fmx hK hfm).1) in_Forms rfl 0 (by decide) w_272 rfl rfl d_Forms_read_156 ?_
                    refine q_get (C := "KateDesk$Field") (T := T_Field) (N := 7) (ci := 1) E ((hk.fmx hK hfm).2.1.2.1.1) in_Field rfl 1 (by decide) w_174 rfl rfl d_Forms_read_159 ?_
                    obtain ⟨f4, hf4⟩ := (((hk.fmx hK hfm).2.1.2.1.2 1 (by decide))).2
                    refine q_cS (rest := []) E (c_Limbs_copy l g n0 t3 (F 1) f4) w_146 w_5 w_665 w_145 hd_Limbs_copy rfl ⟨by decide, by decide⟩ (⟨((hk.pt hK h_t).2.2.2), hf4⟩) hF hl.1 rfl (Nat.le_of_ble_eq_true rfl) d_Forms_read_162 ⟨by decide, by decide⟩ (qv (fun H6 locs hq hF => ?_))
                    have hk := hk.tr (hq.1.w1 (((hk.pt hK h_t).2.2.2)).1)
                    refine lv_aload_n hx hb d_Forms_read_165 rfl (lv_at hl 2 rfl) ?_
                    refine q_get (C := "KateDesk$Forms") (T := T_Forms) (N := 6) (ci := 6) E ((hk.fmx hK hfm).1) in_Forms rfl 0 (by decide) w_272 rfl rfl d_Forms_read_166 ?_
                    refine lv_aload_n hx hb d_Forms_read_169 rfl (lv_at hl 2 rfl) ?_
                    refine q_get (C := "KateDesk$Forms") (T := T_Forms) (N := 6) (ci := 6) E ((hk.fmx hK hfm).1) in_Forms rfl 4 (by decide) w_276 rfl rfl d_Forms_read_170 ?_
                    refine lv_aload_n hx hb d_Forms_read_173 rfl (lv_at hl 3 rfl) ?_
                    refine q_get (C := "KateDesk$Point") (T := T_Point) (N := 3) (ci := 2) E ((hk.pt hK h_t).1) in_Point rfl 1 (by decide) w_51 rfl rfl d_Forms_read_174 ?_
                    refine lv_aload_n hx hb d_Forms_read_177 rfl (lv_at hl 3 rfl) ?_
                    refine q_get (C := "KateDesk$Point") (T := T_Point) (N := 3) (ci := 2) E ((hk.pt hK h_t).1) in_Point rfl 1 (by decide) w_51 rfl rfl d_Forms_read_178 ?_
                    refine q_cV (rest := []) E (c_Field_multiply l g n0 fi r3 t2 t2 F mi) w_165 w_4 w_666 w_163 w_164 hd_Field_multiply rfl ⟨by decide, by decide⟩ (OB.recv E.2.2.2.2.2 (by rfl) (((hk.fmx hK hfm).2.1.2.1).1)) (⟨(hk.fmx hK hfm).2.1.2.1, ((hk.fmx hK hfm).2.2.2.2.1), ((hk.pt hK h_t).2.2.1), ((hk.pt hK h_t).2.2.1)⟩) hF hl.1 rfl (Nat.le_of_ble_eq_true rfl) d_Forms_read_181 ⟨by decide, by decide⟩ (qv (fun H7 locs hq hF => ?_))
                    have hk := hk.tr (hq.w1 (((hk.fmx hK hfm).2.2.2.2.1)).1)
                    refine lv_aload_n hx hb d_Forms_read_184 rfl (lv_at hl 2 rfl) ?_
                    refine q_get (C := "KateDesk$Forms") (T := T_Forms) (N := 6) (ci := 6) E ((hk.fmx hK hfm).1) in_Forms rfl 4 (by decide) w_276 rfl rfl d_Forms_read_185 ?_
                    refine lv_aload_n hx hb d_Forms_read_188 rfl (lv_at hl 2 rfl) ?_
                    refine q_get (C := "KateDesk$Forms") (T := T_Forms) (N := 6) (ci := 6) E ((hk.fmx hK hfm).1) in_Forms rfl 3 (by decide) w_275 rfl rfl d_Forms_read_189 ?_
                    refine q_cS (rest := []) E (v_Limbs_equal l g n0 r3 r2) w_669 w_5 w_667 w_668 hd_Limbs_equal rfl ⟨by decide, by decide⟩ (⟨((hk.fmx hK hfm).2.2.2.2.1), ((hk.fmx hK hfm).2.2.2.1)⟩) hF hl.1 rfl (Nat.le_of_ble_eq_true rfl) d_Forms_read_192 ⟨by decide, by decide⟩ (qi (fun rz5 H8 locs hq hF => ?_))
                    obtain ⟨hbrz5, hq⟩ := hq
                    have hq := hq.symm
                    subst hq
                    refine lv_if_eq (tgt := 202) hx hb d_Forms_read_195 (by decide) (fun _ => ?_) (fun _ => ?_)
                    · skip
                      refine lv_iconst (v := nI 5) hx hb d_Forms_read_202 (by decide) ?_
                      exact q_iret E hr hlk (⟨_, rfl, hk⟩) hF d_Forms_read_203
                    · skip
                      refine lv_iconst (v := nI 0) hx hb d_Forms_read_198 (by decide) ?_
                      refine lv_goto (tgt := 203) hx hb d_Forms_read_199 (by decide) ?_
                      exact q_iret E hr hlk (⟨_, rfl, hk⟩) hF d_Forms_read_203
              · skip
                refine lv_aload_n hx hb d_Forms_read_96 rfl (lv_at hl 2 rfl) ?_
                refine lv_aload_n hx hb d_Forms_read_97 rfl (lv_at hl 3 rfl) ?_
                refine q_get (C := "KateDesk$Point") (T := T_Point) (N := 3) (ci := 2) E ((hk.pt hK h_t).1) in_Point rfl 1 (by decide) w_51 rfl rfl d_Forms_read_98 ?_
                refine lv_aload_n hx hb d_Forms_read_101 rfl (lv_at hl 4 rfl) ?_
                refine lv_bipush (v := nI 48) hx hb d_Forms_read_102 (by decide) ?_
                refine q_cV (rest := []) E (v_Forms_readCoordinate l g n0 o cu fi F mi X r1 r2 r3 r4 t2 rw ce ts 48 hts (by decide)) w_643 w_13 w_640 w_642 (bw_s 4 rfl) hd_Forms_readCoordinate rfl ⟨by decide, by decide⟩ (OB.recv E.2.2.2.2.2 (by rfl) ((hk.fmx hK hfm).1)) (⟨(hk.fmx hK hfm), ((hk.pt hK h_t).2.2.1), hk.rw9 hK hrw⟩) hF hl.1 rfl (Nat.le_of_ble_eq_true rfl) d_Forms_read_104 ⟨by decide, by decide⟩ (qi (fun rz4 H4 locs hq hF => ?_))
                obtain ⟨hbrz4, hq⟩ := hq
                have hk := hk.tr hq
                refine lv_if_ne (tgt := 112) hx hb d_Forms_read_107 (by decide) (fun _ => ?_) (fun _ => ?_)
                · skip
                  refine lv_aload_n hx hb d_Forms_read_112 rfl (lv_at hl 2 rfl) ?_
                  refine q_get (C := "KateDesk$Forms") (T := T_Forms) (N := 6) (ci := 6) E ((hk.fmx hK hfm).1) in_Forms rfl 1 (by decide) w_273 rfl rfl d_Forms_read_113 ?_
                  refine lv_aload_n hx hb d_Forms_read_116 rfl (lv_at hl 2 rfl) ?_
                  refine q_get (C := "KateDesk$Forms") (T := T_Forms) (N := 6) (ci := 6) E ((hk.fmx hK hfm).1) in_Forms rfl 3 (by decide) w_275 rfl rfl d_Forms_read_117 ?_
                  refine lv_aload_n hx hb d_Forms_read_120 rfl (lv_at hl 3 rfl) ?_
                  refine q_get (C := "KateDesk$Point") (T := T_Point) (N := 3) (ci := 2) E ((hk.pt hK h_t).1) in_Point rfl 0 (by decide) w_47 rfl rfl d_Forms_read_121 ?_
                  refine q_cV (rest := []) E (v_Curve_squareOfY l g n0 cu fi F mi X r2 t1) w_651 w_11 w_648 w_649 w_650 hd_Curve_squareOfY rfl ⟨by decide, by decide⟩ (OB.recv E.2.2.2.2.2 (by rfl) ((hk.fmx hK hfm).2.1.1)) (⟨(hk.fmx hK hfm).2.1, ((hk.fmx hK hfm).2.2.2.1), ((hk.pt hK h_t).2.1)⟩) hF hl.1 rfl (Nat.le_of_ble_eq_true rfl) d_Forms_read_124 ⟨by decide, by decide⟩ (qv (fun H5 locs hq hF => ?_))
                  have hk := hk.tr (hq.mono (fun q h => h.elim (fun h => h ▸ ((hk.fmx hK hfm).2.1.2.2 6 (by decide)).1) (fun h => h.elim (fun h => h ▸ ((hk.fmx hK hfm).2.1.2.2 7 (by decide)).1) (fun h => h ▸ (((hk.fmx hK hfm).2.2.2.1)).1))))
                  refine lv_iload_n hx hb d_Forms_read_127 rfl (lv_at hl 1 rfl) ?_
                  refine lv_if_eq (tgt := 151) hx hb d_Forms_read_128 (by decide) (fun _ => ?_) (fun _ => ?_)
                  · skip
                    refine lv_aload_n hx hb d_Forms_read_151 rfl (lv_at hl 3 rfl) ?_
                    refine q_get (C := "KateDesk$Point") (T := T_Point) (N := 3) (ci := 2) E ((hk.pt hK h_t).1) in_Point rfl 2 (by decide) w_55 rfl rfl d_Forms_read_152 ?_
                    refine lv_aload_n hx hb d_Forms_read_155 rfl (lv_at hl 2 rfl) ?_
                    refine q_get (C := "KateDesk$Forms") (T := T_Forms) (N := 6) (ci := 6) E ((hk.fmx hK hfm).1) in_Forms rfl 0 (by decide) w_272 rfl rfl d_Forms_read_156 ?_
                    refine q_get (C := "KateDesk$Field") (T := T_Field) (N := 7) (ci := 1) E ((hk.fmx hK hfm).2.1.2.1.1) in_Field rfl 1 (by decide) w_174 rfl rfl d_Forms_read_159 ?_
                    obtain ⟨f5, hf5⟩ := (((hk.fmx hK hfm).2.1.2.1.2 1 (by decide))).2
                    refine q_cS (rest := []) E (c_Limbs_copy l g n0 t3 (F 1) f5) w_146 w_5 w_665 w_145 hd_Limbs_copy rfl ⟨by decide, by decide⟩ (⟨((hk.pt hK h_t).2.2.2), hf5⟩) hF hl.1 rfl (Nat.le_of_ble_eq_true rfl) d_Forms_read_162 ⟨by decide, by decide⟩ (qv (fun H6 locs hq hF => ?_))
                    have hk := hk.tr (hq.1.w1 (((hk.pt hK h_t).2.2.2)).1)
                    refine lv_aload_n hx hb d_Forms_read_165 rfl (lv_at hl 2 rfl) ?_
                    refine q_get (C := "KateDesk$Forms") (T := T_Forms) (N := 6) (ci := 6) E ((hk.fmx hK hfm).1) in_Forms rfl 0 (by decide) w_272 rfl rfl d_Forms_read_166 ?_
                    refine lv_aload_n hx hb d_Forms_read_169 rfl (lv_at hl 2 rfl) ?_
                    refine q_get (C := "KateDesk$Forms") (T := T_Forms) (N := 6) (ci := 6) E ((hk.fmx hK hfm).1) in_Forms rfl 4 (by decide) w_276 rfl rfl d_Forms_read_170 ?_
                    refine lv_aload_n hx hb d_Forms_read_173 rfl (lv_at hl 3 rfl) ?_
                    refine q_get (C := "KateDesk$Point") (T := T_Point) (N := 3) (ci := 2) E ((hk.pt hK h_t).1) in_Point rfl 1 (by decide) w_51 rfl rfl d_Forms_read_174 ?_
                    refine lv_aload_n hx hb d_Forms_read_177 rfl (lv_at hl 3 rfl) ?_
                    refine q_get (C := "KateDesk$Point") (T := T_Point) (N := 3) (ci := 2) E ((hk.pt hK h_t).1) in_Point rfl 1 (by decide) w_51 rfl rfl d_Forms_read_178 ?_
                    refine q_cV (rest := []) E (c_Field_multiply l g n0 fi r3 t2 t2 F mi) w_165 w_4 w_666 w_163 w_164 hd_Field_multiply rfl ⟨by decide, by decide⟩ (OB.recv E.2.2.2.2.2 (by rfl) (((hk.fmx hK hfm).2.1.2.1).1)) (⟨(hk.fmx hK hfm).2.1.2.1, ((hk.fmx hK hfm).2.2.2.2.1), ((hk.pt hK h_t).2.2.1), ((hk.pt hK h_t).2.2.1)⟩) hF hl.1 rfl (Nat.le_of_ble_eq_true rfl) d_Forms_read_181 ⟨by decide, by decide⟩ (qv (fun H7 locs hq hF => ?_))
                    have hk := hk.tr (hq.w1 (((hk.fmx hK hfm).2.2.2.2.1)).1)
                    refine lv_aload_n hx hb d_Forms_read_184 rfl (lv_at hl 2 rfl) ?_
                    refine q_get (C := "KateDesk$Forms") (T := T_Forms) (N := 6) (ci := 6) E ((hk.fmx hK hfm).1) in_Forms rfl 4 (by decide) w_276 rfl rfl d_Forms_read_185 ?_
                    refine lv_aload_n hx hb d_Forms_read_188 rfl (lv_at hl 2 rfl) ?_
                    refine q_get (C := "KateDesk$Forms") (T := T_Forms) (N := 6) (ci := 6) E ((hk.fmx hK hfm).1) in_Forms rfl 3 (by decide) w_275 rfl rfl d_Forms_read_189 ?_
                    refine q_cS (rest := []) E (v_Limbs_equal l g n0 r3 r2) w_669 w_5 w_667 w_668 hd_Limbs_equal rfl ⟨by decide, by decide⟩ (⟨((hk.fmx hK hfm).2.2.2.2.1), ((hk.fmx hK hfm).2.2.2.1)⟩) hF hl.1 rfl (Nat.le_of_ble_eq_true rfl) d_Forms_read_192 ⟨by decide, by decide⟩ (qi (fun rz6 H8 locs hq hF => ?_))
                    obtain ⟨hbrz6, hq⟩ := hq
                    have hq := hq.symm
                    subst hq
                    refine lv_if_eq (tgt := 202) hx hb d_Forms_read_195 (by decide) (fun _ => ?_) (fun _ => ?_)
                    · skip
                      refine lv_iconst (v := nI 5) hx hb d_Forms_read_202 (by decide) ?_
                      exact q_iret E hr hlk (⟨_, rfl, hk⟩) hF d_Forms_read_203
                    · skip
                      refine lv_iconst (v := nI 0) hx hb d_Forms_read_198 (by decide) ?_
                      refine lv_goto (tgt := 203) hx hb d_Forms_read_199 (by decide) ?_
                      exact q_iret E hr hlk (⟨_, rfl, hk⟩) hF d_Forms_read_203
                  · skip
                    refine lv_aload_n hx hb d_Forms_read_131 rfl (lv_at hl 2 rfl) ?_
                    refine lv_aload_n hx hb d_Forms_read_132 rfl (lv_at hl 3 rfl) ?_
                    refine q_get (C := "KateDesk$Point") (T := T_Point) (N := 3) (ci := 2) E ((hk.pt hK h_t).1) in_Point rfl 1 (by decide) w_51 rfl rfl d_Forms_read_133 ?_
                    refine lv_iload hx hb d_Forms_read_136 (lv_at hl 0 rfl) ?_
                    refine lv_iconst (v := nI 1) hx hb d_Forms_read_138 (by decide) ?_
                    refine lv_iand hx hb d_Forms_read_139 ?_
                    refine lv_if_eq (tgt := 147) hx hb d_Forms_read_140 (by decide) (fun _ => ?_) (fun _ => ?_)
                    · skip
                      refine lv_iconst (v := nI 0) hx hb d_Forms_read_147 (by decide) ?_
                      refine q_cV (rest := []) E (v_Forms_findY l g n0 o cu fi F mi X r1 r2 r3 r4 t2 (nI 0)) w_657 w_13 w_654 w_656 (bw_s 5 rfl) hd_Forms_findY rfl ⟨by decide, by decide⟩ (OB.recv E.2.2.2.2.2 (by rfl) ((hk.fmx hK hfm).1)) (⟨(hk.fmx hK hfm), ((hk.pt hK h_t).2.2.1)⟩) hF hl.1 rfl (Nat.le_of_ble_eq_true rfl) d_Forms_read_148 ⟨by decide, by decide⟩ (qv (fun H6 locs hq hF => ?_))
                      have hk := hk.tr hq
                      refine lv_aload_n hx hb d_Forms_read_151 rfl (lv_at hl 3 rfl) ?_
                      refine q_get (C := "KateDesk$Point") (T := T_Point) (N := 3) (ci := 2) E ((hk.pt hK h_t).1) in_Point rfl 2 (by decide) w_55 rfl rfl d_Forms_read_152 ?_
                      refine lv_aload_n hx hb d_Forms_read_155 rfl (lv_at hl 2 rfl) ?_
                      refine q_get (C := "KateDesk$Forms") (T := T_Forms) (N := 6) (ci := 6) E ((hk.fmx hK hfm).1) in_Forms rfl 0 (by decide) w_272 rfl rfl d_Forms_read_156 ?_
                      refine q_get (C := "KateDesk$Field") (T := T_Field) (N := 7) (ci := 1) E ((hk.fmx hK hfm).2.1.2.1.1) in_Field rfl 1 (by decide) w_174 rfl rfl d_Forms_read_159 ?_
                      obtain ⟨f5, hf5⟩ := (((hk.fmx hK hfm).2.1.2.1.2 1 (by decide))).2
                      refine q_cS (rest := []) E (c_Limbs_copy l g n0 t3 (F 1) f5) w_146 w_5 w_665 w_145 hd_Limbs_copy rfl ⟨by decide, by decide⟩ (⟨((hk.pt hK h_t).2.2.2), hf5⟩) hF hl.1 rfl (Nat.le_of_ble_eq_true rfl) d_Forms_read_162 ⟨by decide, by decide⟩ (qv (fun H7 locs hq hF => ?_))
                      have hk := hk.tr (hq.1.w1 (((hk.pt hK h_t).2.2.2)).1)
                      refine lv_aload_n hx hb d_Forms_read_165 rfl (lv_at hl 2 rfl) ?_
                      refine q_get (C := "KateDesk$Forms") (T := T_Forms) (N := 6) (ci := 6) E ((hk.fmx hK hfm).1) in_Forms rfl 0 (by decide) w_272 rfl rfl d_Forms_read_166 ?_
                      refine lv_aload_n hx hb d_Forms_read_169 rfl (lv_at hl 2 rfl) ?_
                      refine q_get (C := "KateDesk$Forms") (T := T_Forms) (N := 6) (ci := 6) E ((hk.fmx hK hfm).1) in_Forms rfl 4 (by decide) w_276 rfl rfl d_Forms_read_170 ?_
                      refine lv_aload_n hx hb d_Forms_read_173 rfl (lv_at hl 3 rfl) ?_
                      refine q_get (C := "KateDesk$Point") (T := T_Point) (N := 3) (ci := 2) E ((hk.pt hK h_t).1) in_Point rfl 1 (by decide) w_51 rfl rfl d_Forms_read_174 ?_
                      refine lv_aload_n hx hb d_Forms_read_177 rfl (lv_at hl 3 rfl) ?_
                      refine q_get (C := "KateDesk$Point") (T := T_Point) (N := 3) (ci := 2) E ((hk.pt hK h_t).1) in_Point rfl 1 (by decide) w_51 rfl rfl d_Forms_read_178 ?_
                      refine q_cV (rest := []) E (c_Field_multiply l g n0 fi r3 t2 t2 F mi) w_165 w_4 w_666 w_163 w_164 hd_Field_multiply rfl ⟨by decide, by decide⟩ (OB.recv E.2.2.2.2.2 (by rfl) (((hk.fmx hK hfm).2.1.2.1).1)) (⟨(hk.fmx hK hfm).2.1.2.1, ((hk.fmx hK hfm).2.2.2.2.1), ((hk.pt hK h_t).2.2.1), ((hk.pt hK h_t).2.2.1)⟩) hF hl.1 rfl (Nat.le_of_ble_eq_true rfl) d_Forms_read_181 ⟨by decide, by decide⟩ (qv (fun H8 locs hq hF => ?_))
                      have hk := hk.tr (hq.w1 (((hk.fmx hK hfm).2.2.2.2.1)).1)
                      refine lv_aload_n hx hb d_Forms_read_184 rfl (lv_at hl 2 rfl) ?_
                      refine q_get (C := "KateDesk$Forms") (T := T_Forms) (N := 6) (ci := 6) E ((hk.fmx hK hfm).1) in_Forms rfl 4 (by decide) w_276 rfl rfl d_Forms_read_185 ?_
                      refine lv_aload_n hx hb d_Forms_read_188 rfl (lv_at hl 2 rfl) ?_
                      refine q_get (C := "KateDesk$Forms") (T := T_Forms) (N := 6) (ci := 6) E ((hk.fmx hK hfm).1) in_Forms rfl 3 (by decide) w_275 rfl rfl d_Forms_read_189 ?_
                      refine q_cS (rest := []) E (v_Limbs_equal l g n0 r3 r2) w_669 w_5 w_667 w_668 hd_Limbs_equal rfl ⟨by decide, by decide⟩ (⟨((hk.fmx hK hfm).2.2.2.2.1), ((hk.fmx hK hfm).2.2.2.1)⟩) hF hl.1 rfl (Nat.le_of_ble_eq_true rfl) d_Forms_read_192 ⟨by decide, by decide⟩ (qi (fun rz6 H9 locs hq hF => ?_))
                      obtain ⟨hbrz6, hq⟩ := hq
                      have hq := hq.symm
                      subst hq
                      refine lv_if_eq (tgt := 202) hx hb d_Forms_read_195 (by decide) (fun _ => ?_) (fun _ => ?_)
                      · skip
                        refine lv_iconst (v := nI 5) hx hb d_Forms_read_202 (by decide) ?_
                        exact q_iret E hr hlk (⟨_, rfl, hk⟩) hF d_Forms_read_203
                      · skip
                        refine lv_iconst (v := nI 0) hx hb d_Forms_read_198 (by decide) ?_
                        refine lv_goto (tgt := 203) hx hb d_Forms_read_199 (by decide) ?_
                        exact q_iret E hr hlk (⟨_, rfl, hk⟩) hF d_Forms_read_203
                    · skip
                      refine lv_iconst (v := nI 1) hx hb d_Forms_read_143 (by decide) ?_
                      refine lv_goto (tgt := 148) hx hb d_Forms_read_144 (by decide) ?_
                      refine q_cV (rest := []) E (v_Forms_findY l g n0 o cu fi F mi X r1 r2 r3 r4 t2 (nI 1)) w_657 w_13 w_654 w_656 (bw_s 5 rfl) hd_Forms_findY rfl ⟨by decide, by decide⟩ (OB.recv E.2.2.2.2.2 (by rfl) ((hk.fmx hK hfm).1)) (⟨(hk.fmx hK hfm), ((hk.pt hK h_t).2.2.1)⟩) hF hl.1 rfl (Nat.le_of_ble_eq_true rfl) d_Forms_read_148 ⟨by decide, by decide⟩ (qv (fun H6 locs hq hF => ?_))
                      have hk := hk.tr hq
                      refine lv_aload_n hx hb d_Forms_read_151 rfl (lv_at hl 3 rfl) ?_
                      refine q_get (C := "KateDesk$Point") (T := T_Point) (N := 3) (ci := 2) E ((hk.pt hK h_t).1) in_Point rfl 2 (by decide) w_55 rfl rfl d_Forms_read_152 ?_
                      refine lv_aload_n hx hb d_Forms_read_155 rfl (lv_at hl 2 rfl) ?_
                      refine q_get (C := "KateDesk$Forms") (T := T_Forms) (N := 6) (ci := 6) E ((hk.fmx hK hfm).1) in_Forms rfl 0 (by decide) w_272 rfl rfl d_Forms_read_156 ?_
                      refine q_get (C := "KateDesk$Field") (T := T_Field) (N := 7) (ci := 1) E ((hk.fmx hK hfm).2.1.2.1.1) in_Field rfl 1 (by decide) w_174 rfl rfl d_Forms_read_159 ?_
                      obtain ⟨f5, hf5⟩ := (((hk.fmx hK hfm).2.1.2.1.2 1 (by decide))).2
                      refine q_cS (rest := []) E (c_Limbs_copy l g n0 t3 (F 1) f5) w_146 w_5 w_665 w_145 hd_Limbs_copy rfl ⟨by decide, by decide⟩ (⟨((hk.pt hK h_t).2.2.2), hf5⟩) hF hl.1 rfl (Nat.le_of_ble_eq_true rfl) d_Forms_read_162 ⟨by decide, by decide⟩ (qv (fun H7 locs hq hF => ?_))
                      have hk := hk.tr (hq.1.w1 (((hk.pt hK h_t).2.2.2)).1)
                      refine lv_aload_n hx hb d_Forms_read_165 rfl (lv_at hl 2 rfl) ?_
                      refine q_get (C := "KateDesk$Forms") (T := T_Forms) (N := 6) (ci := 6) E ((hk.fmx hK hfm).1) in_Forms rfl 0 (by decide) w_272 rfl rfl d_Forms_read_166 ?_
                      refine lv_aload_n hx hb d_Forms_read_169 rfl (lv_at hl 2 rfl) ?_
                      refine q_get (C := "KateDesk$Forms") (T := T_Forms) (N := 6) (ci := 6) E ((hk.fmx hK hfm).1) in_Forms rfl 4 (by decide) w_276 rfl rfl d_Forms_read_170 ?_
                      refine lv_aload_n hx hb d_Forms_read_173 rfl (lv_at hl 3 rfl) ?_
                      refine q_get (C := "KateDesk$Point") (T := T_Point) (N := 3) (ci := 2) E ((hk.pt hK h_t).1) in_Point rfl 1 (by decide) w_51 rfl rfl d_Forms_read_174 ?_
                      refine lv_aload_n hx hb d_Forms_read_177 rfl (lv_at hl 3 rfl) ?_
                      refine q_get (C := "KateDesk$Point") (T := T_Point) (N := 3) (ci := 2) E ((hk.pt hK h_t).1) in_Point rfl 1 (by decide) w_51 rfl rfl d_Forms_read_178 ?_
                      refine q_cV (rest := []) E (c_Field_multiply l g n0 fi r3 t2 t2 F mi) w_165 w_4 w_666 w_163 w_164 hd_Field_multiply rfl ⟨by decide, by decide⟩ (OB.recv E.2.2.2.2.2 (by rfl) (((hk.fmx hK hfm).2.1.2.1).1)) (⟨(hk.fmx hK hfm).2.1.2.1, ((hk.fmx hK hfm).2.2.2.2.1), ((hk.pt hK h_t).2.2.1), ((hk.pt hK h_t).2.2.1)⟩) hF hl.1 rfl (Nat.le_of_ble_eq_true rfl) d_Forms_read_181 ⟨by decide, by decide⟩ (qv (fun H8 locs hq hF => ?_))
                      have hk := hk.tr (hq.w1 (((hk.fmx hK hfm).2.2.2.2.1)).1)
                      refine lv_aload_n hx hb d_Forms_read_184 rfl (lv_at hl 2 rfl) ?_
                      refine q_get (C := "KateDesk$Forms") (T := T_Forms) (N := 6) (ci := 6) E ((hk.fmx hK hfm).1) in_Forms rfl 4 (by decide) w_276 rfl rfl d_Forms_read_185 ?_
                      refine lv_aload_n hx hb d_Forms_read_188 rfl (lv_at hl 2 rfl) ?_
                      refine q_get (C := "KateDesk$Forms") (T := T_Forms) (N := 6) (ci := 6) E ((hk.fmx hK hfm).1) in_Forms rfl 3 (by decide) w_275 rfl rfl d_Forms_read_189 ?_
                      refine q_cS (rest := []) E (v_Limbs_equal l g n0 r3 r2) w_669 w_5 w_667 w_668 hd_Limbs_equal rfl ⟨by decide, by decide⟩ (⟨((hk.fmx hK hfm).2.2.2.2.1), ((hk.fmx hK hfm).2.2.2.1)⟩) hF hl.1 rfl (Nat.le_of_ble_eq_true rfl) d_Forms_read_192 ⟨by decide, by decide⟩ (qi (fun rz6 H9 locs hq hF => ?_))
                      obtain ⟨hbrz6, hq⟩ := hq
                      have hq := hq.symm
                      subst hq
                      refine lv_if_eq (tgt := 202) hx hb d_Forms_read_195 (by decide) (fun _ => ?_) (fun _ => ?_)
                      · skip
                        refine lv_iconst (v := nI 5) hx hb d_Forms_read_202 (by decide) ?_
                        exact q_iret E hr hlk (⟨_, rfl, hk⟩) hF d_Forms_read_203
                      · skip
                        refine lv_iconst (v := nI 0) hx hb d_Forms_read_198 (by decide) ?_
                        refine lv_goto (tgt := 203) hx hb d_Forms_read_199 (by decide) ?_
                        exact q_iret E hr hlk (⟨_, rfl, hk⟩) hF d_Forms_read_203
                · skip
                  refine lv_iconst (v := nI 4) hx hb d_Forms_read_110 (by decide) ?_
                  exact q_iret E hr hlk (⟨_, rfl, hk⟩) hF d_Forms_read_111
          · skip
            refine lv_aload_n hx hb d_Forms_read_62 rfl (lv_at hl 3 rfl) ?_
            refine q_cV (rest := []) E (c_Point_becomeNothing l g n0 t t1 t2 t3 h32) w_635 w_2 w_632 w_633 w_634 hd_Point_becomeNothing rfl ⟨by decide, by decide⟩ (OB.recv E.2.2.2.2.2 (by rfl) (((hk.pt hK h_t)).1)) (hk.pt hK h_t) hF hl.1 rfl (Nat.le_of_ble_eq_true rfl) d_Forms_read_63 ⟨by decide, by decide⟩ (qv (fun H3 locs hq hF => ?_))
            have hk := hk.tr (hq.1.mono (pt_le (hk.pt hK h_t)))
            refine lv_aload_n hx hb d_Forms_read_66 rfl (lv_at hl 4 rfl) ?_
            refine q_cS (rest := []) E (v_Forms_isBare l g n0 rw ce ts hts) w_639 w_13 w_637 w_638 hd_Forms_isBare rfl ⟨by decide, by decide⟩ (hk.rw9 hK hrw) hF hl.1 rfl (Nat.le_of_ble_eq_true rfl) d_Forms_read_67 ⟨by decide, by decide⟩ (qi (fun rz3 H4 locs hq hF => ?_))
            obtain ⟨hbrz3, hq⟩ := hq
            have hq := hq.symm
            subst hq
            refine lv_if_eq (tgt := 77) hx hb d_Forms_read_70 (by decide) (fun _ => ?_) (fun _ => ?_)
            · skip
              refine lv_iconst (v := nI 3) hx hb d_Forms_read_77 (by decide) ?_
              exact q_iret E hr hlk (⟨_, rfl, hk⟩) hF d_Forms_read_78
            · skip
              refine lv_iconst (v := nI 0) hx hb d_Forms_read_73 (by decide) ?_
              refine lv_goto (tgt := 78) hx hb d_Forms_read_74 (by decide) ?_
              exact q_iret E hr hlk (⟨_, rfl, hk⟩) hF d_Forms_read_78
        · skip
          refine lv_iconst (v := nI 2) hx hb d_Forms_read_53 (by decide) ?_
          exact q_iret E hr hlk (⟨_, rfl, hk⟩) hF d_Forms_read_54
      · skip
        refine lv_iconst (v := nI 1) hx hb d_Forms_read_29 (by decide) ?_
        refine lv_goto (tgt := 34) hx hb d_Forms_read_30 (by decide) ?_
        refine lv_istore_n (lv' := [(3, .int (nI 1)), (0, .ref o), (1, .ref t), (2, .ref rw)]) hx hb d_Forms_read_34 rfl hl (by decide) rfl (fun ls hl => ?_)
        refine lv_aload_n hx hb d_Forms_read_35 rfl (lv_at hl 3 rfl) ?_
        refine lv_iconst (v := nI 0) hx hb d_Forms_read_36 (by decide) ?_
        refine q_cV (rest := []) E (v_Row_at l g n0 rw ce ts (nI 0) hts) w_505 w_3 w_628 w_503 w_504 hd_Row_at rfl ⟨by decide, by decide⟩ (OB.recv E.2.2.2.2.2 (by rfl) ((hk.rw9 hK hrw).1)) (⟨(hk.rw9 hK hrw).1, (hk.rw9 hK hrw).2⟩) hF hl.1 rfl (Nat.le_of_ble_eq_true rfl) d_Forms_read_37 ⟨by decide, by decide⟩ (qi (fun rz1 H1 locs hq hF => ?_))
        obtain ⟨-, hq⟩ := hq
        have hq := hq.symm
        subst hq
        refine lv_iconst (v := nI 5) hx hb d_Forms_read_40 (by decide) ?_
        refine lv_ishr hx hb d_Forms_read_41 ?_
        refine lv_istore (lv' := [(4, .int (rz1 >>> ((nI 5) &&& 31))), (3, .int (nI 1)), (0, .ref o), (1, .ref t), (2, .ref rw)]) hx hb d_Forms_read_42 hl (by decide) rfl (fun ls hl => ?_)
        refine lv_iload hx hb d_Forms_read_44 (lv_at hl 0 rfl) ?_
        refine lv_iload_n hx hb d_Forms_read_46 rfl (lv_at hl 1 rfl) ?_
        refine q_cS (rest := []) E (v_Forms_canBe l g n0 (rz1 >>> ((nI 5) &&& 31)) (nI 1)) w_631 w_13 w_629 w_630 hd_Forms_canBe rfl ⟨by decide, by decide⟩ trivial hF hl.1 rfl (Nat.le_of_ble_eq_true rfl) d_Forms_read_47 ⟨by decide, by decide⟩ (qi (fun rz2 H2 locs hq hF => ?_))
        obtain ⟨hbrz2, hq⟩ := hq
        have hq := hq.symm
        subst hq
        refine lv_if_ne (tgt := 55) hx hb d_Forms_read_50 (by decide) (fun _ => ?_) (fun _ => ?_)
        · skip
          refine lv_iload hx hb d_Forms_read_55 (lv_at hl 0 rfl) ?_
          refine lv_iconst (v := nI 2) hx hb d_Forms_read_57 (by decide) ?_
          refine lv_iand hx hb d_Forms_read_58 ?_
          refine lv_if_eq (tgt := 79) hx hb d_Forms_read_59 (by decide) (fun _ => ?_) (fun _ => ?_)
          · skip
            refine lv_aload_n hx hb d_Forms_read_79 rfl (lv_at hl 2 rfl) ?_
            refine lv_aload_n hx hb d_Forms_read_80 rfl (lv_at hl 3 rfl) ?_
            refine q_get (C := "KateDesk$Point") (T := T_Point) (N := 3) (ci := 2) E ((hk.pt hK h_t).1) in_Point rfl 0 (by decide) w_47 rfl rfl d_Forms_read_81 ?_
            refine lv_aload_n hx hb d_Forms_read_84 rfl (lv_at hl 4 rfl) ?_
            refine lv_iconst (v := nI 0) hx hb d_Forms_read_85 (by decide) ?_
            refine q_cV (rest := []) E (v_Forms_readCoordinate l g n0 o cu fi F mi X r1 r2 r3 r4 t1 rw ce ts 0 hts (by decide)) w_643 w_13 w_640 w_642 (bw_s 4 rfl) hd_Forms_readCoordinate rfl ⟨by decide, by decide⟩ (OB.recv E.2.2.2.2.2 (by rfl) ((hk.fmx hK hfm).1)) (⟨(hk.fmx hK hfm), ((hk.pt hK h_t).2.1), hk.rw9 hK hrw⟩) hF hl.1 rfl (Nat.le_of_ble_eq_true rfl) d_Forms_read_86 ⟨by decide, by decide⟩ (qi (fun rz3 H3 locs hq hF => ?_))
            obtain ⟨hbrz3, hq⟩ := hq
            have hk := hk.tr hq
            refine lv_if_eq (tgt := 110) hx hb d_Forms_read_89 (by decide) (fun _ => ?_) (fun _ => ?_)
            · skip
              refine lv_iconst (v := nI 4) hx hb d_Forms_read_110 (by decide) ?_
              exact q_iret E hr hlk (⟨_, rfl, hk⟩) hF d_Forms_read_111
            · skip
              refine lv_iload_n hx hb d_Forms_read_92 rfl (lv_at hl 1 rfl) ?_
              refine lv_if_ne (tgt := 112) hx hb d_Forms_read_93 (by decide) (fun _ => ?_) (fun _ => ?_)
              · skip
                refine lv_aload_n hx hb d_Forms_read_112 rfl (lv_at hl 2 rfl) ?_
                refine q_get (C := "KateDesk$Forms") (T := T_Forms) (N := 6) (ci := 6) E ((hk.fmx hK hfm).1) in_Forms rfl 1 (by decide) w_273 rfl rfl d_Forms_read_113 ?_
                refine lv_aload_n hx hb d_Forms_read_116 rfl (lv_at hl 2 rfl) ?_
                refine q_get (C := "KateDesk$Forms") (T := T_Forms) (N := 6) (ci := 6) E ((hk.fmx hK hfm).1) in_Forms rfl 3 (by decide) w_275 rfl rfl d_Forms_read_117 ?_
                refine lv_aload_n hx hb d_Forms_read_120 rfl (lv_at hl 3 rfl) ?_
                refine q_get (C := "KateDesk$Point") (T := T_Point) (N := 3) (ci := 2) E ((hk.pt hK h_t).1) in_Point rfl 0 (by decide) w_47 rfl rfl d_Forms_read_121 ?_
                refine q_cV (rest := []) E (v_Curve_squareOfY l g n0 cu fi F mi X r2 t1) w_651 w_11 w_648 w_649 w_650 hd_Curve_squareOfY rfl ⟨by decide, by decide⟩ (OB.recv E.2.2.2.2.2 (by rfl) ((hk.fmx hK hfm).2.1.1)) (⟨(hk.fmx hK hfm).2.1, ((hk.fmx hK hfm).2.2.2.1), ((hk.pt hK h_t).2.1)⟩) hF hl.1 rfl (Nat.le_of_ble_eq_true rfl) d_Forms_read_124 ⟨by decide, by decide⟩ (qv (fun H4 locs hq hF => ?_))
                have hk := hk.tr (hq.mono (fun q h => h.elim (fun h => h ▸ ((hk.fmx hK hfm).2.1.2.2 6 (by decide)).1) (fun h => h.elim (fun h => h ▸ ((hk.fmx hK hfm).2.1.2.2 7 (by decide)).1) (fun h => h ▸ (((hk.fmx hK hfm).2.2.2.1)).1))))
                refine lv_iload_n hx hb d_Forms_read_127 rfl (lv_at hl 1 rfl) ?_
                refine lv_if_eq (tgt := 151) hx hb d_Forms_read_128 (by decide) (fun _ => ?_) (fun _ => ?_)
                · skip
                  refine lv_aload_n hx hb d_Forms_read_151 rfl (lv_at hl 3 rfl) ?_
                  refine q_get (C := "KateDesk$Point") (T := T_Point) (N := 3) (ci := 2) E ((hk.pt hK h_t).1) in_Point rfl 2 (by decide) w_55 rfl rfl d_Forms_read_152 ?_
                  refine lv_aload_n hx hb d_Forms_read_155 rfl (lv_at hl 2 rfl) ?_
                  refine q_get (C := "KateDesk$Forms") (T := T_Forms) (N := 6) (ci := 6) E ((hk.fmx hK hfm).1) in_Forms rfl 0 (by decide) w_272 rfl rfl d_Forms_read_156 ?_
                  refine q_get (C := "KateDesk$Field") (T := T_Field) (N := 7) (ci := 1) E ((hk.fmx hK hfm).2.1.2.1.1) in_Field rfl 1 (by decide) w_174 rfl rfl d_Forms_read_159 ?_
                  obtain ⟨f4, hf4⟩ := (((hk.fmx hK hfm).2.1.2.1.2 1 (by decide))).2
                  refine q_cS (rest := []) E (c_Limbs_copy l g n0 t3 (F 1) f4) w_146 w_5 w_665 w_145 hd_Limbs_copy rfl ⟨by decide, by decide⟩ (⟨((hk.pt hK h_t).2.2.2), hf4⟩) hF hl.1 rfl (Nat.le_of_ble_eq_true rfl) d_Forms_read_162 ⟨by decide, by decide⟩ (qv (fun H5 locs hq hF => ?_))
                  have hk := hk.tr (hq.1.w1 (((hk.pt hK h_t).2.2.2)).1)
                  refine lv_aload_n hx hb d_Forms_read_165 rfl (lv_at hl 2 rfl) ?_
                  refine q_get (C := "KateDesk$Forms") (T := T_Forms) (N := 6) (ci := 6) E ((hk.fmx hK hfm).1) in_Forms rfl 0 (by decide) w_272 rfl rfl d_Forms_read_166 ?_
                  refine lv_aload_n hx hb d_Forms_read_169 rfl (lv_at hl 2 rfl) ?_
                  refine q_get (C := "KateDesk$Forms") (T := T_Forms) (N := 6) (ci := 6) E ((hk.fmx hK hfm).1) in_Forms rfl 4 (by decide) w_276 rfl rfl d_Forms_read_170 ?_
                  refine lv_aload_n hx hb d_Forms_read_173 rfl (lv_at hl 3 rfl) ?_
                  refine q_get (C := "KateDesk$Point") (T := T_Point) (N := 3) (ci := 2) E ((hk.pt hK h_t).1) in_Point rfl 1 (by decide) w_51 rfl rfl d_Forms_read_174 ?_
                  refine lv_aload_n hx hb d_Forms_read_177 rfl (lv_at hl 3 rfl) ?_
                  refine q_get (C := "KateDesk$Point") (T := T_Point) (N := 3) (ci := 2) E ((hk.pt hK h_t).1) in_Point rfl 1 (by decide) w_51 rfl rfl d_Forms_read_178 ?_
                  refine q_cV (rest := []) E (c_Field_multiply l g n0 fi r3 t2 t2 F mi) w_165 w_4 w_666 w_163 w_164 hd_Field_multiply rfl ⟨by decide, by decide⟩ (OB.recv E.2.2.2.2.2 (by rfl) (((hk.fmx hK hfm).2.1.2.1).1)) (⟨(hk.fmx hK hfm).2.1.2.1, ((hk.fmx hK hfm).2.2.2.2.1), ((hk.pt hK h_t).2.2.1), ((hk.pt hK h_t).2.2.1)⟩) hF hl.1 rfl (Nat.le_of_ble_eq_true rfl) d_Forms_read_181 ⟨by decide, by decide⟩ (qv (fun H6 locs hq hF => ?_))
                  have hk := hk.tr (hq.w1 (((hk.fmx hK hfm).2.2.2.2.1)).1)
                  refine lv_aload_n hx hb d_Forms_read_184 rfl (lv_at hl 2 rfl) ?_
                  refine q_get (C := "KateDesk$Forms") (T := T_Forms) (N := 6) (ci := 6) E ((hk.fmx hK hfm).1) in_Forms rfl 4 (by decide) w_276 rfl rfl d_Forms_read_185 ?_
                  refine lv_aload_n hx hb d_Forms_read_188 rfl (lv_at hl 2 rfl) ?_
                  refine q_get (C := "KateDesk$Forms") (T := T_Forms) (N := 6) (ci := 6) E ((hk.fmx hK hfm).1) in_Forms rfl 3 (by decide) w_275 rfl rfl d_Forms_read_189 ?_
                  refine q_cS (rest := []) E (v_Limbs_equal l g n0 r3 r2) w_669 w_5 w_667 w_668 hd_Limbs_equal rfl ⟨by decide, by decide⟩ (⟨((hk.fmx hK hfm).2.2.2.2.1), ((hk.fmx hK hfm).2.2.2.1)⟩) hF hl.1 rfl (Nat.le_of_ble_eq_true rfl) d_Forms_read_192 ⟨by decide, by decide⟩ (qi (fun rz5 H7 locs hq hF => ?_))
                  obtain ⟨hbrz5, hq⟩ := hq
                  have hq := hq.symm
                  subst hq
                  refine lv_if_eq (tgt := 202) hx hb d_Forms_read_195 (by decide) (fun _ => ?_) (fun _ => ?_)
                  · skip
                    refine lv_iconst (v := nI 5) hx hb d_Forms_read_202 (by decide) ?_
                    exact q_iret E hr hlk (⟨_, rfl, hk⟩) hF d_Forms_read_203
                  · skip
                    refine lv_iconst (v := nI 0) hx hb d_Forms_read_198 (by decide) ?_
                    refine lv_goto (tgt := 203) hx hb d_Forms_read_199 (by decide) ?_
                    exact q_iret E hr hlk (⟨_, rfl, hk⟩) hF d_Forms_read_203
                · skip
                  refine lv_aload_n hx hb d_Forms_read_131 rfl (lv_at hl 2 rfl) ?_
                  refine lv_aload_n hx hb d_Forms_read_132 rfl (lv_at hl 3 rfl) ?_
                  refine q_get (C := "KateDesk$Point") (T := T_Point) (N := 3) (ci := 2) E ((hk.pt hK h_t).1) in_Point rfl 1 (by decide) w_51 rfl rfl d_Forms_read_133 ?_
                  refine lv_iload hx hb d_Forms_read_136 (lv_at hl 0 rfl) ?_
                  refine lv_iconst (v := nI 1) hx hb d_Forms_read_138 (by decide) ?_
                  refine lv_iand hx hb d_Forms_read_139 ?_
                  refine lv_if_eq (tgt := 147) hx hb d_Forms_read_140 (by decide) (fun _ => ?_) (fun _ => ?_)
                  · skip
                    refine lv_iconst (v := nI 0) hx hb d_Forms_read_147 (by decide) ?_
                    refine q_cV (rest := []) E (v_Forms_findY l g n0 o cu fi F mi X r1 r2 r3 r4 t2 (nI 0)) w_657 w_13 w_654 w_656 (bw_s 5 rfl) hd_Forms_findY rfl ⟨by decide, by decide⟩ (OB.recv E.2.2.2.2.2 (by rfl) ((hk.fmx hK hfm).1)) (⟨(hk.fmx hK hfm), ((hk.pt hK h_t).2.2.1)⟩) hF hl.1 rfl (Nat.le_of_ble_eq_true rfl) d_Forms_read_148 ⟨by decide, by decide⟩ (qv (fun H5 locs hq hF => ?_))
                    have hk := hk.tr hq
                    refine lv_aload_n hx hb d_Forms_read_151 rfl (lv_at hl 3 rfl) ?_
                    refine q_get (C := "KateDesk$Point") (T := T_Point) (N := 3) (ci := 2) E ((hk.pt hK h_t).1) in_Point rfl 2 (by decide) w_55 rfl rfl d_Forms_read_152 ?_
                    refine lv_aload_n hx hb d_Forms_read_155 rfl (lv_at hl 2 rfl) ?_
                    refine q_get (C := "KateDesk$Forms") (T := T_Forms) (N := 6) (ci := 6) E ((hk.fmx hK hfm).1) in_Forms rfl 0 (by decide) w_272 rfl rfl d_Forms_read_156 ?_
                    refine q_get (C := "KateDesk$Field") (T := T_Field) (N := 7) (ci := 1) E ((hk.fmx hK hfm).2.1.2.1.1) in_Field rfl 1 (by decide) w_174 rfl rfl d_Forms_read_159 ?_
                    obtain ⟨f4, hf4⟩ := (((hk.fmx hK hfm).2.1.2.1.2 1 (by decide))).2
                    refine q_cS (rest := []) E (c_Limbs_copy l g n0 t3 (F 1) f4) w_146 w_5 w_665 w_145 hd_Limbs_copy rfl ⟨by decide, by decide⟩ (⟨((hk.pt hK h_t).2.2.2), hf4⟩) hF hl.1 rfl (Nat.le_of_ble_eq_true rfl) d_Forms_read_162 ⟨by decide, by decide⟩ (qv (fun H6 locs hq hF => ?_))
                    have hk := hk.tr (hq.1.w1 (((hk.pt hK h_t).2.2.2)).1)
                    refine lv_aload_n hx hb d_Forms_read_165 rfl (lv_at hl 2 rfl) ?_
                    refine q_get (C := "KateDesk$Forms") (T := T_Forms) (N := 6) (ci := 6) E ((hk.fmx hK hfm).1) in_Forms rfl 0 (by decide) w_272 rfl rfl d_Forms_read_166 ?_
                    refine lv_aload_n hx hb d_Forms_read_169 rfl (lv_at hl 2 rfl) ?_
                    refine q_get (C := "KateDesk$Forms") (T := T_Forms) (N := 6) (ci := 6) E ((hk.fmx hK hfm).1) in_Forms rfl 4 (by decide) w_276 rfl rfl d_Forms_read_170 ?_
                    refine lv_aload_n hx hb d_Forms_read_173 rfl (lv_at hl 3 rfl) ?_
                    refine q_get (C := "KateDesk$Point") (T := T_Point) (N := 3) (ci := 2) E ((hk.pt hK h_t).1) in_Point rfl 1 (by decide) w_51 rfl rfl d_Forms_read_174 ?_
                    refine lv_aload_n hx hb d_Forms_read_177 rfl (lv_at hl 3 rfl) ?_
                    refine q_get (C := "KateDesk$Point") (T := T_Point) (N := 3) (ci := 2) E ((hk.pt hK h_t).1) in_Point rfl 1 (by decide) w_51 rfl rfl d_Forms_read_178 ?_
                    refine q_cV (rest := []) E (c_Field_multiply l g n0 fi r3 t2 t2 F mi) w_165 w_4 w_666 w_163 w_164 hd_Field_multiply rfl ⟨by decide, by decide⟩ (OB.recv E.2.2.2.2.2 (by rfl) (((hk.fmx hK hfm).2.1.2.1).1)) (⟨(hk.fmx hK hfm).2.1.2.1, ((hk.fmx hK hfm).2.2.2.2.1), ((hk.pt hK h_t).2.2.1), ((hk.pt hK h_t).2.2.1)⟩) hF hl.1 rfl (Nat.le_of_ble_eq_true rfl) d_Forms_read_181 ⟨by decide, by decide⟩ (qv (fun H7 locs hq hF => ?_))
                    have hk := hk.tr (hq.w1 (((hk.fmx hK hfm).2.2.2.2.1)).1)
                    refine lv_aload_n hx hb d_Forms_read_184 rfl (lv_at hl 2 rfl) ?_
                    refine q_get (C := "KateDesk$Forms") (T := T_Forms) (N := 6) (ci := 6) E ((hk.fmx hK hfm).1) in_Forms rfl 4 (by decide) w_276 rfl rfl d_Forms_read_185 ?_
                    refine lv_aload_n hx hb d_Forms_read_188 rfl (lv_at hl 2 rfl) ?_
                    refine q_get (C := "KateDesk$Forms") (T := T_Forms) (N := 6) (ci := 6) E ((hk.fmx hK hfm).1) in_Forms rfl 3 (by decide) w_275 rfl rfl d_Forms_read_189 ?_
                    refine q_cS (rest := []) E (v_Limbs_equal l g n0 r3 r2) w_669 w_5 w_667 w_668 hd_Limbs_equal rfl ⟨by decide, by decide⟩ (⟨((hk.fmx hK hfm).2.2.2.2.1), ((hk.fmx hK hfm).2.2.2.1)⟩) hF hl.1 rfl (Nat.le_of_ble_eq_true rfl) d_Forms_read_192 ⟨by decide, by decide⟩ (qi (fun rz5 H8 locs hq hF => ?_))
                    obtain ⟨hbrz5, hq⟩ := hq
                    have hq := hq.symm
                    subst hq
                    refine lv_if_eq (tgt := 202) hx hb d_Forms_read_195 (by decide) (fun _ => ?_) (fun _ => ?_)
                    · skip
                      refine lv_iconst (v := nI 5) hx hb d_Forms_read_202 (by decide) ?_
                      exact q_iret E hr hlk (⟨_, rfl, hk⟩) hF d_Forms_read_203
                    · skip
                      refine lv_iconst (v := nI 0) hx hb d_Forms_read_198 (by decide) ?_
                      refine lv_goto (tgt := 203) hx hb d_Forms_read_199 (by decide) ?_
                      exact q_iret E hr hlk (⟨_, rfl, hk⟩) hF d_Forms_read_203
                  · skip
                    refine lv_iconst (v := nI 1) hx hb d_Forms_read_143 (by decide) ?_
                    refine lv_goto (tgt := 148) hx hb d_Forms_read_144 (by decide) ?_
                    refine q_cV (rest := []) E (v_Forms_findY l g n0 o cu fi F mi X r1 r2 r3 r4 t2 (nI 1)) w_657 w_13 w_654 w_656 (bw_s 5 rfl) hd_Forms_findY rfl ⟨by decide, by decide⟩ (OB.recv E.2.2.2.2.2 (by rfl) ((hk.fmx hK hfm).1)) (⟨(hk.fmx hK hfm), ((hk.pt hK h_t).2.2.1)⟩) hF hl.1 rfl (Nat.le_of_ble_eq_true rfl) d_Forms_read_148 ⟨by decide, by decide⟩ (qv (fun H5 locs hq hF => ?_))
                    have hk := hk.tr hq
                    refine lv_aload_n hx hb d_Forms_read_151 rfl (lv_at hl 3 rfl) ?_
                    refine q_get (C := "KateDesk$Point") (T := T_Point) (N := 3) (ci := 2) E ((hk.pt hK h_t).1) in_Point rfl 2 (by decide) w_55 rfl rfl d_Forms_read_152 ?_
                    refine lv_aload_n hx hb d_Forms_read_155 rfl (lv_at hl 2 rfl) ?_
                    refine q_get (C := "KateDesk$Forms") (T := T_Forms) (N := 6) (ci := 6) E ((hk.fmx hK hfm).1) in_Forms rfl 0 (by decide) w_272 rfl rfl d_Forms_read_156 ?_
                    refine q_get (C := "KateDesk$Field") (T := T_Field) (N := 7) (ci := 1) E ((hk.fmx hK hfm).2.1.2.1.1) in_Field rfl 1 (by decide) w_174 rfl rfl d_Forms_read_159 ?_
                    obtain ⟨f4, hf4⟩ := (((hk.fmx hK hfm).2.1.2.1.2 1 (by decide))).2
                    refine q_cS (rest := []) E (c_Limbs_copy l g n0 t3 (F 1) f4) w_146 w_5 w_665 w_145 hd_Limbs_copy rfl ⟨by decide, by decide⟩ (⟨((hk.pt hK h_t).2.2.2), hf4⟩) hF hl.1 rfl (Nat.le_of_ble_eq_true rfl) d_Forms_read_162 ⟨by decide, by decide⟩ (qv (fun H6 locs hq hF => ?_))
                    have hk := hk.tr (hq.1.w1 (((hk.pt hK h_t).2.2.2)).1)
                    refine lv_aload_n hx hb d_Forms_read_165 rfl (lv_at hl 2 rfl) ?_
                    refine q_get (C := "KateDesk$Forms") (T := T_Forms) (N := 6) (ci := 6) E ((hk.fmx hK hfm).1) in_Forms rfl 0 (by decide) w_272 rfl rfl d_Forms_read_166 ?_
                    refine lv_aload_n hx hb d_Forms_read_169 rfl (lv_at hl 2 rfl) ?_
                    refine q_get (C := "KateDesk$Forms") (T := T_Forms) (N := 6) (ci := 6) E ((hk.fmx hK hfm).1) in_Forms rfl 4 (by decide) w_276 rfl rfl d_Forms_read_170 ?_
                    refine lv_aload_n hx hb d_Forms_read_173 rfl (lv_at hl 3 rfl) ?_
                    refine q_get (C := "KateDesk$Point") (T := T_Point) (N := 3) (ci := 2) E ((hk.pt hK h_t).1) in_Point rfl 1 (by decide) w_51 rfl rfl d_Forms_read_174 ?_
                    refine lv_aload_n hx hb d_Forms_read_177 rfl (lv_at hl 3 rfl) ?_
                    refine q_get (C := "KateDesk$Point") (T := T_Point) (N := 3) (ci := 2) E ((hk.pt hK h_t).1) in_Point rfl 1 (by decide) w_51 rfl rfl d_Forms_read_178 ?_
                    refine q_cV (rest := []) E (c_Field_multiply l g n0 fi r3 t2 t2 F mi) w_165 w_4 w_666 w_163 w_164 hd_Field_multiply rfl ⟨by decide, by decide⟩ (OB.recv E.2.2.2.2.2 (by rfl) (((hk.fmx hK hfm).2.1.2.1).1)) (⟨(hk.fmx hK hfm).2.1.2.1, ((hk.fmx hK hfm).2.2.2.2.1), ((hk.pt hK h_t).2.2.1), ((hk.pt hK h_t).2.2.1)⟩) hF hl.1 rfl (Nat.le_of_ble_eq_true rfl) d_Forms_read_181 ⟨by decide, by decide⟩ (qv (fun H7 locs hq hF => ?_))
                    have hk := hk.tr (hq.w1 (((hk.fmx hK hfm).2.2.2.2.1)).1)
                    refine lv_aload_n hx hb d_Forms_read_184 rfl (lv_at hl 2 rfl) ?_
                    refine q_get (C := "KateDesk$Forms") (T := T_Forms) (N := 6) (ci := 6) E ((hk.fmx hK hfm).1) in_Forms rfl 4 (by decide) w_276 rfl rfl d_Forms_read_185 ?_
                    refine lv_aload_n hx hb d_Forms_read_188 rfl (lv_at hl 2 rfl) ?_
                    refine q_get (C := "KateDesk$Forms") (T := T_Forms) (N := 6) (ci := 6) E ((hk.fmx hK hfm).1) in_Forms rfl 3 (by decide) w_275 rfl rfl d_Forms_read_189 ?_
                    refine q_cS (rest := []) E (v_Limbs_equal l g n0 r3 r2) w_669 w_5 w_667 w_668 hd_Limbs_equal rfl ⟨by decide, by decide⟩ (⟨((hk.fmx hK hfm).2.2.2.2.1), ((hk.fmx hK hfm).2.2.2.1)⟩) hF hl.1 rfl (Nat.le_of_ble_eq_true rfl) d_Forms_read_192 ⟨by decide, by decide⟩ (qi (fun rz5 H8 locs hq hF => ?_))
                    obtain ⟨hbrz5, hq⟩ := hq
                    have hq := hq.symm
                    subst hq
                    refine lv_if_eq (tgt := 202) hx hb d_Forms_read_195 (by decide) (fun _ => ?_) (fun _ => ?_)
                    · skip
                      refine lv_iconst (v := nI 5) hx hb d_Forms_read_202 (by decide) ?_
                      exact q_iret E hr hlk (⟨_, rfl, hk⟩) hF d_Forms_read_203
                    · skip
                      refine lv_iconst (v := nI 0) hx hb d_Forms_read_198 (by decide) ?_
                      refine lv_goto (tgt := 203) hx hb d_Forms_read_199 (by decide) ?_
                      exact q_iret E hr hlk (⟨_, rfl, hk⟩) hF d_Forms_read_203
              · skip
                refine lv_aload_n hx hb d_Forms_read_96 rfl (lv_at hl 2 rfl) ?_
                refine lv_aload_n hx hb d_Forms_read_97 rfl (lv_at hl 3 rfl) ?_
                refine q_get (C := "KateDesk$Point") (T := T_Point) (N := 3) (ci := 2) E ((hk.pt hK h_t).1) in_Point rfl 1 (by decide) w_51 rfl rfl d_Forms_read_98 ?_
                refine lv_aload_n hx hb d_Forms_read_101 rfl (lv_at hl 4 rfl) ?_
                refine lv_bipush (v := nI 48) hx hb d_Forms_read_102 (by decide) ?_
                refine q_cV (rest := []) E (v_Forms_readCoordinate l g n0 o cu fi F mi X r1 r2 r3 r4 t2 rw ce ts 48 hts (by decide)) w_643 w_13 w_640 w_642 (bw_s 4 rfl) hd_Forms_readCoordinate rfl ⟨by decide, by decide⟩ (OB.recv E.2.2.2.2.2 (by rfl) ((hk.fmx hK hfm).1)) (⟨(hk.fmx hK hfm), ((hk.pt hK h_t).2.2.1), hk.rw9 hK hrw⟩) hF hl.1 rfl (Nat.le_of_ble_eq_true rfl) d_Forms_read_104 ⟨by decide, by decide⟩ (qi (fun rz4 H4 locs hq hF => ?_))
                obtain ⟨hbrz4, hq⟩ := hq
                have hk := hk.tr hq
                refine lv_if_ne (tgt := 112) hx hb d_Forms_read_107 (by decide) (fun _ => ?_) (fun _ => ?_)
                · skip
                  refine lv_aload_n hx hb d_Forms_read_112 rfl (lv_at hl 2 rfl) ?_
                  refine q_get (C := "KateDesk$Forms") (T := T_Forms) (N := 6) (ci := 6) E ((hk.fmx hK hfm).1) in_Forms rfl 1 (by decide) w_273 rfl rfl d_Forms_read_113 ?_
                  refine lv_aload_n hx hb d_Forms_read_116 rfl (lv_at hl 2 rfl) ?_
                  refine q_get (C := "KateDesk$Forms") (T := T_Forms) (N := 6) (ci := 6) E ((hk.fmx hK hfm).1) in_Forms rfl 3 (by decide) w_275 rfl rfl d_Forms_read_117 ?_
                  refine lv_aload_n hx hb d_Forms_read_120 rfl (lv_at hl 3 rfl) ?_
                  refine q_get (C := "KateDesk$Point") (T := T_Point) (N := 3) (ci := 2) E ((hk.pt hK h_t).1) in_Point rfl 0 (by decide) w_47 rfl rfl d_Forms_read_121 ?_
                  refine q_cV (rest := []) E (v_Curve_squareOfY l g n0 cu fi F mi X r2 t1) w_651 w_11 w_648 w_649 w_650 hd_Curve_squareOfY rfl ⟨by decide, by decide⟩ (OB.recv E.2.2.2.2.2 (by rfl) ((hk.fmx hK hfm).2.1.1)) (⟨(hk.fmx hK hfm).2.1, ((hk.fmx hK hfm).2.2.2.1), ((hk.pt hK h_t).2.1)⟩) hF hl.1 rfl (Nat.le_of_ble_eq_true rfl) d_Forms_read_124 ⟨by decide, by decide⟩ (qv (fun H5 locs hq hF => ?_))
                  have hk := hk.tr (hq.mono (fun q h => h.elim (fun h => h ▸ ((hk.fmx hK hfm).2.1.2.2 6 (by decide)).1) (fun h => h.elim (fun h => h ▸ ((hk.fmx hK hfm).2.1.2.2 7 (by decide)).1) (fun h => h ▸ (((hk.fmx hK hfm).2.2.2.1)).1))))
                  refine lv_iload_n hx hb d_Forms_read_127 rfl (lv_at hl 1 rfl) ?_
                  refine lv_if_eq (tgt := 151) hx hb d_Forms_read_128 (by decide) (fun _ => ?_) (fun _ => ?_)
                  · skip
                    refine lv_aload_n hx hb d_Forms_read_151 rfl (lv_at hl 3 rfl) ?_
                    refine q_get (C := "KateDesk$Point") (T := T_Point) (N := 3) (ci := 2) E ((hk.pt hK h_t).1) in_Point rfl 2 (by decide) w_55 rfl rfl d_Forms_read_152 ?_
                    refine lv_aload_n hx hb d_Forms_read_155 rfl (lv_at hl 2 rfl) ?_
                    refine q_get (C := "KateDesk$Forms") (T := T_Forms) (N := 6) (ci := 6) E ((hk.fmx hK hfm).1) in_Forms rfl 0 (by decide) w_272 rfl rfl d_Forms_read_156 ?_
                    refine q_get (C := "KateDesk$Field") (T := T_Field) (N := 7) (ci := 1) E ((hk.fmx hK hfm).2.1.2.1.1) in_Field rfl 1 (by decide) w_174 rfl rfl d_Forms_read_159 ?_
                    obtain ⟨f5, hf5⟩ := (((hk.fmx hK hfm).2.1.2.1.2 1 (by decide))).2
                    refine q_cS (rest := []) E (c_Limbs_copy l g n0 t3 (F 1) f5) w_146 w_5 w_665 w_145 hd_Limbs_copy rfl ⟨by decide, by decide⟩ (⟨((hk.pt hK h_t).2.2.2), hf5⟩) hF hl.1 rfl (Nat.le_of_ble_eq_true rfl) d_Forms_read_162 ⟨by decide, by decide⟩ (qv (fun H6 locs hq hF => ?_))
                    have hk := hk.tr (hq.1.w1 (((hk.pt hK h_t).2.2.2)).1)
                    refine lv_aload_n hx hb d_Forms_read_165 rfl (lv_at hl 2 rfl) ?_
                    refine q_get (C := "KateDesk$Forms") (T := T_Forms) (N := 6) (ci := 6) E ((hk.fmx hK hfm).1) in_Forms rfl 0 (by decide) w_272 rfl rfl d_Forms_read_166 ?_
                    refine lv_aload_n hx hb d_Forms_read_169 rfl (lv_at hl 2 rfl) ?_
                    refine q_get (C := "KateDesk$Forms") (T := T_Forms) (N := 6) (ci := 6) E ((hk.fmx hK hfm).1) in_Forms rfl 4 (by decide) w_276 rfl rfl d_Forms_read_170 ?_
                    refine lv_aload_n hx hb d_Forms_read_173 rfl (lv_at hl 3 rfl) ?_
                    refine q_get (C := "KateDesk$Point") (T := T_Point) (N := 3) (ci := 2) E ((hk.pt hK h_t).1) in_Point rfl 1 (by decide) w_51 rfl rfl d_Forms_read_174 ?_
                    refine lv_aload_n hx hb d_Forms_read_177 rfl (lv_at hl 3 rfl) ?_
                    refine q_get (C := "KateDesk$Point") (T := T_Point) (N := 3) (ci := 2) E ((hk.pt hK h_t).1) in_Point rfl 1 (by decide) w_51 rfl rfl d_Forms_read_178 ?_
                    refine q_cV (rest := []) E (c_Field_multiply l g n0 fi r3 t2 t2 F mi) w_165 w_4 w_666 w_163 w_164 hd_Field_multiply rfl ⟨by decide, by decide⟩ (OB.recv E.2.2.2.2.2 (by rfl) (((hk.fmx hK hfm).2.1.2.1).1)) (⟨(hk.fmx hK hfm).2.1.2.1, ((hk.fmx hK hfm).2.2.2.2.1), ((hk.pt hK h_t).2.2.1), ((hk.pt hK h_t).2.2.1)⟩) hF hl.1 rfl (Nat.le_of_ble_eq_true rfl) d_Forms_read_181 ⟨by decide, by decide⟩ (qv (fun H7 locs hq hF => ?_))
                    have hk := hk.tr (hq.w1 (((hk.fmx hK hfm).2.2.2.2.1)).1)
                    refine lv_aload_n hx hb d_Forms_read_184 rfl (lv_at hl 2 rfl) ?_
                    refine q_get (C := "KateDesk$Forms") (T := T_Forms) (N := 6) (ci := 6) E ((hk.fmx hK hfm).1) in_Forms rfl 4 (by decide) w_276 rfl rfl d_Forms_read_185 ?_
                    refine lv_aload_n hx hb d_Forms_read_188 rfl (lv_at hl 2 rfl) ?_
                    refine q_get (C := "KateDesk$Forms") (T := T_Forms) (N := 6) (ci := 6) E ((hk.fmx hK hfm).1) in_Forms rfl 3 (by decide) w_275 rfl rfl d_Forms_read_189 ?_
                    refine q_cS (rest := []) E (v_Limbs_equal l g n0 r3 r2) w_669 w_5 w_667 w_668 hd_Limbs_equal rfl ⟨by decide, by decide⟩ (⟨((hk.fmx hK hfm).2.2.2.2.1), ((hk.fmx hK hfm).2.2.2.1)⟩) hF hl.1 rfl (Nat.le_of_ble_eq_true rfl) d_Forms_read_192 ⟨by decide, by decide⟩ (qi (fun rz6 H8 locs hq hF => ?_))
                    obtain ⟨hbrz6, hq⟩ := hq
                    have hq := hq.symm
                    subst hq
                    refine lv_if_eq (tgt := 202) hx hb d_Forms_read_195 (by decide) (fun _ => ?_) (fun _ => ?_)
                    · skip
                      refine lv_iconst (v := nI 5) hx hb d_Forms_read_202 (by decide) ?_
                      exact q_iret E hr hlk (⟨_, rfl, hk⟩) hF d_Forms_read_203
                    · skip
                      refine lv_iconst (v := nI 0) hx hb d_Forms_read_198 (by decide) ?_
                      refine lv_goto (tgt := 203) hx hb d_Forms_read_199 (by decide) ?_
                      exact q_iret E hr hlk (⟨_, rfl, hk⟩) hF d_Forms_read_203
                  · skip
                    refine lv_aload_n hx hb d_Forms_read_131 rfl (lv_at hl 2 rfl) ?_
                    refine lv_aload_n hx hb d_Forms_read_132 rfl (lv_at hl 3 rfl) ?_
                    refine q_get (C := "KateDesk$Point") (T := T_Point) (N := 3) (ci := 2) E ((hk.pt hK h_t).1) in_Point rfl 1 (by decide) w_51 rfl rfl d_Forms_read_133 ?_
                    refine lv_iload hx hb d_Forms_read_136 (lv_at hl 0 rfl) ?_
                    refine lv_iconst (v := nI 1) hx hb d_Forms_read_138 (by decide) ?_
                    refine lv_iand hx hb d_Forms_read_139 ?_
                    refine lv_if_eq (tgt := 147) hx hb d_Forms_read_140 (by decide) (fun _ => ?_) (fun _ => ?_)
                    · skip
                      refine lv_iconst (v := nI 0) hx hb d_Forms_read_147 (by decide) ?_
                      refine q_cV (rest := []) E (v_Forms_findY l g n0 o cu fi F mi X r1 r2 r3 r4 t2 (nI 0)) w_657 w_13 w_654 w_656 (bw_s 5 rfl) hd_Forms_findY rfl ⟨by decide, by decide⟩ (OB.recv E.2.2.2.2.2 (by rfl) ((hk.fmx hK hfm).1)) (⟨(hk.fmx hK hfm), ((hk.pt hK h_t).2.2.1)⟩) hF hl.1 rfl (Nat.le_of_ble_eq_true rfl) d_Forms_read_148 ⟨by decide, by decide⟩ (qv (fun H6 locs hq hF => ?_))
                      have hk := hk.tr hq
                      refine lv_aload_n hx hb d_Forms_read_151 rfl (lv_at hl 3 rfl) ?_
                      refine q_get (C := "KateDesk$Point") (T := T_Point) (N := 3) (ci := 2) E ((hk.pt hK h_t).1) in_Point rfl 2 (by decide) w_55 rfl rfl d_Forms_read_152 ?_
                      refine lv_aload_n hx hb d_Forms_read_155 rfl (lv_at hl 2 rfl) ?_
                      refine q_get (C := "KateDesk$Forms") (T := T_Forms) (N := 6) (ci := 6) E ((hk.fmx hK hfm).1) in_Forms rfl 0 (by decide) w_272 rfl rfl d_Forms_read_156 ?_
                      refine q_get (C := "KateDesk$Field") (T := T_Field) (N := 7) (ci := 1) E ((hk.fmx hK hfm).2.1.2.1.1) in_Field rfl 1 (by decide) w_174 rfl rfl d_Forms_read_159 ?_
                      obtain ⟨f5, hf5⟩ := (((hk.fmx hK hfm).2.1.2.1.2 1 (by decide))).2
                      refine q_cS (rest := []) E (c_Limbs_copy l g n0 t3 (F 1) f5) w_146 w_5 w_665 w_145 hd_Limbs_copy rfl ⟨by decide, by decide⟩ (⟨((hk.pt hK h_t).2.2.2), hf5⟩) hF hl.1 rfl (Nat.le_of_ble_eq_true rfl) d_Forms_read_162 ⟨by decide, by decide⟩ (qv (fun H7 locs hq hF => ?_))
                      have hk := hk.tr (hq.1.w1 (((hk.pt hK h_t).2.2.2)).1)
                      refine lv_aload_n hx hb d_Forms_read_165 rfl (lv_at hl 2 rfl) ?_
                      refine q_get (C := "KateDesk$Forms") (T := T_Forms) (N := 6) (ci := 6) E ((hk.fmx hK hfm).1) in_Forms rfl 0 (by decide) w_272 rfl rfl d_Forms_read_166 ?_
                      refine lv_aload_n hx hb d_Forms_read_169 rfl (lv_at hl 2 rfl) ?_
                      refine q_get (C := "KateDesk$Forms") (T := T_Forms) (N := 6) (ci := 6) E ((hk.fmx hK hfm).1) in_Forms rfl 4 (by decide) w_276 rfl rfl d_Forms_read_170 ?_
                      refine lv_aload_n hx hb d_Forms_read_173 rfl (lv_at hl 3 rfl) ?_
                      refine q_get (C := "KateDesk$Point") (T := T_Point) (N := 3) (ci := 2) E ((hk.pt hK h_t).1) in_Point rfl 1 (by decide) w_51 rfl rfl d_Forms_read_174 ?_
                      refine lv_aload_n hx hb d_Forms_read_177 rfl (lv_at hl 3 rfl) ?_
                      refine q_get (C := "KateDesk$Point") (T := T_Point) (N := 3) (ci := 2) E ((hk.pt hK h_t).1) in_Point rfl 1 (by decide) w_51 rfl rfl d_Forms_read_178 ?_
                      refine q_cV (rest := []) E (c_Field_multiply l g n0 fi r3 t2 t2 F mi) w_165 w_4 w_666 w_163 w_164 hd_Field_multiply rfl ⟨by decide, by decide⟩ (OB.recv E.2.2.2.2.2 (by rfl) (((hk.fmx hK hfm).2.1.2.1).1)) (⟨(hk.fmx hK hfm).2.1.2.1, ((hk.fmx hK hfm).2.2.2.2.1), ((hk.pt hK h_t).2.2.1), ((hk.pt hK h_t).2.2.1)⟩) hF hl.1 rfl (Nat.le_of_ble_eq_true rfl) d_Forms_read_181 ⟨by decide, by decide⟩ (qv (fun H8 locs hq hF => ?_))
                      have hk := hk.tr (hq.w1 (((hk.fmx hK hfm).2.2.2.2.1)).1)
                      refine lv_aload_n hx hb d_Forms_read_184 rfl (lv_at hl 2 rfl) ?_
                      refine q_get (C := "KateDesk$Forms") (T := T_Forms) (N := 6) (ci := 6) E ((hk.fmx hK hfm).1) in_Forms rfl 4 (by decide) w_276 rfl rfl d_Forms_read_185 ?_
                      refine lv_aload_n hx hb d_Forms_read_188 rfl (lv_at hl 2 rfl) ?_
                      refine q_get (C := "KateDesk$Forms") (T := T_Forms) (N := 6) (ci := 6) E ((hk.fmx hK hfm).1) in_Forms rfl 3 (by decide) w_275 rfl rfl d_Forms_read_189 ?_
                      refine q_cS (rest := []) E (v_Limbs_equal l g n0 r3 r2) w_669 w_5 w_667 w_668 hd_Limbs_equal rfl ⟨by decide, by decide⟩ (⟨((hk.fmx hK hfm).2.2.2.2.1), ((hk.fmx hK hfm).2.2.2.1)⟩) hF hl.1 rfl (Nat.le_of_ble_eq_true rfl) d_Forms_read_192 ⟨by decide, by decide⟩ (qi (fun rz6 H9 locs hq hF => ?_))
                      obtain ⟨hbrz6, hq⟩ := hq
                      have hq := hq.symm
                      subst hq
                      refine lv_if_eq (tgt := 202) hx hb d_Forms_read_195 (by decide) (fun _ => ?_) (fun _ => ?_)
                      · skip
                        refine lv_iconst (v := nI 5) hx hb d_Forms_read_202 (by decide) ?_
                        exact q_iret E hr hlk (⟨_, rfl, hk⟩) hF d_Forms_read_203
                      · skip
                        refine lv_iconst (v := nI 0) hx hb d_Forms_read_198 (by decide) ?_
                        refine lv_goto (tgt := 203) hx hb d_Forms_read_199 (by decide) ?_
                        exact q_iret E hr hlk (⟨_, rfl, hk⟩) hF d_Forms_read_203
                    · skip
                      refine lv_iconst (v := nI 1) hx hb d_Forms_read_143 (by decide) ?_
                      refine lv_goto (tgt := 148) hx hb d_Forms_read_144 (by decide) ?_
                      refine q_cV (rest := []) E (v_Forms_findY l g n0 o cu fi F mi X r1 r2 r3 r4 t2 (nI 1)) w_657 w_13 w_654 w_656 (bw_s 5 rfl) hd_Forms_findY rfl ⟨by decide, by decide⟩ (OB.recv E.2.2.2.2.2 (by rfl) ((hk.fmx hK hfm).1)) (⟨(hk.fmx hK hfm), ((hk.pt hK h_t).2.2.1)⟩) hF hl.1 rfl (Nat.le_of_ble_eq_true rfl) d_Forms_read_148 ⟨by decide, by decide⟩ (qv (fun H6 locs hq hF => ?_))
                      have hk := hk.tr hq
                      refine lv_aload_n hx hb d_Forms_read_151 rfl (lv_at hl 3 rfl) ?_
                      refine q_get (C := "KateDesk$Point") (T := T_Point) (N := 3) (ci := 2) E ((hk.pt hK h_t).1) in_Point rfl 2 (by decide) w_55 rfl rfl d_Forms_read_152 ?_
                      refine lv_aload_n hx hb d_Forms_read_155 rfl (lv_at hl 2 rfl) ?_
                      refine q_get (C := "KateDesk$Forms") (T := T_Forms) (N := 6) (ci := 6) E ((hk.fmx hK hfm).1) in_Forms rfl 0 (by decide) w_272 rfl rfl d_Forms_read_156 ?_
                      refine q_get (C := "KateDesk$Field") (T := T_Field) (N := 7) (ci := 1) E ((hk.fmx hK hfm).2.1.2.1.1) in_Field rfl 1 (by decide) w_174 rfl rfl d_Forms_read_159 ?_
                      obtain ⟨f5, hf5⟩ := (((hk.fmx hK hfm).2.1.2.1.2 1 (by decide))).2
                      refine q_cS (rest := []) E (c_Limbs_copy l g n0 t3 (F 1) f5) w_146 w_5 w_665 w_145 hd_Limbs_copy rfl ⟨by decide, by decide⟩ (⟨((hk.pt hK h_t).2.2.2), hf5⟩) hF hl.1 rfl (Nat.le_of_ble_eq_true rfl) d_Forms_read_162 ⟨by decide, by decide⟩ (qv (fun H7 locs hq hF => ?_))
                      have hk := hk.tr (hq.1.w1 (((hk.pt hK h_t).2.2.2)).1)
                      refine lv_aload_n hx hb d_Forms_read_165 rfl (lv_at hl 2 rfl) ?_
                      refine q_get (C := "KateDesk$Forms") (T := T_Forms) (N := 6) (ci := 6) E ((hk.fmx hK hfm).1) in_Forms rfl 0 (by decide) w_272 rfl rfl d_Forms_read_166 ?_
                      refine lv_aload_n hx hb d_Forms_read_169 rfl (lv_at hl 2 rfl) ?_
                      refine q_get (C := "KateDesk$Forms") (T := T_Forms) (N := 6) (ci := 6) E ((hk.fmx hK hfm).1) in_Forms rfl 4 (by decide) w_276 rfl rfl d_Forms_read_170 ?_
                      refine lv_aload_n hx hb d_Forms_read_173 rfl (lv_at hl 3 rfl) ?_
                      refine q_get (C := "KateDesk$Point") (T := T_Point) (N := 3) (ci := 2) E ((hk.pt hK h_t).1) in_Point rfl 1 (by decide) w_51 rfl rfl d_Forms_read_174 ?_
                      refine lv_aload_n hx hb d_Forms_read_177 rfl (lv_at hl 3 rfl) ?_
                      refine q_get (C := "KateDesk$Point") (T := T_Point) (N := 3) (ci := 2) E ((hk.pt hK h_t).1) in_Point rfl 1 (by decide) w_51 rfl rfl d_Forms_read_178 ?_
                      refine q_cV (rest := []) E (c_Field_multiply l g n0 fi r3 t2 t2 F mi) w_165 w_4 w_666 w_163 w_164 hd_Field_multiply rfl ⟨by decide, by decide⟩ (OB.recv E.2.2.2.2.2 (by rfl) (((hk.fmx hK hfm).2.1.2.1).1)) (⟨(hk.fmx hK hfm).2.1.2.1, ((hk.fmx hK hfm).2.2.2.2.1), ((hk.pt hK h_t).2.2.1), ((hk.pt hK h_t).2.2.1)⟩) hF hl.1 rfl (Nat.le_of_ble_eq_true rfl) d_Forms_read_181 ⟨by decide, by decide⟩ (qv (fun H8 locs hq hF => ?_))
                      have hk := hk.tr (hq.w1 (((hk.fmx hK hfm).2.2.2.2.1)).1)
                      refine lv_aload_n hx hb d_Forms_read_184 rfl (lv_at hl 2 rfl) ?_
                      refine q_get (C := "KateDesk$Forms") (T := T_Forms) (N := 6) (ci := 6) E ((hk.fmx hK hfm).1) in_Forms rfl 4 (by decide) w_276 rfl rfl d_Forms_read_185 ?_
                      refine lv_aload_n hx hb d_Forms_read_188 rfl (lv_at hl 2 rfl) ?_
                      refine q_get (C := "KateDesk$Forms") (T := T_Forms) (N := 6) (ci := 6) E ((hk.fmx hK hfm).1) in_Forms rfl 3 (by decide) w_275 rfl rfl d_Forms_read_189 ?_
                      refine q_cS (rest := []) E (v_Limbs_equal l g n0 r3 r2) w_669 w_5 w_667 w_668 hd_Limbs_equal rfl ⟨by decide, by decide⟩ (⟨((hk.fmx hK hfm).2.2.2.2.1), ((hk.fmx hK hfm).2.2.2.1)⟩) hF hl.1 rfl (Nat.le_of_ble_eq_true rfl) d_Forms_read_192 ⟨by decide, by decide⟩ (qi (fun rz6 H9 locs hq hF => ?_))
                      obtain ⟨hbrz6, hq⟩ := hq
                      have hq := hq.symm
                      subst hq
                      refine lv_if_eq (tgt := 202) hx hb d_Forms_read_195 (by decide) (fun _ => ?_) (fun _ => ?_)
                      · skip
                        refine lv_iconst (v := nI 5) hx hb d_Forms_read_202 (by decide) ?_
                        exact q_iret E hr hlk (⟨_, rfl, hk⟩) hF d_Forms_read_203
                      · skip
                        refine lv_iconst (v := nI 0) hx hb d_Forms_read_198 (by decide) ?_
                        refine lv_goto (tgt := 203) hx hb d_Forms_read_199 (by decide) ?_
                        exact q_iret E hr hlk (⟨_, rfl, hk⟩) hF d_Forms_read_203
                · skip
                  refine lv_iconst (v := nI 4) hx hb d_Forms_read_110 (by decide) ?_
                  exact q_iret E hr hlk (⟨_, rfl, hk⟩) hF d_Forms_read_111
          · skip
            refine lv_aload_n hx hb d_Forms_read_62 rfl (lv_at hl 3 rfl) ?_
            refine q_cV (rest := []) E (c_Point_becomeNothing l g n0 t t1 t2 t3 h32) w_635 w_2 w_632 w_633 w_634 hd_Point_becomeNothing rfl ⟨by decide, by decide⟩ (OB.recv E.2.2.2.2.2 (by rfl) (((hk.pt hK h_t)).1)) (hk.pt hK h_t) hF hl.1 rfl (Nat.le_of_ble_eq_true rfl) d_Forms_read_63 ⟨by decide, by decide⟩ (qv (fun H3 locs hq hF => ?_))
            have hk := hk.tr (hq.1.mono (pt_le (hk.pt hK h_t)))
            refine lv_aload_n hx hb d_Forms_read_66 rfl (lv_at hl 4 rfl) ?_
            refine q_cS (rest := []) E (v_Forms_isBare l g n0 rw ce ts hts) w_639 w_13 w_637 w_638 hd_Forms_isBare rfl ⟨by decide, by decide⟩ (hk.rw9 hK hrw) hF hl.1 rfl (Nat.le_of_ble_eq_true rfl) d_Forms_read_67 ⟨by decide, by decide⟩ (qi (fun rz3 H4 locs hq hF => ?_))
            obtain ⟨hbrz3, hq⟩ := hq
            have hq := hq.symm
            subst hq
            refine lv_if_eq (tgt := 77) hx hb d_Forms_read_70 (by decide) (fun _ => ?_) (fun _ => ?_)
            · skip
              refine lv_iconst (v := nI 3) hx hb d_Forms_read_77 (by decide) ?_
              exact q_iret E hr hlk (⟨_, rfl, hk⟩) hF d_Forms_read_78
            · skip
              refine lv_iconst (v := nI 0) hx hb d_Forms_read_73 (by decide) ?_
              refine lv_goto (tgt := 78) hx hb d_Forms_read_74 (by decide) ?_
              exact q_iret E hr hlk (⟨_, rfl, hk⟩) hF d_Forms_read_78
        · skip
          refine lv_iconst (v := nI 2) hx hb d_Forms_read_53 (by decide) ?_
          exact q_iret E hr hlk (⟨_, rfl, hk⟩) hF d_Forms_read_54
    · skip
      refine lv_iconst (v := nI 1) hx hb d_Forms_read_18 (by decide) ?_
      exact q_iret E hr hlk (⟨_, rfl, hk⟩) hF d_Forms_read_19
