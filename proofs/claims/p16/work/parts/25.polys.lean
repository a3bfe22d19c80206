/-- the polynomials: the field, seven rows, 16 rows more -/
def PO (g : WG) (n0 : Nat → Prop) (H : Heap) (o fo vl : Nat) (F : Nat → Nat) (mi : Int64) (Y V : Nat → Nat) : Prop :=
  OB g H o 7 [.ref fo, .ref (Y 0), .ref (Y 1), .ref (Y 2), .ref (Y 3), .ref (Y 4), .ref (Y 5), .ref (Y 6), .ref vl] ∧ FD g n0 H fo F mi ∧ (∀ k, k < 7 → J14 g n0 H (Y k)) ∧ AR g.2.2.2.2.2.1 H vl 16 V ∧ ∀ k, k < 16 → J14 g n0 H (V k)
theorem KJ.po {g : WG} {S : Nat → Prop} {n0 : Nat → Prop} {H H' : Heap} {U : State} (h : KJ g S H H') (hK : KW g U) {o fo vl : Nat} {F : Nat → Nat} {mi : Int64} {Y V : Nat → Nat} (hf : PO g n0 H o fo vl F mi Y V) : PO g n0 H' o fo vl F mi Y V :=
  ⟨h.ob hK hf.1, h.fd hK hf.2.1, fun k hk => h.j (hf.2.2.1 k hk), h.arJ hK hf.2.2.2.1, fun k hk => h.j (hf.2.2.2.2 k hk)⟩
/-- rows of scalars -/
def RS (g : WG) (n0 : Nat → Prop) (H : Heap) (o N : Nat) (Sc : Nat → Nat) : Prop := AR g.2.2.2.2.2.1 H o N Sc ∧ ∀ k, k < N → J14 g n0 H (Sc k)
theorem KJ.rs {g : WG} {S : Nat → Prop} {n0 : Nat → Prop} {H H' : Heap} {U : State} (h : KJ g S H H') (hK : KW g U) {o N : Nat} {Sc : Nat → Nat} (hf : RS g n0 H o N Sc) : RS g n0 H' o N Sc := ⟨h.arJ hK hf.1, fun k hk => h.j (hf.2 k hk)⟩
theorem sh1 : ∀ k, k < 5 → nI 1 <<< (nI k &&& 31) = nI (2 ^ k) := by decide
theorem pw16 {k : Nat} (h : k < 5) : 1 ≤ 2 ^ k ∧ 2 ^ k ≤ 16 := by
  rcases (show k = 0 ∨ k = 1 ∨ k = 2 ∨ k = 3 ∨ k = 4 by omega) with rfl | rfl | rfl | rfl | rfl <;> decide
theorem pwm {k : Nat} (h : k < 5) : (nI (2 ^ k - 1)).toBitVec.toNat = 2 ^ k - 1 := by
  rcases (show k = 0 ∨ k = 1 ∨ k = 2 ∨ k = 3 ∨ k = 4 by omega) with rfl | rfl | rfl | rfl | rfl <;> decide
theorem dn_lt {a : Nat} (h : a < 2 ^ 30) : nI (a + 0) - 1 < nI a := by
  cases a with
  | zero => decide
  | succ a => rw [Nat.add_zero, nI_pred]; exact nI_lt (Nat.lt_succ_self a) (by omega)
abbrev y_Polys_rootExponent : MethodName := ⟨"KateDesk$Polynomials", "rootExponent", "(I)V"⟩
theorem hd_Polys_rootExponent : y_Polys_rootExponent.cls ≠ "java/lang/invoke/MethodHandle" ∧ y_Polys_rootExponent.cls ≠ "java/lang/invoke/VarHandle" ∧ (parseMethodDescriptor y_Polys_rootExponent.desc).map (fun d => d.parameters.length) = some 1 := by decide +kernel
theorem d_Polys_rootExponent_0 : decode prog_7_method_3_code 0 = .ok (.aload_n 0, 1) := by decide +kernel
theorem d_Polys_rootExponent_1 : decode prog_7_method_3_code 1 = .ok (.getfield 38, 3) := by decide +kernel
theorem d_Polys_rootExponent_4 : decode prog_7_method_3_code 4 = .ok (.aload_n 0, 1) := by decide +kernel
theorem d_Polys_rootExponent_5 : decode prog_7_method_3_code 5 = .ok (.getfield 30, 3) := by decide +kernel
theorem d_Polys_rootExponent_8 : decode prog_7_method_3_code 8 = .ok (.aload_n 0, 1) := by decide +kernel
theorem d_Polys_rootExponent_9 : decode prog_7_method_3_code 9 = .ok (.getfield 15, 3) := by decide +kernel
theorem d_Polys_rootExponent_12 : decode prog_7_method_3_code 12 = .ok (.invokevirtual 58, 3) := by decide +kernel
theorem d_Polys_rootExponent_15 : decode prog_7_method_3_code 15 = .ok (.aload_n 0, 1) := by decide +kernel
theorem d_Polys_rootExponent_16 : decode prog_7_method_3_code 16 = .ok (.getfield 18, 3) := by decide +kernel
theorem d_Polys_rootExponent_19 : decode prog_7_method_3_code 19 = .ok (.aload_n 0, 1) := by decide +kernel
theorem d_Polys_rootExponent_20 : decode prog_7_method_3_code 20 = .ok (.getfield 30, 3) := by decide +kernel
theorem d_Polys_rootExponent_23 : decode prog_7_method_3_code 23 = .ok (.iload_n 1, 1) := by decide +kernel
theorem d_Polys_rootExponent_24 : decode prog_7_method_3_code 24 = .ok (.invokestatic 61, 3) := by decide +kernel
theorem d_Polys_rootExponent_27 : decode prog_7_method_3_code 27 = .ok (.return_, 1) := by decide +kernel
abbrev y_Polys_liftedRoot : MethodName := ⟨"KateDesk$Polynomials", "liftedRoot", "([JI)V"⟩
theorem hd_Polys_liftedRoot : y_Polys_liftedRoot.cls ≠ "java/lang/invoke/MethodHandle" ∧ y_Polys_liftedRoot.cls ≠ "java/lang/invoke/VarHandle" ∧ (parseMethodDescriptor y_Polys_liftedRoot.desc).map (fun d => d.parameters.length) = some 2 := by decide +kernel
theorem d_Polys_liftedRoot_0 : decode prog_7_method_2_code 0 = .ok (.aload_n 0, 1) := by decide +kernel
theorem d_Polys_liftedRoot_1 : decode prog_7_method_2_code 1 = .ok (.iload_n 2, 1) := by decide +kernel
theorem d_Polys_liftedRoot_2 : decode prog_7_method_2_code 2 = .ok (.invokevirtual 50, 3) := by decide +kernel
theorem d_Polys_liftedRoot_5 : decode prog_7_method_2_code 5 = .ok (.aload_n 0, 1) := by decide +kernel
theorem d_Polys_liftedRoot_6 : decode prog_7_method_2_code 6 = .ok (.getfield 38, 3) := by decide +kernel
theorem d_Polys_liftedRoot_9 : decode prog_7_method_2_code 9 = .ok (.aload_n 1, 1) := by decide +kernel
theorem d_Polys_liftedRoot_10 : decode prog_7_method_2_code 10 = .ok (.aload_n 0, 1) := by decide +kernel
theorem d_Polys_liftedRoot_11 : decode prog_7_method_2_code 11 = .ok (.getfield 9, 3) := by decide +kernel
theorem d_Polys_liftedRoot_14 : decode prog_7_method_2_code 14 = .ok (.aload_n 0, 1) := by decide +kernel
theorem d_Polys_liftedRoot_15 : decode prog_7_method_2_code 15 = .ok (.getfield 18, 3) := by decide +kernel
theorem d_Polys_liftedRoot_18 : decode prog_7_method_2_code 18 = .ok (.invokevirtual 54, 3) := by decide +kernel
theorem d_Polys_liftedRoot_21 : decode prog_7_method_2_code 21 = .ok (.return_, 1) := by decide +kernel
abbrev y_Polys_findShare : MethodName := ⟨"KateDesk$Polynomials", "findShare", "(I)V"⟩
theorem hd_Polys_findShare : y_Polys_findShare.cls ≠ "java/lang/invoke/MethodHandle" ∧ y_Polys_findShare.cls ≠ "java/lang/invoke/VarHandle" ∧ (parseMethodDescriptor y_Polys_findShare.desc).map (fun d => d.parameters.length) = some 1 := by decide +kernel
theorem d_Polys_findShare_0 : decode prog_7_method_4_code 0 = .ok (.aload_n 0, 1) := by decide +kernel
theorem d_Polys_findShare_1 : decode prog_7_method_4_code 1 = .ok (.iload_n 1, 1) := by decide +kernel
theorem d_Polys_findShare_2 : decode prog_7_method_4_code 2 = .ok (.invokevirtual 50, 3) := by decide +kernel
theorem d_Polys_findShare_5 : decode prog_7_method_4_code 5 = .ok (.aload_n 0, 1) := by decide +kernel
theorem d_Polys_findShare_6 : decode prog_7_method_4_code 6 = .ok (.getfield 38, 3) := by decide +kernel
theorem d_Polys_findShare_9 : decode prog_7_method_4_code 9 = .ok (.aload_n 0, 1) := by decide +kernel
theorem d_Polys_findShare_10 : decode prog_7_method_4_code 10 = .ok (.getfield 27, 3) := by decide +kernel
theorem d_Polys_findShare_13 : decode prog_7_method_4_code 13 = .ok (.aload_n 0, 1) := by decide +kernel
theorem d_Polys_findShare_14 : decode prog_7_method_4_code 14 = .ok (.getfield 18, 3) := by decide +kernel
theorem d_Polys_findShare_17 : decode prog_7_method_4_code 17 = .ok (.invokevirtual 58, 3) := by decide +kernel
theorem d_Polys_findShare_20 : decode prog_7_method_4_code 20 = .ok (.aload_n 0, 1) := by decide +kernel
theorem d_Polys_findShare_21 : decode prog_7_method_4_code 21 = .ok (.getfield 38, 3) := by decide +kernel
theorem d_Polys_findShare_24 : decode prog_7_method_4_code 24 = .ok (.aload_n 0, 1) := by decide +kernel
theorem d_Polys_findShare_25 : decode prog_7_method_4_code 25 = .ok (.getfield 27, 3) := by decide +kernel
theorem d_Polys_findShare_28 : decode prog_7_method_4_code 28 = .ok (.aload_n 0, 1) := by decide +kernel
theorem d_Polys_findShare_29 : decode prog_7_method_4_code 29 = .ok (.getfield 27, 3) := by decide +kernel
theorem d_Polys_findShare_32 : decode prog_7_method_4_code 32 = .ok (.invokevirtual 44, 3) := by decide +kernel
theorem d_Polys_findShare_35 : decode prog_7_method_4_code 35 = .ok (.return_, 1) := by decide +kernel
abbrev y_Polys_divide : MethodName := ⟨"KateDesk$Polynomials", "divide", "([J[[JII[J)V"⟩
theorem hd_Polys_divide : y_Polys_divide.cls ≠ "java/lang/invoke/MethodHandle" ∧ y_Polys_divide.cls ≠ "java/lang/invoke/VarHandle" ∧ (parseMethodDescriptor y_Polys_divide.desc).map (fun d => d.parameters.length) = some 5 := by decide +kernel
theorem d_Polys_divide_0 : decode prog_7_method_5_code 0 = .ok (.aload_n 1, 1) := by decide +kernel
theorem d_Polys_divide_1 : decode prog_7_method_5_code 1 = .ok (.invokestatic 65, 3) := by decide +kernel
theorem d_Polys_divide_4 : decode prog_7_method_5_code 4 = .ok (.iload_n 3, 1) := by decide +kernel
theorem d_Polys_divide_5 : decode prog_7_method_5_code 5 = .ok (.iload 4, 2) := by decide +kernel
theorem d_Polys_divide_7 : decode prog_7_method_5_code 7 = .ok (.iadd, 1) := by decide +kernel
theorem d_Polys_divide_8 : decode prog_7_method_5_code 8 = .ok (.iconst 1, 1) := by decide +kernel
theorem d_Polys_divide_9 : decode prog_7_method_5_code 9 = .ok (.isub, 1) := by decide +kernel
theorem d_Polys_divide_10 : decode prog_7_method_5_code 10 = .ok (.istore 6, 2) := by decide +kernel
theorem d_Polys_divide_12 : decode prog_7_method_5_code 12 = .ok (.iload 6, 2) := by decide +kernel
theorem d_Polys_divide_14 : decode prog_7_method_5_code 14 = .ok (.iload_n 3, 1) := by decide +kernel
theorem d_Polys_divide_15 : decode prog_7_method_5_code 15 = .ok (.if_icmp .lt 58, 3) := by decide +kernel
theorem d_Polys_divide_18 : decode prog_7_method_5_code 18 = .ok (.aload_n 0, 1) := by decide +kernel
theorem d_Polys_divide_19 : decode prog_7_method_5_code 19 = .ok (.getfield 38, 3) := by decide +kernel
theorem d_Polys_divide_22 : decode prog_7_method_5_code 22 = .ok (.aload_n 0, 1) := by decide +kernel
theorem d_Polys_divide_23 : decode prog_7_method_5_code 23 = .ok (.getfield 30, 3) := by decide +kernel
theorem d_Polys_divide_26 : decode prog_7_method_5_code 26 = .ok (.aload_n 1, 1) := by decide +kernel
theorem d_Polys_divide_27 : decode prog_7_method_5_code 27 = .ok (.aload 5, 2) := by decide +kernel
theorem d_Polys_divide_29 : decode prog_7_method_5_code 29 = .ok (.invokevirtual 69, 3) := by decide +kernel
theorem d_Polys_divide_32 : decode prog_7_method_5_code 32 = .ok (.aload_n 0, 1) := by decide +kernel
theorem d_Polys_divide_33 : decode prog_7_method_5_code 33 = .ok (.getfield 38, 3) := by decide +kernel
theorem d_Polys_divide_36 : decode prog_7_method_5_code 36 = .ok (.aload_n 0, 1) := by decide +kernel
theorem d_Polys_divide_37 : decode prog_7_method_5_code 37 = .ok (.getfield 30, 3) := by decide +kernel
theorem d_Polys_divide_40 : decode prog_7_method_5_code 40 = .ok (.aload_n 0, 1) := by decide +kernel
theorem d_Polys_divide_41 : decode prog_7_method_5_code 41 = .ok (.getfield 30, 3) := by decide +kernel
theorem d_Polys_divide_44 : decode prog_7_method_5_code 44 = .ok (.aload_n 2, 1) := by decide +kernel
theorem d_Polys_divide_45 : decode prog_7_method_5_code 45 = .ok (.iload 6, 2) := by decide +kernel
theorem d_Polys_divide_47 : decode prog_7_method_5_code 47 = .ok (.aaload, 1) := by decide +kernel
theorem d_Polys_divide_48 : decode prog_7_method_5_code 48 = .ok (.invokevirtual 72, 3) := by decide +kernel
theorem d_Polys_divide_51 : decode prog_7_method_5_code 51 = .ok (.aload_n 2, 1) := by decide +kernel
theorem d_Polys_divide_52 : decode prog_7_method_5_code 52 = .ok (.iload 6, 2) := by decide +kernel
theorem d_Polys_divide_54 : decode prog_7_method_5_code 54 = .ok (.aaload, 1) := by decide +kernel
theorem d_Polys_divide_55 : decode prog_7_method_5_code 55 = .ok (.aload_n 1, 1) := by decide +kernel
theorem d_Polys_divide_56 : decode prog_7_method_5_code 56 = .ok (.invokestatic 75, 3) := by decide +kernel
theorem d_Polys_divide_59 : decode prog_7_method_5_code 59 = .ok (.aload_n 1, 1) := by decide +kernel
theorem d_Polys_divide_60 : decode prog_7_method_5_code 60 = .ok (.aload_n 0, 1) := by decide +kernel
theorem d_Polys_divide_61 : decode prog_7_method_5_code 61 = .ok (.getfield 30, 3) := by decide +kernel
theorem d_Polys_divide_64 : decode prog_7_method_5_code 64 = .ok (.invokestatic 75, 3) := by decide +kernel
theorem d_Polys_divide_67 : decode prog_7_method_5_code 67 = .ok (.iinc 6 (-1), 3) := by decide +kernel
theorem d_Polys_divide_70 : decode prog_7_method_5_code 70 = .ok (.goto (-58), 3) := by decide +kernel
theorem d_Polys_divide_73 : decode prog_7_method_5_code 73 = .ok (.return_, 1) := by decide +kernel
abbrev y_Polys_findValues : MethodName := ⟨"KateDesk$Polynomials", "findValues", "([[JII)V"⟩
theorem hd_Polys_findValues : y_Polys_findValues.cls ≠ "java/lang/invoke/MethodHandle" ∧ y_Polys_findValues.cls ≠ "java/lang/invoke/VarHandle" ∧ (parseMethodDescriptor y_Polys_findValues.desc).map (fun d => d.parameters.length) = some 3 := by decide +kernel
theorem d_Polys_findValues_0 : decode prog_7_method_8_code 0 = .ok (.iconst 1, 1) := by decide +kernel
theorem d_Polys_findValues_1 : decode prog_7_method_8_code 1 = .ok (.iload_n 3, 1) := by decide +kernel
theorem d_Polys_findValues_2 : decode prog_7_method_8_code 2 = .ok (.ishl, 1) := by decide +kernel
theorem d_Polys_findValues_3 : decode prog_7_method_8_code 3 = .ok (.istore 4, 2) := by decide +kernel
theorem d_Polys_findValues_5 : decode prog_7_method_8_code 5 = .ok (.aload_n 0, 1) := by decide +kernel
theorem d_Polys_findValues_6 : decode prog_7_method_8_code 6 = .ok (.aload_n 0, 1) := by decide +kernel
theorem d_Polys_findValues_7 : decode prog_7_method_8_code 7 = .ok (.getfield 21, 3) := by decide +kernel
theorem d_Polys_findValues_10 : decode prog_7_method_8_code 10 = .ok (.iload_n 3, 1) := by decide +kernel
theorem d_Polys_findValues_11 : decode prog_7_method_8_code 11 = .ok (.invokevirtual 85, 3) := by decide +kernel
theorem d_Polys_findValues_14 : decode prog_7_method_8_code 14 = .ok (.aload_n 0, 1) := by decide +kernel
theorem d_Polys_findValues_15 : decode prog_7_method_8_code 15 = .ok (.getfield 24, 3) := by decide +kernel
theorem d_Polys_findValues_18 : decode prog_7_method_8_code 18 = .ok (.aload_n 0, 1) := by decide +kernel
theorem d_Polys_findValues_19 : decode prog_7_method_8_code 19 = .ok (.getfield 38, 3) := by decide +kernel
theorem d_Polys_findValues_22 : decode prog_7_method_8_code 22 = .ok (.getfield 89, 3) := by decide +kernel
theorem d_Polys_findValues_25 : decode prog_7_method_8_code 25 = .ok (.invokestatic 75, 3) := by decide +kernel
theorem d_Polys_findValues_28 : decode prog_7_method_8_code 28 = .ok (.iconst 0, 1) := by decide +kernel
theorem d_Polys_findValues_29 : decode prog_7_method_8_code 29 = .ok (.istore 5, 2) := by decide +kernel
theorem d_Polys_findValues_31 : decode prog_7_method_8_code 31 = .ok (.iload 5, 2) := by decide +kernel
theorem d_Polys_findValues_33 : decode prog_7_method_8_code 33 = .ok (.iload 4, 2) := by decide +kernel
theorem d_Polys_findValues_35 : decode prog_7_method_8_code 35 = .ok (.if_icmp .ge 115, 3) := by decide +kernel
theorem d_Polys_findValues_38 : decode prog_7_method_8_code 38 = .ok (.iload 5, 2) := by decide +kernel
theorem d_Polys_findValues_40 : decode prog_7_method_8_code 40 = .ok (.bipush 16, 2) := by decide +kernel
theorem d_Polys_findValues_42 : decode prog_7_method_8_code 42 = .ok (.if_icmp .ge 108, 3) := by decide +kernel
theorem d_Polys_findValues_45 : decode prog_7_method_8_code 45 = .ok (.aload_n 0, 1) := by decide +kernel
theorem d_Polys_findValues_46 : decode prog_7_method_8_code 46 = .ok (.getfield 35, 3) := by decide +kernel
theorem d_Polys_findValues_49 : decode prog_7_method_8_code 49 = .ok (.iload 5, 2) := by decide +kernel
theorem d_Polys_findValues_51 : decode prog_7_method_8_code 51 = .ok (.aaload, 1) := by decide +kernel
theorem d_Polys_findValues_52 : decode prog_7_method_8_code 52 = .ok (.invokestatic 65, 3) := by decide +kernel
theorem d_Polys_findValues_55 : decode prog_7_method_8_code 55 = .ok (.iload_n 2, 1) := by decide +kernel
theorem d_Polys_findValues_56 : decode prog_7_method_8_code 56 = .ok (.iload 4, 2) := by decide +kernel
theorem d_Polys_findValues_58 : decode prog_7_method_8_code 58 = .ok (.iadd, 1) := by decide +kernel
theorem d_Polys_findValues_59 : decode prog_7_method_8_code 59 = .ok (.iconst 1, 1) := by decide +kernel
theorem d_Polys_findValues_60 : decode prog_7_method_8_code 60 = .ok (.isub, 1) := by decide +kernel
theorem d_Polys_findValues_61 : decode prog_7_method_8_code 61 = .ok (.istore 6, 2) := by decide +kernel
theorem d_Polys_findValues_63 : decode prog_7_method_8_code 63 = .ok (.iload 6, 2) := by decide +kernel
theorem d_Polys_findValues_65 : decode prog_7_method_8_code 65 = .ok (.iload_n 2, 1) := by decide +kernel
theorem d_Polys_findValues_66 : decode prog_7_method_8_code 66 = .ok (.if_icmp .lt 59, 3) := by decide +kernel
theorem d_Polys_findValues_69 : decode prog_7_method_8_code 69 = .ok (.aload_n 0, 1) := by decide +kernel
theorem d_Polys_findValues_70 : decode prog_7_method_8_code 70 = .ok (.getfield 38, 3) := by decide +kernel
theorem d_Polys_findValues_73 : decode prog_7_method_8_code 73 = .ok (.aload_n 0, 1) := by decide +kernel
theorem d_Polys_findValues_74 : decode prog_7_method_8_code 74 = .ok (.getfield 35, 3) := by decide +kernel
theorem d_Polys_findValues_77 : decode prog_7_method_8_code 77 = .ok (.iload 5, 2) := by decide +kernel
theorem d_Polys_findValues_79 : decode prog_7_method_8_code 79 = .ok (.aaload, 1) := by decide +kernel
theorem d_Polys_findValues_80 : decode prog_7_method_8_code 80 = .ok (.aload_n 0, 1) := by decide +kernel
theorem d_Polys_findValues_81 : decode prog_7_method_8_code 81 = .ok (.getfield 35, 3) := by decide +kernel
theorem d_Polys_findValues_84 : decode prog_7_method_8_code 84 = .ok (.iload 5, 2) := by decide +kernel
theorem d_Polys_findValues_86 : decode prog_7_method_8_code 86 = .ok (.aaload, 1) := by decide +kernel
theorem d_Polys_findValues_87 : decode prog_7_method_8_code 87 = .ok (.aload_n 0, 1) := by decide +kernel
theorem d_Polys_findValues_88 : decode prog_7_method_8_code 88 = .ok (.getfield 24, 3) := by decide +kernel
theorem d_Polys_findValues_91 : decode prog_7_method_8_code 91 = .ok (.invokevirtual 69, 3) := by decide +kernel
theorem d_Polys_findValues_94 : decode prog_7_method_8_code 94 = .ok (.aload_n 0, 1) := by decide +kernel
theorem d_Polys_findValues_95 : decode prog_7_method_8_code 95 = .ok (.getfield 38, 3) := by decide +kernel
theorem d_Polys_findValues_98 : decode prog_7_method_8_code 98 = .ok (.aload_n 0, 1) := by decide +kernel
theorem d_Polys_findValues_99 : decode prog_7_method_8_code 99 = .ok (.getfield 35, 3) := by decide +kernel
theorem d_Polys_findValues_102 : decode prog_7_method_8_code 102 = .ok (.iload 5, 2) := by decide +kernel
theorem d_Polys_findValues_104 : decode prog_7_method_8_code 104 = .ok (.aaload, 1) := by decide +kernel
theorem d_Polys_findValues_105 : decode prog_7_method_8_code 105 = .ok (.aload_n 0, 1) := by decide +kernel
theorem d_Polys_findValues_106 : decode prog_7_method_8_code 106 = .ok (.getfield 35, 3) := by decide +kernel
theorem d_Polys_findValues_109 : decode prog_7_method_8_code 109 = .ok (.iload 5, 2) := by decide +kernel
theorem d_Polys_findValues_111 : decode prog_7_method_8_code 111 = .ok (.aaload, 1) := by decide +kernel
theorem d_Polys_findValues_112 : decode prog_7_method_8_code 112 = .ok (.aload_n 1, 1) := by decide +kernel
theorem d_Polys_findValues_113 : decode prog_7_method_8_code 113 = .ok (.iload 6, 2) := by decide +kernel
theorem d_Polys_findValues_115 : decode prog_7_method_8_code 115 = .ok (.aaload, 1) := by decide +kernel
theorem d_Polys_findValues_116 : decode prog_7_method_8_code 116 = .ok (.invokevirtual 72, 3) := by decide +kernel
theorem d_Polys_findValues_119 : decode prog_7_method_8_code 119 = .ok (.iinc 6 (-1), 3) := by decide +kernel
theorem d_Polys_findValues_122 : decode prog_7_method_8_code 122 = .ok (.goto (-59), 3) := by decide +kernel
theorem d_Polys_findValues_125 : decode prog_7_method_8_code 125 = .ok (.aload_n 0, 1) := by decide +kernel
theorem d_Polys_findValues_126 : decode prog_7_method_8_code 126 = .ok (.getfield 38, 3) := by decide +kernel
theorem d_Polys_findValues_129 : decode prog_7_method_8_code 129 = .ok (.aload_n 0, 1) := by decide +kernel
theorem d_Polys_findValues_130 : decode prog_7_method_8_code 130 = .ok (.getfield 24, 3) := by decide +kernel
theorem d_Polys_findValues_133 : decode prog_7_method_8_code 133 = .ok (.aload_n 0, 1) := by decide +kernel
theorem d_Polys_findValues_134 : decode prog_7_method_8_code 134 = .ok (.getfield 24, 3) := by decide +kernel
theorem d_Polys_findValues_137 : decode prog_7_method_8_code 137 = .ok (.aload_n 0, 1) := by decide +kernel
theorem d_Polys_findValues_138 : decode prog_7_method_8_code 138 = .ok (.getfield 21, 3) := by decide +kernel
theorem d_Polys_findValues_141 : decode prog_7_method_8_code 141 = .ok (.invokevirtual 69, 3) := by decide +kernel
theorem d_Polys_findValues_144 : decode prog_7_method_8_code 144 = .ok (.iinc 5 1, 3) := by decide +kernel
theorem d_Polys_findValues_147 : decode prog_7_method_8_code 147 = .ok (.goto (-116), 3) := by decide +kernel
theorem d_Polys_findValues_150 : decode prog_7_method_8_code 150 = .ok (.return_, 1) := by decide +kernel
set_option maxHeartbeats 4000000 in
set_option maxRecDepth 100000 in
theorem c_Polys_rootExponent (l : Launch) (g : WG) (n0 : Nat → Prop) (o fo vl : Nat) (F : Nat → Nat) (mi : Int64) (Y V : Nat → Nat) (k : Int32) : Ctr l y_Polys_rootExponent (.code y_Polys_rootExponent prog_7_method_3_code 2 none) 3 66 0 0 n0 g [.ref o, .int k] (fun H => PO g n0 H o fo vl F mi Y V) (QV (fun H H' => KJ g (fun q => n0 q) H H')) := by
  refine ctr_mk l (lv0 := [(0, .ref o), (1, .int k)]) (by decide) (Nat.le_of_ble_eq_true rfl) rfl ?_
  intro p e s m below meth c ls E hr hlk hnm hl hpo
  have hx := E.1
  have hb := E.2.1
  have hK := E.2.2.2.2.2
  have hF : ∀ q ∈ ([] : List Loc), n0 q.base := fun q hq => absurd hq List.not_mem_nil
  have hk : KJ g (fun q => n0 q) s.heap s.heap := KJ.rf
  refine lv_aload_n hx hb d_Polys_rootExponent_0 rfl (lv_at hl 0 rfl) ?_
  refine q_get (C := "KateDesk$Polynomials") (T := T_Polys) (N := 9) (ci := 7) E ((hk.po hK hpo).1) in_Polys rfl 0 (by decide) w_303 rfl rfl d_Polys_rootExponent_1 ?_
  refine lv_aload_n hx hb d_Polys_rootExponent_4 rfl (lv_at hl 0 rfl) ?_
  refine q_get (C := "KateDesk$Polynomials") (T := T_Polys) (N := 9) (ci := 7) E ((hk.po hK hpo).1) in_Polys rfl 7 (by decide) w_310 rfl rfl d_Polys_rootExponent_5 ?_
  refine lv_aload_n hx hb d_Polys_rootExponent_8 rfl (lv_at hl 0 rfl) ?_
  refine q_get (C := "KateDesk$Polynomials") (T := T_Polys) (N := 9) (ci := 7) E ((hk.po hK hpo).1) in_Polys rfl 2 (by decide) w_305 rfl rfl d_Polys_rootExponent_9 ?_
  refine q_cV (rest := []) E (c_Field_negate l g n0 fo (Y 6) (Y 1) F mi) w_609 w_4 w_606 w_607 w_608 hd_Field_negate rfl ⟨by decide, by decide⟩ (OB.recv E.2.2.2.2.2 (by rfl) (((hk.po hK hpo).2.1).1)) (⟨(hk.po hK hpo).2.1, (hk.po hK hpo).2.2.1 6 (by decide), (hk.po hK hpo).2.2.1 1 (by decide)⟩) hF hl.1 rfl (Nat.le_of_ble_eq_true rfl) d_Polys_rootExponent_12 ⟨by decide, by decide⟩ (qv (fun H1 locs hq hF => ?_))
  have hk := hk.tr (hq.w2 ((hk.po hK hpo).2.2.1 6 (by decide)).1 ((hk.po hK hpo).2.1.2 5 (by decide)).1)
  refine lv_aload_n hx hb d_Polys_rootExponent_15 rfl (lv_at hl 0 rfl) ?_
  refine q_get (C := "KateDesk$Polynomials") (T := T_Polys) (N := 9) (ci := 7) E ((hk.po hK hpo).1) in_Polys rfl 3 (by decide) w_306 rfl rfl d_Polys_rootExponent_16 ?_
  refine lv_aload_n hx hb d_Polys_rootExponent_19 rfl (lv_at hl 0 rfl) ?_
  refine q_get (C := "KateDesk$Polynomials") (T := T_Polys) (N := 9) (ci := 7) E ((hk.po hK hpo).1) in_Polys rfl 7 (by decide) w_310 rfl rfl d_Polys_rootExponent_20 ?_
  refine lv_iload_n hx hb d_Polys_rootExponent_23 rfl (lv_at hl 1 rfl) ?_
  refine q_cS (rest := []) E (c_Limbs_shiftRight l g n0 (Y 2) (Y 6) k) w_268 w_5 w_611 w_267 hd_Limbs_shiftRight rfl ⟨by decide, by decide⟩ (⟨(hk.po hK hpo).2.2.1 2 (by decide), (hk.po hK hpo).2.2.1 6 (by decide)⟩) hF hl.1 rfl (Nat.le_of_ble_eq_true rfl) d_Polys_rootExponent_24 ⟨by decide, by decide⟩ (qv (fun H2 locs hq hF => ?_))
  have hk := hk.tr (hq.w1 ((hk.po hK hpo).2.2.1 2 (by decide)).1)
  exact q_vret E hr hlk (⟨rfl, hk⟩) hF d_Polys_rootExponent_27
set_option maxHeartbeats 4000000 in
set_option maxRecDepth 100000 in
theorem c_Polys_liftedRoot (l : Launch) (g : WG) (n0 : Nat → Prop) (o fo vl : Nat) (F : Nat → Nat) (mi : Int64) (Y V : Nat → Nat) (t : Nat) (k : Int32) : Ctr l y_Polys_liftedRoot (.code y_Polys_liftedRoot prog_7_method_2_code 3 none) 4 160 0 0 n0 g [.ref o, .ref t, .int k] (fun H => PO g n0 H o fo vl F mi Y V ∧ J14 g n0 H t) (QV (fun H H' => KJ g (fun q => n0 q) H H')) := by
  refine ctr_mk l (lv0 := [(0, .ref o), (1, .ref t), (2, .int k)]) (by decide) (Nat.le_of_ble_eq_true rfl) rfl ?_
  intro p e s m below meth c ls E hr hlk hnm hl hP
  have hx := E.1
  have hb := E.2.1
  have hK := E.2.2.2.2.2
  have hF : ∀ q ∈ ([] : List Loc), n0 q.base := fun q hq => absurd hq List.not_mem_nil
  obtain ⟨hpo, ht⟩ := hP
  have hk : KJ g (fun q => n0 q) s.heap s.heap := KJ.rf
  refine lv_aload_n hx hb d_Polys_liftedRoot_0 rfl (lv_at hl 0 rfl) ?_
  refine lv_iload_n hx hb d_Polys_liftedRoot_1 rfl (lv_at hl 2 rfl) ?_
  refine q_cV (rest := []) E (c_Polys_rootExponent l g n0 o fo vl F mi Y V k) w_605 w_14 w_602 w_604 (bw_s 3 rfl) hd_Polys_rootExponent rfl ⟨by decide, by decide⟩ (OB.recv E.2.2.2.2.2 (by rfl) ((hk.po hK hpo).1)) (hk.po hK hpo) hF hl.1 rfl (Nat.le_of_ble_eq_true rfl) d_Polys_liftedRoot_2 ⟨by decide, by decide⟩ (qv (fun H1 locs hq hF => ?_))
  have hk := hk.tr hq
  refine lv_aload_n hx hb d_Polys_liftedRoot_5 rfl (lv_at hl 0 rfl) ?_
  refine q_get (C := "KateDesk$Polynomials") (T := T_Polys) (N := 9) (ci := 7) E ((hk.po hK hpo).1) in_Polys rfl 0 (by decide) w_303 rfl rfl d_Polys_liftedRoot_6 ?_
  refine lv_aload_n hx hb d_Polys_liftedRoot_9 rfl (lv_at hl 1 rfl) ?_
  refine lv_aload_n hx hb d_Polys_liftedRoot_10 rfl (lv_at hl 0 rfl) ?_
  refine q_get (C := "KateDesk$Polynomials") (T := T_Polys) (N := 9) (ci := 7) E ((hk.po hK hpo).1) in_Polys rfl 1 (by decide) w_304 rfl rfl d_Polys_liftedRoot_11 ?_
  refine lv_aload_n hx hb d_Polys_liftedRoot_14 rfl (lv_at hl 0 rfl) ?_
  refine q_get (C := "KateDesk$Polynomials") (T := T_Polys) (N := 9) (ci := 7) E ((hk.po hK hpo).1) in_Polys rfl 3 (by decide) w_306 rfl rfl d_Polys_liftedRoot_15 ?_
  refine q_cV (rest := []) E (c_Field_raise l g n0 fo t (Y 0) (Y 2) F mi) w_574 w_4 w_612 w_572 w_573 hd_Field_raise rfl ⟨by decide, by decide⟩ (OB.recv E.2.2.2.2.2 (by rfl) (((hk.po hK hpo).2.1).1)) (⟨(hk.po hK hpo).2.1, hk.j ht, (hk.po hK hpo).2.2.1 0 (by decide), (hk.po hK hpo).2.2.1 2 (by decide)⟩) hF hl.1 rfl (Nat.le_of_ble_eq_true rfl) d_Polys_liftedRoot_18 ⟨by decide, by decide⟩ (qv (fun H2 locs hq hF => ?_))
  have hk := hk.tr (hq.w2 (hk.j ht).1 ((hk.po hK hpo).2.1.2 5 (by decide)).1)
  exact q_vret E hr hlk (⟨rfl, hk⟩) hF d_Polys_liftedRoot_21
set_option maxHeartbeats 4000000 in
set_option maxRecDepth 100000 in
theorem c_Polys_findShare (l : Launch) (g : WG) (n0 : Nat → Prop) (o fo vl : Nat) (F : Nat → Nat) (mi : Int64) (Y V : Nat → Nat) (k : Int32) : Ctr l y_Polys_findShare (.code y_Polys_findShare prog_7_method_4_code 2 none) 4 157 0 0 n0 g [.ref o, .int k] (fun H => PO g n0 H o fo vl F mi Y V) (QV (fun H H' => KJ g (fun q => n0 q) H H')) := by
  refine ctr_mk l (lv0 := [(0, .ref o), (1, .int k)]) (by decide) (Nat.le_of_ble_eq_true rfl) rfl ?_
  intro p e s m below meth c ls E hr hlk hnm hl hpo
  have hx := E.1
  have hb := E.2.1
  have hK := E.2.2.2.2.2
  have hF : ∀ q ∈ ([] : List Loc), n0 q.base := fun q hq => absurd hq List.not_mem_nil
  have hk : KJ g (fun q => n0 q) s.heap s.heap := KJ.rf
  refine lv_aload_n hx hb d_Polys_findShare_0 rfl (lv_at hl 0 rfl) ?_
  refine lv_iload_n hx hb d_Polys_findShare_1 rfl (lv_at hl 1 rfl) ?_
  refine q_cV (rest := []) E (c_Polys_rootExponent l g n0 o fo vl F mi Y V k) w_605 w_14 w_602 w_604 (bw_s 3 rfl) hd_Polys_rootExponent rfl ⟨by decide, by decide⟩ (OB.recv E.2.2.2.2.2 (by rfl) ((hk.po hK hpo).1)) (hk.po hK hpo) hF hl.1 rfl (Nat.le_of_ble_eq_true rfl) d_Polys_findShare_2 ⟨by decide, by decide⟩ (qv (fun H1 locs hq hF => ?_))
  have hk := hk.tr hq
  refine lv_aload_n hx hb d_Polys_findShare_5 rfl (lv_at hl 0 rfl) ?_
  refine q_get (C := "KateDesk$Polynomials") (T := T_Polys) (N := 9) (ci := 7) E ((hk.po hK hpo).1) in_Polys rfl 0 (by decide) w_303 rfl rfl d_Polys_findShare_6 ?_
  refine lv_aload_n hx hb d_Polys_findShare_9 rfl (lv_at hl 0 rfl) ?_
  refine q_get (C := "KateDesk$Polynomials") (T := T_Polys) (N := 9) (ci := 7) E ((hk.po hK hpo).1) in_Polys rfl 6 (by decide) w_309 rfl rfl d_Polys_findShare_10 ?_
  refine lv_aload_n hx hb d_Polys_findShare_13 rfl (lv_at hl 0 rfl) ?_
  refine q_get (C := "KateDesk$Polynomials") (T := T_Polys) (N := 9) (ci := 7) E ((hk.po hK hpo).1) in_Polys rfl 3 (by decide) w_306 rfl rfl d_Polys_findShare_14 ?_
  refine q_cV (rest := []) E (c_Field_negate l g n0 fo (Y 5) (Y 2) F mi) w_609 w_4 w_606 w_607 w_608 hd_Field_negate rfl ⟨by decide, by decide⟩ (OB.recv E.2.2.2.2.2 (by rfl) (((hk.po hK hpo).2.1).1)) (⟨(hk.po hK hpo).2.1, (hk.po hK hpo).2.2.1 5 (by decide), (hk.po hK hpo).2.2.1 2 (by decide)⟩) hF hl.1 rfl (Nat.le_of_ble_eq_true rfl) d_Polys_findShare_17 ⟨by decide, by decide⟩ (qv (fun H2 locs hq hF => ?_))
  have hk := hk.tr (hq.w2 ((hk.po hK hpo).2.2.1 5 (by decide)).1 ((hk.po hK hpo).2.1.2 5 (by decide)).1)
  refine lv_aload_n hx hb d_Polys_findShare_20 rfl (lv_at hl 0 rfl) ?_
  refine q_get (C := "KateDesk$Polynomials") (T := T_Polys) (N := 9) (ci := 7) E ((hk.po hK hpo).1) in_Polys rfl 0 (by decide) w_303 rfl rfl d_Polys_findShare_21 ?_
  refine lv_aload_n hx hb d_Polys_findShare_24 rfl (lv_at hl 0 rfl) ?_
  refine q_get (C := "KateDesk$Polynomials") (T := T_Polys) (N := 9) (ci := 7) E ((hk.po hK hpo).1) in_Polys rfl 6 (by decide) w_309 rfl rfl d_Polys_findShare_25 ?_
  refine lv_aload_n hx hb d_Polys_findShare_28 rfl (lv_at hl 0 rfl) ?_
  refine q_get (C := "KateDesk$Polynomials") (T := T_Polys) (N := 9) (ci := 7) E ((hk.po hK hpo).1) in_Polys rfl 6 (by decide) w_309 rfl rfl d_Polys_findShare_29 ?_
  refine q_cV (rest := []) E (c_Field_lift l g n0 fo (Y 5) (Y 5) F mi) w_302 w_4 w_299 w_300 w_301 hd_Field_lift rfl ⟨by decide, by decide⟩ (OB.recv E.2.2.2.2.2 (by rfl) (((hk.po hK hpo).2.1).1)) (⟨(hk.po hK hpo).2.1, (hk.po hK hpo).2.2.1 5 (by decide), (hk.po hK hpo).2.2.1 5 (by decide)⟩) hF hl.1 rfl (Nat.le_of_ble_eq_true rfl) d_Polys_findShare_32 ⟨by decide, by decide⟩ (qv (fun H3 locs hq hF => ?_))
  have hk := hk.tr (hq.w1 ((hk.po hK hpo).2.2.1 5 (by decide)).1)
  exact q_vret E hr hlk (⟨rfl, hk⟩) hF d_Polys_findShare_35
set_option maxHeartbeats 4000000 in
set_option maxRecDepth 100000 in
theorem c_Polys_divide (l : Launch) (g : WG) (n0 : Nat → Prop) (o fo vl : Nat) (F : Nat → Nat) (mi : Int64) (Y V : Nat → Nat) (v rw z : Nat) (Sc : Nat → Nat) (fr n : Nat) (hfr : fr + n ≤ 32) (hn : 1 ≤ n) : Ctr l y_Polys_divide (.code y_Polys_divide prog_7_method_5_code 7 none) 2 135 0 0 n0 g [.ref o, .ref v, .ref rw, .int (nI fr), .int (nI n), .ref z] (fun H => PO g n0 H o fo vl F mi Y V ∧ J14 g n0 H v ∧ RS g n0 H rw 32 Sc ∧ J14 g n0 H z) (QV (fun H H' => KJ g (fun q => n0 q) H H')) := by
  refine ctr_mk l (lv0 := [(0, .ref o), (1, .ref v), (2, .ref rw), (3, .int (nI fr)), (4, .int (nI n)), (5, .ref z)]) (by decide) (Nat.le_of_ble_eq_true rfl) rfl ?_
  intro p e s m below meth c ls E hr hlk hnm hl hP
  have hx := E.1
  have hb := E.2.1
  have hK := E.2.2.2.2.2
  have hF : ∀ q ∈ ([] : List Loc), n0 q.base := fun q hq => absurd hq List.not_mem_nil
  obtain ⟨hpo, hv, hrs, hz⟩ := hP
  have hk : KJ g (fun q => n0 q) s.heap s.heap := KJ.rf
  refine lv_aload_n hx hb d_Polys_divide_0 rfl (lv_at hl 1 rfl) ?_
  refine q_cS (rest := []) E (c_Limbs_clear l g n0 v) w_498 w_5 w_853 w_497 hd_Limbs_clear rfl ⟨by decide, by decide⟩ (hk.j hv) hF hl.1 rfl (Nat.le_of_ble_eq_true rfl) d_Polys_divide_1 ⟨by decide, by decide⟩ (qv (fun H1 locs hq hF => ?_))
  have hq := hq.1
  have hk := hk.tr (hq.w1 (hk.j hv).1)
  refine lv_iload_n hx hb d_Polys_divide_4 rfl (lv_at hl 3 rfl) ?_
  refine lv_iload hx hb d_Polys_divide_5 (lv_at hl 4 rfl) ?_
  refine lv_iadd hx hb d_Polys_divide_7 ?_
  refine lv_iconst (v := nI 1) hx hb d_Polys_divide_8 (by decide) ?_
  refine lv_isub hx hb d_Polys_divide_9 ?_
  refine lv_topi (fun t9 e9 => ?_)
  obtain rfl : t9 = nI (fr + n - 1) := e9.trans ((congrArg (· - nI 1) (nI_add fr n)).trans (pk_sub (by omega)))
  refine lv_istore (lv' := [(6, .int (nI (fr + n - 1))), (0, .ref o), (1, .ref v), (2, .ref rw), (3, .int (nI fr)), (4, .int (nI n)), (5, .ref z)]) hx hb d_Polys_divide_10 hl (by decide) rfl (fun ls hl => ?_)
  have hl : lv_has ls 7 [(6, .int (nI (fr + n - 1))), (0, .ref o), (1, .ref v), (2, .ref rw), (3, .int (nI fr)), (5, .ref z)] := lv_sub hl [0, 1, 2, 3, 4, 6] rfl
  have loop : ∀ (k : Nat) (H : Heap) (locs : List Loc) (ls : Array Slot) (x : Int32), k ≤ n → x = nI (fr + k) - 1 → KJ g (fun q => n0 q) s.heap H → (∀ q ∈ locs, n0 q.base) → lv_has ls 7 [(6, .int x), (0, .ref o), (1, .ref v), (2, .ref rw), (3, .int (nI fr)), (5, .ref z)] → W p l e { frames := 2, cells := 0, slots := 0, locals := 135 } s m [.ref o, .ref v, .ref rw, .int (nI fr), .int (nI n), .ref z].toArray below meth c H locs 0 0 (MQ below (QcP (QV (fun H H' => KJ g (fun q => n0 q) H H'))) [.ref o, .ref v, .ref rw, .int (nI fr), .int (nI n), .ref z].toArray s 0 0 (fun q => n0 q)) (F0 m 12 ls []) := by
    intro k
    induction k with
    | zero =>
      intro  H   locs   ls   x hk0 hxx hk hF hl
      refine lv_iload hx hb d_Polys_divide_12 (lv_at hl 0 rfl) ?_
      refine lv_iload_n hx hb d_Polys_divide_14 rfl (lv_at hl 4 rfl) ?_
      refine lv_icmp_lt (tgt := 73) hx hb d_Polys_divide_15 (by decide) (fun _ => ?_) (fun h9 => absurd (by rw [hxx]; exact dn_lt (by omega)) h9)
      exact q_vret E hr hlk (⟨rfl, hk⟩) hF d_Polys_divide_73
    | succ k ih =>
      intro  H   locs   ls   x hk0 hxx hk hF hl
      have hxx : x = nI (fr + k) := hxx.trans (nI_pred _)
      subst hxx
      refine lv_iload hx hb d_Polys_divide_12 (lv_at hl 0 rfl) ?_
      refine lv_iload_n hx hb d_Polys_divide_14 rfl (lv_at hl 4 rfl) ?_
      refine lv_icmp_lt (tgt := 73) hx hb d_Polys_divide_15 (by decide) (fun h9 => absurd h9 (nI_nlt (by omega) (by omega))) (fun _ => ?_)
      refine lv_aload_n hx hb d_Polys_divide_18 rfl (lv_at hl 1 rfl) ?_
      refine q_get (C := "KateDesk$Polynomials") (T := T_Polys) (N := 9) (ci := 7) E ((hk.po hK hpo).1) in_Polys rfl 0 (by decide) w_303 rfl rfl d_Polys_divide_19 ?_
      refine lv_aload_n hx hb d_Polys_divide_22 rfl (lv_at hl 1 rfl) ?_
      refine q_get (C := "KateDesk$Polynomials") (T := T_Polys) (N := 9) (ci := 7) E ((hk.po hK hpo).1) in_Polys rfl 7 (by decide) w_310 rfl rfl d_Polys_divide_23 ?_
      refine lv_aload_n hx hb d_Polys_divide_26 rfl (lv_at hl 2 rfl) ?_
      refine lv_aload hx hb d_Polys_divide_27 (lv_at hl 5 rfl) ?_
      refine q_cV (rest := []) E (c_Field_multiply l g n0 fo (Y 6) v z F mi) w_165 w_4 w_854 w_163 w_164 hd_Field_multiply rfl ⟨by decide, by decide⟩ (OB.recv E.2.2.2.2.2 (by rfl) (((hk.po hK hpo).2.1).1)) (⟨(hk.po hK hpo).2.1, (hk.po hK hpo).2.2.1 6 (by decide), hk.j hv, hk.j hz⟩) hF hl.1 rfl (Nat.le_of_ble_eq_true rfl) d_Polys_divide_29 ⟨by decide, by decide⟩ (qv (fun H1 locs hq hF => ?_))
      have hk := hk.tr (hq.w1 ((hk.po hK hpo).2.2.1 6 (by decide)).1)
      refine lv_aload_n hx hb d_Polys_divide_32 rfl (lv_at hl 1 rfl) ?_
      refine q_get (C := "KateDesk$Polynomials") (T := T_Polys) (N := 9) (ci := 7) E ((hk.po hK hpo).1) in_Polys rfl 0 (by decide) w_303 rfl rfl d_Polys_divide_33 ?_
      refine lv_aload_n hx hb d_Polys_divide_36 rfl (lv_at hl 1 rfl) ?_
      refine q_get (C := "KateDesk$Polynomials") (T := T_Polys) (N := 9) (ci := 7) E ((hk.po hK hpo).1) in_Polys rfl 7 (by decide) w_310 rfl rfl d_Polys_divide_37 ?_
      refine lv_aload_n hx hb d_Polys_divide_40 rfl (lv_at hl 1 rfl) ?_
      refine q_get (C := "KateDesk$Polynomials") (T := T_Polys) (N := 9) (ci := 7) E ((hk.po hK hpo).1) in_Polys rfl 7 (by decide) w_310 rfl rfl d_Polys_divide_41 ?_
      refine lv_aload_n hx hb d_Polys_divide_44 rfl (lv_at hl 3 rfl) ?_
      refine lv_iload hx hb d_Polys_divide_45 (lv_at hl 0 rfl) ?_
      refine q_aald (t := 4) E rfl rfl ((hk.rs hK hrs).1) (fr + k) rfl (by omega) (by decide) d_Polys_divide_47 ?_
      refine q_cV (rest := []) E (c_Field_add l g n0 fo (Y 6) (Y 6) (Sc (fr + k)) F mi) w_157 w_4 w_855 w_155 w_156 hd_Field_add rfl ⟨by decide, by decide⟩ (OB.recv E.2.2.2.2.2 (by rfl) (((hk.po hK hpo).2.1).1)) (⟨(hk.po hK hpo).2.1, (hk.po hK hpo).2.2.1 6 (by decide), (hk.po hK hpo).2.2.1 6 (by decide), (hk.rs hK hrs).2 (fr + k) (by omega)⟩) hF hl.1 rfl (Nat.le_of_ble_eq_true rfl) d_Polys_divide_48 ⟨by decide, by decide⟩ (qv (fun H2 locs hq hF => ?_))
      have hk := hk.tr (hq.w1 ((hk.po hK hpo).2.2.1 6 (by decide)).1)
      refine lv_aload_n hx hb d_Polys_divide_51 rfl (lv_at hl 3 rfl) ?_
      refine lv_iload hx hb d_Polys_divide_52 (lv_at hl 0 rfl) ?_
      refine q_aald (t := 4) E rfl rfl ((hk.rs hK hrs).1) (fr + k) rfl (by omega) (by decide) d_Polys_divide_54 ?_
      refine lv_aload_n hx hb d_Polys_divide_55 rfl (lv_at hl 2 rfl) ?_
      obtain ⟨f1, hf1⟩ := (hk.j hv).2
      refine q_cS (rest := []) E (c_Limbs_copy l g n0 (Sc (fr + k)) v f1) w_146 w_5 w_856 w_145 hd_Limbs_copy rfl ⟨by decide, by decide⟩ (⟨(hk.rs hK hrs).2 (fr + k) (by omega), hf1⟩) hF hl.1 rfl (Nat.le_of_ble_eq_true rfl) d_Polys_divide_56 ⟨by decide, by decide⟩ (qv (fun H3 locs hq hF => ?_))
      have hq := hq.1
      have hk := hk.tr (hq.w1 ((hk.rs hK hrs).2 (fr + k) (by omega)).1)
      refine lv_aload_n hx hb d_Polys_divide_59 rfl (lv_at hl 2 rfl) ?_
      refine lv_aload_n hx hb d_Polys_divide_60 rfl (lv_at hl 1 rfl) ?_
      refine q_get (C := "KateDesk$Polynomials") (T := T_Polys) (N := 9) (ci := 7) E ((hk.po hK hpo).1) in_Polys rfl 7 (by decide) w_310 rfl rfl d_Polys_divide_61 ?_
      obtain ⟨f2, hf2⟩ := ((hk.po hK hpo).2.2.1 6 (by decide)).2
      refine q_cS (rest := []) E (c_Limbs_copy l g n0 v (Y 6) f2) w_146 w_5 w_856 w_145 hd_Limbs_copy rfl ⟨by decide, by decide⟩ (⟨hk.j hv, hf2⟩) hF hl.1 rfl (Nat.le_of_ble_eq_true rfl) d_Polys_divide_64 ⟨by decide, by decide⟩ (qv (fun H4 locs hq hF => ?_))
      have hq := hq.1
      have hk := hk.tr (hq.w1 (hk.j hv).1)
      refine lv_iinc (k := 0) (v := nI (fr + k) - 1) (lv' := [(6, .int (nI (fr + k) - 1)), (0, .ref o), (1, .ref v), (2, .ref rw), (3, .int (nI fr)), (5, .ref z)]) hx hb d_Polys_divide_67 hl rfl (i_dec _) (by decide) rfl (fun ls hl => ?_)
      refine lv_goto (tgt := 12) hx hb d_Polys_divide_70 (by decide) ?_
      have hl : lv_has ls 7 [(6, .int (nI (fr + k) - 1)), (0, .ref o), (1, .ref v), (2, .ref rw), (3, .int (nI fr)), (5, .ref z)] := lv_sub hl [0, 1, 2, 3, 4, 5] rfl
      exact ih H4 locs ls _ (by omega) rfl hk hF hl
  exact loop n _ _ ls _ (Nat.le_refl _) (by rw [show fr + n = (fr + n - 1) + 1 by omega, nI_pred, Nat.add_sub_cancel]) hk hF hl
set_option maxHeartbeats 4000000 in
set_option maxRecDepth 100000 in
theorem c_Polys_findValues (l : Launch) (g : WG) (n0 : Nat → Prop) (o fo vl : Nat) (F : Nat → Nat) (mi : Int64) (Y V : Nat → Nat) (rw : Nat) (Sc : Nat → Nat) (fr k : Nat) (hk5 : k < 5) (hfr : fr + 2 ^ k ≤ 32) : Ctr l y_Polys_findValues (.code y_Polys_findValues prog_7_method_8_code 7 none) 5 182 0 0 n0 g [.ref o, .ref rw, .int (nI fr), .int (nI k)] (fun H => PO g n0 H o fo vl F mi Y V ∧ RS g n0 H rw 32 Sc) (QV (fun H H' => KJ g (fun q => n0 q) H H')) := by
  refine ctr_mk l (lv0 := [(0, .ref o), (1, .ref rw), (2, .int (nI fr)), (3, .int (nI k))]) (by decide) (Nat.le_of_ble_eq_true rfl) rfl ?_
  intro p e s m below meth c ls E hr hlk hnm hl hP
  have hx := E.1
  have hb := E.2.1
  have hK := E.2.2.2.2.2
  have hF : ∀ q ∈ ([] : List Loc), n0 q.base := fun q hq => absurd hq List.not_mem_nil
  obtain ⟨hpo, hrs⟩ := hP
  have hk : KJ g (fun q => n0 q) s.heap s.heap := KJ.rf
  obtain ⟨hp1, hp16⟩ := pw16 hk5
  refine lv_iconst (v := nI 1) hx hb d_Polys_findValues_0 (by decide) ?_
  refine lv_iload_n hx hb d_Polys_findValues_1 rfl (lv_at hl 3 rfl) ?_
  refine lv_ishl hx hb d_Polys_findValues_2 ?_
  refine lv_topi (fun t9 e9 => ?_)
  obtain rfl : t9 = nI (2 ^ k) := e9.trans (sh1 k hk5)
  generalize hN : 2 ^ k = N at *
  refine lv_istore (lv' := [(4, .int (nI N)), (0, .ref o), (1, .ref rw), (2, .int (nI fr)), (3, .int (nI k))]) hx hb d_Polys_findValues_3 hl (by decide) rfl (fun ls hl => ?_)
  refine lv_aload_n hx hb d_Polys_findValues_5 rfl (lv_at hl 1 rfl) ?_
  refine lv_aload_n hx hb d_Polys_findValues_6 rfl (lv_at hl 1 rfl) ?_
  refine q_get (C := "KateDesk$Polynomials") (T := T_Polys) (N := 9) (ci := 7) E ((hk.po hK hpo).1) in_Polys rfl 4 (by decide) w_307 rfl rfl d_Polys_findValues_7 ?_
  refine lv_iload_n hx hb d_Polys_findValues_10 rfl (lv_at hl 4 rfl) ?_
  refine q_cV (rest := []) E (c_Polys_liftedRoot l g n0 o fo vl F mi Y V (Y 3) (nI k)) w_601 w_14 w_879 w_599 w_600 hd_Polys_liftedRoot rfl ⟨by decide, by decide⟩ (OB.recv E.2.2.2.2.2 (by rfl) ((hk.po hK hpo).1)) (⟨(hk.po hK hpo), (hk.po hK hpo).2.2.1 3 (by decide)⟩) hF hl.1 rfl (Nat.le_of_ble_eq_true rfl) d_Polys_findValues_11 ⟨by decide, by decide⟩ (qv (fun H1 locs hq hF => ?_))
  have hk := hk.tr hq
  refine lv_aload_n hx hb d_Polys_findValues_14 rfl (lv_at hl 1 rfl) ?_
  refine q_get (C := "KateDesk$Polynomials") (T := T_Polys) (N := 9) (ci := 7) E ((hk.po hK hpo).1) in_Polys rfl 5 (by decide) w_308 rfl rfl d_Polys_findValues_15 ?_
  refine lv_aload_n hx hb d_Polys_findValues_18 rfl (lv_at hl 1 rfl) ?_
  refine q_get (C := "KateDesk$Polynomials") (T := T_Polys) (N := 9) (ci := 7) E ((hk.po hK hpo).1) in_Polys rfl 0 (by decide) w_303 rfl rfl d_Polys_findValues_19 ?_
  refine q_get (C := "KateDesk$Field") (T := T_Field) (N := 7) (ci := 1) E ((hk.po hK hpo).2.1.1) in_Field rfl 1 (by decide) w_175 rfl rfl d_Polys_findValues_22 ?_
  obtain ⟨f1, hf1⟩ := ((hk.po hK hpo).2.1.2 1 (by decide)).2
  refine q_cS (rest := []) E (c_Limbs_copy l g n0 (Y 4) (F 1) f1) w_146 w_5 w_856 w_145 hd_Limbs_copy rfl ⟨by decide, by decide⟩ (⟨(hk.po hK hpo).2.2.1 4 (by decide), hf1⟩) hF hl.1 rfl (Nat.le_of_ble_eq_true rfl) d_Polys_findValues_25 ⟨by decide, by decide⟩ (qv (fun H2 locs hq hF => ?_))
  have hq := hq.1
  have hk := hk.tr (hq.w1 ((hk.po hK hpo).2.2.1 4 (by decide)).1)
  refine lv_iconst (v := nI 0) hx hb d_Polys_findValues_28 (by decide) ?_
  refine lv_istore (lv' := [(5, .int (nI 0)), (4, .int (nI N)), (0, .ref o), (1, .ref rw), (2, .int (nI fr)), (3, .int (nI k))]) hx hb d_Polys_findValues_29 hl (by decide) rfl (fun ls hl => ?_)
  have hl : lv_has ls 7 [(5, .int (nI 0)), (4, .int (nI N)), (0, .ref o), (1, .ref rw), (2, .int (nI fr))] := lv_sub hl [0, 1, 2, 3, 4] rfl
  have loop : ∀ (k9 : Nat) (i : Nat) (H : Heap) (locs : List Loc) (ls : Array Slot), i + k9 = N → KJ g (fun q => n0 q) s.heap H → (∀ q ∈ locs, n0 q.base) → lv_has ls 7 [(5, .int (nI i)), (4, .int (nI N)), (0, .ref o), (1, .ref rw), (2, .int (nI fr))] → W p l e { frames := 5, cells := 0, slots := 0, locals := 182 } s m [.ref o, .ref rw, .int (nI fr), .int (nI k)].toArray below meth c H locs 0 0 (MQ below (QcP (QV (fun H H' => KJ g (fun q => n0 q) H H'))) [.ref o, .ref rw, .int (nI fr), .int (nI k)].toArray s 0 0 (fun q => n0 q)) (F0 m 31 ls []) := by
    intro k9
    induction k9 with
    | zero =>
      intro  i   H   locs   ls hi hk hF hl
      obtain rfl : i = N := by omega
      refine lv_iload hx hb d_Polys_findValues_31 (lv_at hl 0 rfl) ?_
      refine lv_iload hx hb d_Polys_findValues_33 (lv_at hl 1 rfl) ?_
      refine lv_icmp_ge (tgt := 150) hx hb d_Polys_findValues_35 (by decide) (fun _ => ?_) (fun h9 => absurd (nI_le (Nat.le_refl _) (by omega)) h9)
      exact q_vret E hr hlk (⟨rfl, hk⟩) hF d_Polys_findValues_150
    | succ k9 ih =>
      intro  i   H   locs   ls hi hk hF hl
      have hiN : i < N := by omega
      refine lv_iload hx hb d_Polys_findValues_31 (lv_at hl 0 rfl) ?_
      refine lv_iload hx hb d_Polys_findValues_33 (lv_at hl 1 rfl) ?_
      refine lv_icmp_ge (tgt := 150) hx hb d_Polys_findValues_35 (by decide) (fun h9 => absurd h9 (nI_ge hiN (by omega))) (fun _ => ?_)
      refine lv_iload hx hb d_Polys_findValues_38 (lv_at hl 0 rfl) ?_
      refine lv_bipush (v := nI 16) hx hb d_Polys_findValues_40 (by decide) ?_
      refine lv_icmp_ge (tgt := 150) hx hb d_Polys_findValues_42 (by decide) (fun h9 => absurd h9 (nI_ge (by omega) (by decide))) (fun _ => ?_)
      refine lv_aload_n hx hb d_Polys_findValues_45 rfl (lv_at hl 2 rfl) ?_
      refine q_get (C := "KateDesk$Polynomials") (T := T_Polys) (N := 9) (ci := 7) E ((hk.po hK hpo).1) in_Polys rfl 8 (by decide) w_311 rfl rfl d_Polys_findValues_46 ?_
      refine lv_iload hx hb d_Polys_findValues_49 (lv_at hl 0 rfl) ?_
      refine q_aald (t := 4) E rfl rfl ((hk.po hK hpo).2.2.2.1) i rfl (by omega) (by decide) d_Polys_findValues_51 ?_
      refine q_cS (rest := []) E (c_Limbs_clear l g n0 (V i)) w_498 w_5 w_853 w_497 hd_Limbs_clear rfl ⟨by decide, by decide⟩ ((hk.po hK hpo).2.2.2.2 i (by omega)) hF hl.1 rfl (Nat.le_of_ble_eq_true rfl) d_Polys_findValues_52 ⟨by decide, by decide⟩ (qv (fun H1 locs hq hF => ?_))
      have hq := hq.1
      have hk := hk.tr (hq.w1 ((hk.po hK hpo).2.2.2.2 i (by omega)).1)
      refine lv_iload_n hx hb d_Polys_findValues_55 rfl (lv_at hl 4 rfl) ?_
      refine lv_iload hx hb d_Polys_findValues_56 (lv_at hl 1 rfl) ?_
      refine lv_iadd hx hb d_Polys_findValues_58 ?_
      refine lv_iconst (v := nI 1) hx hb d_Polys_findValues_59 (by decide) ?_
      refine lv_isub hx hb d_Polys_findValues_60 ?_
      refine lv_topi (fun t9 e9 => ?_)
      obtain rfl : t9 = nI (fr + N - 1) := e9.trans ((congrArg (· - nI 1) (nI_add fr N)).trans (pk_sub (by omega)))
      refine lv_istore (lv' := [(6, .int (nI (fr + N - 1))), (5, .int (nI i)), (4, .int (nI N)), (0, .ref o), (1, .ref rw), (2, .int (nI fr))]) hx hb d_Polys_findValues_61 hl (by decide) rfl (fun ls hl => ?_)
      have hl : lv_has ls 7 [(6, .int (nI (fr + N - 1))), (5, .int (nI i)), (4, .int (nI N)), (0, .ref o), (1, .ref rw), (2, .int (nI fr))] := lv_sub hl [0, 1, 2, 3, 4, 5] rfl
      have inner : ∀ (k2 : Nat) (H : Heap) (locs : List Loc) (ls : Array Slot) (x : Int32), k2 ≤ N → x = nI (fr + k2) - 1 → KJ g (fun q => n0 q) s.heap H → (∀ q ∈ locs, n0 q.base) → lv_has ls 7 [(6, .int x), (5, .int (nI i)), (4, .int (nI N)), (0, .ref o), (1, .ref rw), (2, .int (nI fr))] → W p l e { frames := 5, cells := 0, slots := 0, locals := 182 } s m [.ref o, .ref rw, .int (nI fr), .int (nI k)].toArray below meth c H locs 0 0 (MQ below (QcP (QV (fun H H' => KJ g (fun q => n0 q) H H'))) [.ref o, .ref rw, .int (nI fr), .int (nI k)].toArray s 0 0 (fun q => n0 q)) (F0 m 63 ls []) := by
        intro k2
        induction k2 with
        | zero =>
          intro  H   locs   ls   x hk0 hxx hk hF hl
          refine lv_iload hx hb d_Polys_findValues_63 (lv_at hl 0 rfl) ?_
          refine lv_iload_n hx hb d_Polys_findValues_65 rfl (lv_at hl 5 rfl) ?_
          refine lv_icmp_lt (tgt := 125) hx hb d_Polys_findValues_66 (by decide) (fun _ => ?_) (fun h9 => absurd (by rw [hxx]; exact dn_lt (by omega)) h9)
          refine lv_aload_n hx hb d_Polys_findValues_125 rfl (lv_at hl 3 rfl) ?_
          refine q_get (C := "KateDesk$Polynomials") (T := T_Polys) (N := 9) (ci := 7) E ((hk.po hK hpo).1) in_Polys rfl 0 (by decide) w_303 rfl rfl d_Polys_findValues_126 ?_
          refine lv_aload_n hx hb d_Polys_findValues_129 rfl (lv_at hl 3 rfl) ?_
          refine q_get (C := "KateDesk$Polynomials") (T := T_Polys) (N := 9) (ci := 7) E ((hk.po hK hpo).1) in_Polys rfl 5 (by decide) w_308 rfl rfl d_Polys_findValues_130 ?_
          refine lv_aload_n hx hb d_Polys_findValues_133 rfl (lv_at hl 3 rfl) ?_
          refine q_get (C := "KateDesk$Polynomials") (T := T_Polys) (N := 9) (ci := 7) E ((hk.po hK hpo).1) in_Polys rfl 5 (by decide) w_308 rfl rfl d_Polys_findValues_134 ?_
          refine lv_aload_n hx hb d_Polys_findValues_137 rfl (lv_at hl 3 rfl) ?_
          refine q_get (C := "KateDesk$Polynomials") (T := T_Polys) (N := 9) (ci := 7) E ((hk.po hK hpo).1) in_Polys rfl 4 (by decide) w_307 rfl rfl d_Polys_findValues_138 ?_
          refine q_cV (rest := []) E (c_Field_multiply l g n0 fo (Y 4) (Y 4) (Y 3) F mi) w_165 w_4 w_854 w_163 w_164 hd_Field_multiply rfl ⟨by decide, by decide⟩ (OB.recv E.2.2.2.2.2 (by rfl) (((hk.po hK hpo).2.1).1)) (⟨(hk.po hK hpo).2.1, (hk.po hK hpo).2.2.1 4 (by decide), (hk.po hK hpo).2.2.1 4 (by decide), (hk.po hK hpo).2.2.1 3 (by decide)⟩) hF hl.1 rfl (Nat.le_of_ble_eq_true rfl) d_Polys_findValues_141 ⟨by decide, by decide⟩ (qv (fun H1 locs hq hF => ?_))
          have hk := hk.tr (hq.w1 ((hk.po hK hpo).2.2.1 4 (by decide)).1)
          refine lv_iinc (k := 1) (v := nI (i + 1)) (lv' := [(5, .int (nI (i + 1))), (6, .int x), (4, .int (nI N)), (0, .ref o), (1, .ref rw), (2, .int (nI fr))]) hx hb d_Polys_findValues_144 hl rfl (i_inc i) (by decide) rfl (fun ls hl => ?_)
          refine lv_goto (tgt := 31) hx hb d_Polys_findValues_147 (by decide) ?_
          have hl : lv_has ls 7 [(5, .int (nI (i + 1))), (4, .int (nI N)), (0, .ref o), (1, .ref rw), (2, .int (nI fr))] := lv_sub hl [0, 2, 3, 4, 5] rfl
          exact ih (i + 1) H1 locs ls (by omega) hk hF hl
        | succ k2 ih2 =>
          intro  H   locs   ls   x hk0 hxx hk hF hl
          have hxx : x = nI (fr + k2) := hxx.trans (nI_pred _)
          subst hxx
          refine lv_iload hx hb d_Polys_findValues_63 (lv_at hl 0 rfl) ?_
          refine lv_iload_n hx hb d_Polys_findValues_65 rfl (lv_at hl 5 rfl) ?_
          refine lv_icmp_lt (tgt := 125) hx hb d_Polys_findValues_66 (by decide) (fun h9 => absurd h9 (nI_nlt (by omega) (by omega))) (fun _ => ?_)
          refine lv_aload_n hx hb d_Polys_findValues_69 rfl (lv_at hl 3 rfl) ?_
          refine q_get (C := "KateDesk$Polynomials") (T := T_Polys) (N := 9) (ci := 7) E ((hk.po hK hpo).1) in_Polys rfl 0 (by decide) w_303 rfl rfl d_Polys_findValues_70 ?_
          refine lv_aload_n hx hb d_Polys_findValues_73 rfl (lv_at hl 3 rfl) ?_
          refine q_get (C := "KateDesk$Polynomials") (T := T_Polys) (N := 9) (ci := 7) E ((hk.po hK hpo).1) in_Polys rfl 8 (by decide) w_311 rfl rfl d_Polys_findValues_74 ?_
          refine lv_iload hx hb d_Polys_findValues_77 (lv_at hl 1 rfl) ?_
          refine q_aald (t := 4) E rfl rfl ((hk.po hK hpo).2.2.2.1) i rfl (by omega) (by decide) d_Polys_findValues_79 ?_
          refine lv_aload_n hx hb d_Polys_findValues_80 rfl (lv_at hl 3 rfl) ?_
          refine q_get (C := "KateDesk$Polynomials") (T := T_Polys) (N := 9) (ci := 7) E ((hk.po hK hpo).1) in_Polys rfl 8 (by decide) w_311 rfl rfl d_Polys_findValues_81 ?_
          refine lv_iload hx hb d_Polys_findValues_84 (lv_at hl 1 rfl) ?_
          refine q_aald (t := 4) E rfl rfl ((hk.po hK hpo).2.2.2.1) i rfl (by omega) (by decide) d_Polys_findValues_86 ?_
          refine lv_aload_n hx hb d_Polys_findValues_87 rfl (lv_at hl 3 rfl) ?_
          refine q_get (C := "KateDesk$Polynomials") (T := T_Polys) (N := 9) (ci := 7) E ((hk.po hK hpo).1) in_Polys rfl 5 (by decide) w_308 rfl rfl d_Polys_findValues_88 ?_
          refine q_cV (rest := []) E (c_Field_multiply l g n0 fo (V i) (V i) (Y 4) F mi) w_165 w_4 w_854 w_163 w_164 hd_Field_multiply rfl ⟨by decide, by decide⟩ (OB.recv E.2.2.2.2.2 (by rfl) (((hk.po hK hpo).2.1).1)) (⟨(hk.po hK hpo).2.1, (hk.po hK hpo).2.2.2.2 i (by omega), (hk.po hK hpo).2.2.2.2 i (by omega), (hk.po hK hpo).2.2.1 4 (by decide)⟩) hF hl.1 rfl (Nat.le_of_ble_eq_true rfl) d_Polys_findValues_91 ⟨by decide, by decide⟩ (qv (fun H1 locs hq hF => ?_))
          have hk := hk.tr (hq.w1 ((hk.po hK hpo).2.2.2.2 i (by omega)).1)
          refine lv_aload_n hx hb d_Polys_findValues_94 rfl (lv_at hl 3 rfl) ?_
          refine q_get (C := "KateDesk$Polynomials") (T := T_Polys) (N := 9) (ci := 7) E ((hk.po hK hpo).1) in_Polys rfl 0 (by decide) w_303 rfl rfl d_Polys_findValues_95 ?_
          refine lv_aload_n hx hb d_Polys_findValues_98 rfl (lv_at hl 3 rfl) ?_
          refine q_get (C := "KateDesk$Polynomials") (T := T_Polys) (N := 9) (ci := 7) E ((hk.po hK hpo).1) in_Polys rfl 8 (by decide) w_311 rfl rfl d_Polys_findValues_99 ?_
          refine lv_iload hx hb d_Polys_findValues_102 (lv_at hl 1 rfl) ?_
          refine q_aald (t := 4) E rfl rfl ((hk.po hK hpo).2.2.2.1) i rfl (by omega) (by decide) d_Polys_findValues_104 ?_
          refine lv_aload_n hx hb d_Polys_findValues_105 rfl (lv_at hl 3 rfl) ?_
          refine q_get (C := "KateDesk$Polynomials") (T := T_Polys) (N := 9) (ci := 7) E ((hk.po hK hpo).1) in_Polys rfl 8 (by decide) w_311 rfl rfl d_Polys_findValues_106 ?_
          refine lv_iload hx hb d_Polys_findValues_109 (lv_at hl 1 rfl) ?_
          refine q_aald (t := 4) E rfl rfl ((hk.po hK hpo).2.2.2.1) i rfl (by omega) (by decide) d_Polys_findValues_111 ?_
          refine lv_aload_n hx hb d_Polys_findValues_112 rfl (lv_at hl 4 rfl) ?_
          refine lv_iload hx hb d_Polys_findValues_113 (lv_at hl 0 rfl) ?_
          refine q_aald (t := 4) E rfl rfl ((hk.rs hK hrs).1) (fr + k2) rfl (by omega) (by decide) d_Polys_findValues_115 ?_
          refine q_cV (rest := []) E (c_Field_add l g n0 fo (V i) (V i) (Sc (fr + k2)) F mi) w_157 w_4 w_855 w_155 w_156 hd_Field_add rfl ⟨by decide, by decide⟩ (OB.recv E.2.2.2.2.2 (by rfl) (((hk.po hK hpo).2.1).1)) (⟨(hk.po hK hpo).2.1, (hk.po hK hpo).2.2.2.2 i (by omega), (hk.po hK hpo).2.2.2.2 i (by omega), (hk.rs hK hrs).2 (fr + k2) (by omega)⟩) hF hl.1 rfl (Nat.le_of_ble_eq_true rfl) d_Polys_findValues_116 ⟨by decide, by decide⟩ (qv (fun H2 locs hq hF => ?_))
          have hk := hk.tr (hq.w1 ((hk.po hK hpo).2.2.2.2 i (by omega)).1)
          refine lv_iinc (k := 0) (v := nI (fr + k2) - 1) (lv' := [(6, .int (nI (fr + k2) - 1)), (5, .int (nI i)), (4, .int (nI N)), (0, .ref o), (1, .ref rw), (2, .int (nI fr))]) hx hb d_Polys_findValues_119 hl rfl (i_dec _) (by decide) rfl (fun ls hl => ?_)
          refine lv_goto (tgt := 63) hx hb d_Polys_findValues_122 (by decide) ?_
          have hl : lv_has ls 7 [(6, .int (nI (fr + k2) - 1)), (5, .int (nI i)), (4, .int (nI N)), (0, .ref o), (1, .ref rw), (2, .int (nI fr))] := lv_sub hl [0, 1, 2, 3, 4, 5] rfl
          exact ih2 H2 locs ls _ (by omega) rfl hk hF hl
      exact inner N _ _ ls _ (Nat.le_refl _) (by rw [show fr + N = (fr + N - 1) + 1 by omega, nI_pred, Nat.add_sub_cancel]) hk hF hl
  exact loop N 0 _ _ ls (by omega) hk hF hl
