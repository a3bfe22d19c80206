/-- the polynomials: the field, seven rows, 16 rows more -/
def PO (g : WG) (n0 : Nat → Prop) (H : Heap) (o fo vl : Nat) (F : Nat → Nat) (mi : Int64) (Y V : Nat → Nat) : Prop :=
  OB g H o 7 [.ref fo, .ref (Y 0), .ref (Y 1), .ref (Y 2), .ref (Y 3), .ref (Y 4), .ref (Y 5), .ref (Y 6), .ref vl] ∧ FD g n0 H fo F mi ∧ (∀ k, k < 7 → J14 g n0 H (Y k)) ∧ AR g.2.2.2.2.2.1 H vl 16 V ∧ ∀ k, k < 16 → J14 g n0 H (V k)
theorem KJ.po {g : WG} {S : Nat → Prop} {n0 : Nat → Prop} {H H' : Heap} {U : State} (h : KJ g S H H') (hK : KW g U) {o fo vl : Nat} {F : Nat → Nat} {mi : Int64} {Y V : Nat → Nat} (hf : PO g n0 H o fo vl F mi Y V) : PO g n0 H' o fo vl F mi Y V :=
  ⟨h.ob hK hf.1, h.fd hK hf.2.1, fun k hk => h.j (hf.2.2.1 k hk), h.arJ hK hf.2.2.2.1, fun k hk => h.j (hf.2.2.2.2 k hk)⟩
/-- rows of scalars -/
def RS (g : WG) (n0 : Nat → Prop) (H : Heap) (o N : Nat) (Sc : Nat → Nat) : Prop := AR g.2.2.2.2.2.1 H o N Sc ∧ ∀ k, k < N → J14 g n0 H (Sc k)
theorem KJ.rs {g : WG} {S : Nat → Prop} {n0 : Nat → Prop} {H H' : Heap} {U : State} (h : KJ g S H H') (hK : KW g U) {o N : Nat} {Sc : Nat → Nat} (hf : RS g n0 H o N Sc) : RS g n0 H' o N Sc := ⟨h.arJ hK hf.1, fun k hk => h.j (hf.2 k hk)⟩
theorem sh1 : ∀ k, k < 5 → nI 1 <<< (nI k &&& 31) = nI (2 ^ k) := by decide
theorem pw16 {k : Nat} (h : k < 5) : 1 ≤ 2 ^ k ∧ 2 ^ k ≤ 16 := by
  rcases (show k = 0 ∨ k = 1 ∨ k = 2 ∨ k = 3 ∨ k = 4 by omega) with rfl | rfl | rfl | rfl | rfl <;> decide
theorem pwm {k : Nat} (h : k < 5) : (nI (2 ^ k - 1)).toBitVec.toNat = 2 ^ k - 1 := by
  rcases (show k = 0 ∨ k = 1 ∨ k = 2 ∨ k = 3 ∨ k = 4 by omega) with rfl | rfl | rfl | rfl | rfl <;> decide
theorem dn_lt {a : Nat} (h : a < 2 ^ 30) : nI (a + 0) - 1 < nI a := by
  cases a with
  | zero => decide
  | succ a => rw [Nat.add_zero, nI_pred]; exact nI_lt (Nat.lt_succ_self a) (by omega)
abbrev y_Polys_rootExponent : MethodName := ⟨"KateDesk$Polynomials", "rootExponent", "(I)V"⟩
theorem hd_Polys_rootExponent : y_Polys_rootExponent.cls ≠ "java/lang/invoke/MethodHandle" ∧ y_Polys_rootExponent.cls ≠ "java/lang/invoke/VarHandle" ∧ (parseMethodDescriptor y_Polys_rootExponent.desc).map (fun d => d.parameters.length) = some 1 := by decide +kernel
theorem d_Polys_rootExponent_0 : decode prog_7_method_3_code 0 = .ok (.aload_n 0, 1) := by decide +kernel
theorem d_Polys_rootExponent_1 : decode prog_7_method_3_code 1 = .ok (.getfield 38, 3) := by decide +kernel
theorem d_Polys_rootExponent_4 : decode prog_7_method_3_code 4 = .ok (.aload_n 0, 1) := by decide +kernel
theorem d_Polys_rootExponent_5 : decode prog_7_method_3_code 5 = .ok (.getfield 30, 3) := by decide +kernel
theorem d_Polys_rootExponent_8 : decode prog_7_method_3_code 8 = .ok (.aload_n 0, 1) := by decide +kernel
theorem d_Polys_rootExponent_9 : decode prog_7_method_3_code 9 = .ok (.getfield 15, 3) := by decide +kernel
theorem d_Polys_rootExponent_12 : decode prog_7_method_3_code 12 = .ok (.invokevirtual 58, 3) := by decide +kernel
theorem d_Polys_rootExponent_15 : decode prog_7_method_3_code 15 = .ok (.aload_n 0, 1) := by decide +kernel
theorem d_Polys_rootExponent_16 : decode prog_7_method_3_code 16 = .ok (.getfield 18, 3) := by decide +kernel
theorem d_Polys_rootExponent_19 : decode prog_7_method_3_code 19 = .ok (.aload_n 0, 1) := by decide +kernel
theorem d_Polys_rootExponent_20 : decode prog_7_method_3_code 20 = .ok (.getfield 30, 3) := by decide +kernel
theorem d_Polys_rootExponent_23 : decode prog_7_method_3_code 23 = .ok (.iload_n 1, 1) := by decide +kernel
theorem d_Polys_rootExponent_24 : decode prog_7_method_3_code 24 = .ok (.invokestatic 61, 3) := by decide +kernel
theorem d_Polys_rootExponent_27 : decode prog_7_method_3_code 27 = .ok (.return_, 1) := by decide +kernel
abbrev y_Polys_liftedRoot : MethodName := ⟨"KateDesk$Polynomials", "liftedRoot", "([JI)V"⟩
theorem hd_Polys_liftedRoot : y_Polys_liftedRoot.cls ≠ "java/lang/invoke/MethodHandle" ∧ y_Polys_liftedRoot.cls ≠ "java/lang/invoke/VarHandle" ∧ (parseMethodDescriptor y_Polys_liftedRoot.desc).map (fun d => d.parameters.length) = some 2 := by decide +kernel
theorem d_Polys_liftedRoot_0 : decode prog_7_method_2_code 0 = .ok (.aload_n 0, 1) := by decide +kernel
theorem d_Polys_liftedRoot_1 : decode prog_7_method_2_code 1 = .ok (.iload_n 2, 1) := by decide +kernel
theorem d_Polys_liftedRoot_2 : decode prog_7_method_2_code 2 = .ok (.invokevirtual 50, 3) := by decide +kernel
theorem d_Polys_liftedRoot_5 : decode prog_7_method_2_code 5 = .ok (.aload_n 0, 1) := by decide +kernel
theorem d_Polys_liftedRoot_6 : decode prog_7_method_2_code 6 = .ok (.getfield 38, 3) := by decide +kernel
theorem d_Polys_liftedRoot_9 : decode prog_7_method_2_code 9 = .ok (.aload_n 1, 1) := by decide +kernel
theorem d_Polys_liftedRoot_10 : decode prog_7_method_2_code 10 = .ok (.aload_n 0, 1) := by decide +kernel
theorem d_Polys_liftedRoot_11 : decode prog_7_method_2_code 11 = .ok (.getfield 9, 3) := by decide +kernel
theorem d_Polys_liftedRoot_14 : decode prog_7_method_2_code 14 = .ok (.aload_n 0, 1) := by decide +kernel
theorem d_Polys_liftedRoot_15 : decode prog_7_method_2_code 15 = .ok (.getfield 18, 3) := by decide +kernel
theorem d_Polys_liftedRoot_18 : decode prog_7_method_2_code 18 = .ok (.invokevirtual 54, 3) := by decide +kernel
theorem d_Polys_liftedRoot_21 : decode prog_7_method_2_code 21 = .ok (.return_, 1) := by decide +kernel
abbrev y_Polys_findShare : MethodName := ⟨"KateDesk$Polynomials", "findShare", "(I)V"⟩
theorem hd_Polys_findShare : y_Polys_findShare.cls ≠ "java/lang/invoke/MethodHandle" ∧ y_Polys_findShare.cls ≠ "java/lang/invoke/VarHandle" ∧ (parseMethodDescriptor y_Polys_findShare.desc).map (fun d => d.parameters.length) = some 1 := by decide +kernel
theorem d_Polys_findShare_0 : decode prog_7_method_4_code 0 = .ok (.aload_n 0, 1) := by decide +kernel
theorem d_Polys_findShare_1 : decode prog_7_method_4_code 1 = .ok (.iload_n 1, 1) := by decide +kernel
theorem d_Polys_findShare_2 : decode prog_7_method_4_code 2 = .ok (.invokevirtual 50, 3) := by decide +kernel
theorem d_Polys_findShare_5 : decode prog_7_method_4_code 5 = .ok (.aload_n 0, 1) := by decide +kernel
theorem d_Polys_findShare_6 : decode prog_7_method_4_code 6 = .ok (.getfield 38, 3) := by decide +kernel
theorem d_Polys_findShare_9 : decode prog_7_method_4_code 9 = .ok (.aload_n 0, 1) := by decide +kernel
theorem d_Polys_findShare_10 : decode prog_7_method_4_code 10 = .ok (.getfield 27, 3) := by decide +kernel
theorem d_Polys_findShare_13 : decode prog_7_method_4_code 13 = .ok (.aload_n 0, 1) := by decide +kernel
theorem d_Polys_findShare_14 : decode prog_7_method_4_code 14 = .ok (.getfield 18, 3) := by decide +kernel
theorem d_Polys_findShare_17 : decode prog_7_method_4_code 17 = .ok (.invokevirtual 58, 3) := by decide +kernel
theorem d_Polys_findShare_20 : decode prog_7_method_4_code 20 = .ok (.aload_n 0, 1) := by decide +kernel
theorem d_Polys_findShare_21 : decode prog_7_method_4_code 21 = .ok (.getfield 38, 3) := by decide +kernel
theorem d_Polys_findShare_24 : decode prog_7_method_4_code 24 = .ok (.aload_n 0, 1) := by decide +kernel
theorem d_Polys_findShare_25 : decode prog_7_method_4_code 25 = .ok (.getfield 27, 3) := by decide +kernel
theorem d_Polys_findShare_28 : decode prog_7_method_4_code 28 = .ok (.aload_n 0, 1) := by decide +kernel
theorem d_Polys_findShare_29 : decode prog_7_method_4_code 29 = .ok (.getfield 27, 3) := by decide +kernel
theorem d_Polys_findShare_32 : decode prog_7_method_4_code 32 = .ok (.invokevirtual 44, 3) := by decide +kernel
theorem d_Polys_findShare_35 : decode prog_7_method_4_code 35 = .ok (.return_, 1) := by decide +kernel
abbrev y_Polys_divide : MethodName := ⟨"KateDesk$Polynomials", "divide", "([J[[JII[J)V"⟩
theorem hd_Polys_divide : y_Polys_divide.cls ≠ "java/lang/invoke/MethodHandle" ∧ y_Polys_divide.cls ≠ "java/lang/invoke/VarHandle" ∧ (parseMethodDescriptor y_Polys_divide.desc).map (fun d => d.parameters.length) = some 5 := by decide +kernel
theorem d_Polys_divide_0 : decode prog_7_method_5_code 0 = .ok (.aload_n 1, 1) := by decide +kernel
theorem d_Polys_divide_1 : decode prog_7_method_5_code 1 = .ok (.invokestatic 65, 3) := by decide +kernel
theorem d_Polys_divide_4 : decode prog_7_method_5_code 4 = .ok (.iload_n 3, 1) := by decide +kernel
theorem d_Polys_divide_5 : decode prog_7_method_5_code 5 = .ok (.iload 4, 2) := by decide +kernel
theorem d_Polys_divide_7 : decode prog_7_method_5_code 7 = .ok (.iadd, 1) := by decide +kernel
theorem d_Polys_divide_8 : decode prog_7_method_5_code 8 = .ok (.iconst 1, 1) := by decide +kernel
theorem d_Polys_divide_9 : decode prog_7_method_5_code 9 = .ok (.isub, 1) := by decide +kernel
theorem d_Polys_divide_10 : decode prog_7_method_5_code 10 = .ok (.istore 6, 2) := by decide +kernel
theorem d_Polys_divide_12 : decode prog_7_method_5_code 12 = .ok (.iload 6, 2) := by decide +kernel
theorem d_Polys_divide_14 : decode prog_7_method_5_code 14 = .ok (.iload_n 3, 1) := by decide +kernel
theorem d_Polys_divide_15 : decode prog_7_method_5_code 15 = .ok (.if_icmp .lt 58, 3) := by decide +kernel
theorem d_Polys_divide_18 : decode prog_7_method_5_code 18 = .ok (.aload_n 0, 1) := by decide +kernel
theorem d_Polys_divide_19 : decode prog_7_method_5_code 19 = .ok (.getfield 38, 3) := by decide +kernel
theorem d_Polys_divide_22 : decode prog_7_method_5_code 22 = .ok (.aload_n 0, 1) := by decide +kernel
theorem d_Polys_divide_23 : decode prog_7_method_5_code 23 = .ok (.getfield 30, 3) := by decide +kernel
theorem d_Polys_divide_26 : decode prog_7_method_5_code 26 = .ok (.aload_n 1, 1) := by decide +kernel
theorem d_Polys_divide_27 : decode prog_7_method_5_code 27 = .ok (.aload 5, 2) := by decide +kernel
theorem d_Polys_divide_29 : decode prog_7_method_5_code 29 = .ok (.invokevirtual 69, 3) := by decide +kernel
theorem d_Polys_divide_32 : decode prog_7_method_5_code 32 = .ok (.aload_n 0, 1) := by decide +kernel
theorem d_Polys_divide_33 : decode prog_7_method_5_code 33 = .ok (.getfield 38, 3) := by decide +kernel
theorem d_Polys_divide_36 : decode prog_7_method_5_code 36 = .ok (.aload_n 0, 1) := by decide +kernel
theorem d_Polys_divide_37 : decode prog_7_method_5_code 37 = .ok (.getfield 30, 3) := by decide +kernel
theorem d_Polys_divide_40 : decode prog_7_method_5_code 40 = .ok (.aload_n 0, 1) := by decide +kernel
theorem d_Polys_divide_41 : decode prog_7_method_5_code 41 = .ok (.getfield 30, 3) := by decide +kernel
theorem d_Polys_divide_44 : decode prog_7_method_5_code 44 = .ok (.aload_n 2, 1) := by decide +kernel
theorem d_Polys_divide_45 : decode prog_7_method_5_code 45 = .ok (.iload 6, 2) := by decide +kernel
theorem d_Polys_divide_47 : decode prog_7_method_5_code 47 = .ok (.aaload, 1) := by decide +kernel
theorem d_Polys_divide_48 : decode prog_7_method_5_code 48 = .ok (.invokevirtual 72, 3) := by decide +kernel
theorem d_Polys_divide_51 : decode prog_7_method_5_code 51 = .ok (.aload_n 2, 1) := by decide +kernel
theorem d_Polys_divide_52 : decode prog_7_method_5_code 52 = .ok (.iload 6, 2) := by decide +kernel
theorem d_Polys_divide_54 : decode prog_7_method_5_code 54 = .ok (.aaload, 1) := by decide +kernel
theorem d_Polys_divide_55 : decode prog_7_method_5_code 55 = .ok (.aload_n 1, 1) := by decide +kernel
theorem d_Polys_divide_56 : decode prog_7_method_5_code 56 = .ok (.invokestatic 75, 3) := by decide +kernel
theorem d_Polys_divide_59 : decode prog_7_method_5_code 59 = .ok (.aload_n 1, 1) := by decide +kernel
theorem d_Polys_divide_60 : decode prog_7_method_5_code 60 = .ok (.aload_n 0, 1) := by decide +kernel
theorem d_Polys_divide_61 : decode prog_7_method_5_code 61 = .ok (.getfield 30, 3) := by decide +kernel
theorem d_Polys_divide_64 : decode prog_7_method_5_code 64 = .ok (.invokestatic 75, 3) := by decide +kernel
theorem d_Polys_divide_67 : decode prog_7_method_5_code 67 = .ok (.iinc 6 (-1), 3) := by decide +kernel
theorem d_Polys_divide_70 : decode prog_7_method_5_code 70 = .ok (.goto (-58), 3) := by decide +kernel
theorem d_Polys_divide_73 : decode prog_7_method_5_code 73 = .ok (.return_, 1) := by decide +kernel
abbrev y_Polys_findValues : MethodName := ⟨"KateDesk$Polynomials", "findValues", "([[JII)V"⟩
theorem hd_Polys_findValues : y_Polys_findValues.cls ≠ "java/lang/invoke/MethodHandle" ∧ y_Polys_findValues.cls ≠ "java/lang/invoke/VarHandle" ∧ (parseMethodDescriptor y_Polys_findValues.desc).map (fun d => d.parameters.length) = some 3 := by decide +kernel
theorem d_Polys_findValues_0 : decode prog_7_method_8_code 0 = .ok (.iconst 1, 1) := by decide +kernel
theorem d_Polys_findValues_1 : decode prog_7_method_8_code 1 = .ok (.iload_n 3, 1) := by decide +kernel
theorem d_Polys_findValues_2 : decode prog_7_method_8_code 2 = .ok (.ishl, 1) := by decide +kernel
theorem d_Polys_findValues_3 : decode prog_7_method_8_code 3 = .ok (.istore 4, 2) := by decide +kernel
theorem d_Polys_findValues_5 : decode prog_7_method_8_code 5 = .ok (.aload_n 0, 1) := by decide +kernel
theorem d_Polys_findValues_6 : decode prog_7_method_8_code 6 = .ok (.aload_n 0, 1) := by decide +kernel
theorem d_Polys_findValues_7 : decode prog_7_method_8_code 7 = .ok (.getfield 21, 3) := by decide +kernel
theorem d_Polys_findValues_10 : decode prog_7_method_8_code 10 = .ok (.iload_n 3, 1) := by decide +kernel
theorem d_Polys_findValues_11 : decode prog_7_method_8_code 11 = .ok (.invokevirtual 85, 3) := by decide +kernel
theorem d_Polys_findValues_14 : decode prog_7_method_8_code 14 = .ok (.aload_n 0, 1) := by decide +kernel
theorem d_Polys_findValues_15 : decode prog_7_method_8_code 15 = .ok (.getfield 24, 3) := by decide +kernel
theorem d_Polys_findValues_18 : decode prog_7_method_8_code 18 = .ok (.aload_n 0, 1) := by decide +kernel
theorem d_Polys_findValues_19 : decode prog_7_method_8_code 19 = .ok (.getfield 38, 3) := by decide +kernel
theorem d_Polys_findValues_22 : decode prog_7_method_8_code 22 = .ok (.getfield 89, 3) := by decide +kernel
theorem d_Polys_findValues_25 : decode prog_7_method_8_code 25 = .ok (.invokestatic 75, 3) := by decide +kernel
theorem d_Polys_findValues_28 : decode prog_7_method_8_code 28 = .ok (.iconst 0, 1) := by decide +kernel
theorem d_Polys_findValues_29 : decode prog_7_method_8_code 29 = .ok (.istore 5, 2) := by decide +kernel
theorem d_Polys_findValues_31 : decode prog_7_method_8_code 31 = .ok (.iload 5, 2) := by decide +kernel
theorem d_Polys_findValues_33 : decode prog_7_method_8_code 33 = .ok (.iload 4, 2) := by decide +kernel
theorem d_Polys_findValues_35 : decode prog_7_method_8_code 35 = .ok (.if_icmp .ge 115, 3) := by decide +kernel
theorem d_Polys_findValues_38 : decode prog_7_method_8_code 38 = .ok (.iload 5, 2) := by decide +kernel
theorem d_Polys_findValues_40 : decode prog_7_method_8_code 40 = .ok (.bipush 16, 2) := by decide +kernel
theorem d_Polys_findValues_42 : decode prog_7_method_8_code 42 = .ok (.if_icmp .ge 108, 3) := by decide +kernel
theorem d_Polys_findValues_45 : decode prog_7_method_8_code 45 = .ok (.aload_n 0, 1) := by decide +kernel
theorem d_Polys_findValues_46 : decode prog_7_method_8_code 46 = .ok (.getfield 35, 3) := by decide +kernel
theorem d_Polys_findValues_49 : decode prog_7_method_8_code 49 = .ok (.iload 5, 2) := by decide +kernel
theorem d_Polys_findValues_51 : decode prog_7_method_8_code 51 = .ok (.aaload, 1) := by decide +kernel
theorem d_Polys_findValues_52 : decode prog_7_method_8_code 52 = .ok (.invokestatic 65, 3) := by decide +kernel
theorem d_Polys_findValues_55 : decode prog_7_method_8_code 55 = .ok (.iload_n 2, 1) := by decide +kernel
theorem d_Polys_findValues_56 : decode prog_7_method_8_code 56 = .ok (.iload 4, 2) := by decide +kernel
theorem d_Polys_findValues_58 : decode prog_7_method_8_code 58 = .ok (.iadd, 1) := by decide +kernel
theorem d_Polys_findValues_59 : decode prog_7_method_8_code 59 = .ok (.iconst 1, 1) := by decide +kernel
theorem d_Polys_findValues_60 : decode prog_7_method_8_code 60 = .ok (.isub, 1) := by decide +kernel
theorem d_Polys_findValues_61 : decode prog_7_method_8_code 61 = .ok (.istore 6, 2) := by decide +kernel
theorem d_Polys_findValues_63 : decode prog_7_method_8_code 63 = .ok (.iload 6, 2) := by decide +kernel
theorem d_Polys_findValues_65 : decode prog_7_method_8_code 65 = .ok (.iload_n 2, 1) := by decide +kernel
theorem d_Polys_findValues_66 : decode prog_7_method_8_code 66 = .ok (.if_icmp .lt 59, 3) := by decide +kernel
theorem d_Polys_findValues_69 : decode prog_7_method_8_code 69 = .ok (.aload_n 0, 1) := by decide +kernel
theorem d_Polys_findValues_70 : decode prog_7_method_8_code 70 = .ok (.getfield 38, 3) := by decide +kernel
theorem d_Polys_findValues_73 : decode prog_7_method_8_code 73 = .ok (.aload_n 0, 1) := by decide +kernel
theorem d_Polys_findValues_74 : decode prog_7_method_8_code 74 = .ok (.getfield 35, 3) := by decide +kernel
theorem d_Polys_findValues_77 : decode prog_7_method_8_code 77 = .ok (.iload 5, 2) := by decide +kernel
theorem d_Polys_findValues_79 : decode prog_7_method_8_code 79 = .ok (.aaload, 1) := by decide +kernel
theorem d_Polys_findValues_80 : decode prog_7_method_8_code 80 = .ok (.aload_n 0, 1) := by decide +kernel
theorem d_Polys_findValues_81 : decode prog_7_method_8_code 81 = .ok (.getfield 35, 3) := by decide +kernel
theorem d_Polys_findValues_84 : decode prog_7_method_8_code 84 = .ok (.iload 5, 2) := by decide +kernel
theorem d_Polys_findValues_86 : decode prog_7_method_8_code 86 = .ok (.aaload, 1) := by decide +kernel
theorem d_Polys_findValues_87 : decode prog_7_method_8_code 87 = .ok (.aload_n 0, 1) := by decide +kernel
theorem d_Polys_findValues_88 : decode prog_7_method_8_code 88 = .ok (.getfield 24, 3) := by decide +kernel
theorem d_Polys_findValues_91 : decode prog_7_method_8_code 91 = .ok (.invokevirtual 69, 3) := by decide +kernel
theorem d_Polys_findValues_94 : decode prog_7_method_8_code 94 = .ok (.aload_n 0, 1) := by decide +kernel
theorem d_Polys_findValues_95 : decode prog_7_method_8_code 95 = .ok (.getfield 38, 3) := by decide +kernel
theorem d_Polys_findValues_98 : decode prog_7_method_8_code 98 = .ok (.aload_n 0, 1) := by decide +kernel
theorem d_Polys_findValues_99 : decode prog_7_method_8_code 99 = .ok (.getfield 35, 3) := by decide +kernel
theorem d_Polys_findValues_102 : decode prog_7_method_8_code 102 = .ok (.iload 5, 2) := by decide +kernel
theorem d_Polys_findValues_104 : decode prog_7_method_8_code 104 = .ok (.aaload, 1) := by decide +kernel
theorem d_Polys_findValues_105 : decode prog_7_method_8_code 105 = .ok (.aload_n 0, 1) := by decide +kernel
theorem d_Polys_findValues_106 : decode prog_7_method_8_code 106 = .ok (.getfield 35, 3) := by decide +kernel
theorem d_Polys_findValues_109 : decode prog_7_method_8_code 109 = .ok (.iload 5, 2) := by decide +kernel
theorem d_Polys_findValues_111 : decode prog_7_method_8_code 111 = .ok (.aaload, 1) := by decide +kernel
theorem d_Polys_findValues_112 : decode prog_7_method_8_code 112 = .ok (.aload_n 1, 1) := by decide +kernel
theorem d_Polys_findValues_113 : decode prog_7_method_8_code 113 = .ok (.iload 6, 2) := by decide +kernel
theorem d_Polys_findValues_115 : decode prog_7_method_8_code 115 = .ok (.aaload, 1) := by decide +kernel
theorem d_Polys_findValues_116 : decode prog_7_method_8_code 116 = .ok (.invokevirtual 72, 3) := by decide +kernel
theorem d_Polys_findValues_119 : decode prog_7_method_8_code 119 = .ok (.iinc 6 (-1), 3) := by decide +kernel
theorem d_Polys_findValues_122 : decode prog_7_method_8_code 122 = .ok (.goto (-59), 3) := by decide +kernel
theorem d_Polys_findValues_125 : decode prog_7_method_8_code 125 = .ok (.aload_n 0, 1) := by decide +kernel
theorem d_Polys_findValues_126 : decode prog_7_method_8_code 126 = .ok (.getfield 38, 3) := by decide +kernel
theorem d_Polys_findValues_129 : decode prog_7_method_8_code 129 = .ok (.aload_n 0, 1) := by decide +kernel
theorem d_Polys_findValues_130 : decode prog_7_method_8_code 130 = .ok (.getfield 24, 3) := by decide +kernel
theorem d_Polys_findValues_133 : decode prog_7_method_8_code 133 = .ok (.aload_n 0, 1) := by decide +kernel
theorem d_Polys_findValues_134 : decode prog_7_method_8_code 134 = .ok (.getfield 24, 3) := by decide +kernel
theorem d_Polys_findValues_137 : decode prog_7_method_8_code 137 = .ok (.aload_n 0, 1) := by decide +kernel
theorem d_Polys_findValues_138 : decode prog_7_method_8_code 138 = .ok (.getfield 21, 3) := by decide +kernel
theorem d_Polys_findValues_141 : decode prog_7_method_8_code 141 = .ok (.invokevirtual 69, 3) := by decide +kernel
theorem d_Polys_findValues_144 : decode prog_7_method_8_code 144 = .ok (.iinc 5 1, 3) := by decide +kernel
theorem d_Polys_findValues_147 : decode prog_7_method_8_code 147 = .ok (.goto (-116), 3) := by decide +kernel
theorem d_Polys_findValues_150 : decode prog_7_method_8_code 150 = .ok (.return_, 1) := by decide +kernel