/-! which numbers a method leaves alone -/
def SAME (fd fd' : Nat → Int64) (P : Nat → Prop) : Prop := ∀ t k, ¬ P t → k < 14 → fd' (14 * t + k) = fd (14 * t + k)
theorem SAME.rf {fd : Nat → Int64} {P : Nat → Prop} : SAME fd fd P := fun _ _ _ _ => rfl
theorem SAME.tr {fd fd1 fd2 : Nat → Int64} {P : Nat → Prop} (h : SAME fd fd1 P) (h' : SAME fd1 fd2 P) : SAME fd fd2 P := fun t k a b => (h' t k a b).trans (h t k a b)
theorem SAME.mono {fd fd' : Nat → Int64} {P P' : Nat → Prop} (h : SAME fd fd' P) (hp : ∀ t, P t → P' t) : SAME fd fd' P' := fun t k a b => h t k (fun c => a (hp t c)) b
theorem SAME.put {fd fd1 fd2 : Nat → Int64} {P : Nat → Prop} {s : Nat} (h : SAME fd fd1 P) (ho : ∀ j, (j < 14 * s ∨ 14 * s + 14 ≤ j) → fd2 j = fd1 j) (hp : P s) : SAME fd fd2 P := fun t k a b => by
  have hne : t ≠ s := fun e => a (by rw [e]; exact hp)
  rw [ho _ (by omega)]; exact h t k a b
theorem SAME.sv {fd fd' : Nat → Int64} {P : Nat → Prop} (h : SAME fd fd' P) {t m : Nat} (ht : ¬ P t) (hm : m ≤ 14) : SV fd' t m = SV fd t m := VL_ext (fun k hk => h t k ht (by omega))
theorem SAME.z0 {fd fd' : Nat → Int64} {P : Nat → Prop} (h : SAME fd fd' P) {t : Nat} (ht : ¬ P t) (hz : Z0 fd t) : Z0 fd' t := fun k hk => by rw [h t k ht hk]; exact hz k hk
theorem VL_one {f : Nat → Int64} {n : Nat} (h0 : f 0 = 1) (h : ∀ k, 1 ≤ k → k < n → f k = 0) (hn : 1 ≤ n) : VL f n = 1 := by
  induction n with
  | zero => omega
  | succ n ih =>
    have e0 : VL f (n + 1) = VL f n + (f n).toInt * 268435456 ^ n := rfl
    by_cases e : n = 0
    · subst e; rw [e0, h0]; show (0 : Int) + _ = 1; decide
    · rw [e0, ih (fun k a b => h k a (by omega)) (by omega), h n (by omega) (by omega), show (0 : Int64).toInt = 0 by decide]; omega
theorem i64_shrN (x : Int64) {s : Int64} {j : Nat} (h : (s.toBitVec.smod 64).toNat = j) : (x >>> s).toInt = x.toInt / 2 ^ j := by
  show (x >>> s).toBitVec.toInt = x.toBitVec.toInt / 2 ^ j
  rw [Int64.toBitVec_shiftRight]
  show (x.toBitVec.sshiftRight' (s.toBitVec.smod 64)).toInt = _
  rw [BitVec.sshiftRight_eq', h, BitVec.toInt_sshiftRight, Int.shiftRight_eq_div_pow]
  rfl
theorem dg_nat {x : Int64} (h : x.toBitVec.toNat < 268435456) : dg x := by
  have e : x.toInt = (x.toBitVec.toNat : Int) := by
    show x.toBitVec.toInt = _
    rw [BitVec.toInt_eq_toNat_cond, if_pos (by omega)]
  unfold dg; rw [e]; omega
theorem nat_dg {x : Int64} (h : dg x) : x.toBitVec.toNat < 268435456 := by
  have h1 := h.1
  have h2 := h.2
  have e : x.toInt = x.toBitVec.toInt := rfl
  rw [e, BitVec.toInt_eq_toNat_cond] at h1 h2
  have := x.toBitVec.isLt
  split at h1 <;> split at h2 <;> omega
theorem dg_or {x y : Int64} (hx : dg x) (hy : dg y) : dg (x ||| y) := by
  apply dg_nat
  rw [Int64.toBitVec_or, BitVec.toNat_or]
  exact Nat.or_lt_two_pow (n := 28) (nat_dg hx) (nat_dg hy)
theorem dg_shr1 {x : Int64} (hx : dg x) : dg (x >>> ((nI 1).toInt64 &&& 63)) := by
  have h : (((nI 1).toInt64 &&& 63).toBitVec.smod 64).toNat = 1 := by decide
  have h2 := hx.1
  have h3 := hx.2
  unfold dg
  rw [i64_shrN x h]
  omega
theorem dg_shl27 (x : Int64) : dg ((x &&& 1) <<< ((nI 27).toInt64 &&& 63)) := by
  apply dg_nat
  have h : (((nI 27).toInt64 &&& 63).toBitVec.smod 64) = 27#64 := by decide
  rw [Int64.toBitVec_shiftLeft]
  show ((x &&& 1).toBitVec <<< (((nI 27).toInt64 &&& 63).toBitVec.smod 64)).toNat < _
  rw [h]
  show ((x &&& 1).toBitVec <<< 27).toNat < _
  have h1 : (x &&& 1).toBitVec.toNat ≤ 1 := by
    rw [Int64.toBitVec_and, BitVec.toNat_and]
    exact Nat.and_le_right
  rw [BitVec.toNat_shiftLeft, Nat.shiftLeft_eq]
  have : (x &&& 1).toBitVec.toNat * 2 ^ 27 ≤ 1 * 2 ^ 27 := Nat.mul_le_mul_right _ h1
  have e2 : (x &&& 1).toBitVec.toNat * 2 ^ 27 % 2 ^ 64 ≤ (x &&& 1).toBitVec.toNat * 2 ^ 27 := Nat.mod_le _ _
  omega
theorem dg_mask (x : Int64) : dg (x &&& 268435455) := by
  unfold dg; rw [i64_mask]; omega
theorem DD.upd {fd : Nat → Int64} (h : DD fd) {j : Nat} {x : Int64} (hx : dg x) : DD (vp_updL fd j x) := fun k hk => by
  by_cases e : k = j
  · subst e; rw [pk_uLs]; exact hx
  · rw [pk_uLn e]; exact h k hk
abbrev y_Model_raise : MethodName := ⟨"KateDeskModel", "raise", "(III)V"⟩
theorem hd_Model_raise : y_Model_raise.cls ≠ "java/lang/invoke/MethodHandle" ∧ y_Model_raise.cls ≠ "java/lang/invoke/VarHandle" ∧ (parseMethodDescriptor y_Model_raise.desc).map (fun d => d.parameters.length) = some 3 := by decide +kernel
theorem d_Model_raise_0 : decode prog_11_method_19_code 0 = .ok (.aload_n 0, 1) := by decide +kernel
theorem d_Model_raise_1 : decode prog_11_method_19_code 1 = .ok (.bipush 122, 2) := by decide +kernel
theorem d_Model_raise_3 : decode prog_11_method_19_code 3 = .ok (.iload_n 2, 1) := by decide +kernel
theorem d_Model_raise_4 : decode prog_11_method_19_code 4 = .ok (.invokevirtual 180, 3) := by decide +kernel
theorem d_Model_raise_7 : decode prog_11_method_19_code 7 = .ok (.aload_n 0, 1) := by decide +kernel
theorem d_Model_raise_8 : decode prog_11_method_19_code 8 = .ok (.bipush 121, 2) := by decide +kernel
theorem d_Model_raise_10 : decode prog_11_method_19_code 10 = .ok (.invokevirtual 141, 3) := by decide +kernel
theorem d_Model_raise_13 : decode prog_11_method_19_code 13 = .ok (.sipush 391, 3) := by decide +kernel
theorem d_Model_raise_16 : decode prog_11_method_19_code 16 = .ok (.istore 4, 2) := by decide +kernel
theorem d_Model_raise_18 : decode prog_11_method_19_code 18 = .ok (.iload 4, 2) := by decide +kernel
theorem d_Model_raise_20 : decode prog_11_method_19_code 20 = .ok (.ifCond .lt 40, 3) := by decide +kernel
theorem d_Model_raise_23 : decode prog_11_method_19_code 23 = .ok (.aload_n 0, 1) := by decide +kernel
theorem d_Model_raise_24 : decode prog_11_method_19_code 24 = .ok (.bipush 121, 2) := by decide +kernel
theorem d_Model_raise_26 : decode prog_11_method_19_code 26 = .ok (.bipush 121, 2) := by decide +kernel
theorem d_Model_raise_28 : decode prog_11_method_19_code 28 = .ok (.bipush 121, 2) := by decide +kernel
theorem d_Model_raise_30 : decode prog_11_method_19_code 30 = .ok (.invokevirtual 184, 3) := by decide +kernel
theorem d_Model_raise_33 : decode prog_11_method_19_code 33 = .ok (.aload_n 0, 1) := by decide +kernel
theorem d_Model_raise_34 : decode prog_11_method_19_code 34 = .ok (.iload_n 3, 1) := by decide +kernel
theorem d_Model_raise_35 : decode prog_11_method_19_code 35 = .ok (.iload 4, 2) := by decide +kernel
theorem d_Model_raise_37 : decode prog_11_method_19_code 37 = .ok (.invokevirtual 187, 3) := by decide +kernel
theorem d_Model_raise_40 : decode prog_11_method_19_code 40 = .ok (.iconst 1, 1) := by decide +kernel
theorem d_Model_raise_41 : decode prog_11_method_19_code 41 = .ok (.if_icmp .ne 13, 3) := by decide +kernel
theorem d_Model_raise_44 : decode prog_11_method_19_code 44 = .ok (.aload_n 0, 1) := by decide +kernel
theorem d_Model_raise_45 : decode prog_11_method_19_code 45 = .ok (.bipush 121, 2) := by decide +kernel
theorem d_Model_raise_47 : decode prog_11_method_19_code 47 = .ok (.bipush 121, 2) := by decide +kernel
theorem d_Model_raise_49 : decode prog_11_method_19_code 49 = .ok (.bipush 122, 2) := by decide +kernel
theorem d_Model_raise_51 : decode prog_11_method_19_code 51 = .ok (.invokevirtual 184, 3) := by decide +kernel
theorem d_Model_raise_54 : decode prog_11_method_19_code 54 = .ok (.iinc 4 (-1), 3) := by decide +kernel
theorem d_Model_raise_57 : decode prog_11_method_19_code 57 = .ok (.goto (-39), 3) := by decide +kernel
theorem d_Model_raise_60 : decode prog_11_method_19_code 60 = .ok (.aload_n 0, 1) := by decide +kernel
theorem d_Model_raise_61 : decode prog_11_method_19_code 61 = .ok (.iload_n 1, 1) := by decide +kernel
theorem d_Model_raise_62 : decode prog_11_method_19_code 62 = .ok (.bipush 121, 2) := by decide +kernel
theorem d_Model_raise_64 : decode prog_11_method_19_code 64 = .ok (.invokevirtual 180, 3) := by decide +kernel
theorem d_Model_raise_67 : decode prog_11_method_19_code 67 = .ok (.return_, 1) := by decide +kernel
abbrev y_Model_primeAnd : MethodName := ⟨"KateDeskModel", "primeAnd", "(IJ)V"⟩
theorem hd_Model_primeAnd : y_Model_primeAnd.cls ≠ "java/lang/invoke/MethodHandle" ∧ y_Model_primeAnd.cls ≠ "java/lang/invoke/VarHandle" ∧ (parseMethodDescriptor y_Model_primeAnd.desc).map (fun d => d.parameters.length) = some 2 := by decide +kernel
theorem d_Model_primeAnd_0 : decode prog_11_method_20_code 0 = .ok (.iconst 0, 1) := by decide +kernel
theorem d_Model_primeAnd_1 : decode prog_11_method_20_code 1 = .ok (.istore 4, 2) := by decide +kernel
theorem d_Model_primeAnd_3 : decode prog_11_method_20_code 3 = .ok (.iload 4, 2) := by decide +kernel
theorem d_Model_primeAnd_5 : decode prog_11_method_20_code 5 = .ok (.bipush 14, 2) := by decide +kernel
theorem d_Model_primeAnd_7 : decode prog_11_method_20_code 7 = .ok (.if_icmp .gt 53, 3) := by decide +kernel
theorem d_Model_primeAnd_10 : decode prog_11_method_20_code 10 = .ok (.aload_n 0, 1) := by decide +kernel
theorem d_Model_primeAnd_11 : decode prog_11_method_20_code 11 = .ok (.getfield 124, 3) := by decide +kernel
theorem d_Model_primeAnd_14 : decode prog_11_method_20_code 14 = .ok (.iload 4, 2) := by decide +kernel
theorem d_Model_primeAnd_16 : decode prog_11_method_20_code 16 = .ok (.iload 4, 2) := by decide +kernel
theorem d_Model_primeAnd_18 : decode prog_11_method_20_code 18 = .ok (.bipush 14, 2) := by decide +kernel
theorem d_Model_primeAnd_20 : decode prog_11_method_20_code 20 = .ok (.if_icmp .ge 32, 3) := by decide +kernel
theorem d_Model_primeAnd_23 : decode prog_11_method_20_code 23 = .ok (.aload_n 0, 1) := by decide +kernel
theorem d_Model_primeAnd_24 : decode prog_11_method_20_code 24 = .ok (.getfield 59, 3) := by decide +kernel
theorem d_Model_primeAnd_27 : decode prog_11_method_20_code 27 = .ok (.bipush 14, 2) := by decide +kernel
theorem d_Model_primeAnd_29 : decode prog_11_method_20_code 29 = .ok (.aload_n 0, 1) := by decide +kernel
theorem d_Model_primeAnd_30 : decode prog_11_method_20_code 30 = .ok (.getfield 161, 3) := by decide +kernel
theorem d_Model_primeAnd_33 : decode prog_11_method_20_code 33 = .ok (.imul, 1) := by decide +kernel
theorem d_Model_primeAnd_34 : decode prog_11_method_20_code 34 = .ok (.iload 4, 2) := by decide +kernel
theorem d_Model_primeAnd_36 : decode prog_11_method_20_code 36 = .ok (.iadd, 1) := by decide +kernel
theorem d_Model_primeAnd_37 : decode prog_11_method_20_code 37 = .ok (.laload, 1) := by decide +kernel
theorem d_Model_primeAnd_38 : decode prog_11_method_20_code 38 = .ok (.iload 4, 2) := by decide +kernel
theorem d_Model_primeAnd_40 : decode prog_11_method_20_code 40 = .ok (.ifCond .ne 7, 3) := by decide +kernel
theorem d_Model_primeAnd_43 : decode prog_11_method_20_code 43 = .ok (.lload_n 2, 1) := by decide +kernel
theorem d_Model_primeAnd_44 : decode prog_11_method_20_code 44 = .ok (.goto 4, 3) := by decide +kernel
theorem d_Model_primeAnd_47 : decode prog_11_method_20_code 47 = .ok (.lconst 0, 1) := by decide +kernel
theorem d_Model_primeAnd_48 : decode prog_11_method_20_code 48 = .ok (.ladd, 1) := by decide +kernel
theorem d_Model_primeAnd_49 : decode prog_11_method_20_code 49 = .ok (.goto 4, 3) := by decide +kernel
theorem d_Model_primeAnd_52 : decode prog_11_method_20_code 52 = .ok (.lconst 0, 1) := by decide +kernel
theorem d_Model_primeAnd_53 : decode prog_11_method_20_code 53 = .ok (.lastore, 1) := by decide +kernel
theorem d_Model_primeAnd_54 : decode prog_11_method_20_code 54 = .ok (.iinc 4 1, 3) := by decide +kernel
theorem d_Model_primeAnd_57 : decode prog_11_method_20_code 57 = .ok (.goto (-54), 3) := by decide +kernel
theorem d_Model_primeAnd_60 : decode prog_11_method_20_code 60 = .ok (.aload_n 0, 1) := by decide +kernel
theorem d_Model_primeAnd_61 : decode prog_11_method_20_code 61 = .ok (.bipush 14, 2) := by decide +kernel
theorem d_Model_primeAnd_63 : decode prog_11_method_20_code 63 = .ok (.invokevirtual 174, 3) := by decide +kernel
theorem d_Model_primeAnd_66 : decode prog_11_method_20_code 66 = .ok (.iconst 0, 1) := by decide +kernel
theorem d_Model_primeAnd_67 : decode prog_11_method_20_code 67 = .ok (.istore 4, 2) := by decide +kernel
theorem d_Model_primeAnd_69 : decode prog_11_method_20_code 69 = .ok (.iload 4, 2) := by decide +kernel
theorem d_Model_primeAnd_71 : decode prog_11_method_20_code 71 = .ok (.bipush 14, 2) := by decide +kernel
theorem d_Model_primeAnd_73 : decode prog_11_method_20_code 73 = .ok (.if_icmp .ge 28, 3) := by decide +kernel
theorem d_Model_primeAnd_76 : decode prog_11_method_20_code 76 = .ok (.aload_n 0, 1) := by decide +kernel
theorem d_Model_primeAnd_77 : decode prog_11_method_20_code 77 = .ok (.getfield 7, 3) := by decide +kernel
theorem d_Model_primeAnd_80 : decode prog_11_method_20_code 80 = .ok (.bipush 14, 2) := by decide +kernel
theorem d_Model_primeAnd_82 : decode prog_11_method_20_code 82 = .ok (.iload_n 1, 1) := by decide +kernel
theorem d_Model_primeAnd_83 : decode prog_11_method_20_code 83 = .ok (.imul, 1) := by decide +kernel
theorem d_Model_primeAnd_84 : decode prog_11_method_20_code 84 = .ok (.iload 4, 2) := by decide +kernel
theorem d_Model_primeAnd_86 : decode prog_11_method_20_code 86 = .ok (.iadd, 1) := by decide +kernel
theorem d_Model_primeAnd_87 : decode prog_11_method_20_code 87 = .ok (.aload_n 0, 1) := by decide +kernel
theorem d_Model_primeAnd_88 : decode prog_11_method_20_code 88 = .ok (.getfield 124, 3) := by decide +kernel
theorem d_Model_primeAnd_91 : decode prog_11_method_20_code 91 = .ok (.iload 4, 2) := by decide +kernel
theorem d_Model_primeAnd_93 : decode prog_11_method_20_code 93 = .ok (.laload, 1) := by decide +kernel
theorem d_Model_primeAnd_94 : decode prog_11_method_20_code 94 = .ok (.lastore, 1) := by decide +kernel
theorem d_Model_primeAnd_95 : decode prog_11_method_20_code 95 = .ok (.iinc 4 1, 3) := by decide +kernel
theorem d_Model_primeAnd_98 : decode prog_11_method_20_code 98 = .ok (.goto (-29), 3) := by decide +kernel
theorem d_Model_primeAnd_101 : decode prog_11_method_20_code 101 = .ok (.return_, 1) := by decide +kernel
abbrev y_Model_inverse : MethodName := ⟨"KateDeskModel", "inverse", "(II)V"⟩
theorem hd_Model_inverse : y_Model_inverse.cls ≠ "java/lang/invoke/MethodHandle" ∧ y_Model_inverse.cls ≠ "java/lang/invoke/VarHandle" ∧ (parseMethodDescriptor y_Model_inverse.desc).map (fun d => d.parameters.length) = some 2 := by decide +kernel
theorem d_Model_inverse_0 : decode prog_11_method_21_code 0 = .ok (.aload_n 0, 1) := by decide +kernel
theorem d_Model_inverse_1 : decode prog_11_method_21_code 1 = .ok (.bipush 123, 2) := by decide +kernel
theorem d_Model_inverse_3 : decode prog_11_method_21_code 3 = .ok (.ldc2_w 191, 3) := by decide +kernel
theorem d_Model_inverse_6 : decode prog_11_method_21_code 6 = .ok (.invokevirtual 193, 3) := by decide +kernel
theorem d_Model_inverse_9 : decode prog_11_method_21_code 9 = .ok (.aload_n 0, 1) := by decide +kernel
theorem d_Model_inverse_10 : decode prog_11_method_21_code 10 = .ok (.iload_n 1, 1) := by decide +kernel
theorem d_Model_inverse_11 : decode prog_11_method_21_code 11 = .ok (.iload_n 2, 1) := by decide +kernel
theorem d_Model_inverse_12 : decode prog_11_method_21_code 12 = .ok (.bipush 123, 2) := by decide +kernel
theorem d_Model_inverse_14 : decode prog_11_method_21_code 14 = .ok (.invokevirtual 197, 3) := by decide +kernel
theorem d_Model_inverse_17 : decode prog_11_method_21_code 17 = .ok (.return_, 1) := by decide +kernel