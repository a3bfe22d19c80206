/-! the model's small methods -/
def MR (mo : Nat) : Nat → Prop := fun q => q = mo ∨ q = mo + 1 ∨ q = mo + 5
theorem kjR {g : WG} {mo : Nat} {H H' : Heap} (h : KJ g (fun q => q = mo + 1 ∨ q = mo + 5) H H') : FRM (MR mo) H H' := h.frm.mono (fun _ e => Or.inr e)
theorem kjR1 {g : WG} {mo : Nat} {H H' : Heap} (h : KJ g (fun q => q = mo + 1) H H') : FRM (MR mo) H H' := h.frm.mono (fun _ e => Or.inr (Or.inl e))
/-- number s alone is written: its limbs are those of sp -/
def PW (fd fd' : Nat → Int64) (s : Nat) (sp : Nat → Int64) : Prop := (∀ j, (j < 14 * s ∨ 14 * s + 14 ≤ j) → fd' j = fd j) ∧ (∀ k, k < 14 → fd' (14 * s + k) = sp k)
theorem PW.dd {fd fd' : Nat → Int64} {s : Nat} {sp : Nat → Int64} (h : PW fd fd' s sp) (hs : ∀ k, k < 14 → dg (sp k)) (hd : DD fd) : DD fd' := by
  intro k hk
  by_cases e : k < 14 * s ∨ 14 * s + 14 ≤ k
  · rw [h.1 k e]; exact hd k hk
  · have h2 := h.2 (k - 14 * s) (by omega)
    rw [show 14 * s + (k - 14 * s) = k by omega] at h2
    rw [h2]; exact hs _ (by omega)
theorem out_sv {fd fd' : Nat → Int64} {s : Nat} (h : ∀ j, (j < 14 * s ∨ 14 * s + 14 ≤ j) → fd' j = fd j) {t m : Nat} (ht : t ≠ s) (hm : m ≤ 14) : SV fd' t m = SV fd t m := VL_ext (fun k hk => h _ (by omega))
def Z0 (fd : Nat → Int64) (s : Nat) : Prop := ∀ k, k < 14 → fd (14 * s + k) = 0
theorem out_z0 {fd fd' : Nat → Int64} {s : Nat} (h : ∀ j, (j < 14 * s ∨ 14 * s + 14 ≤ j) → fd' j = fd j) {t : Nat} (ht : t ≠ s) (hz : Z0 fd t) : Z0 fd' t := fun k hk => by rw [h _ (by omega)]; exact hz k hk
theorem Z0.sv {fd : Nat → Int64} {s n : Nat} (h : Z0 fd s) (hn : n ≤ 14) : SV fd s n = 0 := VL_zero (fun k hk => h k (by omega))
theorem VL_zinv {f : Nat → Int64} {n : Nat} (hd : ∀ k, k < n → dg (f k)) (h : VL f n = 0) : ∀ k, k < n → f k = 0 := by
  induction n with
  | zero => intro k hk; omega
  | succ n ih =>
    intro k hk
    have h1 := VL_range (f := f) (n := n) (fun k hk => hd k (by omega))
    have h2 := Int.mul_nonneg (hd n (by omega)).1 (Int.le_of_lt (pw_pos n))
    have e0 : VL f (n + 1) = VL f n + (f n).toInt * 268435456 ^ n := rfl
    by_cases e : k = n
    · subst e
      have h3 : (f k).toInt * 268435456 ^ k = 0 := by omega
      rcases Int.mul_eq_zero.mp h3 with h4 | h4
      · exact i64_eq_of (h4.trans (by decide))
      · have := pw_pos k; omega
    · exact ih (fun k hk => hd k (by omega)) (by omega) k (by omega)
theorem PV.z0 {fd fd' : Nat → Int64} {s n : Nat} (h : PV fd fd' s n) (hn : n ≤ 14) (hv : SV fd' s n = 0) : Z0 fd' s := by
  intro k hk
  by_cases e : k < n
  · exact VL_zinv (f := fun k => fd' (14 * s + k)) (fun k hk => h.2.1 k (by omega)) hv k e
  · exact h.2.2 k (by omega) hk
theorem MS.frm {g : WG} {n0 : Nat → Prop} {H H' : Heap} {mo : Nat} {th pw td wr : Int32} {w n : Nat} {th' pw' td' wr' : Int32} {w' n' : Nat} {fd : Nat → Int64} {S : Nat → Prop} (h : MS g n0 H mo th pw td wr w n fd) (hk : FRM S H H') (h1 : ¬ S (mo + 1)) (h2 : ¬ S (mo + 2)) (h4 : ¬ S (mo + 4)) (h5 : ¬ S (mo + 5)) (ho : MO g H' mo th' (nI w') (nI n') pw' td' wr') : MS g n0 H' mo th' pw' td' wr' w' n' fd := by
  obtain ⟨_, a2, ⟨f, a3, a4⟩, ⟨f5, a5⟩, a6, a7, a8, a9⟩ := h
  exact ⟨ho, a2.off hk h2, ⟨f, a3.off hk h4, a4⟩, ⟨f5, a5.off hk h5⟩, a6.off hk h1, a7, a8, a9⟩
theorem zbit (x : Int64) : ((0 : Int64) >>> (x &&& 63) &&& 1).toInt32 = 0 := by
  have h : (0 : Int64) >>> (x &&& 63) = 0 := by
    apply Int64.toBitVec_inj.mp
    rw [Int64.toBitVec_shiftRight]
    show (0#64).sshiftRight' _ = 0#64
    rw [BitVec.sshiftRight_eq']
    apply BitVec.eq_of_toInt_eq
    rw [BitVec.toInt_sshiftRight]
    simp
  rw [h]
  decide
theorem cmp_self (x : Int64) : lg_cmp x x = 0 := by
  unfold lg_cmp
  rw [if_neg (fun h => absurd (Int64.lt_iff_toInt_lt.mp h) (Int.lt_irrefl _)), if_pos rfl]
abbrev y_Model_one : MethodName := ⟨"KateDeskModel", "one", "(I)V"⟩
theorem hd_Model_one : y_Model_one.cls ≠ "java/lang/invoke/MethodHandle" ∧ y_Model_one.cls ≠ "java/lang/invoke/VarHandle" ∧ (parseMethodDescriptor y_Model_one.desc).map (fun d => d.parameters.length) = some 1 := by decide +kernel
theorem d_Model_one_0 : decode prog_11_method_7_code 0 = .ok (.iconst 0, 1) := by decide +kernel
theorem d_Model_one_1 : decode prog_11_method_7_code 1 = .ok (.istore_n 2, 1) := by decide +kernel
theorem d_Model_one_2 : decode prog_11_method_7_code 2 = .ok (.iload_n 2, 1) := by decide +kernel
theorem d_Model_one_3 : decode prog_11_method_7_code 3 = .ok (.bipush 14, 2) := by decide +kernel
theorem d_Model_one_5 : decode prog_11_method_7_code 5 = .ok (.if_icmp .ge 29, 3) := by decide +kernel
theorem d_Model_one_8 : decode prog_11_method_7_code 8 = .ok (.aload_n 0, 1) := by decide +kernel
theorem d_Model_one_9 : decode prog_11_method_7_code 9 = .ok (.getfield 7, 3) := by decide +kernel
theorem d_Model_one_12 : decode prog_11_method_7_code 12 = .ok (.bipush 14, 2) := by decide +kernel
theorem d_Model_one_14 : decode prog_11_method_7_code 14 = .ok (.iload_n 1, 1) := by decide +kernel
theorem d_Model_one_15 : decode prog_11_method_7_code 15 = .ok (.imul, 1) := by decide +kernel
theorem d_Model_one_16 : decode prog_11_method_7_code 16 = .ok (.iload_n 2, 1) := by decide +kernel
theorem d_Model_one_17 : decode prog_11_method_7_code 17 = .ok (.iadd, 1) := by decide +kernel
theorem d_Model_one_18 : decode prog_11_method_7_code 18 = .ok (.iload_n 2, 1) := by decide +kernel
theorem d_Model_one_19 : decode prog_11_method_7_code 19 = .ok (.ifCond .ne 7, 3) := by decide +kernel
theorem d_Model_one_22 : decode prog_11_method_7_code 22 = .ok (.lconst 1, 1) := by decide +kernel
theorem d_Model_one_23 : decode prog_11_method_7_code 23 = .ok (.goto 4, 3) := by decide +kernel
theorem d_Model_one_26 : decode prog_11_method_7_code 26 = .ok (.lconst 0, 1) := by decide +kernel
theorem d_Model_one_27 : decode prog_11_method_7_code 27 = .ok (.lastore, 1) := by decide +kernel
theorem d_Model_one_28 : decode prog_11_method_7_code 28 = .ok (.iinc 2 1, 3) := by decide +kernel
theorem d_Model_one_31 : decode prog_11_method_7_code 31 = .ok (.goto (-29), 3) := by decide +kernel
theorem d_Model_one_34 : decode prog_11_method_7_code 34 = .ok (.return_, 1) := by decide +kernel
abbrev y_Model_zero : MethodName := ⟨"KateDeskModel", "zero", "(I)V"⟩
theorem hd_Model_zero : y_Model_zero.cls ≠ "java/lang/invoke/MethodHandle" ∧ y_Model_zero.cls ≠ "java/lang/invoke/VarHandle" ∧ (parseMethodDescriptor y_Model_zero.desc).map (fun d => d.parameters.length) = some 1 := by decide +kernel
theorem d_Model_zero_0 : decode prog_11_method_8_code 0 = .ok (.iconst 0, 1) := by decide +kernel
theorem d_Model_zero_1 : decode prog_11_method_8_code 1 = .ok (.istore_n 2, 1) := by decide +kernel
theorem d_Model_zero_2 : decode prog_11_method_8_code 2 = .ok (.iload_n 2, 1) := by decide +kernel
theorem d_Model_zero_3 : decode prog_11_method_8_code 3 = .ok (.bipush 14, 2) := by decide +kernel
theorem d_Model_zero_5 : decode prog_11_method_8_code 5 = .ok (.if_icmp .ge 21, 3) := by decide +kernel
theorem d_Model_zero_8 : decode prog_11_method_8_code 8 = .ok (.aload_n 0, 1) := by decide +kernel
theorem d_Model_zero_9 : decode prog_11_method_8_code 9 = .ok (.getfield 7, 3) := by decide +kernel
theorem d_Model_zero_12 : decode prog_11_method_8_code 12 = .ok (.bipush 14, 2) := by decide +kernel
theorem d_Model_zero_14 : decode prog_11_method_8_code 14 = .ok (.iload_n 1, 1) := by decide +kernel
theorem d_Model_zero_15 : decode prog_11_method_8_code 15 = .ok (.imul, 1) := by decide +kernel
theorem d_Model_zero_16 : decode prog_11_method_8_code 16 = .ok (.iload_n 2, 1) := by decide +kernel
theorem d_Model_zero_17 : decode prog_11_method_8_code 17 = .ok (.iadd, 1) := by decide +kernel
theorem d_Model_zero_18 : decode prog_11_method_8_code 18 = .ok (.lconst 0, 1) := by decide +kernel
theorem d_Model_zero_19 : decode prog_11_method_8_code 19 = .ok (.lastore, 1) := by decide +kernel
theorem d_Model_zero_20 : decode prog_11_method_8_code 20 = .ok (.iinc 2 1, 3) := by decide +kernel
theorem d_Model_zero_23 : decode prog_11_method_8_code 23 = .ok (.goto (-21), 3) := by decide +kernel
theorem d_Model_zero_26 : decode prog_11_method_8_code 26 = .ok (.return_, 1) := by decide +kernel
abbrev y_Model_move : MethodName := ⟨"KateDeskModel", "move", "(II)V"⟩
theorem hd_Model_move : y_Model_move.cls ≠ "java/lang/invoke/MethodHandle" ∧ y_Model_move.cls ≠ "java/lang/invoke/VarHandle" ∧ (parseMethodDescriptor y_Model_move.desc).map (fun d => d.parameters.length) = some 2 := by decide +kernel
theorem d_Model_move_0 : decode prog_11_method_9_code 0 = .ok (.iconst 0, 1) := by decide +kernel
theorem d_Model_move_1 : decode prog_11_method_9_code 1 = .ok (.istore_n 3, 1) := by decide +kernel
theorem d_Model_move_2 : decode prog_11_method_9_code 2 = .ok (.iload_n 3, 1) := by decide +kernel
theorem d_Model_move_3 : decode prog_11_method_9_code 3 = .ok (.bipush 14, 2) := by decide +kernel
theorem d_Model_move_5 : decode prog_11_method_9_code 5 = .ok (.if_icmp .ge 31, 3) := by decide +kernel
theorem d_Model_move_8 : decode prog_11_method_9_code 8 = .ok (.aload_n 0, 1) := by decide +kernel
theorem d_Model_move_9 : decode prog_11_method_9_code 9 = .ok (.getfield 7, 3) := by decide +kernel
theorem d_Model_move_12 : decode prog_11_method_9_code 12 = .ok (.bipush 14, 2) := by decide +kernel
theorem d_Model_move_14 : decode prog_11_method_9_code 14 = .ok (.iload_n 1, 1) := by decide +kernel
theorem d_Model_move_15 : decode prog_11_method_9_code 15 = .ok (.imul, 1) := by decide +kernel
theorem d_Model_move_16 : decode prog_11_method_9_code 16 = .ok (.iload_n 3, 1) := by decide +kernel
theorem d_Model_move_17 : decode prog_11_method_9_code 17 = .ok (.iadd, 1) := by decide +kernel
theorem d_Model_move_18 : decode prog_11_method_9_code 18 = .ok (.aload_n 0, 1) := by decide +kernel
theorem d_Model_move_19 : decode prog_11_method_9_code 19 = .ok (.getfield 7, 3) := by decide +kernel
theorem d_Model_move_22 : decode prog_11_method_9_code 22 = .ok (.bipush 14, 2) := by decide +kernel
theorem d_Model_move_24 : decode prog_11_method_9_code 24 = .ok (.iload_n 2, 1) := by decide +kernel
theorem d_Model_move_25 : decode prog_11_method_9_code 25 = .ok (.imul, 1) := by decide +kernel
theorem d_Model_move_26 : decode prog_11_method_9_code 26 = .ok (.iload_n 3, 1) := by decide +kernel
theorem d_Model_move_27 : decode prog_11_method_9_code 27 = .ok (.iadd, 1) := by decide +kernel
theorem d_Model_move_28 : decode prog_11_method_9_code 28 = .ok (.laload, 1) := by decide +kernel
theorem d_Model_move_29 : decode prog_11_method_9_code 29 = .ok (.lastore, 1) := by decide +kernel
theorem d_Model_move_30 : decode prog_11_method_9_code 30 = .ok (.iinc 3 1, 3) := by decide +kernel
theorem d_Model_move_33 : decode prog_11_method_9_code 33 = .ok (.goto (-31), 3) := by decide +kernel
theorem d_Model_move_36 : decode prog_11_method_9_code 36 = .ok (.return_, 1) := by decide +kernel
abbrev y_Model_bit : MethodName := ⟨"KateDeskModel", "bit", "(II)I"⟩
theorem hd_Model_bit : y_Model_bit.cls ≠ "java/lang/invoke/MethodHandle" ∧ y_Model_bit.cls ≠ "java/lang/invoke/VarHandle" ∧ (parseMethodDescriptor y_Model_bit.desc).map (fun d => d.parameters.length) = some 2 := by decide +kernel
theorem d_Model_bit_0 : decode prog_11_method_18_code 0 = .ok (.aload_n 0, 1) := by decide +kernel
theorem d_Model_bit_1 : decode prog_11_method_18_code 1 = .ok (.iload_n 1, 1) := by decide +kernel
theorem d_Model_bit_2 : decode prog_11_method_18_code 2 = .ok (.iload_n 2, 1) := by decide +kernel
theorem d_Model_bit_3 : decode prog_11_method_18_code 3 = .ok (.bipush 28, 2) := by decide +kernel
theorem d_Model_bit_5 : decode prog_11_method_18_code 5 = .ok (.idiv, 1) := by decide +kernel
theorem d_Model_bit_6 : decode prog_11_method_18_code 6 = .ok (.invokevirtual 164, 3) := by decide +kernel
theorem d_Model_bit_9 : decode prog_11_method_18_code 9 = .ok (.iload_n 2, 1) := by decide +kernel
theorem d_Model_bit_10 : decode prog_11_method_18_code 10 = .ok (.bipush 28, 2) := by decide +kernel
theorem d_Model_bit_12 : decode prog_11_method_18_code 12 = .ok (.irem, 1) := by decide +kernel
theorem d_Model_bit_13 : decode prog_11_method_18_code 13 = .ok (.lshr, 1) := by decide +kernel
theorem d_Model_bit_14 : decode prog_11_method_18_code 14 = .ok (.lconst 1, 1) := by decide +kernel
theorem d_Model_bit_15 : decode prog_11_method_18_code 15 = .ok (.land, 1) := by decide +kernel
theorem d_Model_bit_16 : decode prog_11_method_18_code 16 = .ok (.l2i, 1) := by decide +kernel
theorem d_Model_bit_17 : decode prog_11_method_18_code 17 = .ok (.ireturn, 1) := by decide +kernel
abbrev y_Model_isZero : MethodName := ⟨"KateDeskModel", "isZero", "(I)Z"⟩
theorem hd_Model_isZero : y_Model_isZero.cls ≠ "java/lang/invoke/MethodHandle" ∧ y_Model_isZero.cls ≠ "java/lang/invoke/VarHandle" ∧ (parseMethodDescriptor y_Model_isZero.desc).map (fun d => d.parameters.length) = some 1 := by decide +kernel
theorem d_Model_isZero_0 : decode prog_11_method_10_code 0 = .ok (.lconst 0, 1) := by decide +kernel
theorem d_Model_isZero_1 : decode prog_11_method_10_code 1 = .ok (.lstore_n 2, 1) := by decide +kernel
theorem d_Model_isZero_2 : decode prog_11_method_10_code 2 = .ok (.iconst 0, 1) := by decide +kernel
theorem d_Model_isZero_3 : decode prog_11_method_10_code 3 = .ok (.istore 4, 2) := by decide +kernel
theorem d_Model_isZero_5 : decode prog_11_method_10_code 5 = .ok (.iload 4, 2) := by decide +kernel
theorem d_Model_isZero_7 : decode prog_11_method_10_code 7 = .ok (.bipush 14, 2) := by decide +kernel
theorem d_Model_isZero_9 : decode prog_11_method_10_code 9 = .ok (.if_icmp .ge 19, 3) := by decide +kernel
theorem d_Model_isZero_12 : decode prog_11_method_10_code 12 = .ok (.lload_n 2, 1) := by decide +kernel
theorem d_Model_isZero_13 : decode prog_11_method_10_code 13 = .ok (.aload_n 0, 1) := by decide +kernel
theorem d_Model_isZero_14 : decode prog_11_method_10_code 14 = .ok (.iload_n 1, 1) := by decide +kernel
theorem d_Model_isZero_15 : decode prog_11_method_10_code 15 = .ok (.iload 4, 2) := by decide +kernel
theorem d_Model_isZero_17 : decode prog_11_method_10_code 17 = .ok (.invokevirtual 164, 3) := by decide +kernel
theorem d_Model_isZero_20 : decode prog_11_method_10_code 20 = .ok (.lor, 1) := by decide +kernel
theorem d_Model_isZero_21 : decode prog_11_method_10_code 21 = .ok (.lstore_n 2, 1) := by decide +kernel
theorem d_Model_isZero_22 : decode prog_11_method_10_code 22 = .ok (.iinc 4 1, 3) := by decide +kernel
theorem d_Model_isZero_25 : decode prog_11_method_10_code 25 = .ok (.goto (-20), 3) := by decide +kernel
theorem d_Model_isZero_28 : decode prog_11_method_10_code 28 = .ok (.lload_n 2, 1) := by decide +kernel
theorem d_Model_isZero_29 : decode prog_11_method_10_code 29 = .ok (.lconst 0, 1) := by decide +kernel
theorem d_Model_isZero_30 : decode prog_11_method_10_code 30 = .ok (.lcmp, 1) := by decide +kernel
theorem d_Model_isZero_31 : decode prog_11_method_10_code 31 = .ok (.ifCond .ne 7, 3) := by decide +kernel
theorem d_Model_isZero_34 : decode prog_11_method_10_code 34 = .ok (.iconst 1, 1) := by decide +kernel
theorem d_Model_isZero_35 : decode prog_11_method_10_code 35 = .ok (.goto 4, 3) := by decide +kernel
theorem d_Model_isZero_38 : decode prog_11_method_10_code 38 = .ok (.iconst 0, 1) := by decide +kernel
theorem d_Model_isZero_39 : decode prog_11_method_10_code 39 = .ok (.ireturn, 1) := by decide +kernel
abbrev y_Model_isSame : MethodName := ⟨"KateDeskModel", "isSame", "(II)Z"⟩
theorem hd_Model_isSame : y_Model_isSame.cls ≠ "java/lang/invoke/MethodHandle" ∧ y_Model_isSame.cls ≠ "java/lang/invoke/VarHandle" ∧ (parseMethodDescriptor y_Model_isSame.desc).map (fun d => d.parameters.length) = some 2 := by decide +kernel
theorem d_Model_isSame_0 : decode prog_11_method_11_code 0 = .ok (.iconst 1, 1) := by decide +kernel
theorem d_Model_isSame_1 : decode prog_11_method_11_code 1 = .ok (.istore_n 3, 1) := by decide +kernel
theorem d_Model_isSame_2 : decode prog_11_method_11_code 2 = .ok (.iconst 0, 1) := by decide +kernel
theorem d_Model_isSame_3 : decode prog_11_method_11_code 3 = .ok (.istore 4, 2) := by decide +kernel
theorem d_Model_isSame_5 : decode prog_11_method_11_code 5 = .ok (.iload 4, 2) := by decide +kernel
theorem d_Model_isSame_7 : decode prog_11_method_11_code 7 = .ok (.bipush 14, 2) := by decide +kernel
theorem d_Model_isSame_9 : decode prog_11_method_11_code 9 = .ok (.if_icmp .ge 37, 3) := by decide +kernel
theorem d_Model_isSame_12 : decode prog_11_method_11_code 12 = .ok (.iload_n 3, 1) := by decide +kernel
theorem d_Model_isSame_13 : decode prog_11_method_11_code 13 = .ok (.ifCond .eq 25, 3) := by decide +kernel
theorem d_Model_isSame_16 : decode prog_11_method_11_code 16 = .ok (.aload_n 0, 1) := by decide +kernel
theorem d_Model_isSame_17 : decode prog_11_method_11_code 17 = .ok (.iload_n 1, 1) := by decide +kernel
theorem d_Model_isSame_18 : decode prog_11_method_11_code 18 = .ok (.iload 4, 2) := by decide +kernel
theorem d_Model_isSame_20 : decode prog_11_method_11_code 20 = .ok (.invokevirtual 164, 3) := by decide +kernel
theorem d_Model_isSame_23 : decode prog_11_method_11_code 23 = .ok (.aload_n 0, 1) := by decide +kernel
theorem d_Model_isSame_24 : decode prog_11_method_11_code 24 = .ok (.iload_n 2, 1) := by decide +kernel
theorem d_Model_isSame_25 : decode prog_11_method_11_code 25 = .ok (.iload 4, 2) := by decide +kernel
theorem d_Model_isSame_27 : decode prog_11_method_11_code 27 = .ok (.invokevirtual 164, 3) := by decide +kernel
theorem d_Model_isSame_30 : decode prog_11_method_11_code 30 = .ok (.lcmp, 1) := by decide +kernel
theorem d_Model_isSame_31 : decode prog_11_method_11_code 31 = .ok (.ifCond .ne 7, 3) := by decide +kernel
theorem d_Model_isSame_34 : decode prog_11_method_11_code 34 = .ok (.iconst 1, 1) := by decide +kernel
theorem d_Model_isSame_35 : decode prog_11_method_11_code 35 = .ok (.goto 4, 3) := by decide +kernel
theorem d_Model_isSame_38 : decode prog_11_method_11_code 38 = .ok (.iconst 0, 1) := by decide +kernel
theorem d_Model_isSame_39 : decode prog_11_method_11_code 39 = .ok (.istore_n 3, 1) := by decide +kernel
theorem d_Model_isSame_40 : decode prog_11_method_11_code 40 = .ok (.iinc 4 1, 3) := by decide +kernel
theorem d_Model_isSame_43 : decode prog_11_method_11_code 43 = .ok (.goto (-38), 3) := by decide +kernel
theorem d_Model_isSame_46 : decode prog_11_method_11_code 46 = .ok (.iload_n 3, 1) := by decide +kernel
theorem d_Model_isSame_47 : decode prog_11_method_11_code 47 = .ok (.ireturn, 1) := by decide +kernel
abbrev y_Model_use : MethodName := ⟨"KateDeskModel", "use", "(I)V"⟩
theorem hd_Model_use : y_Model_use.cls ≠ "java/lang/invoke/MethodHandle" ∧ y_Model_use.cls ≠ "java/lang/invoke/VarHandle" ∧ (parseMethodDescriptor y_Model_use.desc).map (fun d => d.parameters.length) = some 1 := by decide +kernel
theorem d_Model_use_0 : decode prog_11_method_5_code 0 = .ok (.aload_n 0, 1) := by decide +kernel
theorem d_Model_use_1 : decode prog_11_method_5_code 1 = .ok (.iload_n 1, 1) := by decide +kernel
theorem d_Model_use_2 : decode prog_11_method_5_code 2 = .ok (.putfield 161, 3) := by decide +kernel
theorem d_Model_use_5 : decode prog_11_method_5_code 5 = .ok (.aload_n 0, 1) := by decide +kernel
theorem d_Model_use_6 : decode prog_11_method_5_code 6 = .ok (.iload_n 1, 1) := by decide +kernel
theorem d_Model_use_7 : decode prog_11_method_5_code 7 = .ok (.ifCond .ne 8, 3) := by decide +kernel
theorem d_Model_use_10 : decode prog_11_method_5_code 10 = .ok (.bipush 14, 2) := by decide +kernel
theorem d_Model_use_12 : decode prog_11_method_5_code 12 = .ok (.goto 5, 3) := by decide +kernel
theorem d_Model_use_15 : decode prog_11_method_5_code 15 = .ok (.bipush 10, 2) := by decide +kernel
theorem d_Model_use_17 : decode prog_11_method_5_code 17 = .ok (.putfield 144, 3) := by decide +kernel
theorem d_Model_use_20 : decode prog_11_method_5_code 20 = .ok (.return_, 1) := by decide +kernel
abbrev y_Model_fails : MethodName := ⟨"KateDeskModel", "fails", "(ZI)Z"⟩
theorem hd_Model_fails : y_Model_fails.cls ≠ "java/lang/invoke/MethodHandle" ∧ y_Model_fails.cls ≠ "java/lang/invoke/VarHandle" ∧ (parseMethodDescriptor y_Model_fails.desc).map (fun d => d.parameters.length) = some 2 := by decide +kernel
theorem d_Model_fails_0 : decode prog_11_method_3_code 0 = .ok (.aload_n 0, 1) := by decide +kernel
theorem d_Model_fails_1 : decode prog_11_method_3_code 1 = .ok (.iload_n 1, 1) := by decide +kernel
theorem d_Model_fails_2 : decode prog_11_method_3_code 2 = .ok (.ifCond .eq 7, 3) := by decide +kernel
theorem d_Model_fails_5 : decode prog_11_method_3_code 5 = .ok (.iload_n 2, 1) := by decide +kernel
theorem d_Model_fails_6 : decode prog_11_method_3_code 6 = .ok (.goto 4, 3) := by decide +kernel
theorem d_Model_fails_9 : decode prog_11_method_3_code 9 = .ok (.iconst 0, 1) := by decide +kernel
theorem d_Model_fails_10 : decode prog_11_method_3_code 10 = .ok (.putfield 158, 3) := by decide +kernel
theorem d_Model_fails_13 : decode prog_11_method_3_code 13 = .ok (.iload_n 1, 1) := by decide +kernel
theorem d_Model_fails_14 : decode prog_11_method_3_code 14 = .ok (.ireturn, 1) := by decide +kernel
set_option maxHeartbeats 4000000 in
set_option maxRecDepth 100000 in
/-- one -/
theorem c_Model_one (l : Launch) (g : WG) (n0 : Nat → Prop) (mo r : Nat) (th pw td wr : Int32) (w n : Nat) (hw : WH w n) (fd : Nat → Int64) (hr1 : r < 170) : Ctr l y_Model_one (.code y_Model_one prog_11_method_7_code 3 none) 0 0 0 0 n0 g [.ref mo, .int (nI r)] (fun H => MS g n0 H mo th pw td wr w n fd) (QV (fun H H' => FRM (MR mo) H H' ∧ ∃ fd', MS g n0 H' mo th pw td wr w n fd' ∧ PW fd fd' r (fun k => (if k = 0 then 1 else 0 : Int64)))) := by
  refine ctr_mk l (lv0 := [(0, .ref mo), (1, .int (nI r))]) (by decide) (Nat.le_of_ble_eq_true rfl) rfl ?_
  intro p e s m below meth c ls E hr hlk hnm hl hP
  have hx := E.1
  have hb := E.2.1
  have hK := E.2.2.2.2.2
  have hF : ∀ q ∈ ([] : List Loc), n0 q.base := fun q hq => absurd hq List.not_mem_nil
  obtain ⟨hmo, hpr, ⟨fa, hab, had⟩, ⟨fc, hac⟩, hfd, hDD, hn01, hn05⟩ := id hP
  obtain ⟨hpd, hn1, hn14, hw1, hPT, hP1, hT0, hT1⟩ := wh_kP hw
  have loop : ∀ (k : Nat) (i : Nat) (H : Heap) (locs : List Loc) (ls : Array Slot) (fd1 : Nat → Int64), i + k = 14 → KJ g (fun q => q = mo + 1) s.heap H → AJ g H (mo + 1) 2380 fd1 → (∀ j, (j < 14 * r ∨ 14 * r + 14 ≤ j) → fd1 j = fd j) → (∀ k, k < i → fd1 (14 * r + k) = (fun k => (if k = 0 then 1 else 0 : Int64)) k) → (∀ q ∈ locs, n0 q.base) → lv_has ls 3 [(2, .int (nI i)), (0, .ref mo), (1, .int (nI r))] → W p l e { frames := 0, cells := 0, slots := 0, locals := 0 } s m [.ref mo, .int (nI r)].toArray below meth c H locs 0 0 (MQ below (QcP (QV (fun H H' => FRM (MR mo) H H' ∧ ∃ fd', MS g n0 H' mo th pw td wr w n fd' ∧ PW fd fd' r (fun k => (if k = 0 then 1 else 0 : Int64))))) [.ref mo, .int (nI r)].toArray s 0 0 (fun q => n0 q)) (F0 m 2 ls []) := by
    intro k
    induction k with
    | zero =>
      intro  i   H   locs   ls   fd1 hi hk hfd ho hlow hF hl
      obtain rfl : i = 14 := by omega
      refine lv_iload_n hx hb d_Model_one_2 rfl (lv_at hl 0 rfl) ?_
      refine lv_bipush (v := nI 14) hx hb d_Model_one_3 (by decide) ?_
      refine lv_icmp_ge (tgt := 34) hx hb d_Model_one_5 (by decide) (fun _ => ?_) (fun h9 => absurd (by decide) h9)
      have hpw : PW fd fd1 r (fun k => (if k = 0 then 1 else 0 : Int64)) := ⟨ho, hlow⟩
      exact q_vret E hr hlk (⟨rfl, kjR1 hk, fd1, hP.step hK (hk.mono (fun q h => Or.inl h)) hfd (hpw.dd (fun k hk1 => by show dg (if k = 0 then 1 else 0); split <;> exact ⟨by decide, by decide⟩) hDD), hpw⟩) hF d_Model_one_34
    | succ k ih =>
      intro  i   H   locs   ls   fd1 hi hk hfd ho hlow hF hl
      refine lv_iload_n hx hb d_Model_one_2 rfl (lv_at hl 0 rfl) ?_
      refine lv_bipush (v := nI 14) hx hb d_Model_one_3 (by decide) ?_
      refine lv_icmp_ge (tgt := 34) hx hb d_Model_one_5 (by decide) (fun h9 => absurd h9 (nI_ge (by omega) (by decide))) (fun _ => ?_)
      refine lv_aload_n hx hb d_Model_one_8 rfl (lv_at hl 1 rfl) ?_
      refine q_get (C := "KateDeskModel") (T := T_Model) (N := 14) (ci := 8) E (hk.ob hK hmo) in_Model rfl 1 (by decide) w_1002 rfl rfl d_Model_one_9 ?_
      refine lv_bipush (v := nI 14) hx hb d_Model_one_12 (by decide) ?_
      refine lv_iload_n hx hb d_Model_one_14 rfl (lv_at hl 2 rfl) ?_
      refine lv_imul hx hb d_Model_one_15 ?_
      refine lv_topi (fun t9 e9 => ?_)
      obtain rfl : t9 = nI (14 * r) := e9.trans (pk_mul _ _)
      refine lv_iload_n hx hb d_Model_one_16 rfl (lv_at hl 0 rfl) ?_
      refine lv_iadd hx hb d_Model_one_17 ?_
      refine lv_topi (fun t9 e9 => ?_)
      obtain rfl : t9 = nI (14 * r + i) := e9.trans (nI_add _ _)
      refine lv_iload_n hx hb d_Model_one_18 rfl (lv_at hl 0 rfl) ?_
      refine lv_if_ne (tgt := 26) hx hb d_Model_one_19 (by decide) (fun hi0 => ?_) (fun hi0 => ?_)
      rotate_left
      · skip
        have hi0 : i = 0 := by rcases Nat.eq_zero_or_pos i with h | h; exact h; exact absurd hi0 (nI_ne0 h (by omega))
        refine lv_lconst (v := 1) hx hb d_Model_one_22 (by decide) ?_
        refine lv_goto (tgt := 27) hx hb d_Model_one_23 (by decide) ?_
        have hv9 : 1 = (fun k => (if k = 0 then 1 else 0 : Int64)) i := by subst hi0; rfl
        refine q_last E hfd hn01 hF (14 * r + i) rfl (by omega) (by decide) d_Model_one_27 (fun H1 locs hq hfd2 hF => ?_)
        have hk := hk.tr hq
        refine lv_iinc (k := 0) (v := nI (i + 1)) (lv' := [(2, .int (nI (i + 1))), (0, .ref mo), (1, .int (nI r))]) hx hb d_Model_one_28 hl rfl (i_inc i) (by decide) rfl (fun ls hl => ?_)
        refine lv_goto (tgt := 2) hx hb d_Model_one_31 (by decide) ?_
        have hl : lv_has ls 3 [(2, .int (nI (i + 1))), (0, .ref mo), (1, .int (nI r))] := lv_sub hl [0, 1, 2] rfl
        exact ih (i + 1) H1 _ ls _ (by omega) hk hfd2 (fun j hj => by simp only [vp_updL, show j ≠ 14 * r + i by omega, if_false]; exact ho j hj) (fun k hk1 => by by_cases e : k = i; (subst e; exact pk_uLs.trans hv9); (simp only [vp_updL, show 14 * r + k ≠ 14 * r + i by omega, if_false]; exact hlow k (by omega))) hF hl
      have hi0 : i ≠ 0 := fun h => hi0 (by rw [h]; rfl)
      refine lv_lconst (v := 0) hx hb d_Model_one_26 (by decide) ?_
      have hv9 : 0 = (fun k => (if k = 0 then 1 else 0 : Int64)) i := by show 0 = if i = 0 then 1 else 0; rw [if_neg hi0]
      refine q_last E hfd hn01 hF (14 * r + i) rfl (by omega) (by decide) d_Model_one_27 (fun H1 locs hq hfd2 hF => ?_)
      have hk := hk.tr hq
      refine lv_iinc (k := 0) (v := nI (i + 1)) (lv' := [(2, .int (nI (i + 1))), (0, .ref mo), (1, .int (nI r))]) hx hb d_Model_one_28 hl rfl (i_inc i) (by decide) rfl (fun ls hl => ?_)
      refine lv_goto (tgt := 2) hx hb d_Model_one_31 (by decide) ?_
      have hl : lv_has ls 3 [(2, .int (nI (i + 1))), (0, .ref mo), (1, .int (nI r))] := lv_sub hl [0, 1, 2] rfl
      exact ih (i + 1) H1 _ ls _ (by omega) hk hfd2 (fun j hj => by simp only [vp_updL, show j ≠ 14 * r + i by omega, if_false]; exact ho j hj) (fun k hk1 => by by_cases e : k = i; (subst e; exact pk_uLs.trans hv9); (simp only [vp_updL, show 14 * r + k ≠ 14 * r + i by omega, if_false]; exact hlow k (by omega))) hF hl
  refine lv_iconst (v := nI 0) hx hb d_Model_one_0 (by decide) ?_
  refine lv_istore_n (lv' := [(2, .int (nI 0)), (0, .ref mo), (1, .int (nI r))]) hx hb d_Model_one_1 rfl hl (by decide) rfl (fun ls hl => ?_)
  have hl : lv_has ls 3 [(2, .int (nI 0)), (0, .ref mo), (1, .int (nI r))] := lv_sub hl [0, 1, 2] rfl
  exact loop 14 0 s.heap [] ls fd (by omega) KJ.rf hfd (fun _ _ => rfl) (fun k hk1 => absurd hk1 (Nat.not_lt_zero _)) hF hl
set_option maxHeartbeats 4000000 in
set_option maxRecDepth 100000 in
/-- zero -/
theorem c_Model_zero (l : Launch) (g : WG) (n0 : Nat → Prop) (mo r : Nat) (th pw td wr : Int32) (w n : Nat) (hw : WH w n) (fd : Nat → Int64) (hr1 : r < 170) : Ctr l y_Model_zero (.code y_Model_zero prog_11_method_8_code 3 none) 0 0 0 0 n0 g [.ref mo, .int (nI r)] (fun H => MS g n0 H mo th pw td wr w n fd) (QV (fun H H' => FRM (MR mo) H H' ∧ ∃ fd', MS g n0 H' mo th pw td wr w n fd' ∧ PW fd fd' r (fun k => (0 : Int64)))) := by
  refine ctr_mk l (lv0 := [(0, .ref mo), (1, .int (nI r))]) (by decide) (Nat.le_of_ble_eq_true rfl) rfl ?_
  intro p e s m below meth c ls E hr hlk hnm hl hP
  have hx := E.1
  have hb := E.2.1
  have hK := E.2.2.2.2.2
  have hF : ∀ q ∈ ([] : List Loc), n0 q.base := fun q hq => absurd hq List.not_mem_nil
  obtain ⟨hmo, hpr, ⟨fa, hab, had⟩, ⟨fc, hac⟩, hfd, hDD, hn01, hn05⟩ := id hP
  obtain ⟨hpd, hn1, hn14, hw1, hPT, hP1, hT0, hT1⟩ := wh_kP hw
  have loop : ∀ (k : Nat) (i : Nat) (H : Heap) (locs : List Loc) (ls : Array Slot) (fd1 : Nat → Int64), i + k = 14 → KJ g (fun q => q = mo + 1) s.heap H → AJ g H (mo + 1) 2380 fd1 → (∀ j, (j < 14 * r ∨ 14 * r + 14 ≤ j) → fd1 j = fd j) → (∀ k, k < i → fd1 (14 * r + k) = (fun k => (0 : Int64)) k) → (∀ q ∈ locs, n0 q.base) → lv_has ls 3 [(2, .int (nI i)), (0, .ref mo), (1, .int (nI r))] → W p l e { frames := 0, cells := 0, slots := 0, locals := 0 } s m [.ref mo, .int (nI r)].toArray below meth c H locs 0 0 (MQ below (QcP (QV (fun H H' => FRM (MR mo) H H' ∧ ∃ fd', MS g n0 H' mo th pw td wr w n fd' ∧ PW fd fd' r (fun k => (0 : Int64))))) [.ref mo, .int (nI r)].toArray s 0 0 (fun q => n0 q)) (F0 m 2 ls []) := by
    intro k
    induction k with
    | zero =>
      intro  i   H   locs   ls   fd1 hi hk hfd ho hlow hF hl
      obtain rfl : i = 14 := by omega
      refine lv_iload_n hx hb d_Model_zero_2 rfl (lv_at hl 0 rfl) ?_
      refine lv_bipush (v := nI 14) hx hb d_Model_zero_3 (by decide) ?_
      refine lv_icmp_ge (tgt := 26) hx hb d_Model_zero_5 (by decide) (fun _ => ?_) (fun h9 => absurd (by decide) h9)
      have hpw : PW fd fd1 r (fun k => (0 : Int64)) := ⟨ho, hlow⟩
      exact q_vret E hr hlk (⟨rfl, kjR1 hk, fd1, hP.step hK (hk.mono (fun q h => Or.inl h)) hfd (hpw.dd (fun k hk1 => ⟨by decide, by decide⟩) hDD), hpw⟩) hF d_Model_zero_26
    | succ k ih =>
      intro  i   H   locs   ls   fd1 hi hk hfd ho hlow hF hl
      refine lv_iload_n hx hb d_Model_zero_2 rfl (lv_at hl 0 rfl) ?_
      refine lv_bipush (v := nI 14) hx hb d_Model_zero_3 (by decide) ?_
      refine lv_icmp_ge (tgt := 26) hx hb d_Model_zero_5 (by decide) (fun h9 => absurd h9 (nI_ge (by omega) (by decide))) (fun _ => ?_)
      refine lv_aload_n hx hb d_Model_zero_8 rfl (lv_at hl 1 rfl) ?_
      refine q_get (C := "KateDeskModel") (T := T_Model) (N := 14) (ci := 8) E (hk.ob hK hmo) in_Model rfl 1 (by decide) w_1002 rfl rfl d_Model_zero_9 ?_
      refine lv_bipush (v := nI 14) hx hb d_Model_zero_12 (by decide) ?_
      refine lv_iload_n hx hb d_Model_zero_14 rfl (lv_at hl 2 rfl) ?_
      refine lv_imul hx hb d_Model_zero_15 ?_
      refine lv_topi (fun t9 e9 => ?_)
      obtain rfl : t9 = nI (14 * r) := e9.trans (pk_mul _ _)
      refine lv_iload_n hx hb d_Model_zero_16 rfl (lv_at hl 0 rfl) ?_
      refine lv_iadd hx hb d_Model_zero_17 ?_
      refine lv_topi (fun t9 e9 => ?_)
      obtain rfl : t9 = nI (14 * r + i) := e9.trans (nI_add _ _)
      refine lv_lconst (v := 0) hx hb d_Model_zero_18 (by decide) ?_
      have hv9 : 0 = (fun k => (0 : Int64)) i := rfl
      refine q_last E hfd hn01 hF (14 * r + i) rfl (by omega) (by decide) d_Model_zero_19 (fun H1 locs hq hfd2 hF => ?_)
      have hk := hk.tr hq
      refine lv_iinc (k := 0) (v := nI (i + 1)) (lv' := [(2, .int (nI (i + 1))), (0, .ref mo), (1, .int (nI r))]) hx hb d_Model_zero_20 hl rfl (i_inc i) (by decide) rfl (fun ls hl => ?_)
      refine lv_goto (tgt := 2) hx hb d_Model_zero_23 (by decide) ?_
      have hl : lv_has ls 3 [(2, .int (nI (i + 1))), (0, .ref mo), (1, .int (nI r))] := lv_sub hl [0, 1, 2] rfl
      exact ih (i + 1) H1 _ ls _ (by omega) hk hfd2 (fun j hj => by simp only [vp_updL, show j ≠ 14 * r + i by omega, if_false]; exact ho j hj) (fun k hk1 => by by_cases e : k = i; (subst e; exact pk_uLs.trans hv9); (simp only [vp_updL, show 14 * r + k ≠ 14 * r + i by omega, if_false]; exact hlow k (by omega))) hF hl
  refine lv_iconst (v := nI 0) hx hb d_Model_zero_0 (by decide) ?_
  refine lv_istore_n (lv' := [(2, .int (nI 0)), (0, .ref mo), (1, .int (nI r))]) hx hb d_Model_zero_1 rfl hl (by decide) rfl (fun ls hl => ?_)
  have hl : lv_has ls 3 [(2, .int (nI 0)), (0, .ref mo), (1, .int (nI r))] := lv_sub hl [0, 1, 2] rfl
  exact loop 14 0 s.heap [] ls fd (by omega) KJ.rf hfd (fun _ _ => rfl) (fun k hk1 => absurd hk1 (Nat.not_lt_zero _)) hF hl
set_option maxHeartbeats 4000000 in
set_option maxRecDepth 100000 in
/-- move -/
theorem c_Model_move (l : Launch) (g : WG) (n0 : Nat → Prop) (mo r a : Nat) (th pw td wr : Int32) (w n : Nat) (hw : WH w n) (fd : Nat → Int64) (hr1 : r < 170) (ha : a < 170) : Ctr l y_Model_move (.code y_Model_move prog_11_method_9_code 4 none) 0 0 0 0 n0 g [.ref mo, .int (nI r), .int (nI a)] (fun H => MS g n0 H mo th pw td wr w n fd) (QV (fun H H' => FRM (MR mo) H H' ∧ ∃ fd', MS g n0 H' mo th pw td wr w n fd' ∧ PW fd fd' r (fun k => fd (14 * a + k)))) := by
  refine ctr_mk l (lv0 := [(0, .ref mo), (1, .int (nI r)), (2, .int (nI a))]) (by decide) (Nat.le_of_ble_eq_true rfl) rfl ?_
  intro p e s m below meth c ls E hr hlk hnm hl hP
  have hx := E.1
  have hb := E.2.1
  have hK := E.2.2.2.2.2
  have hF : ∀ q ∈ ([] : List Loc), n0 q.base := fun q hq => absurd hq List.not_mem_nil
  obtain ⟨hmo, hpr, ⟨fa, hab, had⟩, ⟨fc, hac⟩, hfd, hDD, hn01, hn05⟩ := id hP
  obtain ⟨hpd, hn1, hn14, hw1, hPT, hP1, hT0, hT1⟩ := wh_kP hw
  have loop : ∀ (k : Nat) (i : Nat) (H : Heap) (locs : List Loc) (ls : Array Slot) (fd1 : Nat → Int64), i + k = 14 → KJ g (fun q => q = mo + 1) s.heap H → AJ g H (mo + 1) 2380 fd1 → (∀ j, (j < 14 * r ∨ 14 * r + 14 ≤ j) → fd1 j = fd j) → (∀ k, k < i → fd1 (14 * r + k) = (fun k => fd (14 * a + k)) k) → (∀ k, i ≤ k → k < 14 → fd1 (14 * a + k) = fd (14 * a + k)) → (∀ q ∈ locs, n0 q.base) → lv_has ls 4 [(3, .int (nI i)), (0, .ref mo), (1, .int (nI r)), (2, .int (nI a))] → W p l e { frames := 0, cells := 0, slots := 0, locals := 0 } s m [.ref mo, .int (nI r), .int (nI a)].toArray below meth c H locs 0 0 (MQ below (QcP (QV (fun H H' => FRM (MR mo) H H' ∧ ∃ fd', MS g n0 H' mo th pw td wr w n fd' ∧ PW fd fd' r (fun k => fd (14 * a + k))))) [.ref mo, .int (nI r), .int (nI a)].toArray s 0 0 (fun q => n0 q)) (F0 m 2 ls []) := by
    intro k
    induction k with
    | zero =>
      intro  i   H   locs   ls   fd1 hi hk hfd ho hlow hsrc hF hl
      obtain rfl : i = 14 := by omega
      refine lv_iload_n hx hb d_Model_move_2 rfl (lv_at hl 0 rfl) ?_
      refine lv_bipush (v := nI 14) hx hb d_Model_move_3 (by decide) ?_
      refine lv_icmp_ge (tgt := 36) hx hb d_Model_move_5 (by decide) (fun _ => ?_) (fun h9 => absurd (by decide) h9)
      have hpw : PW fd fd1 r (fun k => fd (14 * a + k)) := ⟨ho, hlow⟩
      exact q_vret E hr hlk (⟨rfl, kjR1 hk, fd1, hP.step hK (hk.mono (fun q h => Or.inl h)) hfd (hpw.dd (fun k hk1 => hDD _ (by omega)) hDD), hpw⟩) hF d_Model_move_36
    | succ k ih =>
      intro  i   H   locs   ls   fd1 hi hk hfd ho hlow hsrc hF hl
      refine lv_iload_n hx hb d_Model_move_2 rfl (lv_at hl 0 rfl) ?_
      refine lv_bipush (v := nI 14) hx hb d_Model_move_3 (by decide) ?_
      refine lv_icmp_ge (tgt := 36) hx hb d_Model_move_5 (by decide) (fun h9 => absurd h9 (nI_ge (by omega) (by decide))) (fun _ => ?_)
      refine lv_aload_n hx hb d_Model_move_8 rfl (lv_at hl 1 rfl) ?_
      refine q_get (C := "KateDeskModel") (T := T_Model) (N := 14) (ci := 8) E (hk.ob hK hmo) in_Model rfl 1 (by decide) w_1002 rfl rfl d_Model_move_9 ?_
      refine lv_bipush (v := nI 14) hx hb d_Model_move_12 (by decide) ?_
      refine lv_iload_n hx hb d_Model_move_14 rfl (lv_at hl 2 rfl) ?_
      refine lv_imul hx hb d_Model_move_15 ?_
      refine lv_topi (fun t9 e9 => ?_)
      obtain rfl : t9 = nI (14 * r) := e9.trans (pk_mul _ _)
      refine lv_iload_n hx hb d_Model_move_16 rfl (lv_at hl 0 rfl) ?_
      refine lv_iadd hx hb d_Model_move_17 ?_
      refine lv_topi (fun t9 e9 => ?_)
      obtain rfl : t9 = nI (14 * r + i) := e9.trans (nI_add _ _)
      refine lv_aload_n hx hb d_Model_move_18 rfl (lv_at hl 1 rfl) ?_
      refine q_get (C := "KateDeskModel") (T := T_Model) (N := 14) (ci := 8) E (hk.ob hK hmo) in_Model rfl 1 (by decide) w_1002 rfl rfl d_Model_move_19 ?_
      refine lv_bipush (v := nI 14) hx hb d_Model_move_22 (by decide) ?_
      refine lv_iload_n hx hb d_Model_move_24 rfl (lv_at hl 3 rfl) ?_
      refine lv_imul hx hb d_Model_move_25 ?_
      refine lv_topi (fun t9 e9 => ?_)
      obtain rfl : t9 = nI (14 * a) := e9.trans (pk_mul _ _)
      refine lv_iload_n hx hb d_Model_move_26 rfl (lv_at hl 0 rfl) ?_
      refine lv_iadd hx hb d_Model_move_27 ?_
      refine lv_topi (fun t9 e9 => ?_)
      obtain rfl : t9 = nI (14 * a + i) := e9.trans (nI_add _ _)
      refine q_lald (N := 2380) (f := fd1) E hfd (14 * a + i) rfl (by omega) (by decide) d_Model_move_28 ?_
      have hv9 : fd1 (14 * a + i) = (fun k => fd (14 * a + k)) i := hsrc i (Nat.le_refl _) (by omega)
      refine q_last E hfd hn01 hF (14 * r + i) rfl (by omega) (by decide) d_Model_move_29 (fun H1 locs hq hfd2 hF => ?_)
      have hk := hk.tr hq
      refine lv_iinc (k := 0) (v := nI (i + 1)) (lv' := [(3, .int (nI (i + 1))), (0, .ref mo), (1, .int (nI r)), (2, .int (nI a))]) hx hb d_Model_move_30 hl rfl (i_inc i) (by decide) rfl (fun ls hl => ?_)
      refine lv_goto (tgt := 2) hx hb d_Model_move_33 (by decide) ?_
      have hl : lv_has ls 4 [(3, .int (nI (i + 1))), (0, .ref mo), (1, .int (nI r)), (2, .int (nI a))] := lv_sub hl [0, 1, 2, 3] rfl
      exact ih (i + 1) H1 _ ls _ (by omega) hk hfd2 (fun j hj => by simp only [vp_updL, show j ≠ 14 * r + i by omega, if_false]; exact ho j hj) (fun k hk1 => by by_cases e : k = i; (subst e; exact pk_uLs.trans hv9); (simp only [vp_updL, show 14 * r + k ≠ 14 * r + i by omega, if_false]; exact hlow k (by omega))) (fun k hk1 hk2 => by simp only [vp_updL, show 14 * a + k ≠ 14 * r + i by omega, if_false]; exact hsrc k (by omega) hk2) hF hl
  refine lv_iconst (v := nI 0) hx hb d_Model_move_0 (by decide) ?_
  refine lv_istore_n (lv' := [(3, .int (nI 0)), (0, .ref mo), (1, .int (nI r)), (2, .int (nI a))]) hx hb d_Model_move_1 rfl hl (by decide) rfl (fun ls hl => ?_)
  have hl : lv_has ls 4 [(3, .int (nI 0)), (0, .ref mo), (1, .int (nI r)), (2, .int (nI a))] := lv_sub hl [0, 1, 2, 3] rfl
  exact loop 14 0 s.heap [] ls fd (by omega) KJ.rf hfd (fun _ _ => rfl) (fun k hk1 => absurd hk1 (Nat.not_lt_zero _)) (fun _ _ _ => rfl) hF hl
set_option maxHeartbeats 4000000 in
set_option maxRecDepth 100000 in
theorem c_Model_use (l : Launch) (g : WG) (n0 : Nat → Prop) (mo : Nat) (th pw td wr : Int32) (w n : Nat) (hw : WH w n) (w2 n2 : Nat) (hw2 : WH w2 n2) (fd : Nat → Int64) (hmn : n0 mo) : Ctr l y_Model_use (.code y_Model_use prog_11_method_5_code 2 none) 0 0 0 0 n0 g [.ref mo, .int (nI w2)] (fun H => MS g n0 H mo th pw td wr w n fd) (QV (fun H H' => FRM (MR mo) H H' ∧ MS g n0 H' mo th pw td wr w2 n2 fd)) := by
  refine ctr_mk l (lv0 := [(0, .ref mo), (1, .int (nI w2))]) (by decide) (Nat.le_of_ble_eq_true rfl) rfl ?_
  intro p e s m below meth c ls E hr hlk hnm hl hP
  have hx := E.1
  have hb := E.2.1
  have hK := E.2.2.2.2.2
  have hF : ∀ q ∈ ([] : List Loc), n0 q.base := fun q hq => absurd hq List.not_mem_nil
  obtain ⟨hmo, hpr, ⟨fa, hab, had⟩, ⟨fc, hac⟩, hfd, hDD, hn01, hn05⟩ := id hP
  refine lv_aload_n hx hb d_Model_use_0 rfl (lv_at hl 0 rfl) ?_
  refine lv_iload_n hx hb d_Model_use_1 rfl (lv_at hl 1 rfl) ?_
  refine q_put (C := "KateDeskModel") (T := T_Model) (N := 14) (ci := 8) (ty := .int) E hmo in_Model ty_Model tyok_Model nm_Model rfl 6 (by decide) w_1007 rfl rfl (by decide +kernel) rfl rfl (Nat.le_of_ble_eq_true rfl) hmn hF d_Model_use_2 (fun H1 locs hq ho2 hF => ?_)
  have hfr := hq
  refine lv_aload_n hx hb d_Model_use_5 rfl (lv_at hl 0 rfl) ?_
  refine lv_iload_n hx hb d_Model_use_6 rfl (lv_at hl 1 rfl) ?_
  refine lv_if_ne (tgt := 15) hx hb d_Model_use_7 (by decide) (fun hc => ?_) (fun hc => ?_)
  rotate_left
  · skip
    rcases hw2 with ⟨rfl, rfl⟩ | ⟨rfl, rfl⟩
    · skip
      refine lv_bipush (v := nI 14) hx hb d_Model_use_10 (by decide) ?_
      refine lv_goto (tgt := 17) hx hb d_Model_use_12 (by decide) ?_
      refine q_put (C := "KateDeskModel") (T := T_Model) (N := 14) (ci := 8) (ty := .int) E ho2 in_Model ty_Model tyok_Model nm_Model rfl 7 (by decide) w_1008 rfl rfl (by decide +kernel) rfl rfl (Nat.le_of_ble_eq_true rfl) hmn hF d_Model_use_17 (fun H2 locs hq2 ho3 hF => ?_)
      have hfr := hfr.tr hq2
      exact q_vret E hr hlk (⟨rfl, hfr.mono (fun q h => Or.inl h), hP.frm hfr (by omega) (by omega) (by omega) (by omega) (ho3)⟩) hF d_Model_use_20
    · exact absurd hc (by decide)
  rcases hw2 with ⟨rfl, rfl⟩ | ⟨rfl, rfl⟩
  · exact absurd rfl hc
  · skip
    refine lv_bipush (v := nI 10) hx hb d_Model_use_15 (by decide) ?_
    refine q_put (C := "KateDeskModel") (T := T_Model) (N := 14) (ci := 8) (ty := .int) E ho2 in_Model ty_Model tyok_Model nm_Model rfl 7 (by decide) w_1008 rfl rfl (by decide +kernel) rfl rfl (Nat.le_of_ble_eq_true rfl) hmn hF d_Model_use_17 (fun H2 locs hq2 ho3 hF => ?_)
    have hfr := hfr.tr hq2
    exact q_vret E hr hlk (⟨rfl, hfr.mono (fun q h => Or.inl h), hP.frm hfr (by omega) (by omega) (by omega) (by omega) (ho3)⟩) hF d_Model_use_20
set_option maxHeartbeats 4000000 in
set_option maxRecDepth 100000 in
theorem c_Model_fails (l : Launch) (g : WG) (n0 : Nat → Prop) (mo : Nat) (th pw td wr : Int32) (w n : Nat) (hw : WH w n) (bv cv : Int32) (fd : Nat → Int64) (hmn : n0 mo) (hbv : bv = 1 ∨ bv = 0) : Ctr l y_Model_fails (.code y_Model_fails prog_11_method_3_code 3 (some FieldType.boolean)) 0 0 0 0 n0 g [.ref mo, .int bv, .int cv] (fun H => MS g n0 H mo th pw td wr w n fd) (QI (fun r H H' => r = bv ∧ FRM (MR mo) H H' ∧ MS g n0 H' mo (if bv = 0 then 0 else cv) pw td wr w n fd)) := by
  refine ctr_mk l (lv0 := [(0, .ref mo), (1, .int bv), (2, .int cv)]) (by decide) (Nat.le_of_ble_eq_true rfl) rfl ?_
  intro p e s m below meth c ls E hr hlk hnm hl hP
  have hx := E.1
  have hb := E.2.1
  have hK := E.2.2.2.2.2
  have hF : ∀ q ∈ ([] : List Loc), n0 q.base := fun q hq => absurd hq List.not_mem_nil
  obtain ⟨hmo, hpr, ⟨fa, hab, had⟩, ⟨fc, hac⟩, hfd, hDD, hn01, hn05⟩ := id hP
  refine lv_aload_n hx hb d_Model_fails_0 rfl (lv_at hl 0 rfl) ?_
  refine lv_iload_n hx hb d_Model_fails_1 rfl (lv_at hl 1 rfl) ?_
  refine lv_if_eq (tgt := 9) hx hb d_Model_fails_2 (by decide) (fun hc => ?_) (fun hc => ?_)
  rotate_left
  · skip
    refine lv_iload_n hx hb d_Model_fails_5 rfl (lv_at hl 2 rfl) ?_
    refine lv_goto (tgt := 10) hx hb d_Model_fails_6 (by decide) ?_
    refine q_put (C := "KateDeskModel") (T := T_Model) (N := 14) (ci := 8) (ty := .int) E hmo in_Model ty_Model tyok_Model nm_Model rfl 0 (by decide) w_1001 rfl rfl (by decide +kernel) rfl rfl (Nat.le_of_ble_eq_true rfl) hmn hF d_Model_fails_10 (fun H1 locs hq ho2 hF => ?_)
    refine lv_iload_n hx hb d_Model_fails_13 rfl (lv_at hl 1 rfl) ?_
    exact q_zret E hr (by rcases hbv with h | h <;> rw [h] <;> rfl) hlk (⟨_, rfl, rfl, hq.mono (fun q h => Or.inl h), hP.frm hq (by omega) (by omega) (by omega) (by omega) (by rw [if_neg hc]; exact ho2)⟩) hF d_Model_fails_14
  refine lv_iconst (v := nI 0) hx hb d_Model_fails_9 (by decide) ?_
  refine q_put (C := "KateDeskModel") (T := T_Model) (N := 14) (ci := 8) (ty := .int) E hmo in_Model ty_Model tyok_Model nm_Model rfl 0 (by decide) w_1001 rfl rfl (by decide +kernel) rfl rfl (Nat.le_of_ble_eq_true rfl) hmn hF d_Model_fails_10 (fun H1 locs hq ho2 hF => ?_)
  refine lv_iload_n hx hb d_Model_fails_13 rfl (lv_at hl 1 rfl) ?_
  exact q_zret E hr (by rcases hbv with h | h <;> rw [h] <;> rfl) hlk (⟨_, rfl, rfl, hq.mono (fun q h => Or.inl h), hP.frm hq (by omega) (by omega) (by omega) (by omega) (by rw [if_pos hc]; exact ho2)⟩) hF d_Model_fails_14
