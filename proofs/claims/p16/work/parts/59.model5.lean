/-! which numbers a method leaves alone -/
def SAME (fd fd' : Nat → Int64) (P : Nat → Prop) : Prop := ∀ t k, ¬ P t → k < 14 → fd' (14 * t + k) = fd (14 * t + k)
theorem SAME.rf {fd : Nat → Int64} {P : Nat → Prop} : SAME fd fd P := fun _ _ _ _ => rfl
theorem SAME.tr {fd fd1 fd2 : Nat → Int64} {P : Nat → Prop} (h : SAME fd fd1 P) (h' : SAME fd1 fd2 P) : SAME fd fd2 P := fun t k a b => (h' t k a b).trans (h t k a b)
theorem SAME.mono {fd fd' : Nat → Int64} {P P' : Nat → Prop} (h : SAME fd fd' P) (hp : ∀ t, P t → P' t) : SAME fd fd' P' := fun t k a b => h t k (fun c => a (hp t c)) b
theorem SAME.put {fd fd1 fd2 : Nat → Int64} {P : Nat → Prop} {s : Nat} (h : SAME fd fd1 P) (ho : ∀ j, (j < 14 * s ∨ 14 * s + 14 ≤ j) → fd2 j = fd1 j) (hp : P s) : SAME fd fd2 P := fun t k a b => by
  have hne : t ≠ s := fun e => a (by rw [e]; exact hp)
  rw [ho _ (by omega)]; exact h t k a b
theorem SAME.sv {fd fd' : Nat → Int64} {P : Nat → Prop} (h : SAME fd fd' P) {t m : Nat} (ht : ¬ P t) (hm : m ≤ 14) : SV fd' t m = SV fd t m := VL_ext (fun k hk => h t k ht (by omega))
theorem SAME.z0 {fd fd' : Nat → Int64} {P : Nat → Prop} (h : SAME fd fd' P) {t : Nat} (ht : ¬ P t) (hz : Z0 fd t) : Z0 fd' t := fun k hk => by rw [h t k ht hk]; exact hz k hk
theorem VL_one {f : Nat → Int64} {n : Nat} (h0 : f 0 = 1) (h : ∀ k, 1 ≤ k → k < n → f k = 0) (hn : 1 ≤ n) : VL f n = 1 := by
  induction n with
  | zero => omega
  | succ n ih =>
    have e0 : VL f (n + 1) = VL f n + (f n).toInt * 268435456 ^ n := rfl
    by_cases e : n = 0
    · subst e; rw [e0, h0]; show (0 : Int) + _ = 1; decide
    · rw [e0, ih (fun k a b => h k a (by omega)) (by omega), h n (by omega) (by omega), show (0 : Int64).toInt = 0 by decide]; omega
theorem i64_shrN (x : Int64) {s : Int64} {j : Nat} (h : (s.toBitVec.smod 64).toNat = j) : (x >>> s).toInt = x.toInt / 2 ^ j := by
  show (x >>> s).toBitVec.toInt = x.toBitVec.toInt / 2 ^ j
  rw [Int64.toBitVec_shiftRight]
  show (x.toBitVec.sshiftRight' (s.toBitVec.smod 64)).toInt = _
  rw [BitVec.sshiftRight_eq', h, BitVec.toInt_sshiftRight, Int.shiftRight_eq_div_pow]
  rfl
theorem dg_nat {x : Int64} (h : x.toBitVec.toNat < 268435456) : dg x := by
  have e : x.toInt = (x.toBitVec.toNat : Int) := by
    show x.toBitVec.toInt = _
    rw [BitVec.toInt_eq_toNat_cond, if_pos (by omega)]
  unfold dg; rw [e]; omega
theorem nat_dg {x : Int64} (h : dg x) : x.toBitVec.toNat < 268435456 := by
  have h1 := h.1
  have h2 := h.2
  have e : x.toInt = x.toBitVec.toInt := rfl
  rw [e, BitVec.toInt_eq_toNat_cond] at h1 h2
  have := x.toBitVec.isLt
  split at h1 <;> split at h2 <;> omega
theorem dg_or {x y : Int64} (hx : dg x) (hy : dg y) : dg (x ||| y) := by
  apply dg_nat
  rw [Int64.toBitVec_or, BitVec.toNat_or]
  exact Nat.or_lt_two_pow (n := 28) (nat_dg hx) (nat_dg hy)
theorem dg_shr1 {x : Int64} (hx : dg x) : dg (x >>> ((nI 1).toInt64 &&& 63)) := by
  have h : (((nI 1).toInt64 &&& 63).toBitVec.smod 64).toNat = 1 := by decide
  have h2 := hx.1
  have h3 := hx.2
  unfold dg
  rw [i64_shrN x h]
  omega
theorem dg_shl27 (x : Int64) : dg ((x &&& 1) <<< ((nI 27).toInt64 &&& 63)) := by
  apply dg_nat
  have h : (((nI 27).toInt64 &&& 63).toBitVec.smod 64) = 27#64 := by decide
  rw [Int64.toBitVec_shiftLeft]
  show ((x &&& 1).toBitVec <<< (((nI 27).toInt64 &&& 63).toBitVec.smod 64)).toNat < _
  rw [h]
  show ((x &&& 1).toBitVec <<< 27).toNat < _
  have h1 : (x &&& 1).toBitVec.toNat ≤ 1 := by
    rw [Int64.toBitVec_and, BitVec.toNat_and]
    exact Nat.and_le_right
  rw [BitVec.toNat_shiftLeft, Nat.shiftLeft_eq]
  have : (x &&& 1).toBitVec.toNat * 2 ^ 27 ≤ 1 * 2 ^ 27 := Nat.mul_le_mul_right _ h1
  have e2 : (x &&& 1).toBitVec.toNat * 2 ^ 27 % 2 ^ 64 ≤ (x &&& 1).toBitVec.toNat * 2 ^ 27 := Nat.mod_le _ _
  omega
theorem dg_mask (x : Int64) : dg (x &&& 268435455) := by
  unfold dg; rw [i64_mask]; omega
theorem DD.upd {fd : Nat → Int64} (h : DD fd) {j : Nat} {x : Int64} (hx : dg x) : DD (vp_updL fd j x) := fun k hk => by
  by_cases e : k = j
  · subst e; rw [pk_uLs]; exact hx
  · rw [pk_uLn e]; exact h k hk
abbrev y_Model_raise : MethodName := ⟨"KateDeskModel", "raise", "(III)V"⟩
theorem hd_Model_raise : y_Model_raise.cls ≠ "java/lang/invoke/MethodHandle" ∧ y_Model_raise.cls ≠ "java/lang/invoke/VarHandle" ∧ (parseMethodDescriptor y_Model_raise.desc).map (fun d => d.parameters.length) = some 3 := by decide +kernel
theorem d_Model_raise_0 : decode prog_11_method_19_code 0 = .ok (.aload_n 0, 1) := by decide +kernel
theorem d_Model_raise_1 : decode prog_11_method_19_code 1 = .ok (.bipush 122, 2) := by decide +kernel
theorem d_Model_raise_3 : decode prog_11_method_19_code 3 = .ok (.iload_n 2, 1) := by decide +kernel
theorem d_Model_raise_4 : decode prog_11_method_19_code 4 = .ok (.invokevirtual 180, 3) := by decide +kernel
theorem d_Model_raise_7 : decode prog_11_method_19_code 7 = .ok (.aload_n 0, 1) := by decide +kernel
theorem d_Model_raise_8 : decode prog_11_method_19_code 8 = .ok (.bipush 121, 2) := by decide +kernel
theorem d_Model_raise_10 : decode prog_11_method_19_code 10 = .ok (.invokevirtual 141, 3) := by decide +kernel
theorem d_Model_raise_13 : decode prog_11_method_19_code 13 = .ok (.sipush 391, 3) := by decide +kernel
theorem d_Model_raise_16 : decode prog_11_method_19_code 16 = .ok (.istore 4, 2) := by decide +kernel
theorem d_Model_raise_18 : decode prog_11_method_19_code 18 = .ok (.iload 4, 2) := by decide +kernel
theorem d_Model_raise_20 : decode prog_11_method_19_code 20 = .ok (.ifCond .lt 40, 3) := by decide +kernel
theorem d_Model_raise_23 : decode prog_11_method_19_code 23 = .ok (.aload_n 0, 1) := by decide +kernel
theorem d_Model_raise_24 : decode prog_11_method_19_code 24 = .ok (.bipush 121, 2) := by decide +kernel
theorem d_Model_raise_26 : decode prog_11_method_19_code 26 = .ok (.bipush 121, 2) := by decide +kernel
theorem d_Model_raise_28 : decode prog_11_method_19_code 28 = .ok (.bipush 121, 2) := by decide +kernel
theorem d_Model_raise_30 : decode prog_11_method_19_code 30 = .ok (.invokevirtual 184, 3) := by decide +kernel
theorem d_Model_raise_33 : decode prog_11_method_19_code 33 = .ok (.aload_n 0, 1) := by decide +kernel
theorem d_Model_raise_34 : decode prog_11_method_19_code 34 = .ok (.iload_n 3, 1) := by decide +kernel
theorem d_Model_raise_35 : decode prog_11_method_19_code 35 = .ok (.iload 4, 2) := by decide +kernel
theorem d_Model_raise_37 : decode prog_11_method_19_code 37 = .ok (.invokevirtual 187, 3) := by decide +kernel
theorem d_Model_raise_40 : decode prog_11_method_19_code 40 = .ok (.iconst 1, 1) := by decide +kernel
theorem d_Model_raise_41 : decode prog_11_method_19_code 41 = .ok (.if_icmp .ne 13, 3) := by decide +kernel
theorem d_Model_raise_44 : decode prog_11_method_19_code 44 = .ok (.aload_n 0, 1) := by decide +kernel
theorem d_Model_raise_45 : decode prog_11_method_19_code 45 = .ok (.bipush 121, 2) := by decide +kernel
theorem d_Model_raise_47 : decode prog_11_method_19_code 47 = .ok (.bipush 121, 2) := by decide +kernel
theorem d_Model_raise_49 : decode prog_11_method_19_code 49 = .ok (.bipush 122, 2) := by decide +kernel
theorem d_Model_raise_51 : decode prog_11_method_19_code 51 = .ok (.invokevirtual 184, 3) := by decide +kernel
theorem d_Model_raise_54 : decode prog_11_method_19_code 54 = .ok (.iinc 4 (-1), 3) := by decide +kernel
theorem d_Model_raise_57 : decode prog_11_method_19_code 57 = .ok (.goto (-39), 3) := by decide +kernel
theorem d_Model_raise_60 : decode prog_11_method_19_code 60 = .ok (.aload_n 0, 1) := by decide +kernel
theorem d_Model_raise_61 : decode prog_11_method_19_code 61 = .ok (.iload_n 1, 1) := by decide +kernel
theorem d_Model_raise_62 : decode prog_11_method_19_code 62 = .ok (.bipush 121, 2) := by decide +kernel
theorem d_Model_raise_64 : decode prog_11_method_19_code 64 = .ok (.invokevirtual 180, 3) := by decide +kernel
theorem d_Model_raise_67 : decode prog_11_method_19_code 67 = .ok (.return_, 1) := by decide +kernel
abbrev y_Model_primeAnd : MethodName := ⟨"KateDeskModel", "primeAnd", "(IJ)V"⟩
theorem hd_Model_primeAnd : y_Model_primeAnd.cls ≠ "java/lang/invoke/MethodHandle" ∧ y_Model_primeAnd.cls ≠ "java/lang/invoke/VarHandle" ∧ (parseMethodDescriptor y_Model_primeAnd.desc).map (fun d => d.parameters.length) = some 2 := by decide +kernel
theorem d_Model_primeAnd_0 : decode prog_11_method_20_code 0 = .ok (.iconst 0, 1) := by decide +kernel
theorem d_Model_primeAnd_1 : decode prog_11_method_20_code 1 = .ok (.istore 4, 2) := by decide +kernel
theorem d_Model_primeAnd_3 : decode prog_11_method_20_code 3 = .ok (.iload 4, 2) := by decide +kernel
theorem d_Model_primeAnd_5 : decode prog_11_method_20_code 5 = .ok (.bipush 14, 2) := by decide +kernel
theorem d_Model_primeAnd_7 : decode prog_11_method_20_code 7 = .ok (.if_icmp .gt 53, 3) := by decide +kernel
theorem d_Model_primeAnd_10 : decode prog_11_method_20_code 10 = .ok (.aload_n 0, 1) := by decide +kernel
theorem d_Model_primeAnd_11 : decode prog_11_method_20_code 11 = .ok (.getfield 124, 3) := by decide +kernel
theorem d_Model_primeAnd_14 : decode prog_11_method_20_code 14 = .ok (.iload 4, 2) := by decide +kernel
theorem d_Model_primeAnd_16 : decode prog_11_method_20_code 16 = .ok (.iload 4, 2) := by decide +kernel
theorem d_Model_primeAnd_18 : decode prog_11_method_20_code 18 = .ok (.bipush 14, 2) := by decide +kernel
theorem d_Model_primeAnd_20 : decode prog_11_method_20_code 20 = .ok (.if_icmp .ge 32, 3) := by decide +kernel
theorem d_Model_primeAnd_23 : decode prog_11_method_20_code 23 = .ok (.aload_n 0, 1) := by decide +kernel
theorem d_Model_primeAnd_24 : decode prog_11_method_20_code 24 = .ok (.getfield 59, 3) := by decide +kernel
theorem d_Model_primeAnd_27 : decode prog_11_method_20_code 27 = .ok (.bipush 14, 2) := by decide +kernel
theorem d_Model_primeAnd_29 : decode prog_11_method_20_code 29 = .ok (.aload_n 0, 1) := by decide +kernel
theorem d_Model_primeAnd_30 : decode prog_11_method_20_code 30 = .ok (.getfield 161, 3) := by decide +kernel
theorem d_Model_primeAnd_33 : decode prog_11_method_20_code 33 = .ok (.imul, 1) := by decide +kernel
theorem d_Model_primeAnd_34 : decode prog_11_method_20_code 34 = .ok (.iload 4, 2) := by decide +kernel
theorem d_Model_primeAnd_36 : decode prog_11_method_20_code 36 = .ok (.iadd, 1) := by decide +kernel
theorem d_Model_primeAnd_37 : decode prog_11_method_20_code 37 = .ok (.laload, 1) := by decide +kernel
theorem d_Model_primeAnd_38 : decode prog_11_method_20_code 38 = .ok (.iload 4, 2) := by decide +kernel
theorem d_Model_primeAnd_40 : decode prog_11_method_20_code 40 = .ok (.ifCond .ne 7, 3) := by decide +kernel
theorem d_Model_primeAnd_43 : decode prog_11_method_20_code 43 = .ok (.lload_n 2, 1) := by decide +kernel
theorem d_Model_primeAnd_44 : decode prog_11_method_20_code 44 = .ok (.goto 4, 3) := by decide +kernel
theorem d_Model_primeAnd_47 : decode prog_11_method_20_code 47 = .ok (.lconst 0, 1) := by decide +kernel
theorem d_Model_primeAnd_48 : decode prog_11_method_20_code 48 = .ok (.ladd, 1) := by decide +kernel
theorem d_Model_primeAnd_49 : decode prog_11_method_20_code 49 = .ok (.goto 4, 3) := by decide +kernel
theorem d_Model_primeAnd_52 : decode prog_11_method_20_code 52 = .ok (.lconst 0, 1) := by decide +kernel
theorem d_Model_primeAnd_53 : decode prog_11_method_20_code 53 = .ok (.lastore, 1) := by decide +kernel
theorem d_Model_primeAnd_54 : decode prog_11_method_20_code 54 = .ok (.iinc 4 1, 3) := by decide +kernel
theorem d_Model_primeAnd_57 : decode prog_11_method_20_code 57 = .ok (.goto (-54), 3) := by decide +kernel
theorem d_Model_primeAnd_60 : decode prog_11_method_20_code 60 = .ok (.aload_n 0, 1) := by decide +kernel
theorem d_Model_primeAnd_61 : decode prog_11_method_20_code 61 = .ok (.bipush 14, 2) := by decide +kernel
theorem d_Model_primeAnd_63 : decode prog_11_method_20_code 63 = .ok (.invokevirtual 174, 3) := by decide +kernel
theorem d_Model_primeAnd_66 : decode prog_11_method_20_code 66 = .ok (.iconst 0, 1) := by decide +kernel
theorem d_Model_primeAnd_67 : decode prog_11_method_20_code 67 = .ok (.istore 4, 2) := by decide +kernel
theorem d_Model_primeAnd_69 : decode prog_11_method_20_code 69 = .ok (.iload 4, 2) := by decide +kernel
theorem d_Model_primeAnd_71 : decode prog_11_method_20_code 71 = .ok (.bipush 14, 2) := by decide +kernel
theorem d_Model_primeAnd_73 : decode prog_11_method_20_code 73 = .ok (.if_icmp .ge 28, 3) := by decide +kernel
theorem d_Model_primeAnd_76 : decode prog_11_method_20_code 76 = .ok (.aload_n 0, 1) := by decide +kernel
theorem d_Model_primeAnd_77 : decode prog_11_method_20_code 77 = .ok (.getfield 7, 3) := by decide +kernel
theorem d_Model_primeAnd_80 : decode prog_11_method_20_code 80 = .ok (.bipush 14, 2) := by decide +kernel
theorem d_Model_primeAnd_82 : decode prog_11_method_20_code 82 = .ok (.iload_n 1, 1) := by decide +kernel
theorem d_Model_primeAnd_83 : decode prog_11_method_20_code 83 = .ok (.imul, 1) := by decide +kernel
theorem d_Model_primeAnd_84 : decode prog_11_method_20_code 84 = .ok (.iload 4, 2) := by decide +kernel
theorem d_Model_primeAnd_86 : decode prog_11_method_20_code 86 = .ok (.iadd, 1) := by decide +kernel
theorem d_Model_primeAnd_87 : decode prog_11_method_20_code 87 = .ok (.aload_n 0, 1) := by decide +kernel
theorem d_Model_primeAnd_88 : decode prog_11_method_20_code 88 = .ok (.getfield 124, 3) := by decide +kernel
theorem d_Model_primeAnd_91 : decode prog_11_method_20_code 91 = .ok (.iload 4, 2) := by decide +kernel
theorem d_Model_primeAnd_93 : decode prog_11_method_20_code 93 = .ok (.laload, 1) := by decide +kernel
theorem d_Model_primeAnd_94 : decode prog_11_method_20_code 94 = .ok (.lastore, 1) := by decide +kernel
theorem d_Model_primeAnd_95 : decode prog_11_method_20_code 95 = .ok (.iinc 4 1, 3) := by decide +kernel
theorem d_Model_primeAnd_98 : decode prog_11_method_20_code 98 = .ok (.goto (-29), 3) := by decide +kernel
theorem d_Model_primeAnd_101 : decode prog_11_method_20_code 101 = .ok (.return_, 1) := by decide +kernel
abbrev y_Model_inverse : MethodName := ⟨"KateDeskModel", "inverse", "(II)V"⟩
theorem hd_Model_inverse : y_Model_inverse.cls ≠ "java/lang/invoke/MethodHandle" ∧ y_Model_inverse.cls ≠ "java/lang/invoke/VarHandle" ∧ (parseMethodDescriptor y_Model_inverse.desc).map (fun d => d.parameters.length) = some 2 := by decide +kernel
theorem d_Model_inverse_0 : decode prog_11_method_21_code 0 = .ok (.aload_n 0, 1) := by decide +kernel
theorem d_Model_inverse_1 : decode prog_11_method_21_code 1 = .ok (.bipush 123, 2) := by decide +kernel
theorem d_Model_inverse_3 : decode prog_11_method_21_code 3 = .ok (.ldc2_w 191, 3) := by decide +kernel
theorem d_Model_inverse_6 : decode prog_11_method_21_code 6 = .ok (.invokevirtual 193, 3) := by decide +kernel
theorem d_Model_inverse_9 : decode prog_11_method_21_code 9 = .ok (.aload_n 0, 1) := by decide +kernel
theorem d_Model_inverse_10 : decode prog_11_method_21_code 10 = .ok (.iload_n 1, 1) := by decide +kernel
theorem d_Model_inverse_11 : decode prog_11_method_21_code 11 = .ok (.iload_n 2, 1) := by decide +kernel
theorem d_Model_inverse_12 : decode prog_11_method_21_code 12 = .ok (.bipush 123, 2) := by decide +kernel
theorem d_Model_inverse_14 : decode prog_11_method_21_code 14 = .ok (.invokevirtual 197, 3) := by decide +kernel
theorem d_Model_inverse_17 : decode prog_11_method_21_code 17 = .ok (.return_, 1) := by decide +kernel
set_option maxHeartbeats 4000000 in
set_option maxRecDepth 100000 in
theorem c_Model_raise (l : Launch) (g : WG) (n0 : Nat → Prop) (mo r a b : Nat) (th pw td wr : Int32) (w n : Nat) (hw : WH w n) (fd : Nat → Int64) (hr1 : r < 170) (ha : a < 170) (hb1 : b < 170) : Ctr l y_Model_raise (.code y_Model_raise prog_11_method_19_code 5 none) 3 79 0 0 n0 g [.ref mo, .int (nI r), .int (nI a), .int (nI b)] (fun H => MS g n0 H mo th pw td wr w n fd) (QV (fun H H' => FRM (MR mo) H H' ∧ ∃ fd', MS g n0 H' mo th pw td wr w n fd' ∧ True)) := by
  refine ctr_mk l (lv0 := [(0, .ref mo), (1, .int (nI r)), (2, .int (nI a)), (3, .int (nI b))]) (by decide) (Nat.le_of_ble_eq_true rfl) rfl ?_
  intro p e s m below meth c ls E hr hlk hnm hl hP
  have hx := E.1
  have hb := E.2.1
  have hK := E.2.2.2.2.2
  have hF : ∀ q ∈ ([] : List Loc), n0 q.base := fun q hq => absurd hq List.not_mem_nil
  have hm := hP
  have hDD := hm.2.2.2.2.2.1
  obtain ⟨hpd, hn1, hn14, hw1, hPT, hP1, hT0, hT1⟩ := wh_kP hw
  have hfr : FRM (MR mo) s.heap s.heap := FRM.rf
  have loop : ∀ (k : Nat) (H : Heap) (locs : List Loc) (ls : Array Slot) (v : Int32) (fd1 : Nat → Int64), k ≤ 392 → v = nI k - 1 → FRM (MR mo) s.heap H → MS g n0 H mo th pw td wr w n fd1 → (∀ q ∈ locs, n0 q.base) → lv_has ls 5 [(4, .int v), (0, .ref mo), (1, .int (nI r)), (2, .int (nI a)), (3, .int (nI b))] → W p l e { frames := 3, cells := 0, slots := 0, locals := 79 } s m [.ref mo, .int (nI r), .int (nI a), .int (nI b)].toArray below meth c H locs 0 0 (MQ below (QcP (QV (fun H H' => FRM (MR mo) H H' ∧ ∃ fd', MS g n0 H' mo th pw td wr w n fd' ∧ True))) [.ref mo, .int (nI r), .int (nI a), .int (nI b)].toArray s 0 0 (fun q => n0 q)) (F0 m 18 ls []) := by
    intro k
    induction k with
    | zero =>
      intro  H   locs   ls   v   fd1 hk392 hv0 hfr hm hF hl
      subst hv0
      refine lv_iload hx hb d_Model_raise_18 (lv_at hl 0 rfl) ?_
      refine lv_if_lt (tgt := 60) hx hb d_Model_raise_20 (by decide) (fun _ => ?_) (fun h9 => absurd (by decide) h9)
      refine lv_aload_n hx hb d_Model_raise_60 rfl (lv_at hl 1 rfl) ?_
      refine lv_iload_n hx hb d_Model_raise_61 rfl (lv_at hl 2 rfl) ?_
      refine lv_bipush (v := nI 121) hx hb d_Model_raise_62 (by decide) ?_
      refine q_cV (rest := []) E (c_Model_move l g n0 mo r 121 th pw td wr w n hw  fd1 (by omega) (by omega) ) w_1076 w_15 w_1073 w_1075 (bw_s 27 rfl) hd_Model_move rfl ⟨by decide, by decide⟩ (OB.recv E.2.2.2.2.2 (by rfl) hm.1) hm hF hl.1 rfl (Nat.le_of_ble_eq_true rfl) d_Model_raise_64 ⟨by decide, by decide⟩ (qv (fun H1 locs hq hF => ?_))
      obtain ⟨hq, fd_3, hm, hpv⟩ := hq
      have hfr := hfr.tr hq
      exact q_vret E hr hlk (⟨rfl, hfr, _, hm, trivial⟩) hF d_Model_raise_67
    | succ k ih =>
      intro  H   locs   ls   v   fd1 hk392 hv0 hfr hm hF hl
      rw [nI_pred] at hv0
      subst hv0
      refine lv_iload hx hb d_Model_raise_18 (lv_at hl 0 rfl) ?_
      refine lv_if_lt (tgt := 60) hx hb d_Model_raise_20 (by decide) (fun h9 => absurd h9 (nI_pos (by omega))) (fun _ => ?_)
      refine lv_aload_n hx hb d_Model_raise_23 rfl (lv_at hl 1 rfl) ?_
      refine lv_bipush (v := nI 121) hx hb d_Model_raise_24 (by decide) ?_
      refine lv_bipush (v := nI 121) hx hb d_Model_raise_26 (by decide) ?_
      refine lv_bipush (v := nI 121) hx hb d_Model_raise_28 (by decide) ?_
      refine q_cV (rest := []) E (c_Model_product l g n0 mo 121 121 121 th pw td wr w n hw  fd1 (by omega) (by omega) (by omega) ) w_1113 w_15 w_1110 w_1112 (bw_s 32 rfl) hd_Model_product rfl ⟨by decide, by decide⟩ (OB.recv E.2.2.2.2.2 (by rfl) hm.1) hm hF hl.1 rfl (Nat.le_of_ble_eq_true rfl) d_Model_raise_30 ⟨by decide, by decide⟩ (qv (fun H1 locs hq hF => ?_))
      obtain ⟨hq, fd_4, hm, hpv, hv⟩ := hq
      have hfr := hfr.tr (kjR hq)
      refine lv_aload_n hx hb d_Model_raise_33 rfl (lv_at hl 1 rfl) ?_
      refine lv_iload_n hx hb d_Model_raise_34 rfl (lv_at hl 4 rfl) ?_
      refine lv_iload hx hb d_Model_raise_35 (lv_at hl 0 rfl) ?_
      refine q_cV (rest := []) E (c_Model_bit l g n0 mo b k th pw td wr w n hw  fd_4 (by omega) (by omega) ) w_1093 w_15 w_1090 w_1092 (bw_s 29 rfl) hd_Model_bit rfl ⟨by decide, by decide⟩ (OB.recv E.2.2.2.2.2 (by rfl) hm.1) hm hF hl.1 rfl (Nat.le_of_ble_eq_true rfl) d_Model_raise_37 ⟨by decide, by decide⟩ (qi (fun rb H2 locs hq hF => ?_))
      obtain ⟨hbit, hq⟩ := hq
      subst hq
      refine lv_iconst (v := nI 1) hx hb d_Model_raise_40 (by decide) ?_
      refine lv_icmp_ne (tgt := 54) hx hb d_Model_raise_41 (by decide) (fun hc => ?_) (fun hc => ?_)
      rotate_left
      · skip
        refine lv_aload_n hx hb d_Model_raise_44 rfl (lv_at hl 1 rfl) ?_
        refine lv_bipush (v := nI 121) hx hb d_Model_raise_45 (by decide) ?_
        refine lv_bipush (v := nI 121) hx hb d_Model_raise_47 (by decide) ?_
        refine lv_bipush (v := nI 122) hx hb d_Model_raise_49 (by decide) ?_
        refine q_cV (rest := []) E (c_Model_product l g n0 mo 121 121 122 th pw td wr w n hw  fd_4 (by omega) (by omega) (by omega) ) w_1113 w_15 w_1110 w_1112 (bw_s 32 rfl) hd_Model_product rfl ⟨by decide, by decide⟩ (OB.recv E.2.2.2.2.2 (by rfl) hm.1) hm hF hl.1 rfl (Nat.le_of_ble_eq_true rfl) d_Model_raise_51 ⟨by decide, by decide⟩ (qv (fun H3 locs hq hF => ?_))
        obtain ⟨hq, fd_5, hm, hpv, hv⟩ := hq
        have hfr := hfr.tr (kjR hq)
        refine lv_iinc (k := 0) (v := nI k - 1) (lv' := [(4, .int (nI k - 1)), (0, .ref mo), (1, .int (nI r)), (2, .int (nI a)), (3, .int (nI b))]) hx hb d_Model_raise_54 hl rfl (i_dec _) (by decide) rfl (fun ls hl => ?_)
        refine lv_goto (tgt := 18) hx hb d_Model_raise_57 (by decide) ?_
        have hl : lv_has ls 5 [(4, .int (nI k - 1)), (0, .ref mo), (1, .int (nI r)), (2, .int (nI a)), (3, .int (nI b))] := lv_sub hl [0, 1, 2, 3, 4] rfl
        exact ih _ _ ls _ _ (by omega) rfl hfr hm hF hl
      refine lv_iinc (k := 0) (v := nI k - 1) (lv' := [(4, .int (nI k - 1)), (0, .ref mo), (1, .int (nI r)), (2, .int (nI a)), (3, .int (nI b))]) hx hb d_Model_raise_54 hl rfl (i_dec _) (by decide) rfl (fun ls hl => ?_)
      refine lv_goto (tgt := 18) hx hb d_Model_raise_57 (by decide) ?_
      have hl : lv_has ls 5 [(4, .int (nI k - 1)), (0, .ref mo), (1, .int (nI r)), (2, .int (nI a)), (3, .int (nI b))] := lv_sub hl [0, 1, 2, 3, 4] rfl
      exact ih _ _ ls _ _ (by omega) rfl hfr hm hF hl
  refine lv_aload_n hx hb d_Model_raise_0 rfl (lv_at hl 0 rfl) ?_
  refine lv_bipush (v := nI 122) hx hb d_Model_raise_1 (by decide) ?_
  refine lv_iload_n hx hb d_Model_raise_3 rfl (lv_at hl 2 rfl) ?_
  refine q_cV (rest := []) E (c_Model_move l g n0 mo 122 a th pw td wr w n hw  fd (by omega) (by omega) ) w_1076 w_15 w_1073 w_1075 (bw_s 27 rfl) hd_Model_move rfl ⟨by decide, by decide⟩ (OB.recv E.2.2.2.2.2 (by rfl) hm.1) hm hF hl.1 rfl (Nat.le_of_ble_eq_true rfl) d_Model_raise_4 ⟨by decide, by decide⟩ (qv (fun H1 locs hq hF => ?_))
  obtain ⟨hq, fd_1, hm, hpv⟩ := hq
  have hfr := hfr.tr hq
  refine lv_aload_n hx hb d_Model_raise_7 rfl (lv_at hl 0 rfl) ?_
  refine lv_bipush (v := nI 121) hx hb d_Model_raise_8 (by decide) ?_
  refine q_cV (rest := []) E (c_Model_one l g n0 mo 121 th pw td wr w n hw  fd_1 (by omega) ) w_971 w_15 w_968 w_970 (bw_s 16 rfl) hd_Model_one rfl ⟨by decide, by decide⟩ (OB.recv E.2.2.2.2.2 (by rfl) hm.1) hm hF hl.1 rfl (Nat.le_of_ble_eq_true rfl) d_Model_raise_10 ⟨by decide, by decide⟩ (qv (fun H2 locs hq hF => ?_))
  obtain ⟨hq, fd_2, hm, hpv⟩ := hq
  have hfr := hfr.tr hq
  refine lv_sipush (v := nI 391) hx hb d_Model_raise_13 (by decide) ?_
  refine lv_istore (lv' := [(4, .int (nI 391)), (0, .ref mo), (1, .int (nI r)), (2, .int (nI a)), (3, .int (nI b))]) hx hb d_Model_raise_16 hl (by decide) rfl (fun ls hl => ?_)
  have hl : lv_has ls 5 [(4, .int (nI 391)), (0, .ref mo), (1, .int (nI r)), (2, .int (nI a)), (3, .int (nI b))] := lv_sub hl [0, 1, 2, 3, 4] rfl
  exact loop 392 _ _ ls _ _ (by decide) rfl hfr hm hF hl
set_option maxHeartbeats 4000000 in
set_option maxRecDepth 100000 in
theorem c_Model_primeAnd (l : Launch) (g : WG) (n0 : Nat → Prop) (mo r : Nat) (qz : Int64) (th pw td wr : Int32) (w n : Nat) (hw : WH w n) (fd : Nat → Int64) (hr1 : r < 170) (hqz : -4294967296 ≤ qz.toInt ∧ qz.toInt ≤ 4294967296) : Ctr l y_Model_primeAnd (.code y_Model_primeAnd prog_11_method_20_code 5 none) 1 24 0 0 n0 g [.ref mo, .int (nI r), .long qz] (fun H => MS g n0 H mo th pw td wr w n fd) (QV (fun H H' => FRM (MR mo) H H' ∧ ∃ fd', MS g n0 H' mo th pw td wr w n fd' ∧ True)) := by
  refine ctr_mk l (lv0 := [(0, .ref mo), (1, .int (nI r)), (2, .long qz)]) (by decide) (Nat.le_of_ble_eq_true rfl) rfl ?_
  intro p e s m below meth c ls E hr hlk hnm hl hP
  have hx := E.1
  have hb := E.2.1
  have hK := E.2.2.2.2.2
  have hF : ∀ q ∈ ([] : List Loc), n0 q.base := fun q hq => absurd hq List.not_mem_nil
  obtain ⟨hmo, hpr, ⟨fa, hab, had⟩, ⟨fc, hac⟩, hfd, hDD, hn01, hn05⟩ := id hP
  obtain ⟨hpd, hn1, hn14, hw1, hPT, hP1, hT0, hT1⟩ := wh_kP hw
  have cp : ∀ (k : Nat) (i : Nat) (H : Heap) (locs : List Loc) (ls : Array Slot) (f1 fd1 : Nat → Int64), i + k = 14 → KJ g (fun q => q = mo + 1 ∨ q = mo + 5) s.heap H → AJ g H (mo + 5) 32 f1 → (∀ k, k < 14 → dg (f1 k)) → AJ g H (mo + 1) 2380 fd1 → DD fd1 → (∀ q ∈ locs, n0 q.base) → lv_has ls 5 [(4, .int (nI i)), (0, .ref mo), (1, .int (nI r))] → W p l e { frames := 1, cells := 0, slots := 0, locals := 24 } s m [.ref mo, .int (nI r), .long qz].toArray below meth c H locs 0 0 (MQ below (QcP (QV (fun H H' => FRM (MR mo) H H' ∧ ∃ fd', MS g n0 H' mo th pw td wr w n fd' ∧ True))) [.ref mo, .int (nI r), .long qz].toArray s 0 0 (fun q => n0 q)) (F0 m 69 ls []) := by
    intro k
    induction k with
    | zero =>
      intro  i   H   locs   ls   f1 fd1 hi hk hf hdf hfd hD1 hF hl
      obtain rfl : i = 14 := by omega
      refine lv_iload hx hb d_Model_primeAnd_69 (lv_at hl 0 rfl) ?_
      refine lv_bipush (v := nI 14) hx hb d_Model_primeAnd_71 (by decide) ?_
      refine lv_icmp_ge (tgt := 101) hx hb d_Model_primeAnd_73 (by decide) (fun _ => ?_) (fun h9 => absurd (by decide) h9)
      exact q_vret E hr hlk (⟨rfl, kjR hk, fd1, hP.step hK hk hfd hD1, trivial⟩) hF d_Model_primeAnd_101
    | succ k ih =>
      intro  i   H   locs   ls   f1 fd1 hi hk hf hdf hfd hD1 hF hl
      refine lv_iload hx hb d_Model_primeAnd_69 (lv_at hl 0 rfl) ?_
      refine lv_bipush (v := nI 14) hx hb d_Model_primeAnd_71 (by decide) ?_
      refine lv_icmp_ge (tgt := 101) hx hb d_Model_primeAnd_73 (by decide) (fun h9 => absurd h9 (nI_ge (by omega) (by decide))) (fun _ => ?_)
      refine lv_aload_n hx hb d_Model_primeAnd_76 rfl (lv_at hl 1 rfl) ?_
      refine q_get (C := "KateDeskModel") (T := T_Model) (N := 14) (ci := 8) E (hk.ob hK hmo) in_Model rfl 1 (by decide) w_1002 rfl rfl d_Model_primeAnd_77 ?_
      refine lv_bipush (v := nI 14) hx hb d_Model_primeAnd_80 (by decide) ?_
      refine lv_iload_n hx hb d_Model_primeAnd_82 rfl (lv_at hl 2 rfl) ?_
      refine lv_imul hx hb d_Model_primeAnd_83 ?_
      refine lv_topi (fun t9 e9 => ?_)
      obtain rfl : t9 = nI (14 * r) := e9.trans (pk_mul _ _)
      refine lv_iload hx hb d_Model_primeAnd_84 (lv_at hl 0 rfl) ?_
      refine lv_iadd hx hb d_Model_primeAnd_86 ?_
      refine lv_topi (fun t9 e9 => ?_)
      obtain rfl : t9 = nI (14 * r + i) := e9.trans (nI_add _ _)
      refine lv_aload_n hx hb d_Model_primeAnd_87 rfl (lv_at hl 1 rfl) ?_
      refine q_get (C := "KateDeskModel") (T := T_Model) (N := 14) (ci := 8) E (hk.ob hK hmo) in_Model rfl 5 (by decide) w_1006 rfl rfl d_Model_primeAnd_88 ?_
      refine lv_iload hx hb d_Model_primeAnd_91 (lv_at hl 0 rfl) ?_
      refine q_lald (N := 32) (f := f1) E hf i rfl (by omega) (by decide) d_Model_primeAnd_93 ?_
      refine q_last E hfd hn01 hF (14 * r + i) rfl (by omega) (by decide) d_Model_primeAnd_94 (fun H1 locs hq hfd2 hF => ?_)
      have hk := hk.tr (hq.mono (fun q h => Or.inl h))
      have hf := hq.ajo (by omega) hf
      refine lv_iinc (k := 0) (v := nI (i + 1)) (lv' := [(4, .int (nI (i + 1))), (0, .ref mo), (1, .int (nI r))]) hx hb d_Model_primeAnd_95 hl rfl (i_inc i) (by decide) rfl (fun ls hl => ?_)
      refine lv_goto (tgt := 69) hx hb d_Model_primeAnd_98 (by decide) ?_
      have hl : lv_has ls 5 [(4, .int (nI (i + 1))), (0, .ref mo), (1, .int (nI r))] := lv_sub hl [0, 1, 2] rfl
      exact ih (i + 1) H1 _ ls _ _ (by omega) hk hf hdf hfd2 (hD1.upd (hdf i (by omega))) hF hl
  have loop : ∀ (k : Nat) (i : Nat) (H : Heap) (locs : List Loc) (ls : Array Slot) (f1 : Nat → Int64), i + k = 15 → KJ g (fun q => q = mo + 5) s.heap H → AJ g H (mo + 5) 32 f1 → (∀ k, k < i → -4611686018427387904 ≤ (f1 k).toInt ∧ (f1 k).toInt ≤ 4611686018427387904) → (∀ q ∈ locs, n0 q.base) → lv_has ls 5 [(4, .int (nI i)), (0, .ref mo), (1, .int (nI r)), (2, .long qz)] → W p l e { frames := 1, cells := 0, slots := 0, locals := 24 } s m [.ref mo, .int (nI r), .long qz].toArray below meth c H locs 0 0 (MQ below (QcP (QV (fun H H' => FRM (MR mo) H H' ∧ ∃ fd', MS g n0 H' mo th pw td wr w n fd' ∧ True))) [.ref mo, .int (nI r), .long qz].toArray s 0 0 (fun q => n0 q)) (F0 m 3 ls []) := by
    intro k
    induction k with
    | zero =>
      intro  i   H   locs   ls   f1 hi hk5 hf hlow hF hl
      obtain rfl : i = 15 := by omega
      refine lv_iload hx hb d_Model_primeAnd_3 (lv_at hl 0 rfl) ?_
      refine lv_bipush (v := nI 14) hx hb d_Model_primeAnd_5 (by decide) ?_
      refine lv_icmp_gt (tgt := 60) hx hb d_Model_primeAnd_7 (by decide) (fun _ => ?_) (fun h9 => absurd (by decide) h9)
      refine lv_aload_n hx hb d_Model_primeAnd_60 rfl (lv_at hl 1 rfl) ?_
      refine lv_bipush (v := nI 14) hx hb d_Model_primeAnd_61 (by decide) ?_
      refine q_cV (rest := []) E (c_Model_carries l g n0 mo 14 th (nI w) (nI n) pw td wr f1 (by decide) (fun k hk1 => hlow k (by omega))) w_983 w_15 w_980 w_982 (bw_s 19 rfl) hd_Model_carries rfl ⟨by decide, by decide⟩ (OB.recv E.2.2.2.2.2 (by rfl) (hk5.ob hK hmo)) (⟨hk5.ob hK hmo, hf, hn05⟩) hF hl.1 rfl (Nat.le_of_ble_eq_true rfl) d_Model_primeAnd_63 ⟨by decide, by decide⟩ (qv (fun H1 locs hq hF => ?_))
      obtain ⟨hq, f3, hf3, hd3, hV3, hj3, hb3⟩ := hq
      have hk5 := hk5.tr hq
      refine lv_iconst (v := nI 0) hx hb d_Model_primeAnd_66 (by decide) ?_
      refine lv_istore (lv' := [(4, .int (nI 0)), (0, .ref mo), (1, .int (nI r)), (2, .long qz)]) hx hb d_Model_primeAnd_67 hl (by decide) rfl (fun ls hl => ?_)
      have hl : lv_has ls 5 [(4, .int (nI 0)), (0, .ref mo), (1, .int (nI r))] := lv_sub hl [0, 1, 2] rfl
      exact cp 14 0 _ _ ls f3 fd (by omega) (hk5.mono (fun q h => Or.inr h)) hf3 hd3 (hk5.ajo (by omega) hfd) hDD hF hl
    | succ k ih =>
      intro  i   H   locs   ls   f1 hi hk5 hf hlow hF hl
      refine lv_iload hx hb d_Model_primeAnd_3 (lv_at hl 0 rfl) ?_
      refine lv_bipush (v := nI 14) hx hb d_Model_primeAnd_5 (by decide) ?_
      refine lv_icmp_gt (tgt := 60) hx hb d_Model_primeAnd_7 (by decide) (fun h9 => absurd h9 (nI_nlt (by omega) (by decide))) (fun _ => ?_)
      refine lv_aload_n hx hb d_Model_primeAnd_10 rfl (lv_at hl 1 rfl) ?_
      refine q_get (C := "KateDeskModel") (T := T_Model) (N := 14) (ci := 8) E (hk5.ob hK hmo) in_Model rfl 5 (by decide) w_1006 rfl rfl d_Model_primeAnd_11 ?_
      refine lv_iload hx hb d_Model_primeAnd_14 (lv_at hl 0 rfl) ?_
      refine lv_iload hx hb d_Model_primeAnd_16 (lv_at hl 0 rfl) ?_
      refine lv_bipush (v := nI 14) hx hb d_Model_primeAnd_18 (by decide) ?_
      refine lv_icmp_ge (tgt := 52) hx hb d_Model_primeAnd_20 (by decide) (fun hin => ?_) (fun hin => ?_)
      rotate_left
      · skip
        have hin : i < 14 := Nat.lt_of_not_le (fun q => hin (nI_le q (by omega)))
        refine lv_aload_n hx hb d_Model_primeAnd_23 rfl (lv_at hl 1 rfl) ?_
        refine q_get (C := "KateDeskModel") (T := T_Model) (N := 14) (ci := 8) E (hk5.ob hK hmo) in_Model rfl 2 (by decide) w_1003 rfl rfl d_Model_primeAnd_24 ?_
        refine lv_bipush (v := nI 14) hx hb d_Model_primeAnd_27 (by decide) ?_
        refine lv_aload_n hx hb d_Model_primeAnd_29 rfl (lv_at hl 1 rfl) ?_
        refine q_get (C := "KateDeskModel") (T := T_Model) (N := 14) (ci := 8) E (hk5.ob hK hmo) in_Model rfl 6 (by decide) w_1007 rfl rfl d_Model_primeAnd_30 ?_
        refine lv_imul hx hb d_Model_primeAnd_33 ?_
        refine lv_iload hx hb d_Model_primeAnd_34 (lv_at hl 0 rfl) ?_
        refine lv_iadd hx hb d_Model_primeAnd_36 ?_
        have hpi : (nI 14) * (nI w) + nI i = nI (14 * w + i) := by rw [pk_mul, nI_add]
        refine q_lald (N := 28) (f := kPr) E (hk5.ajo (by omega) hpr) (14 * w + i) hpi (by omega) (by decide) d_Model_primeAnd_37 ?_
        refine lv_iload hx hb d_Model_primeAnd_38 (lv_at hl 0 rfl) ?_
        refine lv_if_ne (tgt := 47) hx hb d_Model_primeAnd_40 (by decide) (fun h0 => ?_) (fun h0 => ?_)
        rotate_left
        · skip
          refine lv_lload_n hx hb d_Model_primeAnd_43 rfl (lv_at hl 3 rfl) ?_
          refine lv_goto (tgt := 48) hx hb d_Model_primeAnd_44 (by decide) ?_
          refine lv_ladd hx hb d_Model_primeAnd_48 ?_
          refine lv_goto (tgt := 53) hx hb d_Model_primeAnd_49 (by decide) ?_
          refine lv_topl (fun t et => ?_)
          have hbt : -4611686018427387904 ≤ t.toInt ∧ t.toInt ≤ 4611686018427387904 := by have h1 := hpd i hin; unfold dg at h1; rw [show t = kP w i + qz from et]; rw [i64_add (x := kP w i) (y := qz) (by omega) (by omega)]; omega
          refine q_last E hf hn05 hF i rfl (by omega) (by decide) d_Model_primeAnd_53 (fun H1 locs hq hf2 hF => ?_)
          have hk5 := hk5.tr hq
          refine lv_iinc (k := 0) (v := nI (i + 1)) (lv' := [(4, .int (nI (i + 1))), (0, .ref mo), (1, .int (nI r)), (2, .long qz)]) hx hb d_Model_primeAnd_54 hl rfl (i_inc i) (by decide) rfl (fun ls hl => ?_)
          refine lv_goto (tgt := 3) hx hb d_Model_primeAnd_57 (by decide) ?_
          have hl : lv_has ls 5 [(4, .int (nI (i + 1))), (0, .ref mo), (1, .int (nI r)), (2, .long qz)] := lv_sub hl [0, 1, 2, 3] rfl
          exact ih (i + 1) H1 _ ls _ (by omega) hk5 hf2 (fun k hk1 => by by_cases e : k = i; (subst e; rw [pk_uLs]; exact hbt); (rw [pk_uLn e]; exact hlow k (by omega))) hF hl
        refine lv_lconst (v := 0) hx hb d_Model_primeAnd_47 (by decide) ?_
        refine lv_ladd hx hb d_Model_primeAnd_48 ?_
        refine lv_goto (tgt := 53) hx hb d_Model_primeAnd_49 (by decide) ?_
        refine lv_topl (fun t et => ?_)
        have hbt : -4611686018427387904 ≤ t.toInt ∧ t.toInt ≤ 4611686018427387904 := by have h1 := hpd i hin; unfold dg at h1; rw [show t = kP w i + 0 from et]; rw [i64_add (x := kP w i) (y := 0) (by rw [show (0 : Int64).toInt = 0 by decide]; omega) (by rw [show (0 : Int64).toInt = 0 by decide]; omega), show (0 : Int64).toInt = 0 by decide]; omega
        refine q_last E hf hn05 hF i rfl (by omega) (by decide) d_Model_primeAnd_53 (fun H1 locs hq hf2 hF => ?_)
        have hk5 := hk5.tr hq
        refine lv_iinc (k := 0) (v := nI (i + 1)) (lv' := [(4, .int (nI (i + 1))), (0, .ref mo), (1, .int (nI r)), (2, .long qz)]) hx hb d_Model_primeAnd_54 hl rfl (i_inc i) (by decide) rfl (fun ls hl => ?_)
        refine lv_goto (tgt := 3) hx hb d_Model_primeAnd_57 (by decide) ?_
        have hl : lv_has ls 5 [(4, .int (nI (i + 1))), (0, .ref mo), (1, .int (nI r)), (2, .long qz)] := lv_sub hl [0, 1, 2, 3] rfl
        exact ih (i + 1) H1 _ ls _ (by omega) hk5 hf2 (fun k hk1 => by by_cases e : k = i; (subst e; rw [pk_uLs]; exact hbt); (rw [pk_uLn e]; exact hlow k (by omega))) hF hl
      refine lv_lconst (v := 0) hx hb d_Model_primeAnd_52 (by decide) ?_
      refine lv_topl (fun t et => ?_)
      have hbt : -4611686018427387904 ≤ t.toInt ∧ t.toInt ≤ 4611686018427387904 := by rw [et]; exact ⟨by decide, by decide⟩
      refine q_last E hf hn05 hF i rfl (by omega) (by decide) d_Model_primeAnd_53 (fun H1 locs hq hf2 hF => ?_)
      have hk5 := hk5.tr hq
      refine lv_iinc (k := 0) (v := nI (i + 1)) (lv' := [(4, .int (nI (i + 1))), (0, .ref mo), (1, .int (nI r)), (2, .long qz)]) hx hb d_Model_primeAnd_54 hl rfl (i_inc i) (by decide) rfl (fun ls hl => ?_)
      refine lv_goto (tgt := 3) hx hb d_Model_primeAnd_57 (by decide) ?_
      have hl : lv_has ls 5 [(4, .int (nI (i + 1))), (0, .ref mo), (1, .int (nI r)), (2, .long qz)] := lv_sub hl [0, 1, 2, 3] rfl
      exact ih (i + 1) H1 _ ls _ (by omega) hk5 hf2 (fun k hk1 => by by_cases e : k = i; (subst e; rw [pk_uLs]; exact hbt); (rw [pk_uLn e]; exact hlow k (by omega))) hF hl
  refine lv_iconst (v := nI 0) hx hb d_Model_primeAnd_0 (by decide) ?_
  refine lv_istore (lv' := [(4, .int (nI 0)), (0, .ref mo), (1, .int (nI r)), (2, .long qz)]) hx hb d_Model_primeAnd_1 hl (by decide) rfl (fun ls hl => ?_)
  have hl : lv_has ls 5 [(4, .int (nI 0)), (0, .ref mo), (1, .int (nI r)), (2, .long qz)] := lv_sub hl [0, 1, 2, 3] rfl
  exact loop 15 0 s.heap [] ls fc (by omega) KJ.rf hac (fun k hk1 => absurd hk1 (Nat.not_lt_zero _)) hF hl
set_option maxHeartbeats 4000000 in
set_option maxRecDepth 100000 in
theorem c_Model_inverse (l : Launch) (g : WG) (n0 : Nat → Prop) (mo r a : Nat) (th pw td wr : Int32) (w n : Nat) (hw : WH w n) (fd : Nat → Int64) (hr1 : r < 170) (ha : a < 170) : Ctr l y_Model_inverse (.code y_Model_inverse prog_11_method_21_code 3 none) 4 103 0 0 n0 g [.ref mo, .int (nI r), .int (nI a)] (fun H => MS g n0 H mo th pw td wr w n fd) (QV (fun H H' => FRM (MR mo) H H' ∧ ∃ fd', MS g n0 H' mo th pw td wr w n fd' ∧ True)) := by
  refine ctr_mk l (lv0 := [(0, .ref mo), (1, .int (nI r)), (2, .int (nI a))]) (by decide) (Nat.le_of_ble_eq_true rfl) rfl ?_
  intro p e s m below meth c ls E hr hlk hnm hl hP
  have hx := E.1
  have hb := E.2.1
  have hK := E.2.2.2.2.2
  have hF : ∀ q ∈ ([] : List Loc), n0 q.base := fun q hq => absurd hq List.not_mem_nil
  have hm := hP
  have hDD := hm.2.2.2.2.2.1
  obtain ⟨hpd, hn1, hn14, hw1, hPT, hP1, hT0, hT1⟩ := wh_kP hw
  have hfr : FRM (MR mo) s.heap s.heap := FRM.rf
  refine lv_aload_n hx hb d_Model_inverse_0 rfl (lv_at hl 0 rfl) ?_
  refine lv_bipush (v := nI 123) hx hb d_Model_inverse_1 (by decide) ?_
  refine lv_ldc2 (v := -2) hx hb E.2.2.2.1 (E.2.2.2.2.1 _ w_1118) d_Model_inverse_3 ?_
  refine q_cV (rest := []) E (c_Model_primeAnd l g n0 mo 123 (-2) th pw td wr w n hw fd (by omega) (by decide)) w_1122 w_15 w_1119 w_1121 (bw_s 34 rfl) hd_Model_primeAnd rfl ⟨by decide, by decide⟩ (OB.recv E.2.2.2.2.2 (by rfl) hm.1) hm hF hl.1 rfl (Nat.le_of_ble_eq_true rfl) d_Model_inverse_6 ⟨by decide, by decide⟩ (qv (fun H1 locs hq hF => ?_))
  obtain ⟨hq, fd_1, hm, -⟩ := hq
  have hfr := hfr.tr hq
  refine lv_aload_n hx hb d_Model_inverse_9 rfl (lv_at hl 0 rfl) ?_
  refine lv_iload_n hx hb d_Model_inverse_10 rfl (lv_at hl 1 rfl) ?_
  refine lv_iload_n hx hb d_Model_inverse_11 rfl (lv_at hl 2 rfl) ?_
  refine lv_bipush (v := nI 123) hx hb d_Model_inverse_12 (by decide) ?_
  refine q_cV (rest := []) E (c_Model_raise l g n0 mo r a 123 th pw td wr w n hw  fd_1 (by omega) (by omega) (by omega) ) w_1126 w_15 w_1123 w_1125 (bw_s 35 rfl) hd_Model_raise rfl ⟨by decide, by decide⟩ (OB.recv E.2.2.2.2.2 (by rfl) hm.1) hm hF hl.1 rfl (Nat.le_of_ble_eq_true rfl) d_Model_inverse_14 ⟨by decide, by decide⟩ (qv (fun H2 locs hq hF => ?_))
  obtain ⟨hq, fd_2, hm, -⟩ := hq
  have hfr := hfr.tr hq
  exact q_vret E hr hlk (⟨rfl, hfr, _, hm, trivial⟩) hF d_Model_inverse_17
