theorem cmp_pos {q : Int64} (h : 1 ≤ q.toInt) : ¬ lg_cmp q 0 ≤ 0 := by
  unfold lg_cmp
  rw [if_pos (Int64.lt_iff_toInt_lt.mpr (by rw [show (0 : Int64).toInt = 0 by decide]; omega))]
  decide
theorem mul_bd {q : Int64} {x : Int64} (h1 : 1 ≤ q.toInt) (h2 : q.toInt < 268435456) (h3 : dg x) : 0 ≤ q.toInt * x.toInt ∧ q.toInt * x.toInt ≤ 72057594037927936 := by
  refine ⟨Int.mul_nonneg (by omega) h3.1, ?_⟩
  have e1 : q.toInt * x.toInt ≤ q.toInt * 268435456 := Int.mul_le_mul_of_nonneg_left (Int.le_of_lt h3.2) (by omega)
  omega
theorem sub_mod (a q p : Int) : (a - q * p) % p = a % p := by rw [Int.sub_mul_emod_self_right]
abbrev y_Model_settles : MethodName := ⟨"KateDeskModel", "settles", "(I)V"⟩
theorem hd_Model_settles : y_Model_settles.cls ≠ "java/lang/invoke/MethodHandle" ∧ y_Model_settles.cls ≠ "java/lang/invoke/VarHandle" ∧ (parseMethodDescriptor y_Model_settles.desc).map (fun d => d.parameters.length) = some 1 := by decide +kernel
theorem d_Model_settles_0 : decode prog_11_method_14_code 0 = .ok (.aload_n 0, 1) := by decide +kernel
theorem d_Model_settles_1 : decode prog_11_method_14_code 1 = .ok (.getfield 59, 3) := by decide +kernel
theorem d_Model_settles_4 : decode prog_11_method_14_code 4 = .ok (.bipush 14, 2) := by decide +kernel
theorem d_Model_settles_6 : decode prog_11_method_14_code 6 = .ok (.aload_n 0, 1) := by decide +kernel
theorem d_Model_settles_7 : decode prog_11_method_14_code 7 = .ok (.getfield 161, 3) := by decide +kernel
theorem d_Model_settles_10 : decode prog_11_method_14_code 10 = .ok (.imul, 1) := by decide +kernel
theorem d_Model_settles_11 : decode prog_11_method_14_code 11 = .ok (.aload_n 0, 1) := by decide +kernel
theorem d_Model_settles_12 : decode prog_11_method_14_code 12 = .ok (.getfield 144, 3) := by decide +kernel
theorem d_Model_settles_15 : decode prog_11_method_14_code 15 = .ok (.iadd, 1) := by decide +kernel
theorem d_Model_settles_16 : decode prog_11_method_14_code 16 = .ok (.iconst 1, 1) := by decide +kernel
theorem d_Model_settles_17 : decode prog_11_method_14_code 17 = .ok (.isub, 1) := by decide +kernel
theorem d_Model_settles_18 : decode prog_11_method_14_code 18 = .ok (.laload, 1) := by decide +kernel
theorem d_Model_settles_19 : decode prog_11_method_14_code 19 = .ok (.lstore_n 2, 1) := by decide +kernel
theorem d_Model_settles_20 : decode prog_11_method_14_code 20 = .ok (.iconst 1, 1) := by decide +kernel
theorem d_Model_settles_21 : decode prog_11_method_14_code 21 = .ok (.istore 4, 2) := by decide +kernel
theorem d_Model_settles_23 : decode prog_11_method_14_code 23 = .ok (.iload 4, 2) := by decide +kernel
theorem d_Model_settles_25 : decode prog_11_method_14_code 25 = .ok (.ifCond .eq 128, 3) := by decide +kernel
theorem d_Model_settles_28 : decode prog_11_method_14_code 28 = .ok (.aload_n 0, 1) := by decide +kernel
theorem d_Model_settles_29 : decode prog_11_method_14_code 29 = .ok (.getfield 124, 3) := by decide +kernel
theorem d_Model_settles_32 : decode prog_11_method_14_code 32 = .ok (.aload_n 0, 1) := by decide +kernel
theorem d_Model_settles_33 : decode prog_11_method_14_code 33 = .ok (.getfield 144, 3) := by decide +kernel
theorem d_Model_settles_36 : decode prog_11_method_14_code 36 = .ok (.iconst 1, 1) := by decide +kernel
theorem d_Model_settles_37 : decode prog_11_method_14_code 37 = .ok (.isub, 1) := by decide +kernel
theorem d_Model_settles_38 : decode prog_11_method_14_code 38 = .ok (.laload, 1) := by decide +kernel
theorem d_Model_settles_39 : decode prog_11_method_14_code 39 = .ok (.lload_n 2, 1) := by decide +kernel
theorem d_Model_settles_40 : decode prog_11_method_14_code 40 = .ok (.lconst 1, 1) := by decide +kernel
theorem d_Model_settles_41 : decode prog_11_method_14_code 41 = .ok (.ladd, 1) := by decide +kernel
theorem d_Model_settles_42 : decode prog_11_method_14_code 42 = .ok (.ldiv, 1) := by decide +kernel
theorem d_Model_settles_43 : decode prog_11_method_14_code 43 = .ok (.lstore 5, 2) := by decide +kernel
theorem d_Model_settles_45 : decode prog_11_method_14_code 45 = .ok (.lload 5, 2) := by decide +kernel
theorem d_Model_settles_47 : decode prog_11_method_14_code 47 = .ok (.lconst 0, 1) := by decide +kernel
theorem d_Model_settles_48 : decode prog_11_method_14_code 48 = .ok (.lcmp, 1) := by decide +kernel
theorem d_Model_settles_49 : decode prog_11_method_14_code 49 = .ok (.ifCond .ne 14, 3) := by decide +kernel
theorem d_Model_settles_52 : decode prog_11_method_14_code 52 = .ok (.aload_n 0, 1) := by decide +kernel
theorem d_Model_settles_53 : decode prog_11_method_14_code 53 = .ok (.invokevirtual 170, 3) := by decide +kernel
theorem d_Model_settles_56 : decode prog_11_method_14_code 56 = .ok (.ifCond .ne 7, 3) := by decide +kernel
theorem d_Model_settles_59 : decode prog_11_method_14_code 59 = .ok (.lconst 1, 1) := by decide +kernel
theorem d_Model_settles_60 : decode prog_11_method_14_code 60 = .ok (.goto 5, 3) := by decide +kernel
theorem d_Model_settles_63 : decode prog_11_method_14_code 63 = .ok (.lload 5, 2) := by decide +kernel
theorem d_Model_settles_65 : decode prog_11_method_14_code 65 = .ok (.lstore 5, 2) := by decide +kernel
theorem d_Model_settles_67 : decode prog_11_method_14_code 67 = .ok (.lload 5, 2) := by decide +kernel
theorem d_Model_settles_69 : decode prog_11_method_14_code 69 = .ok (.lconst 0, 1) := by decide +kernel
theorem d_Model_settles_70 : decode prog_11_method_14_code 70 = .ok (.lcmp, 1) := by decide +kernel
theorem d_Model_settles_71 : decode prog_11_method_14_code 71 = .ok (.ifCond .le 7, 3) := by decide +kernel
theorem d_Model_settles_74 : decode prog_11_method_14_code 74 = .ok (.iconst 1, 1) := by decide +kernel
theorem d_Model_settles_75 : decode prog_11_method_14_code 75 = .ok (.goto 4, 3) := by decide +kernel
theorem d_Model_settles_78 : decode prog_11_method_14_code 78 = .ok (.iconst 0, 1) := by decide +kernel
theorem d_Model_settles_79 : decode prog_11_method_14_code 79 = .ok (.istore 4, 2) := by decide +kernel
theorem d_Model_settles_81 : decode prog_11_method_14_code 81 = .ok (.iconst 0, 1) := by decide +kernel
theorem d_Model_settles_82 : decode prog_11_method_14_code 82 = .ok (.istore 7, 2) := by decide +kernel
theorem d_Model_settles_84 : decode prog_11_method_14_code 84 = .ok (.iload 7, 2) := by decide +kernel
theorem d_Model_settles_86 : decode prog_11_method_14_code 86 = .ok (.aload_n 0, 1) := by decide +kernel
theorem d_Model_settles_87 : decode prog_11_method_14_code 87 = .ok (.getfield 144, 3) := by decide +kernel
theorem d_Model_settles_90 : decode prog_11_method_14_code 90 = .ok (.if_icmp .ge 42, 3) := by decide +kernel
theorem d_Model_settles_93 : decode prog_11_method_14_code 93 = .ok (.iload 4, 2) := by decide +kernel
theorem d_Model_settles_95 : decode prog_11_method_14_code 95 = .ok (.ifCond .eq 37, 3) := by decide +kernel
theorem d_Model_settles_98 : decode prog_11_method_14_code 98 = .ok (.aload_n 0, 1) := by decide +kernel
theorem d_Model_settles_99 : decode prog_11_method_14_code 99 = .ok (.getfield 124, 3) := by decide +kernel
theorem d_Model_settles_102 : decode prog_11_method_14_code 102 = .ok (.iload 7, 2) := by decide +kernel
theorem d_Model_settles_104 : decode prog_11_method_14_code 104 = .ok (.dup2, 1) := by decide +kernel
theorem d_Model_settles_105 : decode prog_11_method_14_code 105 = .ok (.laload, 1) := by decide +kernel
theorem d_Model_settles_106 : decode prog_11_method_14_code 106 = .ok (.lload 5, 2) := by decide +kernel
theorem d_Model_settles_108 : decode prog_11_method_14_code 108 = .ok (.aload_n 0, 1) := by decide +kernel
theorem d_Model_settles_109 : decode prog_11_method_14_code 109 = .ok (.getfield 59, 3) := by decide +kernel
theorem d_Model_settles_112 : decode prog_11_method_14_code 112 = .ok (.bipush 14, 2) := by decide +kernel
theorem d_Model_settles_114 : decode prog_11_method_14_code 114 = .ok (.aload_n 0, 1) := by decide +kernel
theorem d_Model_settles_115 : decode prog_11_method_14_code 115 = .ok (.getfield 161, 3) := by decide +kernel
theorem d_Model_settles_118 : decode prog_11_method_14_code 118 = .ok (.imul, 1) := by decide +kernel
theorem d_Model_settles_119 : decode prog_11_method_14_code 119 = .ok (.iload 7, 2) := by decide +kernel
theorem d_Model_settles_121 : decode prog_11_method_14_code 121 = .ok (.iadd, 1) := by decide +kernel
theorem d_Model_settles_122 : decode prog_11_method_14_code 122 = .ok (.laload, 1) := by decide +kernel
theorem d_Model_settles_123 : decode prog_11_method_14_code 123 = .ok (.lmul, 1) := by decide +kernel
theorem d_Model_settles_124 : decode prog_11_method_14_code 124 = .ok (.lsub, 1) := by decide +kernel
theorem d_Model_settles_125 : decode prog_11_method_14_code 125 = .ok (.lastore, 1) := by decide +kernel
theorem d_Model_settles_126 : decode prog_11_method_14_code 126 = .ok (.iinc 7 1, 3) := by decide +kernel
theorem d_Model_settles_129 : decode prog_11_method_14_code 129 = .ok (.goto (-45), 3) := by decide +kernel
theorem d_Model_settles_132 : decode prog_11_method_14_code 132 = .ok (.aload_n 0, 1) := by decide +kernel
theorem d_Model_settles_133 : decode prog_11_method_14_code 133 = .ok (.getfield 124, 3) := by decide +kernel
theorem d_Model_settles_136 : decode prog_11_method_14_code 136 = .ok (.aload_n 0, 1) := by decide +kernel
theorem d_Model_settles_137 : decode prog_11_method_14_code 137 = .ok (.getfield 144, 3) := by decide +kernel
theorem d_Model_settles_140 : decode prog_11_method_14_code 140 = .ok (.lconst 0, 1) := by decide +kernel
theorem d_Model_settles_141 : decode prog_11_method_14_code 141 = .ok (.lastore, 1) := by decide +kernel
theorem d_Model_settles_142 : decode prog_11_method_14_code 142 = .ok (.aload_n 0, 1) := by decide +kernel
theorem d_Model_settles_143 : decode prog_11_method_14_code 143 = .ok (.aload_n 0, 1) := by decide +kernel
theorem d_Model_settles_144 : decode prog_11_method_14_code 144 = .ok (.getfield 144, 3) := by decide +kernel
theorem d_Model_settles_147 : decode prog_11_method_14_code 147 = .ok (.invokevirtual 174, 3) := by decide +kernel
theorem d_Model_settles_150 : decode prog_11_method_14_code 150 = .ok (.goto (-127), 3) := by decide +kernel
theorem d_Model_settles_153 : decode prog_11_method_14_code 153 = .ok (.iconst 0, 1) := by decide +kernel
theorem d_Model_settles_154 : decode prog_11_method_14_code 154 = .ok (.istore 5, 2) := by decide +kernel
theorem d_Model_settles_156 : decode prog_11_method_14_code 156 = .ok (.iload 5, 2) := by decide +kernel
theorem d_Model_settles_158 : decode prog_11_method_14_code 158 = .ok (.bipush 14, 2) := by decide +kernel
theorem d_Model_settles_160 : decode prog_11_method_14_code 160 = .ok (.if_icmp .ge 41, 3) := by decide +kernel
theorem d_Model_settles_163 : decode prog_11_method_14_code 163 = .ok (.aload_n 0, 1) := by decide +kernel
theorem d_Model_settles_164 : decode prog_11_method_14_code 164 = .ok (.getfield 7, 3) := by decide +kernel
theorem d_Model_settles_167 : decode prog_11_method_14_code 167 = .ok (.bipush 14, 2) := by decide +kernel
theorem d_Model_settles_169 : decode prog_11_method_14_code 169 = .ok (.iload_n 1, 1) := by decide +kernel
theorem d_Model_settles_170 : decode prog_11_method_14_code 170 = .ok (.imul, 1) := by decide +kernel
theorem d_Model_settles_171 : decode prog_11_method_14_code 171 = .ok (.iload 5, 2) := by decide +kernel
theorem d_Model_settles_173 : decode prog_11_method_14_code 173 = .ok (.iadd, 1) := by decide +kernel
theorem d_Model_settles_174 : decode prog_11_method_14_code 174 = .ok (.iload 5, 2) := by decide +kernel
theorem d_Model_settles_176 : decode prog_11_method_14_code 176 = .ok (.aload_n 0, 1) := by decide +kernel
theorem d_Model_settles_177 : decode prog_11_method_14_code 177 = .ok (.getfield 144, 3) := by decide +kernel
theorem d_Model_settles_180 : decode prog_11_method_14_code 180 = .ok (.if_icmp .ge 13, 3) := by decide +kernel
theorem d_Model_settles_183 : decode prog_11_method_14_code 183 = .ok (.aload_n 0, 1) := by decide +kernel
theorem d_Model_settles_184 : decode prog_11_method_14_code 184 = .ok (.getfield 124, 3) := by decide +kernel
theorem d_Model_settles_187 : decode prog_11_method_14_code 187 = .ok (.iload 5, 2) := by decide +kernel
theorem d_Model_settles_189 : decode prog_11_method_14_code 189 = .ok (.laload, 1) := by decide +kernel
theorem d_Model_settles_190 : decode prog_11_method_14_code 190 = .ok (.goto 4, 3) := by decide +kernel
theorem d_Model_settles_193 : decode prog_11_method_14_code 193 = .ok (.lconst 0, 1) := by decide +kernel
theorem d_Model_settles_194 : decode prog_11_method_14_code 194 = .ok (.lastore, 1) := by decide +kernel
theorem d_Model_settles_195 : decode prog_11_method_14_code 195 = .ok (.iinc 5 1, 3) := by decide +kernel
theorem d_Model_settles_198 : decode prog_11_method_14_code 198 = .ok (.goto (-42), 3) := by decide +kernel
theorem d_Model_settles_201 : decode prog_11_method_14_code 201 = .ok (.return_, 1) := by decide +kernel
set_option maxHeartbeats 4000000 in
set_option maxRecDepth 100000 in
/-- the number modulo the prime -/
theorem c_Model_settles (l : Launch) (g : WG) (n0 : Nat → Prop) (mo s0 : Nat) (th pw td wr : Int32) (w n : Nat) (hw : WH w n) (f fd : Nat → Int64) (hs : s0 < 170) (hd : ∀ k, k < n → dg (f k)) : Ctr l y_Model_settles (.code y_Model_settles prog_11_method_14_code 8 none) 1 24 0 0 n0 g [.ref mo, .int (nI s0)] (fun H => MO g H mo th (nI w) (nI n) pw td wr ∧ AJ g H (mo + 2) 28 kPr ∧ AJ g H (mo + 5) 32 f ∧ AJ g H (mo + 1) 2380 fd ∧ n0 (mo + 1) ∧ n0 (mo + 5)) (QV (fun H H' => KJ g (fun q => q = mo + 1 ∨ q = mo + 5) H H' ∧ ∃ fd', AJ g H' (mo + 1) 2380 fd' ∧ (∀ j, (j < 14 * s0 ∨ 14 * s0 + 14 ≤ j) → fd' j = fd j) ∧ (∀ k, k < 14 → dg (fd' (14 * s0 + k))) ∧ (∀ k, n ≤ k → k < 14 → fd' (14 * s0 + k) = 0) ∧ VL (fun k => fd' (14 * s0 + k)) n = VL f n % PP w n)) := by
  refine ctr_mk l (lv0 := [(0, .ref mo), (1, .int (nI s0))]) (by decide) (Nat.le_of_ble_eq_true rfl) rfl ?_
  intro p e s m below meth c ls E hr hlk hnm hl hP
  have hx := E.1
  have hb := E.2.1
  have hK := E.2.2.2.2.2
  have hF : ∀ q ∈ ([] : List Loc), n0 q.base := fun q hq => absurd hq List.not_mem_nil
  obtain ⟨hmo, hpr, hac, hfd, hn01, hn05⟩ := hP
  obtain ⟨hpd, hn1, hn14, hw1, hPT, hP1, hT0, hT1⟩ := wh_kP hw
  have hk : KJ g (fun q => q = mo + 1 ∨ q = mo + 5) s.heap s.heap := KJ.rf
  have fin : ∀ (H : Heap) (locs : List Loc) (ls : Array Slot) (f1 : Nat → Int64), KJ g (fun q => q = mo + 1 ∨ q = mo + 5) s.heap H → AJ g H (mo + 5) 32 f1 → (∀ k, k < n → dg (f1 k)) → VL f1 n = VL f n % PP w n → (∀ q ∈ locs, n0 q.base) → AJ g H (mo + 1) 2380 fd → lv_has ls 8 [(0, .ref mo), (1, .int (nI s0))] → W p l e { frames := 1, cells := 0, slots := 0, locals := 24 } s m [.ref mo, .int (nI s0)].toArray below meth c H locs 0 0 (MQ below (QcP (QV (fun H H' => KJ g (fun q => q = mo + 1 ∨ q = mo + 5) H H' ∧ ∃ fd', AJ g H' (mo + 1) 2380 fd' ∧ (∀ j, (j < 14 * s0 ∨ 14 * s0 + 14 ≤ j) → fd' j = fd j) ∧ (∀ k, k < 14 → dg (fd' (14 * s0 + k))) ∧ (∀ k, n ≤ k → k < 14 → fd' (14 * s0 + k) = 0) ∧ VL (fun k => fd' (14 * s0 + k)) n = VL f n % PP w n))) [.ref mo, .int (nI s0)].toArray s 0 0 (fun q => n0 q)) (F0 m 153 ls []) := by
    intro  H   locs   ls   f1 hk hf hdf hval hF hfd0 hl
    refine lv_iconst (v := nI 0) hx hb d_Model_settles_153 (by decide) ?_
    refine lv_istore (lv' := [(5, .int (nI 0)), (0, .ref mo), (1, .int (nI s0))]) hx hb d_Model_settles_154 hl (by decide) rfl (fun ls hl => ?_)
    have hl : lv_has ls 8 [(5, .int (nI 0)), (0, .ref mo), (1, .int (nI s0))] := lv_sub hl [0, 1, 2] rfl
    have cp : ∀ (k : Nat) (i : Nat) (H : Heap) (locs : List Loc) (ls : Array Slot) (fd1 : Nat → Int64), i + k = 14 → KJ g (fun q => q = mo + 1 ∨ q = mo + 5) s.heap H → AJ g H (mo + 5) 32 f1 → AJ g H (mo + 1) 2380 fd1 → (∀ j, (j < 14 * s0 ∨ 14 * s0 + 14 ≤ j) → fd1 j = fd j) → (∀ k, k < i → fd1 (14 * s0 + k) = if k < n then f1 k else 0) → (∀ q ∈ locs, n0 q.base) → lv_has ls 8 [(5, .int (nI i)), (0, .ref mo), (1, .int (nI s0))] → W p l e { frames := 1, cells := 0, slots := 0, locals := 24 } s m [.ref mo, .int (nI s0)].toArray below meth c H locs 0 0 (MQ below (QcP (QV (fun H H' => KJ g (fun q => q = mo + 1 ∨ q = mo + 5) H H' ∧ ∃ fd', AJ g H' (mo + 1) 2380 fd' ∧ (∀ j, (j < 14 * s0 ∨ 14 * s0 + 14 ≤ j) → fd' j = fd j) ∧ (∀ k, k < 14 → dg (fd' (14 * s0 + k))) ∧ (∀ k, n ≤ k → k < 14 → fd' (14 * s0 + k) = 0) ∧ VL (fun k => fd' (14 * s0 + k)) n = VL f n % PP w n))) [.ref mo, .int (nI s0)].toArray s 0 0 (fun q => n0 q)) (F0 m 156 ls []) := by
      intro k
      induction k with
      | zero =>
        intro  i   H   locs   ls   fd1 hi hk hf hfd ho hlow hF hl
        obtain rfl : i = 14 := by omega
        refine lv_iload hx hb d_Model_settles_156 (lv_at hl 0 rfl) ?_
        refine lv_bipush (v := nI 14) hx hb d_Model_settles_158 (by decide) ?_
        refine lv_icmp_ge (tgt := 201) hx hb d_Model_settles_160 (by decide) (fun _ => ?_) (fun h9 => absurd (by decide) h9)
        exact q_vret E hr hlk (⟨rfl, hk, fd1, hfd, ho, fun k hk1 => by rw [hlow k hk1]; split; exact hdf k (by assumption); exact ⟨by decide, by decide⟩, fun k h1 h2 => by rw [hlow k h2, if_neg (by omega)], by rw [← hval]; exact VL_ext (fun k hk1 => by rw [hlow k (by omega), if_pos hk1])⟩) hF d_Model_settles_201
      | succ k ih =>
        intro  i   H   locs   ls   fd1 hi hk hf hfd ho hlow hF hl
        refine lv_iload hx hb d_Model_settles_156 (lv_at hl 0 rfl) ?_
        refine lv_bipush (v := nI 14) hx hb d_Model_settles_158 (by decide) ?_
        refine lv_icmp_ge (tgt := 201) hx hb d_Model_settles_160 (by decide) (fun h9 => absurd h9 (nI_ge (by omega) (by decide))) (fun _ => ?_)
        refine lv_aload_n hx hb d_Model_settles_163 rfl (lv_at hl 1 rfl) ?_
        refine q_get (C := "KateDeskModel") (T := T_Model) (N := 14) (ci := 8) E (hk.ob hK hmo) in_Model rfl 1 (by decide) w_1002 rfl rfl d_Model_settles_164 ?_
        refine lv_bipush (v := nI 14) hx hb d_Model_settles_167 (by decide) ?_
        refine lv_iload_n hx hb d_Model_settles_169 rfl (lv_at hl 2 rfl) ?_
        refine lv_imul hx hb d_Model_settles_170 ?_
        refine lv_topi (fun t9 e9 => ?_)
        obtain rfl : t9 = nI (14 * s0) := e9.trans (pk_mul _ _)
        refine lv_iload hx hb d_Model_settles_171 (lv_at hl 0 rfl) ?_
        refine lv_iadd hx hb d_Model_settles_173 ?_
        refine lv_topi (fun t9 e9 => ?_)
        obtain rfl : t9 = nI (14 * s0 + i) := e9.trans (nI_add _ _)
        refine lv_iload hx hb d_Model_settles_174 (lv_at hl 0 rfl) ?_
        refine lv_aload_n hx hb d_Model_settles_176 rfl (lv_at hl 1 rfl) ?_
        refine q_get (C := "KateDeskModel") (T := T_Model) (N := 14) (ci := 8) E (hk.ob hK hmo) in_Model rfl 7 (by decide) w_1008 rfl rfl d_Model_settles_177 ?_
        refine lv_icmp_ge (tgt := 193) hx hb d_Model_settles_180 (by decide) (fun hin => ?_) (fun hin => ?_)
        rotate_left
        · skip
          have hin : i < n := Nat.lt_of_not_le (fun q => hin (nI_le q (by omega)))
          refine lv_aload_n hx hb d_Model_settles_183 rfl (lv_at hl 1 rfl) ?_
          refine q_get (C := "KateDeskModel") (T := T_Model) (N := 14) (ci := 8) E (hk.ob hK hmo) in_Model rfl 5 (by decide) w_1006 rfl rfl d_Model_settles_184 ?_
          refine lv_iload hx hb d_Model_settles_187 (lv_at hl 0 rfl) ?_
          refine q_lald (N := 32) (f := f1) E hf i rfl (by omega) (by decide) d_Model_settles_189 ?_
          have hv9 : f1 i = (if i < n then f1 i else 0) := by rw [if_pos hin]
          refine lv_goto (tgt := 194) hx hb d_Model_settles_190 (by decide) ?_
          refine q_last E hfd hn01 hF (14 * s0 + i) rfl (by omega) (by decide) d_Model_settles_194 (fun H1 locs hq hfd2 hF => ?_)
          have hk := hk.tr (hq.mono (fun q h => Or.inl h))
          have hf := hq.ajo (by omega) hf
          refine lv_iinc (k := 0) (v := nI (i + 1)) (lv' := [(5, .int (nI (i + 1))), (0, .ref mo), (1, .int (nI s0))]) hx hb d_Model_settles_195 hl rfl (i_inc i) (by decide) rfl (fun ls hl => ?_)
          refine lv_goto (tgt := 156) hx hb d_Model_settles_198 (by decide) ?_
          have hl : lv_has ls 8 [(5, .int (nI (i + 1))), (0, .ref mo), (1, .int (nI s0))] := lv_sub hl [0, 1, 2] rfl
          exact ih (i + 1) H1 locs ls _ (by omega) hk hf hfd2 (fun j hj => by simp only [vp_updL, show j ≠ 14 * s0 + i by omega, if_false]; exact ho j hj) (fun k hk1 => by by_cases e : k = i; (subst e; simp only [vp_updL, if_true]; exact hv9); (simp only [vp_updL, show 14 * s0 + k ≠ 14 * s0 + i by omega, if_false]; exact hlow k (by omega))) hF hl
        have hin : ¬ i < n := fun q => absurd hin (nI_ge q (by omega))
        have hv9 : 0 = (if i < n then f1 i else 0) := by rw [if_neg hin]
        refine lv_lconst (v := 0) hx hb d_Model_settles_193 (by decide) ?_
        refine q_last E hfd hn01 hF (14 * s0 + i) rfl (by omega) (by decide) d_Model_settles_194 (fun H1 locs hq hfd2 hF => ?_)
        have hk := hk.tr (hq.mono (fun q h => Or.inl h))
        have hf := hq.ajo (by omega) hf
        refine lv_iinc (k := 0) (v := nI (i + 1)) (lv' := [(5, .int (nI (i + 1))), (0, .ref mo), (1, .int (nI s0))]) hx hb d_Model_settles_195 hl rfl (i_inc i) (by decide) rfl (fun ls hl => ?_)
        refine lv_goto (tgt := 156) hx hb d_Model_settles_198 (by decide) ?_
        have hl : lv_has ls 8 [(5, .int (nI (i + 1))), (0, .ref mo), (1, .int (nI s0))] := lv_sub hl [0, 1, 2] rfl
        exact ih (i + 1) H1 locs ls _ (by omega) hk hf hfd2 (fun j hj => by simp only [vp_updL, show j ≠ 14 * s0 + i by omega, if_false]; exact ho j hj) (fun k hk1 => by by_cases e : k = i; (subst e; simp only [vp_updL, if_true]; exact hv9); (simp only [vp_updL, show 14 * s0 + k ≠ 14 * s0 + i by omega, if_false]; exact hlow k (by omega))) hF hl
    exact cp 14 0 H locs ls _ (by omega) hk hf hfd0 (fun _ _ => rfl) (fun k hk1 => absurd hk1 (Nat.not_lt_zero _)) hF hl
  have loop : ∀ (mm : Nat) (H : Heap) (locs : List Loc) (ls : Array Slot) (f1 : Nat → Int64), VL f1 n < mm → KJ g (fun q => q = mo + 1 ∨ q = mo + 5) s.heap H → KJ g (fun q => q = mo + 5) s.heap H → AJ g H (mo + 5) 32 f1 → (∀ k, k < n → dg (f1 k)) → VL f1 n % PP w n = VL f n % PP w n → (∀ q ∈ locs, n0 q.base) → lv_has ls 8 [(4, .int (nI 1)), (2, .long (kPr (14 * w + (n - 1)))), (0, .ref mo), (1, .int (nI s0))] → W p l e { frames := 1, cells := 0, slots := 0, locals := 24 } s m [.ref mo, .int (nI s0)].toArray below meth c H locs 0 0 (MQ below (QcP (QV (fun H H' => KJ g (fun q => q = mo + 1 ∨ q = mo + 5) H H' ∧ ∃ fd', AJ g H' (mo + 1) 2380 fd' ∧ (∀ j, (j < 14 * s0 ∨ 14 * s0 + 14 ≤ j) → fd' j = fd j) ∧ (∀ k, k < 14 → dg (fd' (14 * s0 + k))) ∧ (∀ k, n ≤ k → k < 14 → fd' (14 * s0 + k) = 0) ∧ VL (fun k => fd' (14 * s0 + k)) n = VL f n % PP w n))) [.ref mo, .int (nI s0)].toArray s 0 0 (fun q => n0 q)) (F0 m 23 ls []) := by
    intro mm
    induction mm with
    | zero =>
      intro H locs ls f1 hm hk hk5 hf hdf
      have := (VL_range hdf).1
      omega
    | succ mm ihm =>
      intro H locs ls f1 hm hk hk5 hf hdf hmod hF hl
      have hfd0 : AJ g H (mo + 1) 2380 fd := hk5.ajo (by omega) hfd
      refine lv_iload hx hb d_Model_settles_23 (lv_at hl 0 rfl) ?_
      refine lv_if_eq (tgt := 153) hx hb d_Model_settles_25 (by decide) (fun h9 => absurd h9 (by decide)) (fun _ => ?_)
      refine lv_aload_n hx hb d_Model_settles_28 rfl (lv_at hl 2 rfl) ?_
      refine q_get (C := "KateDeskModel") (T := T_Model) (N := 14) (ci := 8) E (hk.ob hK hmo) in_Model rfl 5 (by decide) w_1006 rfl rfl d_Model_settles_29 ?_
      refine lv_aload_n hx hb d_Model_settles_32 rfl (lv_at hl 2 rfl) ?_
      refine q_get (C := "KateDeskModel") (T := T_Model) (N := 14) (ci := 8) E (hk.ob hK hmo) in_Model rfl 7 (by decide) w_1008 rfl rfl d_Model_settles_33 ?_
      refine lv_iconst (v := nI 1) hx hb d_Model_settles_36 (by decide) ?_
      refine lv_isub hx hb d_Model_settles_37 ?_
      refine lv_topi (fun t9 e9 => ?_)
      obtain rfl : t9 = nI (n - 1) := e9.trans (pk_sub hn1)
      refine q_lald (N := 32) (f := f1) E hf (n - 1) rfl (by omega) (by decide) d_Model_settles_38 ?_
      refine lv_lload_n hx hb d_Model_settles_39 rfl (lv_at hl 1 rfl) ?_
      refine lv_lconst (v := 1) hx hb d_Model_settles_40 (by decide) ?_
      refine lv_ladd hx hb d_Model_settles_41 ?_
      refine lv_ldiv hx hb d_Model_settles_42 hT0 ?_
      refine lv_topl (fun q0 eq0 => ?_)
      have hfn := hdf (n - 1) (by omega)
      have hTd := hpd (n - 1) (by omega)
      have hq0 : q0.toInt = (f1 (n - 1)).toInt / ((kP w (n - 1)).toInt + 1) := by rw [eq0]; refine (i64_div hfn.1 ?_).trans ?_; (show 0 < (kP w (n - 1) + 1).toInt; rw [hT1]; have := hTd.1; omega); (show _ / (kP w (n - 1) + 1).toInt = _; rw [hT1])
      have hq0n : 0 ≤ q0.toInt := by rw [hq0]; exact Int.ediv_nonneg hfn.1 (by have := hTd.1; omega)
      have hq0m : q0.toInt * ((kP w (n - 1)).toInt + 1) ≤ (f1 (n - 1)).toInt := by rw [hq0]; exact Int.ediv_mul_le _ (by have := hTd.1; omega)
      have hq0b : q0.toInt < 268435456 := by rw [hq0]; exact Int.lt_of_le_of_lt (Int.ediv_le_self _ hfn.1) hfn.2
      refine lv_lstore (lv' := [(5, .long q0), (4, .int (nI 1)), (2, .long (kPr (14 * w + (n - 1)))), (0, .ref mo), (1, .int (nI s0))]) hx hb d_Model_settles_43 hl (by decide) rfl (fun ls hl => ?_)
      refine lv_lload hx hb d_Model_settles_45 (lv_at hl 0 rfl) ?_
      refine lv_lconst (v := 0) hx hb d_Model_settles_47 (by decide) ?_
      refine W.lcmp hx hb d_Model_settles_48 ?_
      have hmdef : True := trivial
      have stop : ∀ (locs : List Loc) (ls : Array Slot) (q : Int64), (∀ q ∈ locs, n0 q.base) → q.toInt = (0 : Int64).toInt → VL f1 n < PP w n → lv_has ls 8 [(2, .long (kPr (14 * w + (n - 1)))), (0, .ref mo), (1, .int (nI s0))] → W p l e { frames := 1, cells := 0, slots := 0, locals := 24 } s m [.ref mo, .int (nI s0)].toArray below meth c H locs 0 0 (MQ below (QcP (QV (fun H H' => KJ g (fun q => q = mo + 1 ∨ q = mo + 5) H H' ∧ ∃ fd', AJ g H' (mo + 1) 2380 fd' ∧ (∀ j, (j < 14 * s0 ∨ 14 * s0 + 14 ≤ j) → fd' j = fd j) ∧ (∀ k, k < 14 → dg (fd' (14 * s0 + k))) ∧ (∀ k, n ≤ k → k < 14 → fd' (14 * s0 + k) = 0) ∧ VL (fun k => fd' (14 * s0 + k)) n = VL f n % PP w n))) [.ref mo, .int (nI s0)].toArray s 0 0 (fun q => n0 q)) (F0 m 65 ls [.long q]) := by
        intro  locs   ls   q hF hq hlt hl
        refine lv_lstore (lv' := [(5, .long q), (2, .long (kPr (14 * w + (n - 1)))), (0, .ref mo), (1, .int (nI s0))]) hx hb d_Model_settles_65 hl (by decide) rfl (fun ls hl => ?_)
        refine lv_lload hx hb d_Model_settles_67 (lv_at hl 0 rfl) ?_
        refine lv_lconst (v := 0) hx hb d_Model_settles_69 (by decide) ?_
        refine W.lcmp hx hb d_Model_settles_70 ?_
        refine lv_if_le (tgt := 78) hx hb d_Model_settles_71 (by decide) (fun _ => ?_) (fun h9 => absurd (by rw [show q = 0 from i64_eq_of hq]; decide) h9)
        refine lv_iconst (v := nI 0) hx hb d_Model_settles_78 (by decide) ?_
        refine lv_istore (lv' := [(4, .int (nI 0)), (5, .long q), (2, .long (kPr (14 * w + (n - 1)))), (0, .ref mo), (1, .int (nI s0))]) hx hb d_Model_settles_79 hl (by decide) rfl (fun ls hl => ?_)
        refine lv_iconst (v := nI 0) hx hb d_Model_settles_81 (by decide) ?_
        refine lv_istore (lv' := [(7, .int (nI 0)), (4, .int (nI 0)), (5, .long q), (2, .long (kPr (14 * w + (n - 1)))), (0, .ref mo), (1, .int (nI s0))]) hx hb d_Model_settles_82 hl (by decide) rfl (fun ls hl => ?_)
        refine lv_iload hx hb d_Model_settles_84 (lv_at hl 0 rfl) ?_
        refine lv_aload_n hx hb d_Model_settles_86 rfl (lv_at hl 4 rfl) ?_
        refine q_get (C := "KateDeskModel") (T := T_Model) (N := 14) (ci := 8) E (hk.ob hK hmo) in_Model rfl 7 (by decide) w_1008 rfl rfl d_Model_settles_87 ?_
        refine lv_icmp_ge (tgt := 132) hx hb d_Model_settles_90 (by decide) (fun h9 => absurd h9 (nI_ge (by omega) (by omega))) (fun _ => ?_)
        refine lv_iload hx hb d_Model_settles_93 (lv_at hl 1 rfl) ?_
        refine lv_if_eq (tgt := 132) hx hb d_Model_settles_95 (by decide) (fun _ => ?_) (fun h9 => absurd (by decide) h9)
        refine lv_aload_n hx hb d_Model_settles_132 rfl (lv_at hl 4 rfl) ?_
        refine q_get (C := "KateDeskModel") (T := T_Model) (N := 14) (ci := 8) E (hk.ob hK hmo) in_Model rfl 5 (by decide) w_1006 rfl rfl d_Model_settles_133 ?_
        refine lv_aload_n hx hb d_Model_settles_136 rfl (lv_at hl 4 rfl) ?_
        refine q_get (C := "KateDeskModel") (T := T_Model) (N := 14) (ci := 8) E (hk.ob hK hmo) in_Model rfl 7 (by decide) w_1008 rfl rfl d_Model_settles_137 ?_
        refine lv_lconst (v := 0) hx hb d_Model_settles_140 (by decide) ?_
        refine q_last E hf hn05 hF n rfl (by omega) (by decide) d_Model_settles_141 (fun H1 locs hq hf2 hF => ?_)
        have hk5 := hk5.tr hq
        have hk := hk.tr (hq.mono (fun q h => Or.inr h))
        refine lv_aload_n hx hb d_Model_settles_142 rfl (lv_at hl 4 rfl) ?_
        refine lv_aload_n hx hb d_Model_settles_143 rfl (lv_at hl 4 rfl) ?_
        refine q_get (C := "KateDeskModel") (T := T_Model) (N := 14) (ci := 8) E (hk.ob hK hmo) in_Model rfl 7 (by decide) w_1008 rfl rfl d_Model_settles_144 ?_
        refine q_cV (rest := []) E (c_Model_carries l g n0 mo n th (nI w) (nI n) pw td wr (vp_updL f1 n 0) (by omega) (fun k hk1 => by by_cases e : k = n; (subst e; simp only [vp_updL, if_true]; decide); (simp only [vp_updL, e, if_false]; have := hdf k (by omega); unfold dg at this; omega))) w_983 w_15 w_980 w_982 (bw_s 19 rfl) hd_Model_carries rfl ⟨by decide, by decide⟩ (OB.recv E.2.2.2.2.2 (by rfl) (hk.ob hK hmo)) (⟨hk.ob hK hmo, hf2, hn05⟩) hF hl.1 rfl (Nat.le_of_ble_eq_true rfl) d_Model_settles_147 ⟨by decide, by decide⟩ (qv (fun H2 locs hq hF => ?_))
        obtain ⟨hq, f3, hf3, hd3, hV3, hj3, hb3⟩ := hq
        have hk := hk.tr (hq.mono (fun q h => Or.inr h))
        have hk5 := hk5.tr hq
        have hr3 := VL_range hd3
        have hr1 := VL_range hdf
        have he : VL f3 n + (f3 n).toInt * 268435456 ^ n = VL f1 n := by rw [hV3, VL_upd_ge (Nat.le_refl _)]; simp only [vp_updL, if_true]; rw [show (0 : Int64).toInt = 0 by decide]; omega
        have hc0 := carry0 (pw_pos n) hr3 hr1 he
        refine lv_goto (tgt := 23) hx hb d_Model_settles_150 (by decide) ?_
        refine lv_iload hx hb d_Model_settles_23 (lv_at hl 1 rfl) ?_
        refine lv_if_eq (tgt := 153) hx hb d_Model_settles_25 (by decide) (fun _ => ?_) (fun h9 => absurd (by decide) h9)
        have hl : lv_has ls 8 [(0, .ref mo), (1, .int (nI s0))] := lv_sub hl [4, 5] rfl
        exact fin _ _ ls f3 hk hf3 hd3 (by rw [hc0.2]; rw [← hmod]; exact (Int.emod_eq_of_lt hr1.1 hlt).symm) hF (hk5.ajo (by omega) hfd) hl
      have on : ∀ (locs : List Loc) (ls : Array Slot) (q : Int64), (∀ q ∈ locs, n0 q.base) → 1 ≤ q.toInt → q.toInt < 268435456 → q.toInt * PP w n ≤ VL f1 n → lv_has ls 8 [(2, .long (kPr (14 * w + (n - 1)))), (0, .ref mo), (1, .int (nI s0))] → W p l e { frames := 1, cells := 0, slots := 0, locals := 24 } s m [.ref mo, .int (nI s0)].toArray below meth c H locs 0 0 (MQ below (QcP (QV (fun H H' => KJ g (fun q => q = mo + 1 ∨ q = mo + 5) H H' ∧ ∃ fd', AJ g H' (mo + 1) 2380 fd' ∧ (∀ j, (j < 14 * s0 ∨ 14 * s0 + 14 ≤ j) → fd' j = fd j) ∧ (∀ k, k < 14 → dg (fd' (14 * s0 + k))) ∧ (∀ k, n ≤ k → k < 14 → fd' (14 * s0 + k) = 0) ∧ VL (fun k => fd' (14 * s0 + k)) n = VL f n % PP w n))) [.ref mo, .int (nI s0)].toArray s 0 0 (fun q => n0 q)) (F0 m 65 ls [.long q]) := by
        intro  locs   ls   q hF hq1 hqb hqP hl
        refine lv_lstore (lv' := [(5, .long q), (2, .long (kPr (14 * w + (n - 1)))), (0, .ref mo), (1, .int (nI s0))]) hx hb d_Model_settles_65 hl (by decide) rfl (fun ls hl => ?_)
        refine lv_lload hx hb d_Model_settles_67 (lv_at hl 0 rfl) ?_
        refine lv_lconst (v := 0) hx hb d_Model_settles_69 (by decide) ?_
        refine W.lcmp hx hb d_Model_settles_70 ?_
        refine lv_if_le (tgt := 78) hx hb d_Model_settles_71 (by decide) (fun h9 => absurd h9 (cmp_pos hq1)) (fun _ => ?_)
        refine lv_iconst (v := nI 1) hx hb d_Model_settles_74 (by decide) ?_
        refine lv_goto (tgt := 79) hx hb d_Model_settles_75 (by decide) ?_
        refine lv_istore (lv' := [(4, .int (nI 1)), (5, .long q), (2, .long (kPr (14 * w + (n - 1)))), (0, .ref mo), (1, .int (nI s0))]) hx hb d_Model_settles_79 hl (by decide) rfl (fun ls hl => ?_)
        refine lv_iconst (v := nI 0) hx hb d_Model_settles_81 (by decide) ?_
        refine lv_istore (lv' := [(7, .int (nI 0)), (4, .int (nI 1)), (5, .long q), (2, .long (kPr (14 * w + (n - 1)))), (0, .ref mo), (1, .int (nI s0))]) hx hb d_Model_settles_82 hl (by decide) rfl (fun ls hl => ?_)
        have hl : lv_has ls 8 [(7, .int (nI 0)), (4, .int (nI 1)), (5, .long q), (2, .long (kPr (14 * w + (n - 1)))), (0, .ref mo), (1, .int (nI s0))] := lv_sub hl [0, 1, 2, 3, 4, 5] rfl
        have inner : ∀ (k3 : Nat) (i : Nat) (H : Heap) (locs : List Loc) (ls : Array Slot) (f2 : Nat → Int64), i + k3 = n → KJ g (fun q => q = mo + 1 ∨ q = mo + 5) s.heap H → KJ g (fun q => q = mo + 5) s.heap H → AJ g H (mo + 5) 32 f2 → (∀ k, k < i → (f2 k).toInt = (f1 k).toInt - q.toInt * (kP w k).toInt) → (∀ j, i ≤ j → f2 j = f1 j) → (∀ q ∈ locs, n0 q.base) → lv_has ls 8 [(7, .int (nI i)), (4, .int (nI 1)), (5, .long q), (2, .long (kPr (14 * w + (n - 1)))), (0, .ref mo), (1, .int (nI s0))] → W p l e { frames := 1, cells := 0, slots := 0, locals := 24 } s m [.ref mo, .int (nI s0)].toArray below meth c H locs 0 0 (MQ below (QcP (QV (fun H H' => KJ g (fun q => q = mo + 1 ∨ q = mo + 5) H H' ∧ ∃ fd', AJ g H' (mo + 1) 2380 fd' ∧ (∀ j, (j < 14 * s0 ∨ 14 * s0 + 14 ≤ j) → fd' j = fd j) ∧ (∀ k, k < 14 → dg (fd' (14 * s0 + k))) ∧ (∀ k, n ≤ k → k < 14 → fd' (14 * s0 + k) = 0) ∧ VL (fun k => fd' (14 * s0 + k)) n = VL f n % PP w n))) [.ref mo, .int (nI s0)].toArray s 0 0 (fun q => n0 q)) (F0 m 84 ls []) := by
          intro k3
          induction k3 with
          | zero =>
            intro  i   H   locs   ls   f2 hi hk hk5 hf hlow hge hF hl
            obtain rfl : n = i := by omega
            refine lv_iload hx hb d_Model_settles_84 (lv_at hl 0 rfl) ?_
            refine lv_aload_n hx hb d_Model_settles_86 rfl (lv_at hl 4 rfl) ?_
            refine q_get (C := "KateDeskModel") (T := T_Model) (N := 14) (ci := 8) E (hk.ob hK hmo) in_Model rfl 7 (by decide) w_1008 rfl rfl d_Model_settles_87 ?_
            refine lv_icmp_ge (tgt := 132) hx hb d_Model_settles_90 (by decide) (fun _ => ?_) (fun h9 => absurd (nI_le (Nat.le_refl _) (by omega)) h9)
            refine lv_aload_n hx hb d_Model_settles_132 rfl (lv_at hl 4 rfl) ?_
            refine q_get (C := "KateDeskModel") (T := T_Model) (N := 14) (ci := 8) E (hk.ob hK hmo) in_Model rfl 5 (by decide) w_1006 rfl rfl d_Model_settles_133 ?_
            refine lv_aload_n hx hb d_Model_settles_136 rfl (lv_at hl 4 rfl) ?_
            refine q_get (C := "KateDeskModel") (T := T_Model) (N := 14) (ci := 8) E (hk.ob hK hmo) in_Model rfl 7 (by decide) w_1008 rfl rfl d_Model_settles_137 ?_
            refine lv_lconst (v := 0) hx hb d_Model_settles_140 (by decide) ?_
            refine q_last E hf hn05 hF n rfl (by omega) (by decide) d_Model_settles_141 (fun H1 locs hq hf2 hF => ?_)
            have hk5 := hk5.tr hq
            have hk := hk.tr (hq.mono (fun q h => Or.inr h))
            refine lv_aload_n hx hb d_Model_settles_142 rfl (lv_at hl 4 rfl) ?_
            refine lv_aload_n hx hb d_Model_settles_143 rfl (lv_at hl 4 rfl) ?_
            refine q_get (C := "KateDeskModel") (T := T_Model) (N := 14) (ci := 8) E (hk.ob hK hmo) in_Model rfl 7 (by decide) w_1008 rfl rfl d_Model_settles_144 ?_
            refine q_cV (rest := []) E (c_Model_carries l g n0 mo n th (nI w) (nI n) pw td wr (vp_updL f2 n 0) (by omega) (fun k hk1 => by by_cases e : k = n; (subst e; simp only [vp_updL, if_true]; decide); (simp only [vp_updL, e, if_false]; rw [hlow k (by omega)]; have h5 := hdf k (by omega); have h6 := hpd k (by omega); have h7 := mul_bd hq1 hqb h6; unfold dg at h5; omega))) w_983 w_15 w_980 w_982 (bw_s 19 rfl) hd_Model_carries rfl ⟨by decide, by decide⟩ (OB.recv E.2.2.2.2.2 (by rfl) (hk.ob hK hmo)) (⟨hk.ob hK hmo, hf2, hn05⟩) hF hl.1 rfl (Nat.le_of_ble_eq_true rfl) d_Model_settles_147 ⟨by decide, by decide⟩ (qv (fun H2 locs hq hF => ?_))
            obtain ⟨hq, f3, hf3, hd3, hV3, hj3, hb3⟩ := hq
            have hk := hk.tr (hq.mono (fun q h => Or.inr h))
            have hk5 := hk5.tr hq
            have hr3 := VL_range hd3
            have hr1 := VL_range hdf
            have hs : VL f2 n = VL f1 n - q.toInt * PP w n := VL_subq hlow
            have hqp : 0 ≤ q.toInt * PP w n := Int.mul_nonneg (by omega) (by omega)
            have hqp2 : PP w n ≤ q.toInt * PP w n := Int.le_trans (Int.le_of_eq (Int.one_mul (PP w n)).symm) (Int.mul_le_mul_of_nonneg_right hq1 (by omega))
            have he : VL f3 n + (f3 n).toInt * 268435456 ^ n = VL f1 n - q.toInt * PP w n := by rw [hV3, VL_upd_ge (Nat.le_refl _)]; simp only [vp_updL, if_true]; rw [show (0 : Int64).toInt = 0 by decide, hs]; omega
            have hc0 := carry0 (pw_pos n) hr3 ⟨by omega, by omega⟩ he
            refine lv_goto (tgt := 23) hx hb d_Model_settles_150 (by decide) ?_
            have hl : lv_has ls 8 [(4, .int (nI 1)), (2, .long (kPr (14 * w + (n - 1)))), (0, .ref mo), (1, .int (nI s0))] := lv_sub hl [1, 3, 4, 5] rfl
            exact ihm _ _ ls f3 (by rw [hc0.2]; omega) hk hk5 hf3 hd3 (by rw [hc0.2, ← hmod]; exact sub_mod _ _ _) hF hl
          | succ k3 ih3 =>
            intro  i   H   locs   ls   f2 hi hk hk5 hf hlow hge hF hl
            refine lv_iload hx hb d_Model_settles_84 (lv_at hl 0 rfl) ?_
            refine lv_aload_n hx hb d_Model_settles_86 rfl (lv_at hl 4 rfl) ?_
            refine q_get (C := "KateDeskModel") (T := T_Model) (N := 14) (ci := 8) E (hk.ob hK hmo) in_Model rfl 7 (by decide) w_1008 rfl rfl d_Model_settles_87 ?_
            refine lv_icmp_ge (tgt := 132) hx hb d_Model_settles_90 (by decide) (fun h9 => absurd h9 (nI_ge (by omega) (by omega))) (fun _ => ?_)
            refine lv_iload hx hb d_Model_settles_93 (lv_at hl 1 rfl) ?_
            refine lv_if_eq (tgt := 132) hx hb d_Model_settles_95 (by decide) (fun h9 => absurd h9 (by decide)) (fun _ => ?_)
            refine lv_aload_n hx hb d_Model_settles_98 rfl (lv_at hl 4 rfl) ?_
            refine q_get (C := "KateDeskModel") (T := T_Model) (N := 14) (ci := 8) E (hk.ob hK hmo) in_Model rfl 5 (by decide) w_1006 rfl rfl d_Model_settles_99 ?_
            refine lv_iload hx hb d_Model_settles_102 (lv_at hl 0 rfl) ?_
            refine lv_dup2_11 hx hb d_Model_settles_104 rfl rfl ?_
            refine q_lald (N := 32) (f := f2) E hf i rfl (by omega) (by decide) d_Model_settles_105 ?_
            refine lv_lload hx hb d_Model_settles_106 (lv_at hl 2 rfl) ?_
            refine lv_aload_n hx hb d_Model_settles_108 rfl (lv_at hl 4 rfl) ?_
            refine q_get (C := "KateDeskModel") (T := T_Model) (N := 14) (ci := 8) E (hk.ob hK hmo) in_Model rfl 2 (by decide) w_1003 rfl rfl d_Model_settles_109 ?_
            refine lv_bipush (v := nI 14) hx hb d_Model_settles_112 (by decide) ?_
            refine lv_aload_n hx hb d_Model_settles_114 rfl (lv_at hl 4 rfl) ?_
            refine q_get (C := "KateDeskModel") (T := T_Model) (N := 14) (ci := 8) E (hk.ob hK hmo) in_Model rfl 6 (by decide) w_1007 rfl rfl d_Model_settles_115 ?_
            refine lv_imul hx hb d_Model_settles_118 ?_
            refine lv_iload hx hb d_Model_settles_119 (lv_at hl 0 rfl) ?_
            refine lv_iadd hx hb d_Model_settles_121 ?_
            have hpi : (nI 14) * (nI w) + nI i = nI (14 * w + i) := by rw [pk_mul, nI_add]
            refine q_lald (N := 28) (f := kPr) E (hk.ajo (show ¬ (mo + 2 = mo + 1 ∨ mo + 2 = mo + 5) by omega) hpr) (14 * w + i) hpi (by omega) (by decide) d_Model_settles_122 ?_
            refine lv_lmul hx hb d_Model_settles_123 ?_
            refine lv_lsub hx hb d_Model_settles_124 ?_
            refine q_last E hf hn05 hF i rfl (by omega) (by decide) d_Model_settles_125 (fun H1 locs hq hf2 hF => ?_)
            have hk5 := hk5.tr hq
            have hk := hk.tr (hq.mono (fun q h => Or.inr h))
            have e1 : f2 i = f1 i := hge i (Nat.le_refl _)
            have h5 := hdf i (by omega)
            have h6 := hpd i (by omega)
            have h7 := mul_bd hq1 hqb h6
            have e2 : (q * kPr (14 * w + i)).toInt = q.toInt * (kP w i).toInt := i64_mul (x := q) (y := kP w i) (by omega) (by omega)
            have e3 : (f2 i - q * kPr (14 * w + i)).toInt = (f1 i).toInt - q.toInt * (kP w i).toInt := by rw [e1]; unfold dg at h5; rw [← e2]; exact i64_sub (by rw [e2]; omega) (by rw [e2]; omega)
            refine lv_iinc (k := 0) (v := nI (i + 1)) (lv' := [(7, .int (nI (i + 1))), (4, .int (nI 1)), (5, .long q), (2, .long (kPr (14 * w + (n - 1)))), (0, .ref mo), (1, .int (nI s0))]) hx hb d_Model_settles_126 hl rfl (i_inc i) (by decide) rfl (fun ls hl => ?_)
            refine lv_goto (tgt := 84) hx hb d_Model_settles_129 (by decide) ?_
            have hl : lv_has ls 8 [(7, .int (nI (i + 1))), (4, .int (nI 1)), (5, .long q), (2, .long (kPr (14 * w + (n - 1)))), (0, .ref mo), (1, .int (nI s0))] := lv_sub hl [0, 1, 2, 3, 4, 5] rfl
            exact ih3 (i + 1) H1 locs ls _ (by omega) hk hk5 hf2 (fun k hk1 => by by_cases e : k = i; (subst e; simp only [vp_updL, if_true]; exact e3); (simp only [vp_updL, e, if_false]; exact hlow k (by omega))) (fun j hj => by simp only [vp_updL, show j ≠ i by omega, if_false]; exact hge j (by omega)) hF hl
        exact inner n 0 H locs ls f1 (by omega) hk hk5 hf (fun k hk1 => absurd hk1 (Nat.not_lt_zero _)) (fun _ _ => rfl) hF hl
      refine lv_if_ne (tgt := 63) hx hb d_Model_settles_49 (by decide) (fun hz => ?_) (fun hz => ?_)
      rotate_left
      · skip
        refine lv_aload_n hx hb d_Model_settles_52 rfl (lv_at hl 3 rfl) ?_
        have hq00 : q0 = 0 := cmp_eq hz
        refine q_cV (rest := []) E (c_Model_isBelow l g n0 mo th pw td wr w n hw f1 hdf) w_992 w_15 w_989 w_991 (bw_s 21 rfl) hd_Model_isBelow rfl ⟨by decide, by decide⟩ (OB.recv E.2.2.2.2.2 (by rfl) (hk.ob hK hmo)) (⟨hk.ob hK hmo, hk.ajo (show ¬ (mo + 2 = mo + 1 ∨ mo + 2 = mo + 5) by omega) hpr, hf⟩) hF hl.1 rfl (Nat.le_of_ble_eq_true rfl) d_Model_settles_53 ⟨by decide, by decide⟩ (qi (fun r H1 locs hq hF => ?_))
        obtain ⟨hr, hq⟩ := hq
        obtain rfl := hq
        rcases hr with ⟨rfl, hlt⟩ | ⟨rfl, hge⟩
        · skip
          refine lv_if_ne (tgt := 63) hx hb d_Model_settles_56 (by decide) (fun _ => ?_) (fun h9 => absurd h9 (by decide))
          refine lv_lload hx hb d_Model_settles_63 (lv_at hl 0 rfl) ?_
          have hl : lv_has ls 8 [(2, .long (kPr (14 * w + (n - 1)))), (0, .ref mo), (1, .int (nI s0))] := lv_sub hl [2, 3, 4] rfl
          exact stop _ ls q0 hF (by rw [hq00]) hlt hl
        · skip
          refine lv_if_ne (tgt := 63) hx hb d_Model_settles_56 (by decide) (fun h9 => absurd (rfl) h9) (fun _ => ?_)
          refine lv_lconst (v := 1) hx hb d_Model_settles_59 (by decide) ?_
          refine lv_goto (tgt := 65) hx hb d_Model_settles_60 (by decide) ?_
          have hl : lv_has ls 8 [(2, .long (kPr (14 * w + (n - 1)))), (0, .ref mo), (1, .int (nI s0))] := lv_sub hl [2, 3, 4] rfl
          exact on _ ls 1 hF (by decide) (by decide) (by rw [show (1 : Int64).toInt = 1 by decide, Int.one_mul]; exact hge) hl
      refine lv_lload hx hb d_Model_settles_63 (lv_at hl 0 rfl) ?_
      have hl : lv_has ls 8 [(2, .long (kPr (14 * w + (n - 1)))), (0, .ref mo), (1, .int (nI s0))] := lv_sub hl [2, 3, 4] rfl
      have hq1 : 1 ≤ q0.toInt := by
        have h9 : q0.toInt ≠ 0 := fun e => hz (by rw [show q0 = 0 from i64_eq_of (e.trans (by decide))]; decide)
        omega
      exact on _ ls q0 hF hq1 hq0b (settle_le hw hdf (by omega) hq0m) hl
  refine lv_aload_n hx hb d_Model_settles_0 rfl (lv_at hl 0 rfl) ?_
  refine q_get (C := "KateDeskModel") (T := T_Model) (N := 14) (ci := 8) E (hk.ob hK hmo) in_Model rfl 2 (by decide) w_1003 rfl rfl d_Model_settles_1 ?_
  refine lv_bipush (v := nI 14) hx hb d_Model_settles_4 (by decide) ?_
  refine lv_aload_n hx hb d_Model_settles_6 rfl (lv_at hl 0 rfl) ?_
  refine q_get (C := "KateDeskModel") (T := T_Model) (N := 14) (ci := 8) E (hk.ob hK hmo) in_Model rfl 6 (by decide) w_1007 rfl rfl d_Model_settles_7 ?_
  refine lv_imul hx hb d_Model_settles_10 ?_
  refine lv_aload_n hx hb d_Model_settles_11 rfl (lv_at hl 0 rfl) ?_
  refine q_get (C := "KateDeskModel") (T := T_Model) (N := 14) (ci := 8) E (hk.ob hK hmo) in_Model rfl 7 (by decide) w_1008 rfl rfl d_Model_settles_12 ?_
  refine lv_iadd hx hb d_Model_settles_15 ?_
  refine lv_topi (fun t9 e9 => ?_)
  obtain rfl : t9 = nI (14 * w + n) := e9.trans ((congrArg (· + nI n) (pk_mul 14 w)).trans (nI_add _ _))
  refine lv_iconst (v := nI 1) hx hb d_Model_settles_16 (by decide) ?_
  refine lv_isub hx hb d_Model_settles_17 ?_
  refine lv_topi (fun t9 e9 => ?_)
  obtain rfl : t9 = nI (14 * w + (n - 1)) := e9.trans ((pk_sub (by omega)).trans (congrArg nI (by omega)))
  refine q_lald (N := 28) (f := kPr) E hpr (14 * w + (n - 1)) rfl (by omega) (by decide) d_Model_settles_18 ?_
  refine lv_lstore_n (lv' := [(2, .long (kPr (14 * w + (n - 1)))), (0, .ref mo), (1, .int (nI s0))]) hx hb d_Model_settles_19 rfl hl (by decide) rfl (fun ls hl => ?_)
  refine lv_iconst (v := nI 1) hx hb d_Model_settles_20 (by decide) ?_
  refine lv_istore (lv' := [(4, .int (nI 1)), (2, .long (kPr (14 * w + (n - 1)))), (0, .ref mo), (1, .int (nI s0))]) hx hb d_Model_settles_21 hl (by decide) rfl (fun ls hl => ?_)
  have hl : lv_has ls 8 [(4, .int (nI 1)), (2, .long (kPr (14 * w + (n - 1)))), (0, .ref mo), (1, .int (nI s0))] := lv_sub hl [0, 1, 2, 3] rfl
  exact loop ((VL f n).toNat + 1) s.heap [] ls f (by have := (VL_range hd).1; omega) hk KJ.rf hac hd rfl hF hl
