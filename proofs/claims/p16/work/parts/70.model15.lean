abbrev y_Model_bytes : MethodName := ⟨"KateDeskModel", "bytes", "(IZ)V"⟩
theorem hd_Model_bytes : y_Model_bytes.cls ≠ "java/lang/invoke/MethodHandle" ∧ y_Model_bytes.cls ≠ "java/lang/invoke/VarHandle" ∧ (parseMethodDescriptor y_Model_bytes.desc).map (fun d => d.parameters.length) = some 2 := by decide +kernel
theorem d_Model_bytes_0 : decode prog_11_method_47_code 0 = .ok (.aload_n 0, 1) := by decide +kernel
theorem d_Model_bytes_1 : decode prog_11_method_47_code 1 = .ok (.iload_n 1, 1) := by decide +kernel
theorem d_Model_bytes_2 : decode prog_11_method_47_code 2 = .ok (.invokestatic 262, 3) := by decide +kernel
theorem d_Model_bytes_5 : decode prog_11_method_47_code 5 = .ok (.iconst 1, 1) := by decide +kernel
theorem d_Model_bytes_6 : decode prog_11_method_47_code 6 = .ok (.invokevirtual 223, 3) := by decide +kernel
theorem d_Model_bytes_9 : decode prog_11_method_47_code 9 = .ok (.ifCond .eq 4, 3) := by decide +kernel
theorem d_Model_bytes_12 : decode prog_11_method_47_code 12 = .ok (.return_, 1) := by decide +kernel
theorem d_Model_bytes_13 : decode prog_11_method_47_code 13 = .ok (.aload_n 0, 1) := by decide +kernel
theorem d_Model_bytes_14 : decode prog_11_method_47_code 14 = .ok (.iconst 0, 1) := by decide +kernel
theorem d_Model_bytes_15 : decode prog_11_method_47_code 15 = .ok (.invokevirtual 137, 3) := by decide +kernel
theorem d_Model_bytes_18 : decode prog_11_method_47_code 18 = .ok (.iload_n 1, 1) := by decide +kernel
theorem d_Model_bytes_19 : decode prog_11_method_47_code 19 = .ok (.invokestatic 265, 3) := by decide +kernel
theorem d_Model_bytes_22 : decode prog_11_method_47_code 22 = .ok (.istore_n 3, 1) := by decide +kernel
theorem d_Model_bytes_23 : decode prog_11_method_47_code 23 = .ok (.aload_n 0, 1) := by decide +kernel
theorem d_Model_bytes_24 : decode prog_11_method_47_code 24 = .ok (.iload_n 3, 1) := by decide +kernel
theorem d_Model_bytes_25 : decode prog_11_method_47_code 25 = .ok (.iconst 2, 1) := by decide +kernel
theorem d_Model_bytes_26 : decode prog_11_method_47_code 26 = .ok (.iadd, 1) := by decide +kernel
theorem d_Model_bytes_27 : decode prog_11_method_47_code 27 = .ok (.invokevirtual 246, 3) := by decide +kernel
theorem d_Model_bytes_30 : decode prog_11_method_47_code 30 = .ok (.istore 4, 2) := by decide +kernel
theorem d_Model_bytes_32 : decode prog_11_method_47_code 32 = .ok (.aload_n 0, 1) := by decide +kernel
theorem d_Model_bytes_33 : decode prog_11_method_47_code 33 = .ok (.sipush 148, 3) := by decide +kernel
theorem d_Model_bytes_36 : decode prog_11_method_47_code 36 = .ok (.iload_n 3, 1) := by decide +kernel
theorem d_Model_bytes_37 : decode prog_11_method_47_code 37 = .ok (.iconst 2, 1) := by decide +kernel
theorem d_Model_bytes_38 : decode prog_11_method_47_code 38 = .ok (.iadd, 1) := by decide +kernel
theorem d_Model_bytes_39 : decode prog_11_method_47_code 39 = .ok (.invokevirtual 249, 3) := by decide +kernel
theorem d_Model_bytes_42 : decode prog_11_method_47_code 42 = .ok (.aload_n 0, 1) := by decide +kernel
theorem d_Model_bytes_43 : decode prog_11_method_47_code 43 = .ok (.sipush 149, 3) := by decide +kernel
theorem d_Model_bytes_46 : decode prog_11_method_47_code 46 = .ok (.iload_n 3, 1) := by decide +kernel
theorem d_Model_bytes_47 : decode prog_11_method_47_code 47 = .ok (.iconst 1, 1) := by decide +kernel
theorem d_Model_bytes_48 : decode prog_11_method_47_code 48 = .ok (.iadd, 1) := by decide +kernel
theorem d_Model_bytes_49 : decode prog_11_method_47_code 49 = .ok (.sipush 148, 3) := by decide +kernel
theorem d_Model_bytes_52 : decode prog_11_method_47_code 52 = .ok (.invokevirtual 184, 3) := by decide +kernel
theorem d_Model_bytes_55 : decode prog_11_method_47_code 55 = .ok (.aload_n 0, 1) := by decide +kernel
theorem d_Model_bytes_56 : decode prog_11_method_47_code 56 = .ok (.sipush 148, 3) := by decide +kernel
theorem d_Model_bytes_59 : decode prog_11_method_47_code 59 = .ok (.iload_n 3, 1) := by decide +kernel
theorem d_Model_bytes_60 : decode prog_11_method_47_code 60 = .ok (.sipush 148, 3) := by decide +kernel
theorem d_Model_bytes_63 : decode prog_11_method_47_code 63 = .ok (.invokevirtual 184, 3) := by decide +kernel
theorem d_Model_bytes_66 : decode prog_11_method_47_code 66 = .ok (.aload_n 0, 1) := by decide +kernel
theorem d_Model_bytes_67 : decode prog_11_method_47_code 67 = .ok (.iload_n 2, 1) := by decide +kernel
theorem d_Model_bytes_68 : decode prog_11_method_47_code 68 = .ok (.ifCond .eq 8, 3) := by decide +kernel
theorem d_Model_bytes_71 : decode prog_11_method_47_code 71 = .ok (.bipush 48, 2) := by decide +kernel
theorem d_Model_bytes_73 : decode prog_11_method_47_code 73 = .ok (.goto 5, 3) := by decide +kernel
theorem d_Model_bytes_76 : decode prog_11_method_47_code 76 = .ok (.bipush 96, 2) := by decide +kernel
theorem d_Model_bytes_78 : decode prog_11_method_47_code 78 = .ok (.putfield 277, 3) := by decide +kernel
theorem d_Model_bytes_81 : decode prog_11_method_47_code 81 = .ok (.iconst 0, 1) := by decide +kernel
theorem d_Model_bytes_82 : decode prog_11_method_47_code 82 = .ok (.istore 5, 2) := by decide +kernel
theorem d_Model_bytes_84 : decode prog_11_method_47_code 84 = .ok (.iload 5, 2) := by decide +kernel
theorem d_Model_bytes_86 : decode prog_11_method_47_code 86 = .ok (.aload_n 0, 1) := by decide +kernel
theorem d_Model_bytes_87 : decode prog_11_method_47_code 87 = .ok (.getfield 277, 3) := by decide +kernel
theorem d_Model_bytes_90 : decode prog_11_method_47_code 90 = .ok (.if_icmp .ge 53, 3) := by decide +kernel
theorem d_Model_bytes_93 : decode prog_11_method_47_code 93 = .ok (.aload_n 0, 1) := by decide +kernel
theorem d_Model_bytes_94 : decode prog_11_method_47_code 94 = .ok (.getfield 131, 3) := by decide +kernel
theorem d_Model_bytes_97 : decode prog_11_method_47_code 97 = .ok (.iload 5, 2) := by decide +kernel
theorem d_Model_bytes_99 : decode prog_11_method_47_code 99 = .ok (.iload 4, 2) := by decide +kernel
theorem d_Model_bytes_101 : decode prog_11_method_47_code 101 = .ok (.ifCond .eq 7, 3) := by decide +kernel
theorem d_Model_bytes_104 : decode prog_11_method_47_code 104 = .ok (.iconst 0, 1) := by decide +kernel
theorem d_Model_bytes_105 : decode prog_11_method_47_code 105 = .ok (.goto 31, 3) := by decide +kernel
theorem d_Model_bytes_108 : decode prog_11_method_47_code 108 = .ok (.aload_n 0, 1) := by decide +kernel
theorem d_Model_bytes_109 : decode prog_11_method_47_code 109 = .ok (.iload 5, 2) := by decide +kernel
theorem d_Model_bytes_111 : decode prog_11_method_47_code 111 = .ok (.bipush 48, 2) := by decide +kernel
theorem d_Model_bytes_113 : decode prog_11_method_47_code 113 = .ok (.if_icmp .ge 9, 3) := by decide +kernel
theorem d_Model_bytes_116 : decode prog_11_method_47_code 116 = .ok (.sipush 148, 3) := by decide +kernel
theorem d_Model_bytes_119 : decode prog_11_method_47_code 119 = .ok (.goto 6, 3) := by decide +kernel
theorem d_Model_bytes_122 : decode prog_11_method_47_code 122 = .ok (.sipush 149, 3) := by decide +kernel
theorem d_Model_bytes_125 : decode prog_11_method_47_code 125 = .ok (.bipush 47, 2) := by decide +kernel
theorem d_Model_bytes_127 : decode prog_11_method_47_code 127 = .ok (.iload 5, 2) := by decide +kernel
theorem d_Model_bytes_129 : decode prog_11_method_47_code 129 = .ok (.bipush 48, 2) := by decide +kernel
theorem d_Model_bytes_131 : decode prog_11_method_47_code 131 = .ok (.irem, 1) := by decide +kernel
theorem d_Model_bytes_132 : decode prog_11_method_47_code 132 = .ok (.isub, 1) := by decide +kernel
theorem d_Model_bytes_133 : decode prog_11_method_47_code 133 = .ok (.invokevirtual 280, 3) := by decide +kernel
theorem d_Model_bytes_136 : decode prog_11_method_47_code 136 = .ok (.iastore, 1) := by decide +kernel
theorem d_Model_bytes_137 : decode prog_11_method_47_code 137 = .ok (.iinc 5 1, 3) := by decide +kernel
theorem d_Model_bytes_140 : decode prog_11_method_47_code 140 = .ok (.goto (-56), 3) := by decide +kernel
theorem d_Model_bytes_143 : decode prog_11_method_47_code 143 = .ok (.iload 4, 2) := by decide +kernel
theorem d_Model_bytes_145 : decode prog_11_method_47_code 145 = .ok (.ifCond .eq 7, 3) := by decide +kernel
theorem d_Model_bytes_148 : decode prog_11_method_47_code 148 = .ok (.iconst 2, 1) := by decide +kernel
theorem d_Model_bytes_149 : decode prog_11_method_47_code 149 = .ok (.goto 4, 3) := by decide +kernel
theorem d_Model_bytes_152 : decode prog_11_method_47_code 152 = .ok (.iconst 0, 1) := by decide +kernel
theorem d_Model_bytes_153 : decode prog_11_method_47_code 153 = .ok (.istore 5, 2) := by decide +kernel
theorem d_Model_bytes_155 : decode prog_11_method_47_code 155 = .ok (.iload_n 2, 1) := by decide +kernel
theorem d_Model_bytes_156 : decode prog_11_method_47_code 156 = .ok (.ifCond .eq 32, 3) := by decide +kernel
theorem d_Model_bytes_159 : decode prog_11_method_47_code 159 = .ok (.iload 5, 2) := by decide +kernel
theorem d_Model_bytes_161 : decode prog_11_method_47_code 161 = .ok (.iload 4, 2) := by decide +kernel
theorem d_Model_bytes_163 : decode prog_11_method_47_code 163 = .ok (.ifCond .eq 7, 3) := by decide +kernel
theorem d_Model_bytes_166 : decode prog_11_method_47_code 166 = .ok (.iconst 4, 1) := by decide +kernel
theorem d_Model_bytes_167 : decode prog_11_method_47_code 167 = .ok (.goto 18, 3) := by decide +kernel
theorem d_Model_bytes_170 : decode prog_11_method_47_code 170 = .ok (.aload_n 0, 1) := by decide +kernel
theorem d_Model_bytes_171 : decode prog_11_method_47_code 171 = .ok (.sipush 149, 3) := by decide +kernel
theorem d_Model_bytes_174 : decode prog_11_method_47_code 174 = .ok (.invokevirtual 271, 3) := by decide +kernel
theorem d_Model_bytes_177 : decode prog_11_method_47_code 177 = .ok (.ifCond .eq 7, 3) := by decide +kernel
theorem d_Model_bytes_180 : decode prog_11_method_47_code 180 = .ok (.iconst 5, 1) := by decide +kernel
theorem d_Model_bytes_181 : decode prog_11_method_47_code 181 = .ok (.goto 4, 3) := by decide +kernel
theorem d_Model_bytes_184 : decode prog_11_method_47_code 184 = .ok (.iconst 4, 1) := by decide +kernel
theorem d_Model_bytes_185 : decode prog_11_method_47_code 185 = .ok (.iadd, 1) := by decide +kernel
theorem d_Model_bytes_186 : decode prog_11_method_47_code 186 = .ok (.istore 5, 2) := by decide +kernel
theorem d_Model_bytes_188 : decode prog_11_method_47_code 188 = .ok (.aload_n 0, 1) := by decide +kernel
theorem d_Model_bytes_189 : decode prog_11_method_47_code 189 = .ok (.getfield 131, 3) := by decide +kernel
theorem d_Model_bytes_192 : decode prog_11_method_47_code 192 = .ok (.iconst 0, 1) := by decide +kernel
theorem d_Model_bytes_193 : decode prog_11_method_47_code 193 = .ok (.dup2, 1) := by decide +kernel
theorem d_Model_bytes_194 : decode prog_11_method_47_code 194 = .ok (.iaload, 1) := by decide +kernel
theorem d_Model_bytes_195 : decode prog_11_method_47_code 195 = .ok (.bipush 32, 2) := by decide +kernel
theorem d_Model_bytes_197 : decode prog_11_method_47_code 197 = .ok (.iload 5, 2) := by decide +kernel
theorem d_Model_bytes_199 : decode prog_11_method_47_code 199 = .ok (.imul, 1) := by decide +kernel
theorem d_Model_bytes_200 : decode prog_11_method_47_code 200 = .ok (.iadd, 1) := by decide +kernel
theorem d_Model_bytes_201 : decode prog_11_method_47_code 201 = .ok (.iastore, 1) := by decide +kernel
theorem d_Model_bytes_202 : decode prog_11_method_47_code 202 = .ok (.return_, 1) := by decide +kernel
set_option maxHeartbeats 4000000 in
set_option maxRecDepth 100000 in
theorem c_Model_bytes (l : Launch) (g : WG) (n0 : Nat → Prop) (mo : Nat) (a : Int32) (sh : Int32) (fd : Nat → Int64) (hmn : n0 mo) (hz : FZ fd) (hn7 : n0 (mo + 7)) : Ctr l y_Model_bytes (.code y_Model_bytes prog_11_method_47_code 6 none) 5 125 0 0 n0 g [.ref mo, .int a, .int sh] (fun H => MS g n0 H mo 0 0 0 0 0 14 fd ∧ ∃ f, AI g H (mo + 7) 96 f) (QV (fun H H' => ((okP a (nI 1)) ∧ TH g n0 H' mo 0) ∨ (¬ (okP a (nI 1)) ∧ TH g n0 H' mo 1))) := by
  refine ctr_mk l (lv0 := [(0, .ref mo), (1, .int a), (2, .int sh)]) (by decide) (Nat.le_of_ble_eq_true rfl) rfl ?_
  intro p e s m below meth c ls E hr hlk hnm hl hP
  have hx := E.1
  have hb := E.2.1
  have hK := E.2.2.2.2.2
  have hF : ∀ q ∈ ([] : List Loc), n0 q.base := fun q hq => absurd hq List.not_mem_nil
  have hm := hP.1
  have hfr : FRM (MR mo) s.heap s.heap := FRM.rf
  have hh := hP.2
  have bad : ∀ (locs : List Loc) (ls : Array Slot), ¬ (okP a (nI 1)) → (∀ q ∈ locs, n0 q.base) → lv_has ls 6 [(0, .ref mo), (1, .int a), (2, .int sh)] → W p l e { frames := 5, cells := 0, slots := 0, locals := 125 } s m [.ref mo, .int a, .int sh].toArray below meth c s.heap locs 0 0 (MQ below (QcP (QV (fun H H' => ((okP a (nI 1)) ∧ TH g n0 H' mo 0) ∨ (¬ (okP a (nI 1)) ∧ TH g n0 H' mo 1)))) [.ref mo, .int a, .int sh].toArray s 0 0 (fun q => n0 q)) (F0 m 5 ls [.int (nI 1), .ref mo]) := by
    intro  locs   ls hno hF hl
    refine lv_iconst (v := nI 1) hx hb d_Model_bytes_5 (by decide) ?_
    refine q_cV (rest := []) E (c_Model_fails l g n0 mo 0 0 0 0 0 14 hw0 (nI 1) (nI 1) fd hmn (Or.inl rfl)) w_1056 w_15 w_1053 w_1055 (bw_s 24 rfl) hd_Model_fails rfl ⟨by decide, by decide⟩ (OB.recv E.2.2.2.2.2 (by rfl) hm.1) hm hF hl.1 rfl (Nat.le_of_ble_eq_true rfl) d_Model_bytes_6 ⟨by decide, by decide⟩ (qi (fun rf H1 locs hq hF => ?_))
    obtain ⟨hrf, hq, hm⟩ := hq
    subst hrf
    have hfr := hfr.tr hq
    rw [if_neg (by decide)] at hm
    refine lv_if_eq (tgt := 13) hx hb d_Model_bytes_9 (by decide) (fun h9 => absurd h9 (by decide)) (fun _ => ?_)
    exact q_vret E hr hlk (⟨rfl, Or.inr ⟨hno, ⟨_, _, _, _, _, _, hw0, hm⟩⟩⟩) hF d_Model_bytes_12
  have good : ∀ (locs : List Loc) (ls : Array Slot), okP a (nI 1) → (∀ q ∈ locs, n0 q.base) → lv_has ls 6 [(0, .ref mo), (1, .int a), (2, .int sh)] → W p l e { frames := 5, cells := 0, slots := 0, locals := 125 } s m [.ref mo, .int a, .int sh].toArray below meth c s.heap locs 0 0 (MQ below (QcP (QV (fun H H' => ((okP a (nI 1)) ∧ TH g n0 H' mo 0) ∨ (¬ (okP a (nI 1)) ∧ TH g n0 H' mo 1)))) [.ref mo, .int a, .int sh].toArray s 0 0 (fun q => n0 q)) (F0 m 5 ls [.int (nI 0), .ref mo]) := by
    intro  locs   ls hok hF hl
    refine lv_iconst (v := nI 1) hx hb d_Model_bytes_5 (by decide) ?_
    refine q_cV (rest := []) E (c_Model_fails l g n0 mo 0 0 0 0 0 14 hw0 (nI 0) (nI 1) fd hmn (Or.inr rfl)) w_1056 w_15 w_1053 w_1055 (bw_s 24 rfl) hd_Model_fails rfl ⟨by decide, by decide⟩ (OB.recv E.2.2.2.2.2 (by rfl) hm.1) hm hF hl.1 rfl (Nat.le_of_ble_eq_true rfl) d_Model_bytes_6 ⟨by decide, by decide⟩ (qi (fun rf H1 locs hq hF => ?_))
    obtain ⟨hrf, hq, hm⟩ := hq
    subst hrf
    have hfr := hfr.tr hq
    rw [if_pos nI_0] at hm
    refine lv_if_eq (tgt := 13) hx hb d_Model_bytes_9 (by decide) (fun _ => ?_) (fun h9 => absurd (by decide) h9)
    obtain ⟨k1, e_k1, h_k1⟩ := okP_nat (by decide) (by decide) hok
    rw [e_k1] at hl
    refine lv_aload_n hx hb d_Model_bytes_13 rfl (lv_at hl 0 rfl) ?_
    refine lv_iconst (v := nI 0) hx hb d_Model_bytes_14 (by decide) ?_
    refine q_cV (rest := []) E (c_Model_use l g n0 mo 0 0 0 0 0 14 hw0 0 14 hw0 fd hmn) w_967 w_15 w_964 w_966 (bw_s 15 rfl) hd_Model_use rfl ⟨by decide, by decide⟩ (OB.recv E.2.2.2.2.2 (by rfl) hm.1) hm hF hl.1 rfl (Nat.le_of_ble_eq_true rfl) d_Model_bytes_15 ⟨by decide, by decide⟩ (qv (fun H2 locs hq hF => ?_))
    obtain ⟨hq, hm⟩ := hq
    have hfr := hfr.tr hq
    refine lv_iload_n hx hb d_Model_bytes_18 rfl (lv_at hl 1 rfl) ?_
    refine q_cS (rest := []) E (c_Model_slot l g n0 (nI k1)) w_1154 w_15 w_1152 w_1153 hd_Model_slot rfl ⟨by decide, by decide⟩ trivial hF hl.1 rfl (Nat.le_of_ble_eq_true rfl) d_Model_bytes_19 ⟨by decide, by decide⟩ (qi (fun rs H3 locs hq hF => ?_))
    obtain ⟨hrs, hq9⟩ := hq
    subst hrs
    subst hq9
    refine lv_topi (fun t9 e9 => ?_)
    obtain rfl : t9 = nI (32 + 3 * k1) := e9.trans (by rw [pk_mul, nI_add])
    refine lv_istore_n (lv' := [(3, .int (nI (32 + 3 * k1))), (0, .ref mo), (1, .int (nI k1)), (2, .int sh)]) hx hb d_Model_bytes_22 rfl hl (by decide) rfl (fun ls hl => ?_)
    refine lv_aload_n hx hb d_Model_bytes_23 rfl (lv_at hl 1 rfl) ?_
    refine lv_iload_n hx hb d_Model_bytes_24 rfl (lv_at hl 0 rfl) ?_
    refine lv_iconst (v := nI 2) hx hb d_Model_bytes_25 (by decide) ?_
    refine lv_iadd hx hb d_Model_bytes_26 ?_
    refine lv_topi (fun t9 e9 => ?_)
    obtain rfl : t9 = nI ((32 + 3 * k1) + 2) := e9.trans (nI_add _ _)
    refine q_cV (rest := []) E (c_Model_isZero l g n0 mo ((32 + 3 * k1) + 2) 0 0 0 0 0 14 hw0 fd (by omega)) w_1105 w_15 w_1102 w_1104 (bw_s 30 rfl) hd_Model_isZero rfl ⟨by decide, by decide⟩ (OB.recv E.2.2.2.2.2 (by rfl) hm.1) hm hF hl.1 rfl (Nat.le_of_ble_eq_true rfl) d_Model_bytes_27 ⟨by decide, by decide⟩ (qi (fun rz H4 locs hq hF => ?_))
    obtain ⟨⟨-, hrz⟩, hq⟩ := hq
    subst hq
    obtain rfl := hrz ((hz.2 k1 (by omega)).2.2)
    have tail : ∀ (NN : Nat) (H : Heap) (locs : List Loc) (ls : Array Slot) (fd1 : Nat → Int64) (x5 : Int32), MS g n0 H mo 0 0 0 (nI NN) 0 14 fd1 → (∃ f, AI g H (mo + 7) 96 f) → (∀ q ∈ locs, n0 q.base) → lv_has ls 6 [(5, .int x5), (0, .ref mo)] → W p l e { frames := 5, cells := 0, slots := 0, locals := 125 } s m [.ref mo, .int a, .int sh].toArray below meth c H locs 0 0 (MQ below (QcP (QV (fun H H' => ((okP a (nI 1)) ∧ TH g n0 H' mo 0) ∨ (¬ (okP a (nI 1)) ∧ TH g n0 H' mo 1)))) [.ref mo, .int a, .int sh].toArray s 0 0 (fun q => n0 q)) (F0 m 188 ls []) := by
      intro  NN   H   locs   ls   fd1   x5 hm hh hF hl
      refine lv_aload_n hx hb d_Model_bytes_188 rfl (lv_at hl 1 rfl) ?_
      refine q_get (C := "KateDeskModel") (T := T_Model) (N := 14) (ci := 8) E hm.1 in_Model rfl 11 (by decide) w_1012 rfl rfl d_Model_bytes_189 ?_
      refine lv_iconst (v := nI 0) hx hb d_Model_bytes_192 (by decide) ?_
      refine lv_dup2_11 hx hb d_Model_bytes_193 rfl rfl ?_
      obtain ⟨fq, hfq⟩ := id hh
      refine q_iald E hfq 0 rfl (by decide) (by decide) d_Model_bytes_194 ?_
      refine lv_bipush (v := nI 32) hx hb d_Model_bytes_195 (by decide) ?_
      refine lv_iload hx hb d_Model_bytes_197 (lv_at hl 0 rfl) ?_
      refine lv_imul hx hb d_Model_bytes_199 ?_
      refine lv_iadd hx hb d_Model_bytes_200 ?_
      obtain ⟨ft, hft⟩ := hh
      refine q_iast E hft hn7 hF 0 rfl (by omega) (by decide) d_Model_bytes_201 (fun H1 locs hq hft2 hF => ?_)
      have hm := hm.frm hq (by omega) (by omega) (by omega) (by omega) (OB.off hq (by omega) hm.1)
      exact q_vret E hr hlk (⟨rfl, Or.inl ⟨hok, ⟨_, _, _, _, _, _, hw0, hm⟩⟩⟩) hF d_Model_bytes_202
    have loop : ∀ (k : Nat) (i NN : Nat) (H : Heap) (locs : List Loc) (ls : Array Slot) (fd1 : Nat → Int64), i + k = NN → NN ≤ 96 → MS g n0 H mo 0 0 0 (nI NN) 0 14 fd1 → (∃ f, AI g H (mo + 7) 96 f) → (∀ q ∈ locs, n0 q.base) → lv_has ls 6 [(5, .int (nI i)), (4, .int 1), (0, .ref mo), (2, .int sh)] → W p l e { frames := 5, cells := 0, slots := 0, locals := 125 } s m [.ref mo, .int a, .int sh].toArray below meth c H locs 0 0 (MQ below (QcP (QV (fun H H' => ((okP a (nI 1)) ∧ TH g n0 H' mo 0) ∨ (¬ (okP a (nI 1)) ∧ TH g n0 H' mo 1)))) [.ref mo, .int a, .int sh].toArray s 0 0 (fun q => n0 q)) (F0 m 84 ls []) := by
      intro k
      induction k with
      | zero =>
        intro  i NN   H   locs   ls   fd1 hi hN hm hh hF hl
        obtain rfl : NN = i := by omega
        refine lv_iload hx hb d_Model_bytes_84 (lv_at hl 0 rfl) ?_
        refine lv_aload_n hx hb d_Model_bytes_86 rfl (lv_at hl 2 rfl) ?_
        refine q_get (C := "KateDeskModel") (T := T_Model) (N := 14) (ci := 8) E hm.1 in_Model rfl 12 (by decide) w_1013 rfl rfl d_Model_bytes_87 ?_
        refine lv_icmp_ge (tgt := 143) hx hb d_Model_bytes_90 (by decide) (fun _ => ?_) (fun h9 => absurd (nI_le (Nat.le_refl _) (by omega)) h9)
        refine lv_iload hx hb d_Model_bytes_143 (lv_at hl 1 rfl) ?_
        refine lv_if_eq (tgt := 152) hx hb d_Model_bytes_145 (by decide) (fun h9 => absurd h9 (by decide)) (fun _ => ?_)
        refine lv_iconst (v := nI 2) hx hb d_Model_bytes_148 (by decide) ?_
        refine lv_goto (tgt := 153) hx hb d_Model_bytes_149 (by decide) ?_
        refine lv_istore (lv' := [(5, .int (nI 2)), (4, .int 1), (0, .ref mo), (2, .int sh)]) hx hb d_Model_bytes_153 hl (by decide) rfl (fun ls hl => ?_)
        refine lv_iload_n hx hb d_Model_bytes_155 rfl (lv_at hl 3 rfl) ?_
        refine lv_if_eq (tgt := 188) hx hb d_Model_bytes_156 (by decide) (fun hs => ?_) (fun hs => ?_)
        rotate_left
        · skip
          refine lv_iload hx hb d_Model_bytes_159 (lv_at hl 0 rfl) ?_
          refine lv_iload hx hb d_Model_bytes_161 (lv_at hl 1 rfl) ?_
          refine lv_if_eq (tgt := 170) hx hb d_Model_bytes_163 (by decide) (fun h9 => absurd h9 (by decide)) (fun _ => ?_)
          refine lv_iconst (v := nI 4) hx hb d_Model_bytes_166 (by decide) ?_
          refine lv_goto (tgt := 185) hx hb d_Model_bytes_167 (by decide) ?_
          refine lv_iadd hx hb d_Model_bytes_185 ?_
          refine lv_istore (lv' := [(5, .int ((nI 2) + (nI 4))), (4, .int 1), (0, .ref mo), (2, .int sh)]) hx hb d_Model_bytes_186 hl (by decide) rfl (fun ls hl => ?_)
          have hl : lv_has ls 6 [(5, .int ((nI 2) + (nI 4))), (0, .ref mo)] := lv_sub hl [0, 2] rfl
          exact tail NN _ _ ls _ _ hm hh hF hl
        have hl : lv_has ls 6 [(5, .int (nI 2)), (0, .ref mo)] := lv_sub hl [0, 2] rfl
        exact tail NN _ _ ls _ _ hm hh hF hl
      | succ k ih =>
        intro  i NN   H   locs   ls   fd1 hi hN hm hh hF hl
        refine lv_iload hx hb d_Model_bytes_84 (lv_at hl 0 rfl) ?_
        refine lv_aload_n hx hb d_Model_bytes_86 rfl (lv_at hl 2 rfl) ?_
        refine q_get (C := "KateDeskModel") (T := T_Model) (N := 14) (ci := 8) E hm.1 in_Model rfl 12 (by decide) w_1013 rfl rfl d_Model_bytes_87 ?_
        refine lv_icmp_ge (tgt := 143) hx hb d_Model_bytes_90 (by decide) (fun h9 => absurd h9 (nI_ge (by omega) (by omega))) (fun _ => ?_)
        refine lv_aload_n hx hb d_Model_bytes_93 rfl (lv_at hl 2 rfl) ?_
        refine q_get (C := "KateDeskModel") (T := T_Model) (N := 14) (ci := 8) E hm.1 in_Model rfl 11 (by decide) w_1012 rfl rfl d_Model_bytes_94 ?_
        refine lv_iload hx hb d_Model_bytes_97 (lv_at hl 0 rfl) ?_
        refine lv_iload hx hb d_Model_bytes_99 (lv_at hl 1 rfl) ?_
        refine lv_if_eq (tgt := 108) hx hb d_Model_bytes_101 (by decide) (fun h9 => absurd h9 (by decide)) (fun _ => ?_)
        refine lv_iconst (v := nI 0) hx hb d_Model_bytes_104 (by decide) ?_
        refine lv_goto (tgt := 136) hx hb d_Model_bytes_105 (by decide) ?_
        obtain ⟨ft, hft⟩ := hh
        refine q_iast E hft hn7 hF i rfl (by omega) (by decide) d_Model_bytes_136 (fun H1 locs hq hft2 hF => ?_)
        have hm := hm.frm hq (by omega) (by omega) (by omega) (by omega) (OB.off hq (by omega) hm.1)
        refine lv_iinc (k := 0) (v := nI (i + 1)) (lv' := [(5, .int (nI (i + 1))), (4, .int 1), (0, .ref mo), (2, .int sh)]) hx hb d_Model_bytes_137 hl rfl (i_inc i) (by decide) rfl (fun ls hl => ?_)
        refine lv_goto (tgt := 84) hx hb d_Model_bytes_140 (by decide) ?_
        have hl : lv_has ls 6 [(5, .int (nI (i + 1))), (4, .int 1), (0, .ref mo), (2, .int sh)] := lv_sub hl [0, 1, 2, 3] rfl
        exact ih (i + 1) NN _ _ ls _ (by omega) hN hm ⟨_, hft2⟩ hF hl
    refine lv_istore (lv' := [(4, .int 1), (3, .int (nI (32 + 3 * k1))), (0, .ref mo), (1, .int (nI k1)), (2, .int sh)]) hx hb d_Model_bytes_30 hl (by decide) rfl (fun ls hl => ?_)
    refine lv_aload_n hx hb d_Model_bytes_32 rfl (lv_at hl 2 rfl) ?_
    refine lv_sipush (v := nI 148) hx hb d_Model_bytes_33 (by decide) ?_
    refine lv_iload_n hx hb d_Model_bytes_36 rfl (lv_at hl 1 rfl) ?_
    refine lv_iconst (v := nI 2) hx hb d_Model_bytes_37 (by decide) ?_
    refine lv_iadd hx hb d_Model_bytes_38 ?_
    refine lv_topi (fun t9 e9 => ?_)
    obtain rfl : t9 = nI ((32 + 3 * k1) + 2) := e9.trans (nI_add _ _)
    refine q_cV (rest := []) E (c_Model_inverse l g n0 mo 148 ((32 + 3 * k1) + 2) 0 0 0 0 0 14 hw0  fd (by omega) (by omega) ) w_1117 w_15 w_1114 w_1116 (bw_s 33 rfl) hd_Model_inverse rfl ⟨by decide, by decide⟩ (OB.recv E.2.2.2.2.2 (by rfl) hm.1) hm hF hl.1 rfl (Nat.le_of_ble_eq_true rfl) d_Model_bytes_39 ⟨by decide, by decide⟩ (qv (fun H5 locs hq hF => ?_))
    obtain ⟨hq, fd_1, hm, -⟩ := hq
    have hfr := hfr.tr hq
    refine lv_aload_n hx hb d_Model_bytes_42 rfl (lv_at hl 2 rfl) ?_
    refine lv_sipush (v := nI 149) hx hb d_Model_bytes_43 (by decide) ?_
    refine lv_iload_n hx hb d_Model_bytes_46 rfl (lv_at hl 1 rfl) ?_
    refine lv_iconst (v := nI 1) hx hb d_Model_bytes_47 (by decide) ?_
    refine lv_iadd hx hb d_Model_bytes_48 ?_
    refine lv_topi (fun t9 e9 => ?_)
    obtain rfl : t9 = nI ((32 + 3 * k1) + 1) := e9.trans (nI_add _ _)
    refine lv_sipush (v := nI 148) hx hb d_Model_bytes_49 (by decide) ?_
    refine q_cV (rest := []) E (c_Model_product l g n0 mo 149 ((32 + 3 * k1) + 1) 148 0 0 0 0 0 14 hw0  fd_1 (by omega) (by omega) (by omega) ) w_1113 w_15 w_1110 w_1112 (bw_s 32 rfl) hd_Model_product rfl ⟨by decide, by decide⟩ (OB.recv E.2.2.2.2.2 (by rfl) hm.1) hm hF hl.1 rfl (Nat.le_of_ble_eq_true rfl) d_Model_bytes_52 ⟨by decide, by decide⟩ (qv (fun H6 locs hq hF => ?_))
    obtain ⟨hq, fd_2, hm, hpv, hv⟩ := hq
    have hfr := hfr.tr (kjR hq)
    refine lv_aload_n hx hb d_Model_bytes_55 rfl (lv_at hl 2 rfl) ?_
    refine lv_sipush (v := nI 148) hx hb d_Model_bytes_56 (by decide) ?_
    refine lv_iload_n hx hb d_Model_bytes_59 rfl (lv_at hl 1 rfl) ?_
    refine lv_sipush (v := nI 148) hx hb d_Model_bytes_60 (by decide) ?_
    refine q_cV (rest := []) E (c_Model_product l g n0 mo 148 (32 + 3 * k1) 148 0 0 0 0 0 14 hw0  fd_2 (by omega) (by omega) (by omega) ) w_1113 w_15 w_1110 w_1112 (bw_s 32 rfl) hd_Model_product rfl ⟨by decide, by decide⟩ (OB.recv E.2.2.2.2.2 (by rfl) hm.1) hm hF hl.1 rfl (Nat.le_of_ble_eq_true rfl) d_Model_bytes_63 ⟨by decide, by decide⟩ (qv (fun H7 locs hq hF => ?_))
    obtain ⟨hq, fd_3, hm, hpv, hv⟩ := hq
    have hfr := hfr.tr (kjR hq)
    refine lv_aload_n hx hb d_Model_bytes_66 rfl (lv_at hl 2 rfl) ?_
    refine lv_iload_n hx hb d_Model_bytes_67 rfl (lv_at hl 4 rfl) ?_
    refine lv_if_eq (tgt := 76) hx hb d_Model_bytes_68 (by decide) (fun hs => ?_) (fun hs => ?_)
    rotate_left
    · skip
      refine lv_bipush (v := nI 48) hx hb d_Model_bytes_71 (by decide) ?_
      refine lv_goto (tgt := 78) hx hb d_Model_bytes_73 (by decide) ?_
      refine q_put (C := "KateDeskModel") (T := T_Model) (N := 14) (ci := 8) (ty := .int) E hm.1 in_Model ty_Model tyok_Model nm_Model rfl 12 (by decide) w_1013 rfl rfl (by decide +kernel) rfl rfl (Nat.le_of_ble_eq_true rfl) hmn hF d_Model_bytes_78 (fun H8 locs hq ho2 hF => ?_)
      have hfr := hfr.tr (hq.mono (fun q h => Or.inl h))
      have hm := hm.frm hq (by omega) (by omega) (by omega) (by omega) ho2
      refine lv_iconst (v := nI 0) hx hb d_Model_bytes_81 (by decide) ?_
      refine lv_istore (lv' := [(5, .int (nI 0)), (4, .int 1), (3, .int (nI (32 + 3 * k1))), (0, .ref mo), (1, .int (nI k1)), (2, .int sh)]) hx hb d_Model_bytes_82 hl (by decide) rfl (fun ls hl => ?_)
      have hl : lv_has ls 6 [(5, .int (nI 0)), (4, .int 1), (0, .ref mo), (2, .int sh)] := lv_sub hl [0, 1, 3, 5] rfl
      exact loop 48 0 48 _ _ ls _ (by omega) (by decide) hm (hh.imp (fun f h => h.off hfr (by unfold MR; omega))) hF hl
    refine lv_bipush (v := nI 96) hx hb d_Model_bytes_76 (by decide) ?_
    refine q_put (C := "KateDeskModel") (T := T_Model) (N := 14) (ci := 8) (ty := .int) E hm.1 in_Model ty_Model tyok_Model nm_Model rfl 12 (by decide) w_1013 rfl rfl (by decide +kernel) rfl rfl (Nat.le_of_ble_eq_true rfl) hmn hF d_Model_bytes_78 (fun H8 locs hq ho2 hF => ?_)
    have hfr := hfr.tr (hq.mono (fun q h => Or.inl h))
    have hm := hm.frm hq (by omega) (by omega) (by omega) (by omega) ho2
    refine lv_iconst (v := nI 0) hx hb d_Model_bytes_81 (by decide) ?_
    refine lv_istore (lv' := [(5, .int (nI 0)), (4, .int 1), (3, .int (nI (32 + 3 * k1))), (0, .ref mo), (1, .int (nI k1)), (2, .int sh)]) hx hb d_Model_bytes_82 hl (by decide) rfl (fun ls hl => ?_)
    have hl : lv_has ls 6 [(5, .int (nI 0)), (4, .int 1), (0, .ref mo), (2, .int sh)] := lv_sub hl [0, 1, 3, 5] rfl
    exact loop 96 0 96 _ _ ls _ (by omega) (by decide) hm (hh.imp (fun f h => h.off hfr (by unfold MR; omega))) hF hl
  refine lv_aload_n hx hb d_Model_bytes_0 rfl (lv_at hl 0 rfl) ?_
  refine lv_iload_n hx hb d_Model_bytes_1 rfl (lv_at hl 1 rfl) ?_
  refine q_cS (rest := [.ref mo]) E (c_Model_noPoint l g n0 a ) w_1151 w_15 w_1149 w_1150 hd_Model_noPoint rfl ⟨by decide, by decide⟩ trivial hF hl.1 rfl (Nat.le_of_ble_eq_true rfl) d_Model_bytes_2 ⟨by decide, by decide⟩ (qi (fun r_0 H1 locs hq hF => ?_))
  obtain ⟨h_0, hq⟩ := hq
  subst hq
  rcases h_0 with ⟨rfl, f_0⟩ | ⟨rfl, f_0⟩
  · skip
    have hl : lv_has ls 6 [(0, .ref mo), (1, .int a), (2, .int sh)] := lv_sub hl [0, 1, 2] rfl
    exact bad _ ls (fun h => (f_0) h) hF hl
  · skip
    have hl : lv_has ls 6 [(0, .ref mo), (1, .int a), (2, .int sh)] := lv_sub hl [0, 1, 2] rfl
    exact good _ ls f_0 hF hl
