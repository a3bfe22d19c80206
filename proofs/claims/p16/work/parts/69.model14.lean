section KRI
variable {p : Program} {l : Launch} {e : Env} {R : Room} {s : State} {m : MethodId} {args : Array Value} {below : List Frame} {meth : Method} {c : Code} {H : Heap} {locs : List Loc} {cells slots : Nat} {Q : State → Prop}
variable {cc : ByteArray} {nL : Nat} {pc : Nat} {ls : Array Slot} {rest : List Value} {g : WG} {own : String} {n0 : Nat → Prop} {a : Nat}
theorem q_iald (E : EV p m c cc nL s args own g) {N : Nat} {f : Nat → Int32} (hA : AI g H a N f) {i : Int32} (k : Nat) (hi : i = nI k) (hk : k < N) (hN : N < 2 ^ 31) (hdg : decode cc pc = .ok (.iaload, 1))
    (kk : W p l e R s m args below meth c H locs cells slots Q (F0 m (pc + 1) ls (.int (f k) :: rest))) : W p l e R s m args below meth c H locs cells slots Q (F0 m pc ls (.int i :: .ref a :: rest)) := by
  subst hi
  have hc : (nI k).toNatClampNeg = k := nI_clamp (Nat.lt_trans hk hN)
  exact W.iald (v := .int (f k)) E.1 E.2.1 hA ((E.2.2.2.2.2.1.2 2 _ rfl).1 N (fun j => .int (f j))) (fun q => by cases q) (by show ¬ (nI k < 0 ∨ (arrV _ _ _).slots.size ≤ _); rw [arrV_size]; exact nI_in hk hN) (by show (arrV _ _ _).slots[_]? = _; rw [hc, arrV_read _ _ hk]) rfl rfl hdg kk
theorem q_iast (E : EV p m c cc nL s args own g) {N : Nat} {f : Nat → Int32} (hA : AI g H a N f) (ha : n0 a) (hF : ∀ q ∈ locs, n0 q.base) {i x : Int32} (k : Nat) (hi : i = nI k) (hk : k < N) (hN : N < 2 ^ 31) (hdg : decode cc pc = .ok (.iastore, 1))
    (kk : ∀ (H' : Heap) (locs' : List Loc), FRM (fun q => q = a) H H' → AI g H' a N (upd f k x) → (∀ q ∈ locs', n0 q.base) → W p l e R s m args below meth c H' locs' cells slots Q (F0 m (pc + 1) ls rest)) : W p l e R s m args below meth c H locs cells slots Q (F0 m pc ls (.int x :: .int i :: .ref a :: rest)) := by
  subst hi
  have hc : (nI k).toNatClampNeg = k := nI_clamp (Nat.lt_trans hk hN)
  refine W.iast E.1 E.2.1 hA ((E.2.2.2.2.2.1.2 2 _ rfl).1 N (fun j => .int (f j))) (fun q => by cases q) (by show ¬ (nI k < 0 ∨ (arrV _ _ _).slots.size ≤ _); rw [arrV_size]; exact nI_in hk hN) rfl rfl hdg fun H1 e1 z oq => ?_
  have hA1 : AI g H1 a N (upd f k x) := by
    unfold AI
    rw [e1, hc, arrV_store]
    congr 2
    funext q
    by_cases hq : q = k
    · subst hq
      simp [updV, upd]
      try rfl
    · simp [updV, upd, hq]
  refine kk H1 _ ⟨z, fun q hq => oq q hq⟩ hA1 (fun q hq => ?_)
  rcases List.mem_append.mp hq with h | h
  · exact hF q h
  · rw [List.mem_singleton.mp h]
    exact ha
end KRI
theorem AI.off {g : WG} {S : Nat → Prop} {H H' : Heap} (h : FRM S H H') {a N : Nat} {f : Nat → Int32} (ha : ¬ S a) (hA : AI g H a N f) : AI g H' a N f := by
  unfold AI at hA ⊢
  rw [h.2 a ha]
  exact hA
theorem okP_1 {a : Int32} {j : Nat} (h1 : 1 ≤ j) (h2 : j ≤ 12) (h : okP a (nI j)) : okP a (nI 1) := by
  obtain ⟨k, e, hk⟩ := okP_nat (by omega) h2 h
  rw [e]; exact okP_of (by decide) (by omega)
theorem okP_t {a n : Int32} (hn : okC n (nI 0) (nI 12)) (h0 : ¬ n ≤ 0) (h1 : okP a (nI 1)) : okP a n ↔ okP (a + n - nI 1) (nI 1) := by
  obtain ⟨j, ej, hj1, hj2⟩ := okC_nat (by decide) (by decide) hn
  obtain ⟨k, ek, hk⟩ := okP_nat (by decide) (by decide) h1
  have hj : 1 ≤ j := by
    rcases Nat.eq_zero_or_pos j with h | h
    · subst h; rw [ej] at h0; exact absurd (by decide) h0
    · exact h
  rw [ej, ek, nI_add, pk_sub (by omega)]
  constructor
  · intro h
    obtain ⟨k', e, hk'⟩ := okP_nat (by omega) hj2 h
    have : k = k' := (nI_eq (by omega) (by omega)).mp e
    exact okP_of (by decide) (by omega)
  · intro h
    obtain ⟨k', e, hk'⟩ := okP_nat (by decide) (by decide) h
    have : k + j - 1 = k' := (nI_eq (by omega) (by omega)).mp e
    exact okP_of (by omega) (by omega)
theorem okP_s {a n : Int32} (hn : okC n (nI 0) (nI 12)) (h0 : ¬ n ≤ 0) (h : okP a n) : okP a (nI 1) := by
  obtain ⟨j, ej, hj1, hj2⟩ := okC_nat (by decide) (by decide) hn
  rw [ej] at h h0
  rcases Nat.eq_zero_or_pos j with h5 | h5
  · subst h5; exact absurd (by decide) h0
  · exact okP_1 h5 hj2 h
theorem okC_n12 {n : Int32} (h : okC n (nI 0) (nI 12)) : n ≤ 0 ∨ ∃ j, n = nI j ∧ 1 ≤ j ∧ j ≤ 32 := by
  obtain ⟨k, e, h1, h2⟩ := okC_nat (by decide) (by decide) h
  by_cases c : k = 0
  · subst c; rw [e]; exact Or.inl (by decide)
  · exact Or.inr ⟨k, e, by omega, by omega⟩
abbrev y_Model_combine : MethodName := ⟨"KateDeskModel", "combine", "(IIII)V"⟩
theorem hd_Model_combine : y_Model_combine.cls ≠ "java/lang/invoke/MethodHandle" ∧ y_Model_combine.cls ≠ "java/lang/invoke/VarHandle" ∧ (parseMethodDescriptor y_Model_combine.desc).map (fun d => d.parameters.length) = some 4 := by decide +kernel
theorem d_Model_combine_0 : decode prog_11_method_52_code 0 = .ok (.iload_n 1, 1) := by decide +kernel
theorem d_Model_combine_1 : decode prog_11_method_52_code 1 = .ok (.invokestatic 262, 3) := by decide +kernel
theorem d_Model_combine_4 : decode prog_11_method_52_code 4 = .ok (.ifCond .ne 15, 3) := by decide +kernel
theorem d_Model_combine_7 : decode prog_11_method_52_code 7 = .ok (.iload 4, 2) := by decide +kernel
theorem d_Model_combine_9 : decode prog_11_method_52_code 9 = .ok (.ifCond .lt 10, 3) := by decide +kernel
theorem d_Model_combine_12 : decode prog_11_method_52_code 12 = .ok (.iload 4, 2) := by decide +kernel
theorem d_Model_combine_14 : decode prog_11_method_52_code 14 = .ok (.bipush 12, 2) := by decide +kernel
theorem d_Model_combine_16 : decode prog_11_method_52_code 16 = .ok (.if_icmp .le 7, 3) := by decide +kernel
theorem d_Model_combine_19 : decode prog_11_method_52_code 19 = .ok (.iconst 1, 1) := by decide +kernel
theorem d_Model_combine_20 : decode prog_11_method_52_code 20 = .ok (.goto 4, 3) := by decide +kernel
theorem d_Model_combine_23 : decode prog_11_method_52_code 23 = .ok (.iconst 0, 1) := by decide +kernel
theorem d_Model_combine_24 : decode prog_11_method_52_code 24 = .ok (.istore 5, 2) := by decide +kernel
theorem d_Model_combine_26 : decode prog_11_method_52_code 26 = .ok (.iload 5, 2) := by decide +kernel
theorem d_Model_combine_28 : decode prog_11_method_52_code 28 = .ok (.ifCond .ne 36, 3) := by decide +kernel
theorem d_Model_combine_31 : decode prog_11_method_52_code 31 = .ok (.iload 4, 2) := by decide +kernel
theorem d_Model_combine_33 : decode prog_11_method_52_code 33 = .ok (.ifCond .le 35, 3) := by decide +kernel
theorem d_Model_combine_36 : decode prog_11_method_52_code 36 = .ok (.iload_n 2, 1) := by decide +kernel
theorem d_Model_combine_37 : decode prog_11_method_52_code 37 = .ok (.iload 4, 2) := by decide +kernel
theorem d_Model_combine_39 : decode prog_11_method_52_code 39 = .ok (.invokestatic 283, 3) := by decide +kernel
theorem d_Model_combine_42 : decode prog_11_method_52_code 42 = .ok (.ifCond .ne 22, 3) := by decide +kernel
theorem d_Model_combine_45 : decode prog_11_method_52_code 45 = .ok (.iload_n 3, 1) := by decide +kernel
theorem d_Model_combine_46 : decode prog_11_method_52_code 46 = .ok (.invokestatic 262, 3) := by decide +kernel
theorem d_Model_combine_49 : decode prog_11_method_52_code 49 = .ok (.ifCond .ne 15, 3) := by decide +kernel
theorem d_Model_combine_52 : decode prog_11_method_52_code 52 = .ok (.iload_n 3, 1) := by decide +kernel
theorem d_Model_combine_53 : decode prog_11_method_52_code 53 = .ok (.iload 4, 2) := by decide +kernel
theorem d_Model_combine_55 : decode prog_11_method_52_code 55 = .ok (.iadd, 1) := by decide +kernel
theorem d_Model_combine_56 : decode prog_11_method_52_code 56 = .ok (.iconst 1, 1) := by decide +kernel
theorem d_Model_combine_57 : decode prog_11_method_52_code 57 = .ok (.isub, 1) := by decide +kernel
theorem d_Model_combine_58 : decode prog_11_method_52_code 58 = .ok (.invokestatic 262, 3) := by decide +kernel
theorem d_Model_combine_61 : decode prog_11_method_52_code 61 = .ok (.ifCond .eq 7, 3) := by decide +kernel
theorem d_Model_combine_64 : decode prog_11_method_52_code 64 = .ok (.iconst 1, 1) := by decide +kernel
theorem d_Model_combine_65 : decode prog_11_method_52_code 65 = .ok (.goto 4, 3) := by decide +kernel
theorem d_Model_combine_68 : decode prog_11_method_52_code 68 = .ok (.iconst 0, 1) := by decide +kernel
theorem d_Model_combine_69 : decode prog_11_method_52_code 69 = .ok (.istore 5, 2) := by decide +kernel
theorem d_Model_combine_71 : decode prog_11_method_52_code 71 = .ok (.aload_n 0, 1) := by decide +kernel
theorem d_Model_combine_72 : decode prog_11_method_52_code 72 = .ok (.iload 5, 2) := by decide +kernel
theorem d_Model_combine_74 : decode prog_11_method_52_code 74 = .ok (.iconst 1, 1) := by decide +kernel
theorem d_Model_combine_75 : decode prog_11_method_52_code 75 = .ok (.invokevirtual 223, 3) := by decide +kernel
theorem d_Model_combine_78 : decode prog_11_method_52_code 78 = .ok (.ifCond .eq 4, 3) := by decide +kernel
theorem d_Model_combine_81 : decode prog_11_method_52_code 81 = .ok (.return_, 1) := by decide +kernel
theorem d_Model_combine_82 : decode prog_11_method_52_code 82 = .ok (.aload_n 0, 1) := by decide +kernel
theorem d_Model_combine_83 : decode prog_11_method_52_code 83 = .ok (.iload_n 2, 1) := by decide +kernel
theorem d_Model_combine_84 : decode prog_11_method_52_code 84 = .ok (.iload_n 3, 1) := by decide +kernel
theorem d_Model_combine_85 : decode prog_11_method_52_code 85 = .ok (.invokestatic 265, 3) := by decide +kernel
theorem d_Model_combine_88 : decode prog_11_method_52_code 88 = .ok (.iload 4, 2) := by decide +kernel
theorem d_Model_combine_90 : decode prog_11_method_52_code 90 = .ok (.invokevirtual 286, 3) := by decide +kernel
theorem d_Model_combine_93 : decode prog_11_method_52_code 93 = .ok (.aload_n 0, 1) := by decide +kernel
theorem d_Model_combine_94 : decode prog_11_method_52_code 94 = .ok (.iload_n 1, 1) := by decide +kernel
theorem d_Model_combine_95 : decode prog_11_method_52_code 95 = .ok (.invokestatic 265, 3) := by decide +kernel
theorem d_Model_combine_98 : decode prog_11_method_52_code 98 = .ok (.sipush 164, 3) := by decide +kernel
theorem d_Model_combine_101 : decode prog_11_method_52_code 101 = .ok (.invokevirtual 209, 3) := by decide +kernel
theorem d_Model_combine_104 : decode prog_11_method_52_code 104 = .ok (.return_, 1) := by decide +kernel
abbrev y_Model_feed : MethodName := ⟨"KateDeskModel", "feed", "(IJ)I"⟩
theorem hd_Model_feed : y_Model_feed.cls ≠ "java/lang/invoke/MethodHandle" ∧ y_Model_feed.cls ≠ "java/lang/invoke/VarHandle" ∧ (parseMethodDescriptor y_Model_feed.desc).map (fun d => d.parameters.length) = some 2 := by decide +kernel
theorem d_Model_feed_0 : decode prog_11_method_37_code 0 = .ok (.aload_n 0, 1) := by decide +kernel
theorem d_Model_feed_1 : decode prog_11_method_37_code 1 = .ok (.iload_n 1, 1) := by decide +kernel
theorem d_Model_feed_2 : decode prog_11_method_37_code 2 = .ok (.iconst 1, 1) := by decide +kernel
theorem d_Model_feed_3 : decode prog_11_method_37_code 3 = .ok (.if_icmp .lt 9, 3) := by decide +kernel
theorem d_Model_feed_6 : decode prog_11_method_37_code 6 = .ok (.iload_n 1, 1) := by decide +kernel
theorem d_Model_feed_7 : decode prog_11_method_37_code 7 = .ok (.bipush 8, 2) := by decide +kernel
theorem d_Model_feed_9 : decode prog_11_method_37_code 9 = .ok (.if_icmp .le 7, 3) := by decide +kernel
theorem d_Model_feed_12 : decode prog_11_method_37_code 12 = .ok (.iconst 1, 1) := by decide +kernel
theorem d_Model_feed_13 : decode prog_11_method_37_code 13 = .ok (.goto 4, 3) := by decide +kernel
theorem d_Model_feed_16 : decode prog_11_method_37_code 16 = .ok (.iconst 0, 1) := by decide +kernel
theorem d_Model_feed_17 : decode prog_11_method_37_code 17 = .ok (.iconst 1, 1) := by decide +kernel
theorem d_Model_feed_18 : decode prog_11_method_37_code 18 = .ok (.invokevirtual 223, 3) := by decide +kernel
theorem d_Model_feed_21 : decode prog_11_method_37_code 21 = .ok (.ifCond .ne 27, 3) := by decide +kernel
theorem d_Model_feed_24 : decode prog_11_method_37_code 24 = .ok (.aload_n 0, 1) := by decide +kernel
theorem d_Model_feed_25 : decode prog_11_method_37_code 25 = .ok (.aload_n 0, 1) := by decide +kernel
theorem d_Model_feed_26 : decode prog_11_method_37_code 26 = .ok (.getfield 155, 3) := by decide +kernel
theorem d_Model_feed_29 : decode prog_11_method_37_code 29 = .ok (.iload_n 1, 1) := by decide +kernel
theorem d_Model_feed_30 : decode prog_11_method_37_code 30 = .ok (.iadd, 1) := by decide +kernel
theorem d_Model_feed_31 : decode prog_11_method_37_code 31 = .ok (.bipush 96, 2) := by decide +kernel
theorem d_Model_feed_33 : decode prog_11_method_37_code 33 = .ok (.if_icmp .le 7, 3) := by decide +kernel
theorem d_Model_feed_36 : decode prog_11_method_37_code 36 = .ok (.iconst 1, 1) := by decide +kernel
theorem d_Model_feed_37 : decode prog_11_method_37_code 37 = .ok (.goto 4, 3) := by decide +kernel
theorem d_Model_feed_40 : decode prog_11_method_37_code 40 = .ok (.iconst 0, 1) := by decide +kernel
theorem d_Model_feed_41 : decode prog_11_method_37_code 41 = .ok (.iconst 2, 1) := by decide +kernel
theorem d_Model_feed_42 : decode prog_11_method_37_code 42 = .ok (.invokevirtual 223, 3) := by decide +kernel
theorem d_Model_feed_45 : decode prog_11_method_37_code 45 = .ok (.ifCond .eq 5, 3) := by decide +kernel
theorem d_Model_feed_48 : decode prog_11_method_37_code 48 = .ok (.iconst 0, 1) := by decide +kernel
theorem d_Model_feed_49 : decode prog_11_method_37_code 49 = .ok (.ireturn, 1) := by decide +kernel
theorem d_Model_feed_50 : decode prog_11_method_37_code 50 = .ok (.iconst 0, 1) := by decide +kernel
theorem d_Model_feed_51 : decode prog_11_method_37_code 51 = .ok (.istore 4, 2) := by decide +kernel
theorem d_Model_feed_53 : decode prog_11_method_37_code 53 = .ok (.iload 4, 2) := by decide +kernel
theorem d_Model_feed_55 : decode prog_11_method_37_code 55 = .ok (.iload_n 1, 1) := by decide +kernel
theorem d_Model_feed_56 : decode prog_11_method_37_code 56 = .ok (.if_icmp .ge 33, 3) := by decide +kernel
theorem d_Model_feed_59 : decode prog_11_method_37_code 59 = .ok (.aload_n 0, 1) := by decide +kernel
theorem d_Model_feed_60 : decode prog_11_method_37_code 60 = .ok (.getfield 127, 3) := by decide +kernel
theorem d_Model_feed_63 : decode prog_11_method_37_code 63 = .ok (.aload_n 0, 1) := by decide +kernel
theorem d_Model_feed_64 : decode prog_11_method_37_code 64 = .ok (.getfield 155, 3) := by decide +kernel
theorem d_Model_feed_67 : decode prog_11_method_37_code 67 = .ok (.iload 4, 2) := by decide +kernel
theorem d_Model_feed_69 : decode prog_11_method_37_code 69 = .ok (.iadd, 1) := by decide +kernel
theorem d_Model_feed_70 : decode prog_11_method_37_code 70 = .ok (.lload_n 2, 1) := by decide +kernel
theorem d_Model_feed_71 : decode prog_11_method_37_code 71 = .ok (.bipush 8, 2) := by decide +kernel
theorem d_Model_feed_73 : decode prog_11_method_37_code 73 = .ok (.iload 4, 2) := by decide +kernel
theorem d_Model_feed_75 : decode prog_11_method_37_code 75 = .ok (.imul, 1) := by decide +kernel
theorem d_Model_feed_76 : decode prog_11_method_37_code 76 = .ok (.lshr, 1) := by decide +kernel
theorem d_Model_feed_77 : decode prog_11_method_37_code 77 = .ok (.ldc2_w 227, 3) := by decide +kernel
theorem d_Model_feed_80 : decode prog_11_method_37_code 80 = .ok (.land, 1) := by decide +kernel
theorem d_Model_feed_81 : decode prog_11_method_37_code 81 = .ok (.l2i, 1) := by decide +kernel
theorem d_Model_feed_82 : decode prog_11_method_37_code 82 = .ok (.iastore, 1) := by decide +kernel
theorem d_Model_feed_83 : decode prog_11_method_37_code 83 = .ok (.iinc 4 1, 3) := by decide +kernel
theorem d_Model_feed_86 : decode prog_11_method_37_code 86 = .ok (.goto (-33), 3) := by decide +kernel
theorem d_Model_feed_89 : decode prog_11_method_37_code 89 = .ok (.aload_n 0, 1) := by decide +kernel
theorem d_Model_feed_90 : decode prog_11_method_37_code 90 = .ok (.dup, 1) := by decide +kernel
theorem d_Model_feed_91 : decode prog_11_method_37_code 91 = .ok (.getfield 155, 3) := by decide +kernel
theorem d_Model_feed_94 : decode prog_11_method_37_code 94 = .ok (.iload_n 1, 1) := by decide +kernel
theorem d_Model_feed_95 : decode prog_11_method_37_code 95 = .ok (.iadd, 1) := by decide +kernel
theorem d_Model_feed_96 : decode prog_11_method_37_code 96 = .ok (.putfield 155, 3) := by decide +kernel
theorem d_Model_feed_99 : decode prog_11_method_37_code 99 = .ok (.aload_n 0, 1) := by decide +kernel
theorem d_Model_feed_100 : decode prog_11_method_37_code 100 = .ok (.getfield 155, 3) := by decide +kernel
theorem d_Model_feed_103 : decode prog_11_method_37_code 103 = .ok (.ireturn, 1) := by decide +kernel
set_option maxHeartbeats 4000000 in
set_option maxRecDepth 100000 in
theorem c_Model_combine (l : Launch) (g : WG) (n0 : Nat → Prop) (mo : Nat) (a : Int32) (a2 : Int32) (a3 : Int32) (n : Int32) (fd : Nat → Int64) (hmn : n0 mo) (hz : FZ fd) : Ctr l y_Model_combine (.code y_Model_combine prog_11_method_52_code 6 none) 7 167 0 0 n0 g [.ref mo, .int a, .int a2, .int a3, .int n] (fun H => MS g n0 H mo 0 0 0 0 0 14 fd) (QV (fun H H' => ((okP a (nI 1) ∧ okC n (nI 0) (nI 12) ∧ okS a2 n ∧ okP a3 n) ∧ TH g n0 H' mo 0) ∨ (¬ (okP a (nI 1) ∧ okC n (nI 0) (nI 12) ∧ okS a2 n ∧ okP a3 n) ∧ TH g n0 H' mo 1))) := by
  refine ctr_mk l (lv0 := [(0, .ref mo), (1, .int a), (2, .int a2), (3, .int a3), (4, .int n)]) (by decide) (Nat.le_of_ble_eq_true rfl) rfl ?_
  intro p e s m below meth c ls E hr hlk hnm hl hP
  have hx := E.1
  have hb := E.2.1
  have hK := E.2.2.2.2.2
  have hF : ∀ q ∈ ([] : List Loc), n0 q.base := fun q hq => absurd hq List.not_mem_nil
  have hm := hP
  have hfr : FRM (MR mo) s.heap s.heap := FRM.rf
  have bad : ∀ (locs : List Loc) (ls : Array Slot), ¬ (okP a (nI 1) ∧ okC n (nI 0) (nI 12) ∧ okS a2 n ∧ okP a3 n) → (∀ q ∈ locs, n0 q.base) → lv_has ls 6 [(0, .ref mo), (1, .int a), (2, .int a2), (3, .int a3), (4, .int n)] → W p l e { frames := 7, cells := 0, slots := 0, locals := 167 } s m [.ref mo, .int a, .int a2, .int a3, .int n].toArray below meth c s.heap locs 0 0 (MQ below (QcP (QV (fun H H' => ((okP a (nI 1) ∧ okC n (nI 0) (nI 12) ∧ okS a2 n ∧ okP a3 n) ∧ TH g n0 H' mo 0) ∨ (¬ (okP a (nI 1) ∧ okC n (nI 0) (nI 12) ∧ okS a2 n ∧ okP a3 n) ∧ TH g n0 H' mo 1)))) [.ref mo, .int a, .int a2, .int a3, .int n].toArray s 0 0 (fun q => n0 q)) (F0 m 69 ls [.int (nI 1)]) := by
    intro  locs   ls hno hF hl
    refine lv_istore (lv' := [(5, .int (nI 1)), (0, .ref mo), (1, .int a), (2, .int a2), (3, .int a3), (4, .int n)]) hx hb d_Model_combine_69 hl (by decide) rfl (fun ls hl => ?_)
    refine lv_aload_n hx hb d_Model_combine_71 rfl (lv_at hl 1 rfl) ?_
    refine lv_iload hx hb d_Model_combine_72 (lv_at hl 0 rfl) ?_
    refine lv_iconst (v := nI 1) hx hb d_Model_combine_74 (by decide) ?_
    refine q_cV (rest := []) E (c_Model_fails l g n0 mo 0 0 0 0 0 14 hw0 (nI 1) (nI 1) fd hmn (Or.inl rfl)) w_1056 w_15 w_1053 w_1055 (bw_s 24 rfl) hd_Model_fails rfl ⟨by decide, by decide⟩ (OB.recv E.2.2.2.2.2 (by rfl) hm.1) hm hF hl.1 rfl (Nat.le_of_ble_eq_true rfl) d_Model_combine_75 ⟨by decide, by decide⟩ (qi (fun rf H1 locs hq hF => ?_))
    obtain ⟨hrf, hq, hm⟩ := hq
    subst hrf
    have hfr := hfr.tr hq
    rw [if_neg (by decide)] at hm
    refine lv_if_eq (tgt := 82) hx hb d_Model_combine_78 (by decide) (fun h9 => absurd h9 (by decide)) (fun _ => ?_)
    exact q_vret E hr hlk (⟨rfl, Or.inr ⟨hno, ⟨_, _, _, _, _, _, hw0, hm⟩⟩⟩) hF d_Model_combine_81
  have good : ∀ (locs : List Loc) (ls : Array Slot), okP a (nI 1) ∧ okC n (nI 0) (nI 12) ∧ okS a2 n ∧ okP a3 n → (∀ q ∈ locs, n0 q.base) → lv_has ls 6 [(0, .ref mo), (1, .int a), (2, .int a2), (3, .int a3), (4, .int n)] → W p l e { frames := 7, cells := 0, slots := 0, locals := 167 } s m [.ref mo, .int a, .int a2, .int a3, .int n].toArray below meth c s.heap locs 0 0 (MQ below (QcP (QV (fun H H' => ((okP a (nI 1) ∧ okC n (nI 0) (nI 12) ∧ okS a2 n ∧ okP a3 n) ∧ TH g n0 H' mo 0) ∨ (¬ (okP a (nI 1) ∧ okC n (nI 0) (nI 12) ∧ okS a2 n ∧ okP a3 n) ∧ TH g n0 H' mo 1)))) [.ref mo, .int a, .int a2, .int a3, .int n].toArray s 0 0 (fun q => n0 q)) (F0 m 69 ls [.int (nI 0)]) := by
    intro  locs   ls hok hF hl
    refine lv_istore (lv' := [(5, .int (nI 0)), (0, .ref mo), (1, .int a), (2, .int a2), (3, .int a3), (4, .int n)]) hx hb d_Model_combine_69 hl (by decide) rfl (fun ls hl => ?_)
    refine lv_aload_n hx hb d_Model_combine_71 rfl (lv_at hl 1 rfl) ?_
    refine lv_iload hx hb d_Model_combine_72 (lv_at hl 0 rfl) ?_
    refine lv_iconst (v := nI 1) hx hb d_Model_combine_74 (by decide) ?_
    refine q_cV (rest := []) E (c_Model_fails l g n0 mo 0 0 0 0 0 14 hw0 (nI 0) (nI 1) fd hmn (Or.inr rfl)) w_1056 w_15 w_1053 w_1055 (bw_s 24 rfl) hd_Model_fails rfl ⟨by decide, by decide⟩ (OB.recv E.2.2.2.2.2 (by rfl) hm.1) hm hF hl.1 rfl (Nat.le_of_ble_eq_true rfl) d_Model_combine_75 ⟨by decide, by decide⟩ (qi (fun rf H1 locs hq hF => ?_))
    obtain ⟨hrf, hq, hm⟩ := hq
    subst hrf
    have hfr := hfr.tr hq
    rw [if_pos nI_0] at hm
    refine lv_if_eq (tgt := 82) hx hb d_Model_combine_78 (by decide) (fun _ => ?_) (fun h9 => absurd (by decide) h9)
    obtain ⟨k1, e_k1, h_k1⟩ := okP_nat (by decide) (by decide) hok.1
    rw [e_k1] at hl
    refine lv_aload_n hx hb d_Model_combine_82 rfl (lv_at hl 1 rfl) ?_
    refine lv_iload_n hx hb d_Model_combine_83 rfl (lv_at hl 3 rfl) ?_
    refine lv_iload_n hx hb d_Model_combine_84 rfl (lv_at hl 4 rfl) ?_
    refine q_cS (rest := [.int a2, .ref mo]) E (c_Model_slot l g n0 a3) w_1154 w_15 w_1152 w_1153 hd_Model_slot rfl ⟨by decide, by decide⟩ trivial hF hl.1 rfl (Nat.le_of_ble_eq_true rfl) d_Model_combine_85 ⟨by decide, by decide⟩ (qi (fun rs H2 locs hq hF => ?_))
    obtain ⟨hrs, hq9⟩ := hq
    subst hq9
    obtain ⟨k4, e_k4, h_k4, h2_k4⟩ := okC_nat (by decide) (by decide) hok.2.1
    rw [e_k4] at hl
    refine lv_iload hx hb d_Model_combine_88 (lv_at hl 5 rfl) ?_
    have hsv : 0 < k4 → ∃ s1 q1, a2 = nI s1 ∧ rs = nI q1 ∧ s1 + k4 ≤ 32 ∧ q1 + 3 * k4 ≤ 124 := by
      intro h0
      have h1 := hok.2.2.1
      have h2 := hok.2.2.2
      rw [e_k4] at h1 h2
      obtain ⟨s1, e1, h3⟩ := okS_nat h0 (by omega) h1
      obtain ⟨q1, e2, h4⟩ := okP_nat h0 h2_k4 h2
      exact ⟨s1, 32 + 3 * q1, e1, by rw [hrs, e2, pk_mul, nI_add], h3, by omega⟩
    refine q_cV (rest := []) E (c_Model_sums l g n0 mo k4 a2 rs 0 0 0 0 0 14 hw0 fd hmn (by omega) hsv) w_1210 w_15 w_1207 w_1209 (bw_s 45 rfl) hd_Model_sums rfl ⟨by decide, by decide⟩ (OB.recv E.2.2.2.2.2 (by rfl) hm.1) hm hF hl.1 rfl (Nat.le_of_ble_eq_true rfl) d_Model_combine_90 ⟨by decide, by decide⟩ (qv (fun H3 locs hq hF => ?_))
    obtain ⟨hq, fd_1, hm⟩ := hq
    have hfr := hfr.tr hq
    refine lv_aload_n hx hb d_Model_combine_93 rfl (lv_at hl 1 rfl) ?_
    refine lv_iload_n hx hb d_Model_combine_94 rfl (lv_at hl 2 rfl) ?_
    refine q_cS (rest := [.ref mo]) E (c_Model_slot l g n0 (nI k1)) w_1154 w_15 w_1152 w_1153 hd_Model_slot rfl ⟨by decide, by decide⟩ trivial hF hl.1 rfl (Nat.le_of_ble_eq_true rfl) d_Model_combine_95 ⟨by decide, by decide⟩ (qi (fun rs H4 locs hq hF => ?_))
    obtain ⟨hrs, hq9⟩ := hq
    subst hrs
    subst hq9
    refine lv_topi (fun t9 e9 => ?_)
    obtain rfl : t9 = nI (32 + 3 * k1) := e9.trans (by rw [pk_mul, nI_add])
    refine lv_sipush (v := nI 164) hx hb d_Model_combine_98 (by decide) ?_
    refine q_cV (rest := []) E (c_Model_movePoint l g n0 mo (32 + 3 * k1) 164 0 0 0 0 0 14 hw0 fd_1 (by omega) (by omega) (by omega)) w_1171 w_15 w_1168 w_1170 (bw_s 41 rfl) hd_Model_movePoint rfl ⟨by decide, by decide⟩ (OB.recv E.2.2.2.2.2 (by rfl) hm.1) hm hF hl.1 rfl (Nat.le_of_ble_eq_true rfl) d_Model_combine_101 ⟨by decide, by decide⟩ (qv (fun H5 locs hq hF => ?_))
    obtain ⟨hq, fd_2, hm, hS9, hcp⟩ := hq
    have hfr := hfr.tr hq
    exact q_vret E hr hlk (⟨rfl, Or.inl ⟨hok, ⟨_, _, _, _, _, _, hw0, hm⟩⟩⟩) hF d_Model_combine_104
  refine lv_iload_n hx hb d_Model_combine_0 rfl (lv_at hl 1 rfl) ?_
  refine q_cS (rest := []) E (c_Model_noPoint l g n0 a ) w_1151 w_15 w_1149 w_1150 hd_Model_noPoint rfl ⟨by decide, by decide⟩ trivial hF hl.1 rfl (Nat.le_of_ble_eq_true rfl) d_Model_combine_1 ⟨by decide, by decide⟩ (qi (fun r_0 H1 locs hq hF => ?_))
  obtain ⟨h_0, hq⟩ := hq
  subst hq
  rcases h_0 with ⟨rfl, f_0⟩ | ⟨rfl, f_0⟩
  · skip
    refine lv_if_ne (tgt := 19) hx hb d_Model_combine_4 (by decide) (fun _ => ?_) (fun h9 => absurd h9 (by decide))
    refine lv_iconst (v := nI 1) hx hb d_Model_combine_19 (by decide) ?_
    refine lv_goto (tgt := 24) hx hb d_Model_combine_20 (by decide) ?_
    refine lv_istore (lv' := [(5, .int (nI 1)), (0, .ref mo), (1, .int a), (2, .int a2), (3, .int a3), (4, .int n)]) hx hb d_Model_combine_24 hl (by decide) rfl (fun ls hl => ?_)
    refine lv_iload hx hb d_Model_combine_26 (lv_at hl 0 rfl) ?_
    refine lv_if_ne (tgt := 64) hx hb d_Model_combine_28 (by decide) (fun _ => ?_) (fun h9 => absurd h9 (by decide))
    refine lv_iconst (v := nI 1) hx hb d_Model_combine_64 (by decide) ?_
    refine lv_goto (tgt := 69) hx hb d_Model_combine_65 (by decide) ?_
    have hl : lv_has ls 6 [(0, .ref mo), (1, .int a), (2, .int a2), (3, .int a3), (4, .int n)] := lv_sub hl [1, 2, 3, 4, 5] rfl
    exact bad _ ls (fun h => (f_0) h.1) hF hl
  · skip
    refine lv_if_ne (tgt := 19) hx hb d_Model_combine_4 (by decide) (fun h9 => absurd (by decide) h9) (fun _ => ?_)
    refine lv_iload hx hb d_Model_combine_7 (lv_at hl 4 rfl) ?_
    refine lv_if_lt (tgt := 19) hx hb d_Model_combine_9 (by decide) (fun g_9 => ?_) (fun g_9 => ?_)
    rotate_left
    · skip
      refine lv_iload hx hb d_Model_combine_12 (lv_at hl 4 rfl) ?_
      refine lv_bipush (v := nI 12) hx hb d_Model_combine_14 (by decide) ?_
      refine lv_icmp_le (tgt := 23) hx hb d_Model_combine_16 (by decide) (fun g_16 => ?_) (fun g_16 => ?_)
      rotate_left
      · skip
        refine lv_iconst (v := nI 1) hx hb d_Model_combine_19 (by decide) ?_
        refine lv_goto (tgt := 24) hx hb d_Model_combine_20 (by decide) ?_
        refine lv_istore (lv' := [(5, .int (nI 1)), (0, .ref mo), (1, .int a), (2, .int a2), (3, .int a3), (4, .int n)]) hx hb d_Model_combine_24 hl (by decide) rfl (fun ls hl => ?_)
        refine lv_iload hx hb d_Model_combine_26 (lv_at hl 0 rfl) ?_
        refine lv_if_ne (tgt := 64) hx hb d_Model_combine_28 (by decide) (fun _ => ?_) (fun h9 => absurd h9 (by decide))
        refine lv_iconst (v := nI 1) hx hb d_Model_combine_64 (by decide) ?_
        refine lv_goto (tgt := 69) hx hb d_Model_combine_65 (by decide) ?_
        have hl : lv_has ls 6 [(0, .ref mo), (1, .int a), (2, .int a2), (3, .int a3), (4, .int n)] := lv_sub hl [1, 2, 3, 4, 5] rfl
        exact bad _ ls (fun h => (fun q => g_16 q.2) h.2.1) hF hl
      refine lv_iconst (v := nI 0) hx hb d_Model_combine_23 (by decide) ?_
      refine lv_istore (lv' := [(5, .int (nI 0)), (0, .ref mo), (1, .int a), (2, .int a2), (3, .int a3), (4, .int n)]) hx hb d_Model_combine_24 hl (by decide) rfl (fun ls hl => ?_)
      refine lv_iload hx hb d_Model_combine_26 (lv_at hl 0 rfl) ?_
      refine lv_if_ne (tgt := 64) hx hb d_Model_combine_28 (by decide) (fun h9 => absurd (by decide) h9) (fun _ => ?_)
      refine lv_iload hx hb d_Model_combine_31 (lv_at hl 5 rfl) ?_
      refine lv_if_le (tgt := 68) hx hb d_Model_combine_33 (by decide) (fun g_33 => ?_) (fun g_33 => ?_)
      rotate_left
      · skip
        refine lv_iload_n hx hb d_Model_combine_36 rfl (lv_at hl 3 rfl) ?_
        refine lv_iload hx hb d_Model_combine_37 (lv_at hl 5 rfl) ?_
        refine q_cS (rest := []) E (c_Model_noScalars l g n0 a2 n (okC_n12 ⟨g_9, g_16⟩)) w_1206 w_15 w_1204 w_1205 hd_Model_noScalars rfl ⟨by decide, by decide⟩ trivial hF hl.1 rfl (Nat.le_of_ble_eq_true rfl) d_Model_combine_39 ⟨by decide, by decide⟩ (qi (fun r_2 H2 locs hq hF => ?_))
        obtain ⟨h_2, hq⟩ := hq
        subst hq
        rcases h_2 with ⟨rfl, f_2⟩ | ⟨rfl, f_2⟩
        · skip
          refine lv_if_ne (tgt := 64) hx hb d_Model_combine_42 (by decide) (fun _ => ?_) (fun h9 => absurd h9 (by decide))
          refine lv_iconst (v := nI 1) hx hb d_Model_combine_64 (by decide) ?_
          refine lv_goto (tgt := 69) hx hb d_Model_combine_65 (by decide) ?_
          have hl : lv_has ls 6 [(0, .ref mo), (1, .int a), (2, .int a2), (3, .int a3), (4, .int n)] := lv_sub hl [1, 2, 3, 4, 5] rfl
          exact bad _ ls (fun h => (f_2) h.2.2.1) hF hl
        · skip
          refine lv_if_ne (tgt := 64) hx hb d_Model_combine_42 (by decide) (fun h9 => absurd (by decide) h9) (fun _ => ?_)
          refine lv_iload_n hx hb d_Model_combine_45 rfl (lv_at hl 4 rfl) ?_
          refine q_cS (rest := []) E (c_Model_noPoint l g n0 a3) w_1151 w_15 w_1149 w_1150 hd_Model_noPoint rfl ⟨by decide, by decide⟩ trivial hF hl.1 rfl (Nat.le_of_ble_eq_true rfl) d_Model_combine_46 ⟨by decide, by decide⟩ (qi (fun r_46 H3 locs hq hF => ?_))
          obtain ⟨h_9, hq⟩ := hq
          subst hq
          rcases h_9 with ⟨rfl, f_46⟩ | ⟨rfl, f_46⟩
          · skip
            refine lv_if_ne (tgt := 64) hx hb d_Model_combine_49 (by decide) (fun _ => ?_) (fun h9 => absurd h9 (by decide))
            refine lv_iconst (v := nI 1) hx hb d_Model_combine_64 (by decide) ?_
            refine lv_goto (tgt := 69) hx hb d_Model_combine_65 (by decide) ?_
            have hl : lv_has ls 6 [(0, .ref mo), (1, .int a), (2, .int a2), (3, .int a3), (4, .int n)] := lv_sub hl [1, 2, 3, 4, 5] rfl
            exact bad _ ls (fun h => (fun q => f_46 (okP_s ⟨g_9, g_16⟩ g_33 q)) h.2.2.2) hF hl
          · skip
            refine lv_if_ne (tgt := 64) hx hb d_Model_combine_49 (by decide) (fun h9 => absurd (by decide) h9) (fun _ => ?_)
            refine lv_iload_n hx hb d_Model_combine_52 rfl (lv_at hl 4 rfl) ?_
            refine lv_iload hx hb d_Model_combine_53 (lv_at hl 5 rfl) ?_
            refine lv_iadd hx hb d_Model_combine_55 ?_
            refine lv_iconst (v := nI 1) hx hb d_Model_combine_56 (by decide) ?_
            refine lv_isub hx hb d_Model_combine_57 ?_
            refine q_cS (rest := []) E (c_Model_noPoint l g n0 ((a3 + n) - (nI 1))) w_1151 w_15 w_1149 w_1150 hd_Model_noPoint rfl ⟨by decide, by decide⟩ trivial hF hl.1 rfl (Nat.le_of_ble_eq_true rfl) d_Model_combine_58 ⟨by decide, by decide⟩ (qi (fun r_58 H4 locs hq hF => ?_))
            obtain ⟨h_9, hq⟩ := hq
            subst hq
            rcases h_9 with ⟨rfl, f_58⟩ | ⟨rfl, f_58⟩
            · skip
              refine lv_if_eq (tgt := 68) hx hb d_Model_combine_61 (by decide) (fun h9 => absurd h9 (by decide)) (fun _ => ?_)
              refine lv_iconst (v := nI 1) hx hb d_Model_combine_64 (by decide) ?_
              refine lv_goto (tgt := 69) hx hb d_Model_combine_65 (by decide) ?_
              have hl : lv_has ls 6 [(0, .ref mo), (1, .int a), (2, .int a2), (3, .int a3), (4, .int n)] := lv_sub hl [1, 2, 3, 4, 5] rfl
              exact bad _ ls (fun h => (fun q => f_58 ((okP_t ⟨g_9, g_16⟩ g_33 f_46).mp q)) h.2.2.2) hF hl
            · skip
              refine lv_if_eq (tgt := 68) hx hb d_Model_combine_61 (by decide) (fun _ => ?_) (fun h9 => absurd (by decide) h9)
              refine lv_iconst (v := nI 0) hx hb d_Model_combine_68 (by decide) ?_
              have hl : lv_has ls 6 [(0, .ref mo), (1, .int a), (2, .int a2), (3, .int a3), (4, .int n)] := lv_sub hl [1, 2, 3, 4, 5] rfl
              exact good _ ls ⟨f_0, ⟨g_9, g_16⟩, f_2, (okP_t ⟨g_9, g_16⟩ g_33 f_46).mpr f_58⟩ hF hl
      refine lv_iconst (v := nI 0) hx hb d_Model_combine_68 (by decide) ?_
      have hl : lv_has ls 6 [(0, .ref mo), (1, .int a), (2, .int a2), (3, .int a3), (4, .int n)] := lv_sub hl [1, 2, 3, 4, 5] rfl
      exact good _ ls ⟨f_0, ⟨g_9, g_16⟩, Or.inl g_33, Or.inl g_33⟩ hF hl
    refine lv_iconst (v := nI 1) hx hb d_Model_combine_19 (by decide) ?_
    refine lv_goto (tgt := 24) hx hb d_Model_combine_20 (by decide) ?_
    refine lv_istore (lv' := [(5, .int (nI 1)), (0, .ref mo), (1, .int a), (2, .int a2), (3, .int a3), (4, .int n)]) hx hb d_Model_combine_24 hl (by decide) rfl (fun ls hl => ?_)
    refine lv_iload hx hb d_Model_combine_26 (lv_at hl 0 rfl) ?_
    refine lv_if_ne (tgt := 64) hx hb d_Model_combine_28 (by decide) (fun _ => ?_) (fun h9 => absurd h9 (by decide))
    refine lv_iconst (v := nI 1) hx hb d_Model_combine_64 (by decide) ?_
    refine lv_goto (tgt := 69) hx hb d_Model_combine_65 (by decide) ?_
    have hl : lv_has ls 6 [(0, .ref mo), (1, .int a), (2, .int a2), (3, .int a3), (4, .int n)] := lv_sub hl [1, 2, 3, 4, 5] rfl
    exact bad _ ls (fun h => (fun q => q.1 g_9) h.2.1) hF hl
set_option maxHeartbeats 4000000 in
set_option maxRecDepth 100000 in
theorem c_Model_feed (l : Launch) (g : WG) (n0 : Nat → Prop) (mo : Nat) (n : Int32) (v : Int64) (fd : Nat → Int64) (hmn : n0 mo) (hz : FZ fd) (hn6 : n0 (mo + 6)) : Ctr l y_Model_feed (.code y_Model_feed prog_11_method_37_code 5 (some FieldType.int)) 1 22 0 0 n0 g [.ref mo, .int n, .long v] (fun H => MS g n0 H mo 0 0 0 0 0 14 fd ∧ ∃ f, AI g H (mo + 6) 96 f) (QI (fun r H H' => ((okC n (nI 1) (nI 8)) ∧ TH g n0 H' mo 0 ∧ r = n) ∨ (¬ (okC n (nI 1) (nI 8)) ∧ TH g n0 H' mo 1))) := by
  refine ctr_mk l (lv0 := [(0, .ref mo), (1, .int n), (2, .long v)]) (by decide) (Nat.le_of_ble_eq_true rfl) rfl ?_
  intro p e s m below meth c ls E hr hlk hnm hl hP
  have hx := E.1
  have hb := E.2.1
  have hK := E.2.2.2.2.2
  have hF : ∀ q ∈ ([] : List Loc), n0 q.base := fun q hq => absurd hq List.not_mem_nil
  have hm := hP.1
  have hfr : FRM (MR mo) s.heap s.heap := FRM.rf
  have hh := hP.2
  have bad : ∀ (locs : List Loc) (ls : Array Slot), ¬ (okC n (nI 1) (nI 8)) → (∀ q ∈ locs, n0 q.base) → lv_has ls 5 [(0, .ref mo), (1, .int n), (2, .long v)] → W p l e { frames := 1, cells := 0, slots := 0, locals := 22 } s m [.ref mo, .int n, .long v].toArray below meth c s.heap locs 0 0 (MQ below (QcP (QI (fun r H H' => ((okC n (nI 1) (nI 8)) ∧ TH g n0 H' mo 0 ∧ r = n) ∨ (¬ (okC n (nI 1) (nI 8)) ∧ TH g n0 H' mo 1)))) [.ref mo, .int n, .long v].toArray s 0 0 (fun q => n0 q)) (F0 m 17 ls [.int (nI 1), .ref mo]) := by
    intro  locs   ls hno hF hl
    refine lv_iconst (v := nI 1) hx hb d_Model_feed_17 (by decide) ?_
    refine q_cV (rest := []) E (c_Model_fails l g n0 mo 0 0 0 0 0 14 hw0 (nI 1) (nI 1) fd hmn (Or.inl rfl)) w_1056 w_15 w_1053 w_1055 (bw_s 24 rfl) hd_Model_fails rfl ⟨by decide, by decide⟩ (OB.recv E.2.2.2.2.2 (by rfl) hm.1) hm hF hl.1 rfl (Nat.le_of_ble_eq_true rfl) d_Model_feed_18 ⟨by decide, by decide⟩ (qi (fun rf H1 locs hq hF => ?_))
    obtain ⟨hrf, hq, hm⟩ := hq
    subst hrf
    have hfr := hfr.tr hq
    rw [if_neg (by decide)] at hm
    refine lv_if_ne (tgt := 48) hx hb d_Model_feed_21 (by decide) (fun _ => ?_) (fun h9 => absurd h9 (by decide))
    refine lv_iconst (v := nI 0) hx hb d_Model_feed_48 (by decide) ?_
    exact q_iret E hr hlk (⟨_, rfl, Or.inr ⟨hno, ⟨_, _, _, _, _, _, hw0, hm⟩⟩⟩) hF d_Model_feed_49
  have good : ∀ (locs : List Loc) (ls : Array Slot), okC n (nI 1) (nI 8) → (∀ q ∈ locs, n0 q.base) → lv_has ls 5 [(0, .ref mo), (1, .int n), (2, .long v)] → W p l e { frames := 1, cells := 0, slots := 0, locals := 22 } s m [.ref mo, .int n, .long v].toArray below meth c s.heap locs 0 0 (MQ below (QcP (QI (fun r H H' => ((okC n (nI 1) (nI 8)) ∧ TH g n0 H' mo 0 ∧ r = n) ∨ (¬ (okC n (nI 1) (nI 8)) ∧ TH g n0 H' mo 1)))) [.ref mo, .int n, .long v].toArray s 0 0 (fun q => n0 q)) (F0 m 17 ls [.int (nI 0), .ref mo]) := by
    intro  locs   ls hok hF hl
    refine lv_iconst (v := nI 1) hx hb d_Model_feed_17 (by decide) ?_
    refine q_cV (rest := []) E (c_Model_fails l g n0 mo 0 0 0 0 0 14 hw0 (nI 0) (nI 1) fd hmn (Or.inr rfl)) w_1056 w_15 w_1053 w_1055 (bw_s 24 rfl) hd_Model_fails rfl ⟨by decide, by decide⟩ (OB.recv E.2.2.2.2.2 (by rfl) hm.1) hm hF hl.1 rfl (Nat.le_of_ble_eq_true rfl) d_Model_feed_18 ⟨by decide, by decide⟩ (qi (fun rf H1 locs hq hF => ?_))
    obtain ⟨hrf, hq, hm⟩ := hq
    subst hrf
    have hfr := hfr.tr hq
    rw [if_pos nI_0] at hm
    refine lv_if_ne (tgt := 48) hx hb d_Model_feed_21 (by decide) (fun h9 => absurd (by decide) h9) (fun _ => ?_)
    obtain ⟨k1, e_k1, h_k1, h2_k1⟩ := okC_nat (by decide) (by decide) hok
    rw [e_k1] at hl
    refine lv_aload_n hx hb d_Model_feed_24 rfl (lv_at hl 0 rfl) ?_
    refine lv_aload_n hx hb d_Model_feed_25 rfl (lv_at hl 0 rfl) ?_
    refine q_get (C := "KateDeskModel") (T := T_Model) (N := 14) (ci := 8) E hm.1 in_Model rfl 10 (by decide) w_1011 rfl rfl d_Model_feed_26 ?_
    refine lv_iload_n hx hb d_Model_feed_29 rfl (lv_at hl 1 rfl) ?_
    refine lv_iadd hx hb d_Model_feed_30 ?_
    refine lv_bipush (v := nI 96) hx hb d_Model_feed_31 (by decide) ?_
    refine lv_icmp_le (tgt := 40) hx hb d_Model_feed_33 (by decide) (fun _ => ?_) (fun h9 => absurd (by rw [Int32.zero_add]; exact nI_le (by omega) (by decide)) h9)
    refine lv_iconst (v := nI 0) hx hb d_Model_feed_40 (by decide) ?_
    refine lv_iconst (v := nI 2) hx hb d_Model_feed_41 (by decide) ?_
    refine q_cV (rest := []) E (c_Model_fails l g n0 mo 0 0 0 0 0 14 hw0 (nI 0) (nI 2) fd hmn (Or.inr rfl)) w_1056 w_15 w_1053 w_1055 (bw_s 24 rfl) hd_Model_fails rfl ⟨by decide, by decide⟩ (OB.recv E.2.2.2.2.2 (by rfl) hm.1) hm hF hl.1 rfl (Nat.le_of_ble_eq_true rfl) d_Model_feed_42 ⟨by decide, by decide⟩ (qi (fun rf H2 locs hq hF => ?_))
    obtain ⟨hrf, hq, hm⟩ := hq
    subst hrf
    have hfr := hfr.tr hq
    rw [if_pos nI_0] at hm
    refine lv_if_eq (tgt := 50) hx hb d_Model_feed_45 (by decide) (fun _ => ?_) (fun h9 => absurd (by decide) h9)
    refine lv_iconst (v := nI 0) hx hb d_Model_feed_50 (by decide) ?_
    refine lv_istore (lv' := [(4, .int (nI 0)), (0, .ref mo), (1, .int (nI k1)), (2, .long v)]) hx hb d_Model_feed_51 hl (by decide) rfl (fun ls hl => ?_)
    have hl : lv_has ls 5 [(4, .int (nI 0)), (0, .ref mo), (1, .int (nI k1)), (2, .long v)] := lv_sub hl [0, 1, 2, 3] rfl
    have hh := hh.imp (fun f h => h.off hfr (by unfold MR; omega))
    have loop : ∀ (k : Nat) (i : Nat) (H : Heap) (locs : List Loc) (ls : Array Slot), i + k = k1 → MS g n0 H mo 0 0 0 0 0 14 fd → (∃ f, AI g H (mo + 6) 96 f) → (∀ q ∈ locs, n0 q.base) → lv_has ls 5 [(4, .int (nI i)), (0, .ref mo), (1, .int (nI k1)), (2, .long v)] → W p l e { frames := 1, cells := 0, slots := 0, locals := 22 } s m [.ref mo, .int n, .long v].toArray below meth c H locs 0 0 (MQ below (QcP (QI (fun r H H' => ((okC n (nI 1) (nI 8)) ∧ TH g n0 H' mo 0 ∧ r = n) ∨ (¬ (okC n (nI 1) (nI 8)) ∧ TH g n0 H' mo 1)))) [.ref mo, .int n, .long v].toArray s 0 0 (fun q => n0 q)) (F0 m 53 ls []) := by
      intro k
      induction k with
      | zero =>
        intro  i   H   locs   ls hi hm hh hF hl
        obtain rfl : i = k1 := by omega
        refine lv_iload hx hb d_Model_feed_53 (lv_at hl 0 rfl) ?_
        refine lv_iload_n hx hb d_Model_feed_55 rfl (lv_at hl 2 rfl) ?_
        refine lv_icmp_ge (tgt := 89) hx hb d_Model_feed_56 (by decide) (fun _ => ?_) (fun h9 => absurd (nI_le (Nat.le_refl _) (by omega)) h9)
        refine lv_aload_n hx hb d_Model_feed_89 rfl (lv_at hl 1 rfl) ?_
        refine lv_dup hx hb d_Model_feed_90 rfl ?_
        refine q_get (C := "KateDeskModel") (T := T_Model) (N := 14) (ci := 8) E hm.1 in_Model rfl 10 (by decide) w_1011 rfl rfl d_Model_feed_91 ?_
        refine lv_iload_n hx hb d_Model_feed_94 rfl (lv_at hl 2 rfl) ?_
        refine lv_iadd hx hb d_Model_feed_95 ?_
        refine lv_topi (fun t9 e9 => ?_)
        obtain rfl : t9 = nI i := e9.trans (Int32.zero_add _)
        refine q_put (C := "KateDeskModel") (T := T_Model) (N := 14) (ci := 8) (ty := .int) E hm.1 in_Model ty_Model tyok_Model nm_Model rfl 10 (by decide) w_1011 rfl rfl (by decide +kernel) rfl rfl (Nat.le_of_ble_eq_true rfl) hmn hF d_Model_feed_96 (fun H1 locs hq ho2 hF => ?_)
        have hm : MS g n0 H1 mo 0 0 (nI i) 0 0 14 fd := hm.frm hq (by omega) (by omega) (by omega) (by omega) ho2
        refine lv_aload_n hx hb d_Model_feed_99 rfl (lv_at hl 1 rfl) ?_
        refine q_get (C := "KateDeskModel") (T := T_Model) (N := 14) (ci := 8) E hm.1 in_Model rfl 10 (by decide) w_1011 rfl rfl d_Model_feed_100 ?_
        exact q_iret E hr hlk (⟨_, rfl, Or.inl ⟨hok, ⟨_, _, _, _, _, _, hw0, hm⟩, e_k1.symm⟩⟩) hF d_Model_feed_103
      | succ k ih =>
        intro  i   H   locs   ls hi hm hh hF hl
        refine lv_iload hx hb d_Model_feed_53 (lv_at hl 0 rfl) ?_
        refine lv_iload_n hx hb d_Model_feed_55 rfl (lv_at hl 2 rfl) ?_
        refine lv_icmp_ge (tgt := 89) hx hb d_Model_feed_56 (by decide) (fun h9 => absurd h9 (nI_ge (by omega) (by omega))) (fun _ => ?_)
        refine lv_aload_n hx hb d_Model_feed_59 rfl (lv_at hl 1 rfl) ?_
        refine q_get (C := "KateDeskModel") (T := T_Model) (N := 14) (ci := 8) E hm.1 in_Model rfl 9 (by decide) w_1010 rfl rfl d_Model_feed_60 ?_
        refine lv_aload_n hx hb d_Model_feed_63 rfl (lv_at hl 1 rfl) ?_
        refine q_get (C := "KateDeskModel") (T := T_Model) (N := 14) (ci := 8) E hm.1 in_Model rfl 10 (by decide) w_1011 rfl rfl d_Model_feed_64 ?_
        refine lv_iload hx hb d_Model_feed_67 (lv_at hl 0 rfl) ?_
        refine lv_iadd hx hb d_Model_feed_69 ?_
        refine lv_topi (fun t9 e9 => ?_)
        obtain rfl : t9 = nI i := e9.trans (Int32.zero_add _)
        refine lv_lload_n hx hb d_Model_feed_70 rfl (lv_at hl 3 rfl) ?_
        refine lv_bipush (v := nI 8) hx hb d_Model_feed_71 (by decide) ?_
        refine lv_iload hx hb d_Model_feed_73 (lv_at hl 0 rfl) ?_
        refine lv_imul hx hb d_Model_feed_75 ?_
        refine lv_lshr (v := v >>> (((nI 8) * (nI i)).toInt64 &&& 63)) hx hb d_Model_feed_76 rfl ?_
        refine lv_ldc2 (v := 255) hx hb E.2.2.2.1 (E.2.2.2.2.1 _ w_1057) d_Model_feed_77 ?_
        refine lv_land hx hb d_Model_feed_80 ?_
        refine lv_l2i (v := ((v >>> (((nI 8) * (nI i)).toInt64 &&& 63)) &&& 255).toInt32) hx hb d_Model_feed_81 rfl ?_
        obtain ⟨ft, hft⟩ := hh
        refine q_iast E hft hn6 hF i rfl (by omega) (by decide) d_Model_feed_82 (fun H1 locs hq hft2 hF => ?_)
        have hm := hm.frm hq (by omega) (by omega) (by omega) (by omega) (OB.off hq (by omega) hm.1)
        refine lv_iinc (k := 0) (v := nI (i + 1)) (lv' := [(4, .int (nI (i + 1))), (0, .ref mo), (1, .int (nI k1)), (2, .long v)]) hx hb d_Model_feed_83 hl rfl (i_inc i) (by decide) rfl (fun ls hl => ?_)
        refine lv_goto (tgt := 53) hx hb d_Model_feed_86 (by decide) ?_
        have hl : lv_has ls 5 [(4, .int (nI (i + 1))), (0, .ref mo), (1, .int (nI k1)), (2, .long v)] := lv_sub hl [0, 1, 2, 3] rfl
        exact ih (i + 1) _ _ ls (by omega) hm ⟨_, hft2⟩ hF hl
    exact loop k1 0 _ _ ls (by omega) hm hh hF hl
  refine lv_aload_n hx hb d_Model_feed_0 rfl (lv_at hl 0 rfl) ?_
  refine lv_iload_n hx hb d_Model_feed_1 rfl (lv_at hl 1 rfl) ?_
  refine lv_iconst (v := nI 1) hx hb d_Model_feed_2 (by decide) ?_
  refine lv_icmp_lt (tgt := 12) hx hb d_Model_feed_3 (by decide) (fun g_3 => ?_) (fun g_3 => ?_)
  rotate_left
  · skip
    refine lv_iload_n hx hb d_Model_feed_6 rfl (lv_at hl 1 rfl) ?_
    refine lv_bipush (v := nI 8) hx hb d_Model_feed_7 (by decide) ?_
    refine lv_icmp_le (tgt := 16) hx hb d_Model_feed_9 (by decide) (fun g_9 => ?_) (fun g_9 => ?_)
    rotate_left
    · skip
      refine lv_iconst (v := nI 1) hx hb d_Model_feed_12 (by decide) ?_
      refine lv_goto (tgt := 17) hx hb d_Model_feed_13 (by decide) ?_
      have hl : lv_has ls 5 [(0, .ref mo), (1, .int n), (2, .long v)] := lv_sub hl [0, 1, 2] rfl
      exact bad _ ls (fun h => (fun q => g_9 q.2) h) hF hl
    refine lv_iconst (v := nI 0) hx hb d_Model_feed_16 (by decide) ?_
    have hl : lv_has ls 5 [(0, .ref mo), (1, .int n), (2, .long v)] := lv_sub hl [0, 1, 2] rfl
    exact good _ ls (⟨g_3, g_9⟩) hF hl
  refine lv_iconst (v := nI 1) hx hb d_Model_feed_12 (by decide) ?_
  refine lv_goto (tgt := 17) hx hb d_Model_feed_13 (by decide) ?_
  have hl : lv_has ls 5 [(0, .ref mo), (1, .int n), (2, .long v)] := lv_sub hl [0, 1, 2] rfl
  exact bad _ ls (fun h => (fun q => q.1 g_3) h) hF hl
