section KRI
variable {p : Program} {l : Launch} {e : Env} {R : Room} {s : State} {m : MethodId} {args : Array Value} {below : List Frame} {meth : Method} {c : Code} {H : Heap} {locs : List Loc} {cells slots : Nat} {Q : State → Prop}
variable {cc : ByteArray} {nL : Nat} {pc : Nat} {ls : Array Slot} {rest : List Value} {g : WG} {own : String} {n0 : Nat → Prop} {a : Nat}
theorem q_iald (E : EV p m c cc nL s args own g) {N : Nat} {f : Nat → Int32} (hA : AI g H a N f) {i : Int32} (k : Nat) (hi : i = nI k) (hk : k < N) (hN : N < 2 ^ 31) (hdg : decode cc pc = .ok (.iaload, 1))
    (kk : W p l e R s m args below meth c H locs cells slots Q (F0 m (pc + 1) ls (.int (f k) :: rest))) : W p l e R s m args below meth c H locs cells slots Q (F0 m pc ls (.int i :: .ref a :: rest)) := by
  subst hi
  have hc : (nI k).toNatClampNeg = k := nI_clamp (Nat.lt_trans hk hN)
  exact W.iald (v := .int (f k)) E.1 E.2.1 hA ((E.2.2.2.2.2.1.2 2 _ rfl).1 N (fun j => .int (f j))) (fun q => by cases q) (by show ¬ (nI k < 0 ∨ (arrV _ _ _).slots.size ≤ _); rw [arrV_size]; exact nI_in hk hN) (by show (arrV _ _ _).slots[_]? = _; rw [hc, arrV_read _ _ hk]) rfl rfl hdg kk
theorem q_iast (E : EV p m c cc nL s args own g) {N : Nat} {f : Nat → Int32} (hA : AI g H a N f) (ha : n0 a) (hF : ∀ q ∈ locs, n0 q.base) {i x : Int32} (k : Nat) (hi : i = nI k) (hk : k < N) (hN : N < 2 ^ 31) (hdg : decode cc pc = .ok (.iastore, 1))
    (kk : ∀ (H' : Heap) (locs' : List Loc), FRM (fun q => q = a) H H' → AI g H' a N (upd f k x) → (∀ q ∈ locs', n0 q.base) → W p l e R s m args below meth c H' locs' cells slots Q (F0 m (pc + 1) ls rest)) : W p l e R s m args below meth c H locs cells slots Q (F0 m pc ls (.int x :: .int i :: .ref a :: rest)) := by
  subst hi
  have hc : (nI k).toNatClampNeg = k := nI_clamp (Nat.lt_trans hk hN)
  refine W.iast E.1 E.2.1 hA ((E.2.2.2.2.2.1.2 2 _ rfl).1 N (fun j => .int (f j))) (fun q => by cases q) (by show ¬ (nI k < 0 ∨ (arrV _ _ _).slots.size ≤ _); rw [arrV_size]; exact nI_in hk hN) rfl rfl hdg fun H1 e1 z oq => ?_
  have hA1 : AI g H1 a N (upd f k x) := by
    unfold AI
    rw [e1, hc, arrV_store]
    congr 2
    funext q
    by_cases hq : q = k
    · subst hq
      simp [updV, upd]
      try rfl
    · simp [updV, upd, hq]
  refine kk H1 _ ⟨z, fun q hq => oq q hq⟩ hA1 (fun q hq => ?_)
  rcases List.mem_append.mp hq with h | h
  · exact hF q h
  · rw [List.mem_singleton.mp h]
    exact ha
end KRI
theorem AI.off {g : WG} {S : Nat → Prop} {H H' : Heap} (h : FRM S H H') {a N : Nat} {f : Nat → Int32} (ha : ¬ S a) (hA : AI g H a N f) : AI g H' a N f := by
  unfold AI at hA ⊢
  rw [h.2 a ha]
  exact hA
theorem okP_1 {a : Int32} {j : Nat} (h1 : 1 ≤ j) (h2 : j ≤ 12) (h : okP a (nI j)) : okP a (nI 1) := by
  obtain ⟨k, e, hk⟩ := okP_nat (by omega) h2 h
  rw [e]; exact okP_of (by decide) (by omega)
theorem okP_t {a n : Int32} (hn : okC n (nI 0) (nI 12)) (h0 : ¬ n ≤ 0) (h1 : okP a (nI 1)) : okP a n ↔ okP (a + n - nI 1) (nI 1) := by
  obtain ⟨j, ej, hj1, hj2⟩ := okC_nat (by decide) (by decide) hn
  obtain ⟨k, ek, hk⟩ := okP_nat (by decide) (by decide) h1
  have hj : 1 ≤ j := by
    rcases Nat.eq_zero_or_pos j with h | h
    · subst h; rw [ej] at h0; exact absurd (by decide) h0
    · exact h
  rw [ej, ek, nI_add, pk_sub (by omega)]
  constructor
  · intro h
    obtain ⟨k', e, hk'⟩ := okP_nat (by omega) hj2 h
    have : k = k' := (nI_eq (by omega) (by omega)).mp e
    exact okP_of (by decide) (by omega)
  · intro h
    obtain ⟨k', e, hk'⟩ := okP_nat (by decide) (by decide) h
    have : k + j - 1 = k' := (nI_eq (by omega) (by omega)).mp e
    exact okP_of (by omega) (by omega)
theorem okP_s {a n : Int32} (hn : okC n (nI 0) (nI 12)) (h0 : ¬ n ≤ 0) (h : okP a n) : okP a (nI 1) := by
  obtain ⟨j, ej, hj1, hj2⟩ := okC_nat (by decide) (by decide) hn
  rw [ej] at h h0
  rcases Nat.eq_zero_or_pos j with h5 | h5
  · subst h5; exact absurd (by decide) h0
  · exact okP_1 h5 hj2 h
theorem okC_n12 {n : Int32} (h : okC n (nI 0) (nI 12)) : n ≤ 0 ∨ ∃ j, n = nI j ∧ 1 ≤ j ∧ j ≤ 32 := by
  obtain ⟨k, e, h1, h2⟩ := okC_nat (by decide) (by decide) h
  by_cases c : k = 0
  · subst c; rw [e]; exact Or.inl (by decide)
  · exact Or.inr ⟨k, e, by omega, by omega⟩
abbrev y_Model_combine : MethodName := ⟨"KateDeskModel", "combine", "(IIII)V"⟩
theorem hd_Model_combine : y_Model_combine.cls ≠ "java/lang/invoke/MethodHandle" ∧ y_Model_combine.cls ≠ "java/lang/invoke/VarHandle" ∧ (parseMethodDescriptor y_Model_combine.desc).map (fun d => d.parameters.length) = some 4 := by decide +kernel
theorem d_Model_combine_0 : decode prog_11_method_52_code 0 = .ok (.iload_n 1, 1) := by decide +kernel
theorem d_Model_combine_1 : decode prog_11_method_52_code 1 = .ok (.invokestatic 262, 3) := by decide +kernel
theorem d_Model_combine_4 : decode prog_11_method_52_code 4 = .ok (.ifCond .ne 15, 3) := by decide +kernel
theorem d_Model_combine_7 : decode prog_11_method_52_code 7 = .ok (.iload 4, 2) := by decide +kernel
theorem d_Model_combine_9 : decode prog_11_method_52_code 9 = .ok (.ifCond .lt 10, 3) := by decide +kernel
theorem d_Model_combine_12 : decode prog_11_method_52_code 12 = .ok (.iload 4, 2) := by decide +kernel
theorem d_Model_combine_14 : decode prog_11_method_52_code 14 = .ok (.bipush 12, 2) := by decide +kernel
theorem d_Model_combine_16 : decode prog_11_method_52_code 16 = .ok (.if_icmp .le 7, 3) := by decide +kernel
theorem d_Model_combine_19 : decode prog_11_method_52_code 19 = .ok (.iconst 1, 1) := by decide +kernel
theorem d_Model_combine_20 : decode prog_11_method_52_code 20 = .ok (.goto 4, 3) := by decide +kernel
theorem d_Model_combine_23 : decode prog_11_method_52_code 23 = .ok (.iconst 0, 1) := by decide +kernel
theorem d_Model_combine_24 : decode prog_11_method_52_code 24 = .ok (.istore 5, 2) := by decide +kernel
theorem d_Model_combine_26 : decode prog_11_method_52_code 26 = .ok (.iload 5, 2) := by decide +kernel
theorem d_Model_combine_28 : decode prog_11_method_52_code 28 = .ok (.ifCond .ne 36, 3) := by decide +kernel
theorem d_Model_combine_31 : decode prog_11_method_52_code 31 = .ok (.iload 4, 2) := by decide +kernel
theorem d_Model_combine_33 : decode prog_11_method_52_code 33 = .ok (.ifCond .le 35, 3) := by decide +kernel
theorem d_Model_combine_36 : decode prog_11_method_52_code 36 = .ok (.iload_n 2, 1) := by decide +kernel
theorem d_Model_combine_37 : decode prog_11_method_52_code 37 = .ok (.iload 4, 2) := by decide +kernel
theorem d_Model_combine_39 : decode prog_11_method_52_code 39 = .ok (.invokestatic 283, 3) := by decide +kernel
theorem d_Model_combine_42 : decode prog_11_method_52_code 42 = .ok (.ifCond .ne 22, 3) := by decide +kernel
theorem d_Model_combine_45 : decode prog_11_method_52_code 45 = .ok (.iload_n 3, 1) := by decide +kernel
theorem d_Model_combine_46 : decode prog_11_method_52_code 46 = .ok (.invokestatic 262, 3) := by decide +kernel
theorem d_Model_combine_49 : decode prog_11_method_52_code 49 = .ok (.ifCond .ne 15, 3) := by decide +kernel
theorem d_Model_combine_52 : decode prog_11_method_52_code 52 = .ok (.iload_n 3, 1) := by decide +kernel
theorem d_Model_combine_53 : decode prog_11_method_52_code 53 = .ok (.iload 4, 2) := by decide +kernel
theorem d_Model_combine_55 : decode prog_11_method_52_code 55 = .ok (.iadd, 1) := by decide +kernel
theorem d_Model_combine_56 : decode prog_11_method_52_code 56 = .ok (.iconst 1, 1) := by decide +kernel
theorem d_Model_combine_57 : decode prog_11_method_52_code 57 = .ok (.isub, 1) := by decide +kernel
theorem d_Model_combine_58 : decode prog_11_method_52_code 58 = .ok (.invokestatic 262, 3) := by decide +kernel
theorem d_Model_combine_61 : decode prog_11_method_52_code 61 = .ok (.ifCond .eq 7, 3) := by decide +kernel
theorem d_Model_combine_64 : decode prog_11_method_52_code 64 = .ok (.iconst 1, 1) := by decide +kernel
theorem d_Model_combine_65 : decode prog_11_method_52_code 65 = .ok (.goto 4, 3) := by decide +kernel
theorem d_Model_combine_68 : decode prog_11_method_52_code 68 = .ok (.iconst 0, 1) := by decide +kernel
theorem d_Model_combine_69 : decode prog_11_method_52_code 69 = .ok (.istore 5, 2) := by decide +kernel
theorem d_Model_combine_71 : decode prog_11_method_52_code 71 = .ok (.aload_n 0, 1) := by decide +kernel
theorem d_Model_combine_72 : decode prog_11_method_52_code 72 = .ok (.iload 5, 2) := by decide +kernel
theorem d_Model_combine_74 : decode prog_11_method_52_code 74 = .ok (.iconst 1, 1) := by decide +kernel
theorem d_Model_combine_75 : decode prog_11_method_52_code 75 = .ok (.invokevirtual 223, 3) := by decide +kernel
theorem d_Model_combine_78 : decode prog_11_method_52_code 78 = .ok (.ifCond .eq 4, 3) := by decide +kernel
theorem d_Model_combine_81 : decode prog_11_method_52_code 81 = .ok (.return_, 1) := by decide +kernel
theorem d_Model_combine_82 : decode prog_11_method_52_code 82 = .ok (.aload_n 0, 1) := by decide +kernel
theorem d_Model_combine_83 : decode prog_11_method_52_code 83 = .ok (.iload_n 2, 1) := by decide +kernel
theorem d_Model_combine_84 : decode prog_11_method_52_code 84 = .ok (.iload_n 3, 1) := by decide +kernel
theorem d_Model_combine_85 : decode prog_11_method_52_code 85 = .ok (.invokestatic 265, 3) := by decide +kernel
theorem d_Model_combine_88 : decode prog_11_method_52_code 88 = .ok (.iload 4, 2) := by decide +kernel
theorem d_Model_combine_90 : decode prog_11_method_52_code 90 = .ok (.invokevirtual 286, 3) := by decide +kernel
theorem d_Model_combine_93 : decode prog_11_method_52_code 93 = .ok (.aload_n 0, 1) := by decide +kernel
theorem d_Model_combine_94 : decode prog_11_method_52_code 94 = .ok (.iload_n 1, 1) := by decide +kernel
theorem d_Model_combine_95 : decode prog_11_method_52_code 95 = .ok (.invokestatic 265, 3) := by decide +kernel
theorem d_Model_combine_98 : decode prog_11_method_52_code 98 = .ok (.sipush 164, 3) := by decide +kernel
theorem d_Model_combine_101 : decode prog_11_method_52_code 101 = .ok (.invokevirtual 209, 3) := by decide +kernel
theorem d_Model_combine_104 : decode prog_11_method_52_code 104 = .ok (.return_, 1) := by decide +kernel
abbrev y_Model_feed : MethodName := ⟨"KateDeskModel", "feed", "(IJ)I"⟩
theorem hd_Model_feed : y_Model_feed.cls ≠ "java/lang/invoke/MethodHandle" ∧ y_Model_feed.cls ≠ "java/lang/invoke/VarHandle" ∧ (parseMethodDescriptor y_Model_feed.desc).map (fun d => d.parameters.length) = some 2 := by decide +kernel
theorem d_Model_feed_0 : decode prog_11_method_37_code 0 = .ok (.aload_n 0, 1) := by decide +kernel
theorem d_Model_feed_1 : decode prog_11_method_37_code 1 = .ok (.iload_n 1, 1) := by decide +kernel
theorem d_Model_feed_2 : decode prog_11_method_37_code 2 = .ok (.iconst 1, 1) := by decide +kernel
theorem d_Model_feed_3 : decode prog_11_method_37_code 3 = .ok (.if_icmp .lt 9, 3) := by decide +kernel
theorem d_Model_feed_6 : decode prog_11_method_37_code 6 = .ok (.iload_n 1, 1) := by decide +kernel
theorem d_Model_feed_7 : decode prog_11_method_37_code 7 = .ok (.bipush 8, 2) := by decide +kernel
theorem d_Model_feed_9 : decode prog_11_method_37_code 9 = .ok (.if_icmp .le 7, 3) := by decide +kernel
theorem d_Model_feed_12 : decode prog_11_method_37_code 12 = .ok (.iconst 1, 1) := by decide +kernel
theorem d_Model_feed_13 : decode prog_11_method_37_code 13 = .ok (.goto 4, 3) := by decide +kernel
theorem d_Model_feed_16 : decode prog_11_method_37_code 16 = .ok (.iconst 0, 1) := by decide +kernel
theorem d_Model_feed_17 : decode prog_11_method_37_code 17 = .ok (.iconst 1, 1) := by decide +kernel
theorem d_Model_feed_18 : decode prog_11_method_37_code 18 = .ok (.invokevirtual 223, 3) := by decide +kernel
theorem d_Model_feed_21 : decode prog_11_method_37_code 21 = .ok (.ifCond .ne 27, 3) := by decide +kernel
theorem d_Model_feed_24 : decode prog_11_method_37_code 24 = .ok (.aload_n 0, 1) := by decide +kernel
theorem d_Model_feed_25 : decode prog_11_method_37_code 25 = .ok (.aload_n 0, 1) := by decide +kernel
theorem d_Model_feed_26 : decode prog_11_method_37_code 26 = .ok (.getfield 155, 3) := by decide +kernel
theorem d_Model_feed_29 : decode prog_11_method_37_code 29 = .ok (.iload_n 1, 1) := by decide +kernel
theorem d_Model_feed_30 : decode prog_11_method_37_code 30 = .ok (.iadd, 1) := by decide +kernel
theorem d_Model_feed_31 : decode prog_11_method_37_code 31 = .ok (.bipush 96, 2) := by decide +kernel
theorem d_Model_feed_33 : decode prog_11_method_37_code 33 = .ok (.if_icmp .le 7, 3) := by decide +kernel
theorem d_Model_feed_36 : decode prog_11_method_37_code 36 = .ok (.iconst 1, 1) := by decide +kernel
theorem d_Model_feed_37 : decode prog_11_method_37_code 37 = .ok (.goto 4, 3) := by decide +kernel
theorem d_Model_feed_40 : decode prog_11_method_37_code 40 = .ok (.iconst 0, 1) := by decide +kernel
theorem d_Model_feed_41 : decode prog_11_method_37_code 41 = .ok (.iconst 2, 1) := by decide +kernel
theorem d_Model_feed_42 : decode prog_11_method_37_code 42 = .ok (.invokevirtual 223, 3) := by decide +kernel
theorem d_Model_feed_45 : decode prog_11_method_37_code 45 = .ok (.ifCond .eq 5, 3) := by decide +kernel
theorem d_Model_feed_48 : decode prog_11_method_37_code 48 = .ok (.iconst 0, 1) := by decide +kernel
theorem d_Model_feed_49 : decode prog_11_method_37_code 49 = .ok (.ireturn, 1) := by decide +kernel
theorem d_Model_feed_50 : decode prog_11_method_37_code 50 = .ok (.iconst 0, 1) := by decide +kernel
theorem d_Model_feed_51 : decode prog_11_method_37_code 51 = .ok (.istore 4, 2) := by decide +kernel
theorem d_Model_feed_53 : decode prog_11_method_37_code 53 = .ok (.iload 4, 2) := by decide +kernel
theorem d_Model_feed_55 : decode prog_11_method_37_code 55 = .ok (.iload_n 1, 1) := by decide +kernel
theorem d_Model_feed_56 : decode prog_11_method_37_code 56 = .ok (.if_icmp .ge 33, 3) := by decide +kernel
theorem d_Model_feed_59 : decode prog_11_method_37_code 59 = .ok (.aload_n 0, 1) := by decide +kernel
theorem d_Model_feed_60 : decode prog_11_method_37_code 60 = .ok (.getfield 127, 3) := by decide +kernel
theorem d_Model_feed_63 : decode prog_11_method_37_code 63 = .ok (.aload_n 0, 1) := by decide +kernel
theorem d_Model_feed_64 : decode prog_11_method_37_code 64 = .ok (.getfield 155, 3) := by decide +kernel
theorem d_Model_feed_67 : decode prog_11_method_37_code 67 = .ok (.iload 4, 2) := by decide +kernel
theorem d_Model_feed_69 : decode prog_11_method_37_code 69 = .ok (.iadd, 1) := by decide +kernel
theorem d_Model_feed_70 : decode prog_11_method_37_code 70 = .ok (.lload_n 2, 1) := by decide +kernel
theorem d_Model_feed_71 : decode prog_11_method_37_code 71 = .ok (.bipush 8, 2) := by decide +kernel
theorem d_Model_feed_73 : decode prog_11_method_37_code 73 = .ok (.iload 4, 2) := by decide +kernel
theorem d_Model_feed_75 : decode prog_11_method_37_code 75 = .ok (.imul, 1) := by decide +kernel
theorem d_Model_feed_76 : decode prog_11_method_37_code 76 = .ok (.lshr, 1) := by decide +kernel
theorem d_Model_feed_77 : decode prog_11_method_37_code 77 = .ok (.ldc2_w 227, 3) := by decide +kernel
theorem d_Model_feed_80 : decode prog_11_method_37_code 80 = .ok (.land, 1) := by decide +kernel
theorem d_Model_feed_81 : decode prog_11_method_37_code 81 = .ok (.l2i, 1) := by decide +kernel
theorem d_Model_feed_82 : decode prog_11_method_37_code 82 = .ok (.iastore, 1) := by decide +kernel
theorem d_Model_feed_83 : decode prog_11_method_37_code 83 = .ok (.iinc 4 1, 3) := by decide +kernel
theorem d_Model_feed_86 : decode prog_11_method_37_code 86 = .ok (.goto (-33), 3) := by decide +kernel
theorem d_Model_feed_89 : decode prog_11_method_37_code 89 = .ok (.aload_n 0, 1) := by decide +kernel
theorem d_Model_feed_90 : decode prog_11_method_37_code 90 = .ok (.dup, 1) := by decide +kernel
theorem d_Model_feed_91 : decode prog_11_method_37_code 91 = .ok (.getfield 155, 3) := by decide +kernel
theorem d_Model_feed_94 : decode prog_11_method_37_code 94 = .ok (.iload_n 1, 1) := by decide +kernel
theorem d_Model_feed_95 : decode prog_11_method_37_code 95 = .ok (.iadd, 1) := by decide +kernel
theorem d_Model_feed_96 : decode prog_11_method_37_code 96 = .ok (.putfield 155, 3) := by decide +kernel
theorem d_Model_feed_99 : decode prog_11_method_37_code 99 = .ok (.aload_n 0, 1) := by decide +kernel
theorem d_Model_feed_100 : decode prog_11_method_37_code 100 = .ok (.getfield 155, 3) := by decide +kernel
theorem d_Model_feed_103 : decode prog_11_method_37_code 103 = .ok (.ireturn, 1) := by decide +kernel