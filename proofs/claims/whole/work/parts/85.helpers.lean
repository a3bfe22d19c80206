/-- the desk's own cells -/
def nD (b : Nat) : Nat → Prop := fun q => b ≤ q ∧ q ≤ b + 500
theorem PT.toA {g : WG} {n0 n1 : Nat → Prop} {H : Heap} {o x y z : Nat} (h : PT g n0 H o x y z) (h1 : n1 x) (h2 : n1 y) (h3 : n1 z) : PT g n1 H o x y z := ⟨h.1, ⟨h1, h.2.1.2⟩, ⟨h2, h.2.2.1.2⟩, ⟨h3, h.2.2.2.2⟩⟩
theorem FD.toA {g : WG} {n0 n1 : Nat → Prop} {H : Heap} {o : Nat} {F : Nat → Nat} {mi : Int64} (h : FD g n0 H o F mi) (hn : ∀ k, k < 6 → fdn n1 k (F k)) : FD g n1 H o F mi := ⟨h.1, fun k hk => ⟨hn k hk, (h.2 k hk).2⟩⟩
theorem nd_Fr {b k : Nat} (hk : k < 6) : nD b (kFr b k) := by unfold nD kFr; split <;> omega
theorem nd_Fq {b k : Nat} (hk : k < 6) : nD b (kFq b k) := by unfold nD kFq; split <;> omega
theorem nd_c {b c : Nat} (h : c ≤ 500) : nD b (b + c) := by unfold nD; omega
theorem nd_X {b k : Nat} (hk : k < 9) : nD b (kX b k) := by unfold nD kX; omega
theorem nd_O {b k : Nat} (hk : k < 64) : nD b (kO1 b k) ∧ nD b (kO2 b k) ∧ nD b (kO3 b k) := by unfold nD kO1 kO2 kO3; omega
theorem nd_DG {b k : Nat} (hk : k < 16) : nD b (kDG b k) := by unfold nD kDG; omega
theorem nd_Y {b k : Nat} (hk : k < 7) : nD b (kY b k) := by unfold nD kY; omega
theorem nd_V {b k : Nat} (hk : k < 16) : nD b (kV b k) := by unfold nD kV; omega
theorem nd_Sc {b k : Nat} (hk : k < 32) : nD b (kSc b k) := by unfold nD kSc; omega
theorem nd_PA {b k : Nat} (hk : k < 12) : nD b (kPA1 b k) ∧ nD b (kPA2 b k) ∧ nD b (kPA3 b k) := by unfold nD kPA1 kPA2 kPA3; omega
theorem nd_PW {b k : Nat} (hk : k < 16) : nD b (kPW1 b k) ∧ nD b (kPW2 b k) ∧ nD b (kPW3 b k) := by unfold nD kPW1 kPW2 kPW3; omega
theorem AJ.one {g : WG} {H : Heap} {a : Nat} {f : Nat → Int64} {x : Int64} (h : AJ g H a 1 (vp_updL f 0 x)) : AJ g H a 1 (fun _ => x) := by
  unfold AJ at h ⊢
  rw [h]
  refine congrArg some (arrV_ext (fun j hj => ?_))
  have e : j = 0 := by omega
  subst e
  simp [vp_updL]
theorem nD_up {s0 : State} {b : Nat} (hb : s0.heap.size ≤ b) : ∀ q, nD b q → HXA s0 q := fun q h => Nat.le_trans hb h.1
theorem nD_510 {b : Nat} : ¬ nD b (b + 510) := by unfold nD; omega
/-- the cells below the desk, and the model's -/
def kM (b q : Nat) : Prop := q < b ∨ (b + 501 ≤ q ∧ q ≤ b + 509)
theorem nD_m {b q : Nat} (h1 : kM b q) : ¬ nD b q := by unfold nD; unfold kM at h1; omega
theorem n_510 {b q : Nat} (h2 : kM b q) : ¬ q = b + 510 := by unfold kM at h2; omega
theorem n_511 {b q n : Nat} (hn : n = b + 511) (h2 : kM b q) : q < n := by unfold kM at h2; omega
theorem nb {A B : Prop} (h : ¬ (A ∧ B)) : ¬ A ∨ ¬ B := by
  by_cases a : A
  · exact Or.inr (fun b => h ⟨a, b⟩)
  · exact Or.inl a
theorem nbn {A B : Prop} (h : ¬ (A ∧ ¬ B)) : ¬ A ∨ B := (nb h).imp id Classical.not_not.mp
theorem okC_bad {n a b : Int32} (h : ¬ okC n a b) : n < a ∨ ¬ n ≤ b := (nb h).imp Classical.not_not.mp id
theorem bad_w {x : Int32} (h : ¬ okC x (nI 0) (nI 7)) : x < 0 ∨ ¬ x < nI 8 := by
  by_cases h0 : x < 0
  · exact Or.inl h0
  · refine Or.inr (fun h8 => ?_)
    obtain ⟨j, hj, rfl⟩ := nI_of h0
    have h9 := (nI_ltI hj (by decide)).mp h8
    exact h (okC_of (Nat.zero_le _) (by omega) (by decide))
theorem sh7 : ∀ k, k < 5 → nI 1 <<< ((nI k &&& nI 7) &&& 31) = nI (2 ^ k) := by decide
theorem sh7m : ∀ k, k < 5 → (((nI 1 <<< ((nI k &&& nI 7) &&& 31)) - nI 1).toInt64.toInt = ((2 ^ k - 1 : Nat) : Int)) ∧ (nI 1 <<< (nI k &&& 31)) - nI 1 = nI (2 ^ k - 1) := by decide
theorem nI_sur (x : Int32) : ∃ k, x = nI k := ⟨x.toBitVec.toNat, by
  apply Int32.toBitVec_inj.mp
  show x.toBitVec = BitVec.ofNat 32 x.toBitVec.toNat
  simp⟩
theorem bad_t {x1 x2 : Int32} (h : ¬ (okC x2 (nI 0) (nI 4) ∧ okS x1 (nI 1 <<< ((x2 &&& nI 7) &&& 31)))) : ¬ okC x2 (nI 0) (nI 4) ∨ ¬ okS x1 (nI 1 <<< (x2 &&& 31)) := by
  by_cases h1 : okC x2 (nI 0) (nI 4)
  · refine Or.inr (fun h2 => h ⟨h1, ?_⟩)
    obtain ⟨k, rfl, -, hk⟩ := okC_nat (by decide) (by decide) h1
    rw [sh7 k (by omega)]
    rw [sh1 k (by omega)] at h2
    exact h2
  · exact Or.inl h1
theorem lag_C {k : Nat} (hk : k < 5) {x : Int32} : ((0 : Int64).toInt ≤ x.toInt64.toInt ∧ x.toInt64.toInt ≤ ((nI 1 <<< ((nI k &&& nI 7) &&& 31)) - nI 1).toInt64.toInt) ↔ okC x (nI 0) (nI (2 ^ k - 1)) :=
  in_okC (by decide) (Nat.lt_of_le_of_lt (Nat.sub_le _ _) (by have := (pw16 hk).2; omega)) (by decide) (sh7m k hk).1
theorem bad_l {x1 x2 x3 x4 : Int32} (h : ¬ (okS x1 (nI 1) ∧ okC x2 (nI 0) (nI 4) ∧ ((0 : Int64).toInt ≤ x3.toInt64.toInt ∧ x3.toInt64.toInt ≤ ((nI 1 <<< ((x2 &&& nI 7) &&& 31)) - nI 1).toInt64.toInt) ∧ okS x4 (nI 1))) : ¬ okC x2 (nI 0) (nI 4) ∨ ¬ okC x3 (nI 0) ((nI 1 <<< (x2 &&& 31)) - nI 1) ∨ ¬ okS x1 (nI 1) ∨ ¬ okS x4 (nI 1) := by
  by_cases h1 : okC x2 (nI 0) (nI 4)
  · right
    obtain ⟨k, rfl, -, hk⟩ := okC_nat (by decide) (by decide) h1
    by_cases h2 : okC x3 (nI 0) ((nI 1 <<< (nI k &&& 31)) - nI 1)
    · right
      by_cases h3 : okS x1 (nI 1)
      · right
        intro h4
        rw [(sh7m k (by omega)).2] at h2
        exact h ⟨h3, h1, (lag_C (by omega)).mpr h2, h4⟩
      · exact Or.inl h3
    · exact Or.inl h2
  · exact Or.inl h1
theorem lag_i {k i : Nat} (hk : k < 5) (h : i ≤ 2 ^ k - 1) : i < 2 ^ k := by have := (pw16 hk).1; omega
theorem comb_S {x : Int32} {n : Nat} (hn : n ≤ 12) (h : okS x (nI n)) : ∃ k, x = nI k ∧ (0 < n → k + n ≤ 32) := by
  by_cases h0 : 0 < n
  · obtain ⟨k, e, q⟩ := okS_nat h0 (by omega) h
    exact ⟨k, e, fun _ => q⟩
  · obtain ⟨k, e⟩ := nI_sur x
    exact ⟨k, e, fun h => absurd h h0⟩
theorem comb_P {x : Int32} {n : Nat} (hn : n ≤ 12) (h : okP x (nI n)) : ∃ k, x = nI k ∧ (0 < n → k + n ≤ 12) := by
  by_cases h0 : 0 < n
  · obtain ⟨k, e, q⟩ := okP_nat h0 hn h
    exact ⟨k, e, fun _ => q⟩
  · obtain ⟨k, e⟩ := nI_sur x
    exact ⟨k, e, fun h => absurd h h0⟩
theorem com_0 {x : Int32} (h : okC x (nI 0) (nI 16)) (h0 : x ≤ 0) : x = nI 0 := by
  obtain ⟨k, rfl, -, hk⟩ := okC_nat (by decide) (by decide) h
  rcases Nat.eq_zero_or_pos k with e | e
  · rw [e]
  · exact absurd h0 (nI_nle e (by omega))
abbrev y_Law_feed : MethodName := ⟨"KateDeskLaw", "feed", "(LKateDesk;IJ[J)I"⟩
theorem hd_Law_feed : y_Law_feed.cls ≠ "java/lang/invoke/MethodHandle" ∧ y_Law_feed.cls ≠ "java/lang/invoke/VarHandle" ∧ (parseMethodDescriptor y_Law_feed.desc).map (fun d => d.parameters.length) = some 4 := by decide +kernel
theorem d_Law_feed_0 : decode method_3_code 0 = .ok (.aload 4, 2) := by decide +kernel
theorem d_Law_feed_2 : decode method_3_code 2 = .ok (.iconst 0, 1) := by decide +kernel
theorem d_Law_feed_3 : decode method_3_code 3 = .ok (.aload_n 0, 1) := by decide +kernel
theorem d_Law_feed_4 : decode method_3_code 4 = .ok (.iload_n 1, 1) := by decide +kernel
theorem d_Law_feed_5 : decode method_3_code 5 = .ok (.lload_n 2, 1) := by decide +kernel
theorem d_Law_feed_6 : decode method_3_code 6 = .ok (.invokevirtual 7, 3) := by decide +kernel
theorem d_Law_feed_9 : decode method_3_code 9 = .ok (.i2l, 1) := by decide +kernel
theorem d_Law_feed_10 : decode method_3_code 10 = .ok (.lastore, 1) := by decide +kernel
theorem d_Law_feed_11 : decode method_3_code 11 = .ok (.goto 11, 3) := by decide +kernel
theorem d_Law_feed_14 : decode method_3_code 14 = .ok (.astore 5, 2) := by decide +kernel
theorem d_Law_feed_16 : decode method_3_code 16 = .ok (.iconst 1, 1) := by decide +kernel
theorem d_Law_feed_17 : decode method_3_code 17 = .ok (.ireturn, 1) := by decide +kernel
theorem d_Law_feed_18 : decode method_3_code 18 = .ok (.astore 5, 2) := by decide +kernel
theorem d_Law_feed_20 : decode method_3_code 20 = .ok (.iconst 2, 1) := by decide +kernel
theorem d_Law_feed_21 : decode method_3_code 21 = .ok (.ireturn, 1) := by decide +kernel
theorem d_Law_feed_22 : decode method_3_code 22 = .ok (.iconst 0, 1) := by decide +kernel
theorem d_Law_feed_23 : decode method_3_code 23 = .ok (.ireturn, 1) := by decide +kernel
abbrev y_Law_number : MethodName := ⟨"KateDeskLaw", "number", "(LKateDesk;I[J)I"⟩
theorem hd_Law_number : y_Law_number.cls ≠ "java/lang/invoke/MethodHandle" ∧ y_Law_number.cls ≠ "java/lang/invoke/VarHandle" ∧ (parseMethodDescriptor y_Law_number.desc).map (fun d => d.parameters.length) = some 3 := by decide +kernel
theorem d_Law_number_0 : decode method_4_code 0 = .ok (.aload_n 2, 1) := by decide +kernel
theorem d_Law_number_1 : decode method_4_code 1 = .ok (.iconst 0, 1) := by decide +kernel
theorem d_Law_number_2 : decode method_4_code 2 = .ok (.aload_n 0, 1) := by decide +kernel
theorem d_Law_number_3 : decode method_4_code 3 = .ok (.iload_n 1, 1) := by decide +kernel
theorem d_Law_number_4 : decode method_4_code 4 = .ok (.invokevirtual 17, 3) := by decide +kernel
theorem d_Law_number_7 : decode method_4_code 7 = .ok (.ifCond .eq 7, 3) := by decide +kernel
theorem d_Law_number_10 : decode method_4_code 10 = .ok (.lconst 1, 1) := by decide +kernel
theorem d_Law_number_11 : decode method_4_code 11 = .ok (.goto 4, 3) := by decide +kernel
theorem d_Law_number_14 : decode method_4_code 14 = .ok (.lconst 0, 1) := by decide +kernel
theorem d_Law_number_15 : decode method_4_code 15 = .ok (.lastore, 1) := by decide +kernel
theorem d_Law_number_16 : decode method_4_code 16 = .ok (.goto 6, 3) := by decide +kernel
theorem d_Law_number_19 : decode method_4_code 19 = .ok (.astore_n 3, 1) := by decide +kernel
theorem d_Law_number_20 : decode method_4_code 20 = .ok (.iconst 1, 1) := by decide +kernel
theorem d_Law_number_21 : decode method_4_code 21 = .ok (.ireturn, 1) := by decide +kernel
theorem d_Law_number_22 : decode method_4_code 22 = .ok (.iconst 0, 1) := by decide +kernel
theorem d_Law_number_23 : decode method_4_code 23 = .ok (.ireturn, 1) := by decide +kernel
abbrev y_Law_set : MethodName := ⟨"KateDeskLaw", "set", "(LKateDesk;IJ)I"⟩
theorem hd_Law_set : y_Law_set.cls ≠ "java/lang/invoke/MethodHandle" ∧ y_Law_set.cls ≠ "java/lang/invoke/VarHandle" ∧ (parseMethodDescriptor y_Law_set.desc).map (fun d => d.parameters.length) = some 3 := by decide +kernel
theorem d_Law_set_0 : decode method_5_code 0 = .ok (.aload_n 0, 1) := by decide +kernel
theorem d_Law_set_1 : decode method_5_code 1 = .ok (.iload_n 1, 1) := by decide +kernel
theorem d_Law_set_2 : decode method_5_code 2 = .ok (.lload_n 2, 1) := by decide +kernel
theorem d_Law_set_3 : decode method_5_code 3 = .ok (.invokevirtual 21, 3) := by decide +kernel
theorem d_Law_set_6 : decode method_5_code 6 = .ok (.goto 7, 3) := by decide +kernel
theorem d_Law_set_9 : decode method_5_code 9 = .ok (.astore 4, 2) := by decide +kernel
theorem d_Law_set_11 : decode method_5_code 11 = .ok (.iconst 1, 1) := by decide +kernel
theorem d_Law_set_12 : decode method_5_code 12 = .ok (.ireturn, 1) := by decide +kernel
theorem d_Law_set_13 : decode method_5_code 13 = .ok (.iconst 0, 1) := by decide +kernel
theorem d_Law_set_14 : decode method_5_code 14 = .ok (.ireturn, 1) := by decide +kernel
abbrev y_Law_word : MethodName := ⟨"KateDeskLaw", "word", "(LKateDesk;II[J)I"⟩
theorem hd_Law_word : y_Law_word.cls ≠ "java/lang/invoke/MethodHandle" ∧ y_Law_word.cls ≠ "java/lang/invoke/VarHandle" ∧ (parseMethodDescriptor y_Law_word.desc).map (fun d => d.parameters.length) = some 4 := by decide +kernel
theorem d_Law_word_0 : decode method_6_code 0 = .ok (.aload_n 3, 1) := by decide +kernel
theorem d_Law_word_1 : decode method_6_code 1 = .ok (.iconst 0, 1) := by decide +kernel
theorem d_Law_word_2 : decode method_6_code 2 = .ok (.aload_n 0, 1) := by decide +kernel
theorem d_Law_word_3 : decode method_6_code 3 = .ok (.iload_n 1, 1) := by decide +kernel
theorem d_Law_word_4 : decode method_6_code 4 = .ok (.iload_n 2, 1) := by decide +kernel
theorem d_Law_word_5 : decode method_6_code 5 = .ok (.invokevirtual 25, 3) := by decide +kernel
theorem d_Law_word_8 : decode method_6_code 8 = .ok (.lastore, 1) := by decide +kernel
theorem d_Law_word_9 : decode method_6_code 9 = .ok (.goto 7, 3) := by decide +kernel
theorem d_Law_word_12 : decode method_6_code 12 = .ok (.astore 4, 2) := by decide +kernel
theorem d_Law_word_14 : decode method_6_code 14 = .ok (.iconst 1, 1) := by decide +kernel
theorem d_Law_word_15 : decode method_6_code 15 = .ok (.ireturn, 1) := by decide +kernel
theorem d_Law_word_16 : decode method_6_code 16 = .ok (.iconst 0, 1) := by decide +kernel
theorem d_Law_word_17 : decode method_6_code 17 = .ok (.ireturn, 1) := by decide +kernel
abbrev y_Law_reckon : MethodName := ⟨"KateDeskLaw", "reckon", "(LKateDesk;IIII)I"⟩
theorem hd_Law_reckon : y_Law_reckon.cls ≠ "java/lang/invoke/MethodHandle" ∧ y_Law_reckon.cls ≠ "java/lang/invoke/VarHandle" ∧ (parseMethodDescriptor y_Law_reckon.desc).map (fun d => d.parameters.length) = some 5 := by decide +kernel
theorem d_Law_reckon_0 : decode method_7_code 0 = .ok (.aload_n 0, 1) := by decide +kernel
theorem d_Law_reckon_1 : decode method_7_code 1 = .ok (.iload_n 1, 1) := by decide +kernel
theorem d_Law_reckon_2 : decode method_7_code 2 = .ok (.iload_n 2, 1) := by decide +kernel
theorem d_Law_reckon_3 : decode method_7_code 3 = .ok (.iload_n 3, 1) := by decide +kernel
theorem d_Law_reckon_4 : decode method_7_code 4 = .ok (.iload 4, 2) := by decide +kernel
theorem d_Law_reckon_6 : decode method_7_code 6 = .ok (.invokevirtual 29, 3) := by decide +kernel
theorem d_Law_reckon_9 : decode method_7_code 9 = .ok (.goto 11, 3) := by decide +kernel
theorem d_Law_reckon_12 : decode method_7_code 12 = .ok (.astore 5, 2) := by decide +kernel
theorem d_Law_reckon_14 : decode method_7_code 14 = .ok (.iconst 1, 1) := by decide +kernel
theorem d_Law_reckon_15 : decode method_7_code 15 = .ok (.ireturn, 1) := by decide +kernel
theorem d_Law_reckon_16 : decode method_7_code 16 = .ok (.astore 5, 2) := by decide +kernel
theorem d_Law_reckon_18 : decode method_7_code 18 = .ok (.iconst 2, 1) := by decide +kernel
theorem d_Law_reckon_19 : decode method_7_code 19 = .ok (.ireturn, 1) := by decide +kernel
theorem d_Law_reckon_20 : decode method_7_code 20 = .ok (.iconst 0, 1) := by decide +kernel
theorem d_Law_reckon_21 : decode method_7_code 21 = .ok (.ireturn, 1) := by decide +kernel
abbrev y_Law_power : MethodName := ⟨"KateDeskLaw", "power", "(LKateDesk;IIJ)I"⟩
theorem hd_Law_power : y_Law_power.cls ≠ "java/lang/invoke/MethodHandle" ∧ y_Law_power.cls ≠ "java/lang/invoke/VarHandle" ∧ (parseMethodDescriptor y_Law_power.desc).map (fun d => d.parameters.length) = some 4 := by decide +kernel
theorem d_Law_power_0 : decode method_8_code 0 = .ok (.aload_n 0, 1) := by decide +kernel
theorem d_Law_power_1 : decode method_8_code 1 = .ok (.iload_n 1, 1) := by decide +kernel
theorem d_Law_power_2 : decode method_8_code 2 = .ok (.iload_n 2, 1) := by decide +kernel
theorem d_Law_power_3 : decode method_8_code 3 = .ok (.lload_n 3, 1) := by decide +kernel
theorem d_Law_power_4 : decode method_8_code 4 = .ok (.invokevirtual 35, 3) := by decide +kernel
theorem d_Law_power_7 : decode method_8_code 7 = .ok (.goto 7, 3) := by decide +kernel
theorem d_Law_power_10 : decode method_8_code 10 = .ok (.astore 5, 2) := by decide +kernel
theorem d_Law_power_12 : decode method_8_code 12 = .ok (.iconst 1, 1) := by decide +kernel
theorem d_Law_power_13 : decode method_8_code 13 = .ok (.ireturn, 1) := by decide +kernel
theorem d_Law_power_14 : decode method_8_code 14 = .ok (.iconst 0, 1) := by decide +kernel
theorem d_Law_power_15 : decode method_8_code 15 = .ok (.ireturn, 1) := by decide +kernel
abbrev y_Law_unity : MethodName := ⟨"KateDeskLaw", "unity", "(LKateDesk;II)I"⟩
theorem hd_Law_unity : y_Law_unity.cls ≠ "java/lang/invoke/MethodHandle" ∧ y_Law_unity.cls ≠ "java/lang/invoke/VarHandle" ∧ (parseMethodDescriptor y_Law_unity.desc).map (fun d => d.parameters.length) = some 3 := by decide +kernel
theorem d_Law_unity_0 : decode method_9_code 0 = .ok (.aload_n 0, 1) := by decide +kernel
theorem d_Law_unity_1 : decode method_9_code 1 = .ok (.iload_n 1, 1) := by decide +kernel
theorem d_Law_unity_2 : decode method_9_code 2 = .ok (.iload_n 2, 1) := by decide +kernel
theorem d_Law_unity_3 : decode method_9_code 3 = .ok (.invokevirtual 39, 3) := by decide +kernel
theorem d_Law_unity_6 : decode method_9_code 6 = .ok (.goto 6, 3) := by decide +kernel
theorem d_Law_unity_9 : decode method_9_code 9 = .ok (.astore_n 3, 1) := by decide +kernel
theorem d_Law_unity_10 : decode method_9_code 10 = .ok (.iconst 1, 1) := by decide +kernel
theorem d_Law_unity_11 : decode method_9_code 11 = .ok (.ireturn, 1) := by decide +kernel
theorem d_Law_unity_12 : decode method_9_code 12 = .ok (.iconst 0, 1) := by decide +kernel
theorem d_Law_unity_13 : decode method_9_code 13 = .ok (.ireturn, 1) := by decide +kernel
abbrev y_Law_point : MethodName := ⟨"KateDeskLaw", "point", "(LKateDesk;I[J)I"⟩
theorem hd_Law_point : y_Law_point.cls ≠ "java/lang/invoke/MethodHandle" ∧ y_Law_point.cls ≠ "java/lang/invoke/VarHandle" ∧ (parseMethodDescriptor y_Law_point.desc).map (fun d => d.parameters.length) = some 3 := by decide +kernel
theorem d_Law_point_0 : decode method_10_code 0 = .ok (.aload_n 2, 1) := by decide +kernel
theorem d_Law_point_1 : decode method_10_code 1 = .ok (.iconst 0, 1) := by decide +kernel
theorem d_Law_point_2 : decode method_10_code 2 = .ok (.aload_n 0, 1) := by decide +kernel
theorem d_Law_point_3 : decode method_10_code 3 = .ok (.iload_n 1, 1) := by decide +kernel
theorem d_Law_point_4 : decode method_10_code 4 = .ok (.invokevirtual 43, 3) := by decide +kernel
theorem d_Law_point_7 : decode method_10_code 7 = .ok (.i2l, 1) := by decide +kernel
theorem d_Law_point_8 : decode method_10_code 8 = .ok (.lastore, 1) := by decide +kernel
theorem d_Law_point_9 : decode method_10_code 9 = .ok (.goto 6, 3) := by decide +kernel
theorem d_Law_point_12 : decode method_10_code 12 = .ok (.astore_n 3, 1) := by decide +kernel
theorem d_Law_point_13 : decode method_10_code 13 = .ok (.iconst 1, 1) := by decide +kernel
theorem d_Law_point_14 : decode method_10_code 14 = .ok (.ireturn, 1) := by decide +kernel
theorem d_Law_point_15 : decode method_10_code 15 = .ok (.iconst 0, 1) := by decide +kernel
theorem d_Law_point_16 : decode method_10_code 16 = .ok (.ireturn, 1) := by decide +kernel
abbrev y_Law_bytes : MethodName := ⟨"KateDeskLaw", "bytes", "(LKateDesk;IZ)I"⟩
theorem hd_Law_bytes : y_Law_bytes.cls ≠ "java/lang/invoke/MethodHandle" ∧ y_Law_bytes.cls ≠ "java/lang/invoke/VarHandle" ∧ (parseMethodDescriptor y_Law_bytes.desc).map (fun d => d.parameters.length) = some 3 := by decide +kernel
theorem d_Law_bytes_0 : decode method_11_code 0 = .ok (.aload_n 0, 1) := by decide +kernel
theorem d_Law_bytes_1 : decode method_11_code 1 = .ok (.iload_n 1, 1) := by decide +kernel
theorem d_Law_bytes_2 : decode method_11_code 2 = .ok (.iload_n 2, 1) := by decide +kernel
theorem d_Law_bytes_3 : decode method_11_code 3 = .ok (.invokevirtual 47, 3) := by decide +kernel
theorem d_Law_bytes_6 : decode method_11_code 6 = .ok (.goto 6, 3) := by decide +kernel
theorem d_Law_bytes_9 : decode method_11_code 9 = .ok (.astore_n 3, 1) := by decide +kernel
theorem d_Law_bytes_10 : decode method_11_code 10 = .ok (.iconst 1, 1) := by decide +kernel
theorem d_Law_bytes_11 : decode method_11_code 11 = .ok (.ireturn, 1) := by decide +kernel
theorem d_Law_bytes_12 : decode method_11_code 12 = .ok (.iconst 0, 1) := by decide +kernel
theorem d_Law_bytes_13 : decode method_11_code 13 = .ok (.ireturn, 1) := by decide +kernel
abbrev y_Law_out : MethodName := ⟨"KateDeskLaw", "out", "(LKateDesk;I[J)I"⟩
theorem hd_Law_out : y_Law_out.cls ≠ "java/lang/invoke/MethodHandle" ∧ y_Law_out.cls ≠ "java/lang/invoke/VarHandle" ∧ (parseMethodDescriptor y_Law_out.desc).map (fun d => d.parameters.length) = some 3 := by decide +kernel
theorem d_Law_out_0 : decode method_12_code 0 = .ok (.aload_n 2, 1) := by decide +kernel
theorem d_Law_out_1 : decode method_12_code 1 = .ok (.iconst 0, 1) := by decide +kernel
theorem d_Law_out_2 : decode method_12_code 2 = .ok (.aload_n 0, 1) := by decide +kernel
theorem d_Law_out_3 : decode method_12_code 3 = .ok (.iload_n 1, 1) := by decide +kernel
theorem d_Law_out_4 : decode method_12_code 4 = .ok (.invokevirtual 51, 3) := by decide +kernel
theorem d_Law_out_7 : decode method_12_code 7 = .ok (.lastore, 1) := by decide +kernel
theorem d_Law_out_8 : decode method_12_code 8 = .ok (.goto 6, 3) := by decide +kernel
theorem d_Law_out_11 : decode method_12_code 11 = .ok (.astore_n 3, 1) := by decide +kernel
theorem d_Law_out_12 : decode method_12_code 12 = .ok (.iconst 1, 1) := by decide +kernel
theorem d_Law_out_13 : decode method_12_code 13 = .ok (.ireturn, 1) := by decide +kernel
theorem d_Law_out_14 : decode method_12_code 14 = .ok (.iconst 0, 1) := by decide +kernel
theorem d_Law_out_15 : decode method_12_code 15 = .ok (.ireturn, 1) := by decide +kernel
abbrev y_Law_join : MethodName := ⟨"KateDeskLaw", "join", "(LKateDesk;IIII)I"⟩
theorem hd_Law_join : y_Law_join.cls ≠ "java/lang/invoke/MethodHandle" ∧ y_Law_join.cls ≠ "java/lang/invoke/VarHandle" ∧ (parseMethodDescriptor y_Law_join.desc).map (fun d => d.parameters.length) = some 5 := by decide +kernel
theorem d_Law_join_0 : decode method_13_code 0 = .ok (.aload_n 0, 1) := by decide +kernel
theorem d_Law_join_1 : decode method_13_code 1 = .ok (.iload_n 1, 1) := by decide +kernel
theorem d_Law_join_2 : decode method_13_code 2 = .ok (.iload_n 2, 1) := by decide +kernel
theorem d_Law_join_3 : decode method_13_code 3 = .ok (.iload_n 3, 1) := by decide +kernel
theorem d_Law_join_4 : decode method_13_code 4 = .ok (.iload 4, 2) := by decide +kernel
theorem d_Law_join_6 : decode method_13_code 6 = .ok (.invokevirtual 57, 3) := by decide +kernel
theorem d_Law_join_9 : decode method_13_code 9 = .ok (.goto 7, 3) := by decide +kernel
theorem d_Law_join_12 : decode method_13_code 12 = .ok (.astore 5, 2) := by decide +kernel
theorem d_Law_join_14 : decode method_13_code 14 = .ok (.iconst 1, 1) := by decide +kernel
theorem d_Law_join_15 : decode method_13_code 15 = .ok (.ireturn, 1) := by decide +kernel
theorem d_Law_join_16 : decode method_13_code 16 = .ok (.iconst 0, 1) := by decide +kernel
theorem d_Law_join_17 : decode method_13_code 17 = .ok (.ireturn, 1) := by decide +kernel
abbrev y_Law_times : MethodName := ⟨"KateDeskLaw", "times", "(LKateDesk;III)I"⟩
theorem hd_Law_times : y_Law_times.cls ≠ "java/lang/invoke/MethodHandle" ∧ y_Law_times.cls ≠ "java/lang/invoke/VarHandle" ∧ (parseMethodDescriptor y_Law_times.desc).map (fun d => d.parameters.length) = some 4 := by decide +kernel
theorem d_Law_times_0 : decode method_14_code 0 = .ok (.aload_n 0, 1) := by decide +kernel
theorem d_Law_times_1 : decode method_14_code 1 = .ok (.iload_n 1, 1) := by decide +kernel
theorem d_Law_times_2 : decode method_14_code 2 = .ok (.iload_n 2, 1) := by decide +kernel
theorem d_Law_times_3 : decode method_14_code 3 = .ok (.iload_n 3, 1) := by decide +kernel
theorem d_Law_times_4 : decode method_14_code 4 = .ok (.invokevirtual 60, 3) := by decide +kernel
theorem d_Law_times_7 : decode method_14_code 7 = .ok (.goto 7, 3) := by decide +kernel
theorem d_Law_times_10 : decode method_14_code 10 = .ok (.astore 4, 2) := by decide +kernel
theorem d_Law_times_12 : decode method_14_code 12 = .ok (.iconst 1, 1) := by decide +kernel
theorem d_Law_times_13 : decode method_14_code 13 = .ok (.ireturn, 1) := by decide +kernel
theorem d_Law_times_14 : decode method_14_code 14 = .ok (.iconst 0, 1) := by decide +kernel
theorem d_Law_times_15 : decode method_14_code 15 = .ok (.ireturn, 1) := by decide +kernel
abbrev y_Law_combine : MethodName := ⟨"KateDeskLaw", "combine", "(LKateDesk;IIII)I"⟩
theorem hd_Law_combine : y_Law_combine.cls ≠ "java/lang/invoke/MethodHandle" ∧ y_Law_combine.cls ≠ "java/lang/invoke/VarHandle" ∧ (parseMethodDescriptor y_Law_combine.desc).map (fun d => d.parameters.length) = some 5 := by decide +kernel
theorem d_Law_combine_0 : decode method_15_code 0 = .ok (.aload_n 0, 1) := by decide +kernel
theorem d_Law_combine_1 : decode method_15_code 1 = .ok (.iload_n 1, 1) := by decide +kernel
theorem d_Law_combine_2 : decode method_15_code 2 = .ok (.iload_n 2, 1) := by decide +kernel
theorem d_Law_combine_3 : decode method_15_code 3 = .ok (.iload_n 3, 1) := by decide +kernel
theorem d_Law_combine_4 : decode method_15_code 4 = .ok (.iload 4, 2) := by decide +kernel
theorem d_Law_combine_6 : decode method_15_code 6 = .ok (.invokevirtual 64, 3) := by decide +kernel
theorem d_Law_combine_9 : decode method_15_code 9 = .ok (.goto 7, 3) := by decide +kernel
theorem d_Law_combine_12 : decode method_15_code 12 = .ok (.astore 5, 2) := by decide +kernel
theorem d_Law_combine_14 : decode method_15_code 14 = .ok (.iconst 1, 1) := by decide +kernel
theorem d_Law_combine_15 : decode method_15_code 15 = .ok (.ireturn, 1) := by decide +kernel
theorem d_Law_combine_16 : decode method_15_code 16 = .ok (.iconst 0, 1) := by decide +kernel
theorem d_Law_combine_17 : decode method_15_code 17 = .ok (.ireturn, 1) := by decide +kernel
abbrev y_Law_same : MethodName := ⟨"KateDeskLaw", "same", "(LKateDesk;II[J)I"⟩
theorem hd_Law_same : y_Law_same.cls ≠ "java/lang/invoke/MethodHandle" ∧ y_Law_same.cls ≠ "java/lang/invoke/VarHandle" ∧ (parseMethodDescriptor y_Law_same.desc).map (fun d => d.parameters.length) = some 4 := by decide +kernel
theorem d_Law_same_0 : decode method_16_code 0 = .ok (.aload_n 3, 1) := by decide +kernel
theorem d_Law_same_1 : decode method_16_code 1 = .ok (.iconst 0, 1) := by decide +kernel
theorem d_Law_same_2 : decode method_16_code 2 = .ok (.aload_n 0, 1) := by decide +kernel
theorem d_Law_same_3 : decode method_16_code 3 = .ok (.iload_n 1, 1) := by decide +kernel
theorem d_Law_same_4 : decode method_16_code 4 = .ok (.iload_n 2, 1) := by decide +kernel
theorem d_Law_same_5 : decode method_16_code 5 = .ok (.invokevirtual 67, 3) := by decide +kernel
theorem d_Law_same_8 : decode method_16_code 8 = .ok (.ifCond .eq 7, 3) := by decide +kernel
theorem d_Law_same_11 : decode method_16_code 11 = .ok (.lconst 1, 1) := by decide +kernel
theorem d_Law_same_12 : decode method_16_code 12 = .ok (.goto 4, 3) := by decide +kernel
theorem d_Law_same_15 : decode method_16_code 15 = .ok (.lconst 0, 1) := by decide +kernel
theorem d_Law_same_16 : decode method_16_code 16 = .ok (.lastore, 1) := by decide +kernel
theorem d_Law_same_17 : decode method_16_code 17 = .ok (.goto 7, 3) := by decide +kernel
theorem d_Law_same_20 : decode method_16_code 20 = .ok (.astore 4, 2) := by decide +kernel
theorem d_Law_same_22 : decode method_16_code 22 = .ok (.iconst 1, 1) := by decide +kernel
theorem d_Law_same_23 : decode method_16_code 23 = .ok (.ireturn, 1) := by decide +kernel
theorem d_Law_same_24 : decode method_16_code 24 = .ok (.iconst 0, 1) := by decide +kernel
theorem d_Law_same_25 : decode method_16_code 25 = .ok (.ireturn, 1) := by decide +kernel
abbrev y_Law_setup : MethodName := ⟨"KateDeskLaw", "setup", "(LKateDesk;II)I"⟩
theorem hd_Law_setup : y_Law_setup.cls ≠ "java/lang/invoke/MethodHandle" ∧ y_Law_setup.cls ≠ "java/lang/invoke/VarHandle" ∧ (parseMethodDescriptor y_Law_setup.desc).map (fun d => d.parameters.length) = some 3 := by decide +kernel
theorem d_Law_setup_0 : decode method_17_code 0 = .ok (.aload_n 0, 1) := by decide +kernel
theorem d_Law_setup_1 : decode method_17_code 1 = .ok (.iload_n 1, 1) := by decide +kernel
theorem d_Law_setup_2 : decode method_17_code 2 = .ok (.iload_n 2, 1) := by decide +kernel
theorem d_Law_setup_3 : decode method_17_code 3 = .ok (.invokevirtual 71, 3) := by decide +kernel
theorem d_Law_setup_6 : decode method_17_code 6 = .ok (.goto 6, 3) := by decide +kernel
theorem d_Law_setup_9 : decode method_17_code 9 = .ok (.astore_n 3, 1) := by decide +kernel
theorem d_Law_setup_10 : decode method_17_code 10 = .ok (.iconst 1, 1) := by decide +kernel
theorem d_Law_setup_11 : decode method_17_code 11 = .ok (.ireturn, 1) := by decide +kernel
theorem d_Law_setup_12 : decode method_17_code 12 = .ok (.iconst 0, 1) := by decide +kernel
theorem d_Law_setup_13 : decode method_17_code 13 = .ok (.ireturn, 1) := by decide +kernel
abbrev y_Law_commit : MethodName := ⟨"KateDeskLaw", "commit", "(LKateDesk;III)I"⟩
theorem hd_Law_commit : y_Law_commit.cls ≠ "java/lang/invoke/MethodHandle" ∧ y_Law_commit.cls ≠ "java/lang/invoke/VarHandle" ∧ (parseMethodDescriptor y_Law_commit.desc).map (fun d => d.parameters.length) = some 4 := by decide +kernel
theorem d_Law_commit_0 : decode method_18_code 0 = .ok (.aload_n 0, 1) := by decide +kernel
theorem d_Law_commit_1 : decode method_18_code 1 = .ok (.iload_n 1, 1) := by decide +kernel
theorem d_Law_commit_2 : decode method_18_code 2 = .ok (.iload_n 2, 1) := by decide +kernel
theorem d_Law_commit_3 : decode method_18_code 3 = .ok (.iload_n 3, 1) := by decide +kernel
theorem d_Law_commit_4 : decode method_18_code 4 = .ok (.invokevirtual 74, 3) := by decide +kernel
theorem d_Law_commit_7 : decode method_18_code 7 = .ok (.goto 11, 3) := by decide +kernel
theorem d_Law_commit_10 : decode method_18_code 10 = .ok (.astore 4, 2) := by decide +kernel
theorem d_Law_commit_12 : decode method_18_code 12 = .ok (.iconst 1, 1) := by decide +kernel
theorem d_Law_commit_13 : decode method_18_code 13 = .ok (.ireturn, 1) := by decide +kernel
theorem d_Law_commit_14 : decode method_18_code 14 = .ok (.astore 4, 2) := by decide +kernel
theorem d_Law_commit_16 : decode method_18_code 16 = .ok (.iconst 2, 1) := by decide +kernel
theorem d_Law_commit_17 : decode method_18_code 17 = .ok (.ireturn, 1) := by decide +kernel
theorem d_Law_commit_18 : decode method_18_code 18 = .ok (.iconst 0, 1) := by decide +kernel
theorem d_Law_commit_19 : decode method_18_code 19 = .ok (.ireturn, 1) := by decide +kernel
abbrev y_Law_open : MethodName := ⟨"KateDeskLaw", "open", "(LKateDesk;IIII)I"⟩
theorem hd_Law_open : y_Law_open.cls ≠ "java/lang/invoke/MethodHandle" ∧ y_Law_open.cls ≠ "java/lang/invoke/VarHandle" ∧ (parseMethodDescriptor y_Law_open.desc).map (fun d => d.parameters.length) = some 5 := by decide +kernel
theorem d_Law_open_0 : decode method_19_code 0 = .ok (.aload_n 0, 1) := by decide +kernel
theorem d_Law_open_1 : decode method_19_code 1 = .ok (.iload_n 1, 1) := by decide +kernel
theorem d_Law_open_2 : decode method_19_code 2 = .ok (.iload_n 2, 1) := by decide +kernel
theorem d_Law_open_3 : decode method_19_code 3 = .ok (.iload_n 3, 1) := by decide +kernel
theorem d_Law_open_4 : decode method_19_code 4 = .ok (.iload 4, 2) := by decide +kernel
theorem d_Law_open_6 : decode method_19_code 6 = .ok (.invokevirtual 77, 3) := by decide +kernel
theorem d_Law_open_9 : decode method_19_code 9 = .ok (.goto 7, 3) := by decide +kernel
theorem d_Law_open_12 : decode method_19_code 12 = .ok (.astore 5, 2) := by decide +kernel
theorem d_Law_open_14 : decode method_19_code 14 = .ok (.iconst 1, 1) := by decide +kernel
theorem d_Law_open_15 : decode method_19_code 15 = .ok (.ireturn, 1) := by decide +kernel
theorem d_Law_open_16 : decode method_19_code 16 = .ok (.iconst 0, 1) := by decide +kernel
theorem d_Law_open_17 : decode method_19_code 17 = .ok (.ireturn, 1) := by decide +kernel
abbrev y_Law_checks : MethodName := ⟨"KateDeskLaw", "checks", "(LKateDesk;IIIII[J)I"⟩
theorem hd_Law_checks : y_Law_checks.cls ≠ "java/lang/invoke/MethodHandle" ∧ y_Law_checks.cls ≠ "java/lang/invoke/VarHandle" ∧ (parseMethodDescriptor y_Law_checks.desc).map (fun d => d.parameters.length) = some 7 := by decide +kernel
theorem d_Law_checks_0 : decode method_20_code 0 = .ok (.aload 6, 2) := by decide +kernel
theorem d_Law_checks_2 : decode method_20_code 2 = .ok (.iconst 0, 1) := by decide +kernel
theorem d_Law_checks_3 : decode method_20_code 3 = .ok (.aload_n 0, 1) := by decide +kernel
theorem d_Law_checks_4 : decode method_20_code 4 = .ok (.iload_n 1, 1) := by decide +kernel
theorem d_Law_checks_5 : decode method_20_code 5 = .ok (.iload_n 2, 1) := by decide +kernel
theorem d_Law_checks_6 : decode method_20_code 6 = .ok (.iload_n 3, 1) := by decide +kernel
theorem d_Law_checks_7 : decode method_20_code 7 = .ok (.iload 4, 2) := by decide +kernel
theorem d_Law_checks_9 : decode method_20_code 9 = .ok (.iload 5, 2) := by decide +kernel
theorem d_Law_checks_11 : decode method_20_code 11 = .ok (.invokevirtual 80, 3) := by decide +kernel
theorem d_Law_checks_14 : decode method_20_code 14 = .ok (.ifCond .eq 7, 3) := by decide +kernel
theorem d_Law_checks_17 : decode method_20_code 17 = .ok (.lconst 1, 1) := by decide +kernel
theorem d_Law_checks_18 : decode method_20_code 18 = .ok (.goto 4, 3) := by decide +kernel
theorem d_Law_checks_21 : decode method_20_code 21 = .ok (.lconst 0, 1) := by decide +kernel
theorem d_Law_checks_22 : decode method_20_code 22 = .ok (.lastore, 1) := by decide +kernel
theorem d_Law_checks_23 : decode method_20_code 23 = .ok (.goto 7, 3) := by decide +kernel
theorem d_Law_checks_26 : decode method_20_code 26 = .ok (.astore 7, 2) := by decide +kernel
theorem d_Law_checks_28 : decode method_20_code 28 = .ok (.iconst 1, 1) := by decide +kernel
theorem d_Law_checks_29 : decode method_20_code 29 = .ok (.ireturn, 1) := by decide +kernel
theorem d_Law_checks_30 : decode method_20_code 30 = .ok (.iconst 0, 1) := by decide +kernel
theorem d_Law_checks_31 : decode method_20_code 31 = .ok (.ireturn, 1) := by decide +kernel
abbrev y_Law_transform : MethodName := ⟨"KateDeskLaw", "transform", "(LKateDesk;IIZ)I"⟩
theorem hd_Law_transform : y_Law_transform.cls ≠ "java/lang/invoke/MethodHandle" ∧ y_Law_transform.cls ≠ "java/lang/invoke/VarHandle" ∧ (parseMethodDescriptor y_Law_transform.desc).map (fun d => d.parameters.length) = some 4 := by decide +kernel
theorem d_Law_transform_0 : decode method_21_code 0 = .ok (.aload_n 0, 1) := by decide +kernel
theorem d_Law_transform_1 : decode method_21_code 1 = .ok (.iload_n 1, 1) := by decide +kernel
theorem d_Law_transform_2 : decode method_21_code 2 = .ok (.iload_n 2, 1) := by decide +kernel
theorem d_Law_transform_3 : decode method_21_code 3 = .ok (.iload_n 3, 1) := by decide +kernel
theorem d_Law_transform_4 : decode method_21_code 4 = .ok (.invokevirtual 84, 3) := by decide +kernel
theorem d_Law_transform_7 : decode method_21_code 7 = .ok (.goto 7, 3) := by decide +kernel
theorem d_Law_transform_10 : decode method_21_code 10 = .ok (.astore 4, 2) := by decide +kernel
theorem d_Law_transform_12 : decode method_21_code 12 = .ok (.iconst 1, 1) := by decide +kernel
theorem d_Law_transform_13 : decode method_21_code 13 = .ok (.ireturn, 1) := by decide +kernel
theorem d_Law_transform_14 : decode method_21_code 14 = .ok (.iconst 0, 1) := by decide +kernel
theorem d_Law_transform_15 : decode method_21_code 15 = .ok (.ireturn, 1) := by decide +kernel
abbrev y_Law_lagrange : MethodName := ⟨"KateDeskLaw", "lagrange", "(LKateDesk;IIII)I"⟩
theorem hd_Law_lagrange : y_Law_lagrange.cls ≠ "java/lang/invoke/MethodHandle" ∧ y_Law_lagrange.cls ≠ "java/lang/invoke/VarHandle" ∧ (parseMethodDescriptor y_Law_lagrange.desc).map (fun d => d.parameters.length) = some 5 := by decide +kernel
theorem d_Law_lagrange_0 : decode method_22_code 0 = .ok (.aload_n 0, 1) := by decide +kernel
theorem d_Law_lagrange_1 : decode method_22_code 1 = .ok (.iload_n 1, 1) := by decide +kernel
theorem d_Law_lagrange_2 : decode method_22_code 2 = .ok (.iload_n 2, 1) := by decide +kernel
theorem d_Law_lagrange_3 : decode method_22_code 3 = .ok (.iload_n 3, 1) := by decide +kernel
theorem d_Law_lagrange_4 : decode method_22_code 4 = .ok (.iload 4, 2) := by decide +kernel
theorem d_Law_lagrange_6 : decode method_22_code 6 = .ok (.invokevirtual 88, 3) := by decide +kernel
theorem d_Law_lagrange_9 : decode method_22_code 9 = .ok (.goto 7, 3) := by decide +kernel
theorem d_Law_lagrange_12 : decode method_22_code 12 = .ok (.astore 5, 2) := by decide +kernel
theorem d_Law_lagrange_14 : decode method_22_code 14 = .ok (.iconst 1, 1) := by decide +kernel
theorem d_Law_lagrange_15 : decode method_22_code 15 = .ok (.ireturn, 1) := by decide +kernel
theorem d_Law_lagrange_16 : decode method_22_code 16 = .ok (.iconst 0, 1) := by decide +kernel
theorem d_Law_lagrange_17 : decode method_22_code 17 = .ok (.ireturn, 1) := by decide +kernel
abbrev y_Law_look : MethodName := ⟨"KateDeskLaw", "look", "(LKateDesk;I[J)I"⟩
theorem hd_Law_look : y_Law_look.cls ≠ "java/lang/invoke/MethodHandle" ∧ y_Law_look.cls ≠ "java/lang/invoke/VarHandle" ∧ (parseMethodDescriptor y_Law_look.desc).map (fun d => d.parameters.length) = some 3 := by decide +kernel
theorem d_Law_look_0 : decode method_23_code 0 = .ok (.aload_n 2, 1) := by decide +kernel
theorem d_Law_look_1 : decode method_23_code 1 = .ok (.iconst 0, 1) := by decide +kernel
theorem d_Law_look_2 : decode method_23_code 2 = .ok (.aload_n 0, 1) := by decide +kernel
theorem d_Law_look_3 : decode method_23_code 3 = .ok (.iload_n 1, 1) := by decide +kernel
theorem d_Law_look_4 : decode method_23_code 4 = .ok (.invokevirtual 91, 3) := by decide +kernel
theorem d_Law_look_7 : decode method_23_code 7 = .ok (.i2l, 1) := by decide +kernel
theorem d_Law_look_8 : decode method_23_code 8 = .ok (.lastore, 1) := by decide +kernel
theorem d_Law_look_9 : decode method_23_code 9 = .ok (.goto 6, 3) := by decide +kernel
theorem d_Law_look_12 : decode method_23_code 12 = .ok (.astore_n 3, 1) := by decide +kernel
theorem d_Law_look_13 : decode method_23_code 13 = .ok (.iconst 1, 1) := by decide +kernel
theorem d_Law_look_14 : decode method_23_code 14 = .ok (.ireturn, 1) := by decide +kernel
theorem d_Law_look_15 : decode method_23_code 15 = .ok (.iconst 0, 1) := by decide +kernel
theorem d_Law_look_16 : decode method_23_code 16 = .ok (.ireturn, 1) := by decide +kernel
