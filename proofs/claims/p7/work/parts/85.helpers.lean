/-- the desk's own cells -/
def nD (b : Nat) : Nat → Prop := fun q => b ≤ q ∧ q ≤ b + 500
theorem PT.toA {g : WG} {n0 n1 : Nat → Prop} {H : Heap} {o x y z : Nat} (h : PT g n0 H o x y z) (h1 : n1 x) (h2 : n1 y) (h3 : n1 z) : PT g n1 H o x y z := ⟨h.1, ⟨h1, h.2.1.2⟩, ⟨h2, h.2.2.1.2⟩, ⟨h3, h.2.2.2.2⟩⟩
theorem FD.toA {g : WG} {n0 n1 : Nat → Prop} {H : Heap} {o : Nat} {F : Nat → Nat} {mi : Int64} (h : FD g n0 H o F mi) (hn : ∀ k, k < 6 → n1 (F k)) : FD g n1 H o F mi := ⟨h.1, fun k hk => ⟨hn k hk, (h.2 k hk).2⟩⟩
theorem nd_Fr {b k : Nat} (hk : k < 6) : nD b (kFr b k) := by unfold nD kFr; split <;> omega
theorem nd_Fq {b k : Nat} (hk : k < 6) : nD b (kFq b k) := by unfold nD kFq; split <;> omega
theorem nd_c {b c : Nat} (h : c ≤ 500) : nD b (b + c) := by unfold nD; omega
theorem nd_X {b k : Nat} (hk : k < 9) : nD b (kX b k) := by unfold nD kX; omega
theorem nd_O {b k : Nat} (hk : k < 64) : nD b (kO1 b k) ∧ nD b (kO2 b k) ∧ nD b (kO3 b k) := by unfold nD kO1 kO2 kO3; omega
theorem nd_DG {b k : Nat} (hk : k < 16) : nD b (kDG b k) := by unfold nD kDG; omega
theorem nd_Y {b k : Nat} (hk : k < 7) : nD b (kY b k) := by unfold nD kY; omega
theorem nd_V {b k : Nat} (hk : k < 16) : nD b (kV b k) := by unfold nD kV; omega
theorem nd_Sc {b k : Nat} (hk : k < 32) : nD b (kSc b k) := by unfold nD kSc; omega
theorem nd_PA {b k : Nat} (hk : k < 12) : nD b (kPA1 b k) ∧ nD b (kPA2 b k) ∧ nD b (kPA3 b k) := by unfold nD kPA1 kPA2 kPA3; omega
theorem nd_PW {b k : Nat} (hk : k < 16) : nD b (kPW1 b k) ∧ nD b (kPW2 b k) ∧ nD b (kPW3 b k) := by unfold nD kPW1 kPW2 kPW3; omega
theorem DK.area {g : WG} {n0 : Nat → Prop} {H : Heap} {b : Nat} {pc ts wz : Int32} {mr mq : Int64} (h : DK g n0 H b pc ts wz mr mq) : DK g (nD b) H b pc ts wz mr mq := by
  have fq := h.su.2.1.2.1.toA (n1 := nD b) (fun k hk => nd_Fq hk)
  have fr := h.fr.toA (n1 := nD b) (fun k hk => nd_Fr hk)
  refine ⟨h.ob, fr, ⟨h.su.1, ⟨h.su.2.1.1, fq, fun k hk => ⟨nd_X hk, (h.su.2.1.2.2 k hk).2⟩⟩, h.su.2.2.1.toA (nd_c (by decide)) (nd_c (by decide)) (nd_c (by decide)), h.su.2.2.2.1, fun k hk => (h.su.2.2.2.2.1 k hk).toA (nd_O hk).1 (nd_O hk).2.1 (nd_O hk).2.2, h.su.2.2.2.2.2.1, fun k hk => ⟨nd_DG hk, (h.su.2.2.2.2.2.2 k hk).2⟩⟩, ⟨h.po.1, fr, fun k hk => ⟨nd_Y hk, (h.po.2.2.1 k hk).2⟩, h.po.2.2.2.1, fun k hk => ⟨nd_V hk, (h.po.2.2.2.2 k hk).2⟩⟩, ⟨h.rs.1, fun k hk => ⟨nd_Sc hk, (h.rs.2 k hk).2⟩⟩, h.pa, fun k hk => (h.pt k hk).toA (nd_PA hk).1 (nd_PA hk).2.1 (nd_PA hk).2.2, h.pw, fun k hk => (h.pq k hk).toA (nd_PW hk).1 (nd_PW hk).2.1 (nd_PW hk).2.2, h.tp, h.tc, h.wr, h.wc, h.hp.toA (nd_c (by decide)) (nd_c (by decide)) (nd_c (by decide)), h.mu.toA (nd_c (by decide)) (nd_c (by decide)) (nd_c (by decide)), ⟨nd_c (by decide), h.hs.2⟩, ⟨nd_c (by decide), h.fa.2⟩, h.fm, h.ge.toA (nd_c (by decide)) (nd_c (by decide)) (nd_c (by decide)), nd_c (c := 0) (by decide), nd_c (by decide), nd_c (by decide), nd_c (by decide), nd_c (by decide)⟩
/-- what a helper of the law begins with -/
def LSt (g : WG) (s0 : State) (H : Heap) (b : Nat) (mr mq : Int64) : Prop := OLD s0 H ∧ H.size = b + 511 ∧ DK g (nD b) H b 0 0 0 mr mq ∧ DK g (HXA s0) H b 0 0 0 mr mq ∧ FRESH g H b ∧ ∃ f, AJ g H (b + 510) 1 f
theorem AJ.one {g : WG} {H : Heap} {a : Nat} {f : Nat → Int64} {x : Int64} (h : AJ g H a 1 (vp_updL f 0 x)) : AJ g H a 1 (fun _ => x) := by
  unfold AJ at h ⊢
  rw [h]
  refine congrArg some (arrV_ext (fun j hj => ?_))
  have e : j = 0 := by omega
  subst e
  simp [vp_updL]
theorem nD_up {s0 : State} {b : Nat} (hb : s0.heap.size ≤ b) : ∀ q, nD b q → HXA s0 q := fun q h => Nat.le_trans hb h.1
theorem nD_510 {b : Nat} : ¬ nD b (b + 510) := by unfold nD; omega
/-- the cells below the desk, and the model's -/
def kM (b q : Nat) : Prop := q < b ∨ (b + 501 ≤ q ∧ q ≤ b + 509)
theorem nD_m {b q : Nat} (h1 : kM b q) : ¬ nD b q := by unfold nD; unfold kM at h1; omega
theorem n_510 {b q : Nat} (h2 : kM b q) : ¬ q = b + 510 := by unfold kM at h2; omega
theorem n_511 {b q n : Nat} (hn : n = b + 511) (h2 : kM b q) : q < n := by unfold kM at h2; omega
theorem nb {A B : Prop} (h : ¬ (A ∧ B)) : ¬ A ∨ ¬ B := by
  by_cases a : A
  · exact Or.inr (fun b => h ⟨a, b⟩)
  · exact Or.inl a
theorem nbn {A B : Prop} (h : ¬ (A ∧ ¬ B)) : ¬ A ∨ B := (nb h).imp id Classical.not_not.mp
theorem okC_bad {n a b : Int32} (h : ¬ okC n a b) : n < a ∨ ¬ n ≤ b := (nb h).imp Classical.not_not.mp id
theorem bad_w {x : Int32} (h : ¬ okC x (nI 0) (nI 7)) : x < 0 ∨ ¬ x < nI 8 := by
  by_cases h0 : x < 0
  · exact Or.inl h0
  · refine Or.inr (fun h8 => ?_)
    obtain ⟨j, hj, rfl⟩ := nI_of h0
    have h9 := (nI_ltI hj (by decide)).mp h8
    exact h (okC_of (Nat.zero_le _) (by omega) (by decide))
theorem sh7 : ∀ k, k < 5 → nI 1 <<< ((nI k &&& nI 7) &&& 31) = nI (2 ^ k) := by decide
theorem sh7m : ∀ k, k < 5 → (((nI 1 <<< ((nI k &&& nI 7) &&& 31)) - nI 1).toInt64.toInt = ((2 ^ k - 1 : Nat) : Int)) ∧ (nI 1 <<< (nI k &&& 31)) - nI 1 = nI (2 ^ k - 1) := by decide
theorem nI_sur (x : Int32) : ∃ k, x = nI k := ⟨x.toBitVec.toNat, by
  apply Int32.toBitVec_inj.mp
  show x.toBitVec = BitVec.ofNat 32 x.toBitVec.toNat
  simp⟩
theorem bad_t {x1 x2 : Int32} (h : ¬ (okC x2 (nI 0) (nI 4) ∧ okS x1 (nI 1 <<< ((x2 &&& nI 7) &&& 31)))) : ¬ okC x2 (nI 0) (nI 4) ∨ ¬ okS x1 (nI 1 <<< (x2 &&& 31)) := by
  by_cases h1 : okC x2 (nI 0) (nI 4)
  · refine Or.inr (fun h2 => h ⟨h1, ?_⟩)
    obtain ⟨k, rfl, -, hk⟩ := okC_nat (by decide) (by decide) h1
    rw [sh7 k (by omega)]
    rw [sh1 k (by omega)] at h2
    exact h2
  · exact Or.inl h1
theorem lag_C {k : Nat} (hk : k < 5) {x : Int32} : ((0 : Int64).toInt ≤ x.toInt64.toInt ∧ x.toInt64.toInt ≤ ((nI 1 <<< ((nI k &&& nI 7) &&& 31)) - nI 1).toInt64.toInt) ↔ okC x (nI 0) (nI (2 ^ k - 1)) :=
  in_okC (by decide) (Nat.lt_of_le_of_lt (Nat.sub_le _ _) (by have := (pw16 hk).2; omega)) (by decide) (sh7m k hk).1
theorem bad_l {x1 x2 x3 x4 : Int32} (h : ¬ (okS x1 (nI 1) ∧ okC x2 (nI 0) (nI 4) ∧ ((0 : Int64).toInt ≤ x3.toInt64.toInt ∧ x3.toInt64.toInt ≤ ((nI 1 <<< ((x2 &&& nI 7) &&& 31)) - nI 1).toInt64.toInt) ∧ okS x4 (nI 1))) : ¬ okC x2 (nI 0) (nI 4) ∨ ¬ okC x3 (nI 0) ((nI 1 <<< (x2 &&& 31)) - nI 1) ∨ ¬ okS x1 (nI 1) ∨ ¬ okS x4 (nI 1) := by
  by_cases h1 : okC x2 (nI 0) (nI 4)
  · right
    obtain ⟨k, rfl, -, hk⟩ := okC_nat (by decide) (by decide) h1
    by_cases h2 : okC x3 (nI 0) ((nI 1 <<< (nI k &&& 31)) - nI 1)
    · right
      by_cases h3 : okS x1 (nI 1)
      · right
        intro h4
        rw [(sh7m k (by omega)).2] at h2
        exact h ⟨h3, h1, (lag_C (by omega)).mpr h2, h4⟩
      · exact Or.inl h3
    · exact Or.inl h2
  · exact Or.inl h1
theorem lag_i {k i : Nat} (hk : k < 5) (h : i ≤ 2 ^ k - 1) : i < 2 ^ k := by have := (pw16 hk).1; omega
theorem comb_S {x : Int32} {n : Nat} (hn : n ≤ 12) (h : okS x (nI n)) : ∃ k, x = nI k ∧ (0 < n → k + n ≤ 32) := by
  by_cases h0 : 0 < n
  · obtain ⟨k, e, q⟩ := okS_nat h0 (by omega) h
    exact ⟨k, e, fun _ => q⟩
  · obtain ⟨k, e⟩ := nI_sur x
    exact ⟨k, e, fun h => absurd h h0⟩
theorem comb_P {x : Int32} {n : Nat} (hn : n ≤ 12) (h : okP x (nI n)) : ∃ k, x = nI k ∧ (0 < n → k + n ≤ 12) := by
  by_cases h0 : 0 < n
  · obtain ⟨k, e, q⟩ := okP_nat h0 hn h
    exact ⟨k, e, fun _ => q⟩
  · obtain ⟨k, e⟩ := nI_sur x
    exact ⟨k, e, fun h => absurd h h0⟩
theorem com_0 {x : Int32} (h : okC x (nI 0) (nI 16)) (h0 : x ≤ 0) : x = nI 0 := by
  obtain ⟨k, rfl, -, hk⟩ := okC_nat (by decide) (by decide) h
  rcases Nat.eq_zero_or_pos k with e | e
  · rw [e]
  · exact absurd h0 (nI_nle e (by omega))
abbrev y_Law_feed : MethodName := ⟨"KateDeskLaw", "feed", "(LKateDesk;IJ[J)I"⟩
theorem hd_Law_feed : y_Law_feed.cls ≠ "java/lang/invoke/MethodHandle" ∧ y_Law_feed.cls ≠ "java/lang/invoke/VarHandle" ∧ (parseMethodDescriptor y_Law_feed.desc).map (fun d => d.parameters.length) = some 4 := by decide +kernel
theorem d_Law_feed_0 : decode method_3_code 0 = .ok (.aload 4, 2) := by decide +kernel
theorem d_Law_feed_2 : decode method_3_code 2 = .ok (.iconst 0, 1) := by decide +kernel
theorem d_Law_feed_3 : decode method_3_code 3 = .ok (.aload_n 0, 1) := by decide +kernel
theorem d_Law_feed_4 : decode method_3_code 4 = .ok (.iload_n 1, 1) := by decide +kernel
theorem d_Law_feed_5 : decode method_3_code 5 = .ok (.lload_n 2, 1) := by decide +kernel
theorem d_Law_feed_6 : decode method_3_code 6 = .ok (.invokevirtual 7, 3) := by decide +kernel
theorem d_Law_feed_9 : decode method_3_code 9 = .ok (.i2l, 1) := by decide +kernel
theorem d_Law_feed_10 : decode method_3_code 10 = .ok (.lastore, 1) := by decide +kernel
theorem d_Law_feed_11 : decode method_3_code 11 = .ok (.goto 11, 3) := by decide +kernel
theorem d_Law_feed_14 : decode method_3_code 14 = .ok (.astore 5, 2) := by decide +kernel
theorem d_Law_feed_16 : decode method_3_code 16 = .ok (.iconst 1, 1) := by decide +kernel
theorem d_Law_feed_17 : decode method_3_code 17 = .ok (.ireturn, 1) := by decide +kernel
theorem d_Law_feed_18 : decode method_3_code 18 = .ok (.astore 5, 2) := by decide +kernel
theorem d_Law_feed_20 : decode method_3_code 20 = .ok (.iconst 2, 1) := by decide +kernel
theorem d_Law_feed_21 : decode method_3_code 21 = .ok (.ireturn, 1) := by decide +kernel
theorem d_Law_feed_22 : decode method_3_code 22 = .ok (.iconst 0, 1) := by decide +kernel
theorem d_Law_feed_23 : decode method_3_code 23 = .ok (.ireturn, 1) := by decide +kernel
abbrev y_Law_number : MethodName := ⟨"KateDeskLaw", "number", "(LKateDesk;I[J)I"⟩
theorem hd_Law_number : y_Law_number.cls ≠ "java/lang/invoke/MethodHandle" ∧ y_Law_number.cls ≠ "java/lang/invoke/VarHandle" ∧ (parseMethodDescriptor y_Law_number.desc).map (fun d => d.parameters.length) = some 3 := by decide +kernel
theorem d_Law_number_0 : decode method_4_code 0 = .ok (.aload_n 2, 1) := by decide +kernel
theorem d_Law_number_1 : decode method_4_code 1 = .ok (.iconst 0, 1) := by decide +kernel
theorem d_Law_number_2 : decode method_4_code 2 = .ok (.aload_n 0, 1) := by decide +kernel
theorem d_Law_number_3 : decode method_4_code 3 = .ok (.iload_n 1, 1) := by decide +kernel
theorem d_Law_number_4 : decode method_4_code 4 = .ok (.invokevirtual 17, 3) := by decide +kernel
theorem d_Law_number_7 : decode method_4_code 7 = .ok (.ifCond .eq 7, 3) := by decide +kernel
theorem d_Law_number_10 : decode method_4_code 10 = .ok (.lconst 1, 1) := by decide +kernel
theorem d_Law_number_11 : decode method_4_code 11 = .ok (.goto 4, 3) := by decide +kernel
theorem d_Law_number_14 : decode method_4_code 14 = .ok (.lconst 0, 1) := by decide +kernel
theorem d_Law_number_15 : decode method_4_code 15 = .ok (.lastore, 1) := by decide +kernel
theorem d_Law_number_16 : decode method_4_code 16 = .ok (.goto 6, 3) := by decide +kernel
theorem d_Law_number_19 : decode method_4_code 19 = .ok (.astore_n 3, 1) := by decide +kernel
theorem d_Law_number_20 : decode method_4_code 20 = .ok (.iconst 1, 1) := by decide +kernel
theorem d_Law_number_21 : decode method_4_code 21 = .ok (.ireturn, 1) := by decide +kernel
theorem d_Law_number_22 : decode method_4_code 22 = .ok (.iconst 0, 1) := by decide +kernel
theorem d_Law_number_23 : decode method_4_code 23 = .ok (.ireturn, 1) := by decide +kernel
abbrev y_Law_set : MethodName := ⟨"KateDeskLaw", "set", "(LKateDesk;IJ)I"⟩
theorem hd_Law_set : y_Law_set.cls ≠ "java/lang/invoke/MethodHandle" ∧ y_Law_set.cls ≠ "java/lang/invoke/VarHandle" ∧ (parseMethodDescriptor y_Law_set.desc).map (fun d => d.parameters.length) = some 3 := by decide +kernel
theorem d_Law_set_0 : decode method_5_code 0 = .ok (.aload_n 0, 1) := by decide +kernel
theorem d_Law_set_1 : decode method_5_code 1 = .ok (.iload_n 1, 1) := by decide +kernel
theorem d_Law_set_2 : decode method_5_code 2 = .ok (.lload_n 2, 1) := by decide +kernel
theorem d_Law_set_3 : decode method_5_code 3 = .ok (.invokevirtual 21, 3) := by decide +kernel
theorem d_Law_set_6 : decode method_5_code 6 = .ok (.goto 7, 3) := by decide +kernel
theorem d_Law_set_9 : decode method_5_code 9 = .ok (.astore 4, 2) := by decide +kernel
theorem d_Law_set_11 : decode method_5_code 11 = .ok (.iconst 1, 1) := by decide +kernel
theorem d_Law_set_12 : decode method_5_code 12 = .ok (.ireturn, 1) := by decide +kernel
theorem d_Law_set_13 : decode method_5_code 13 = .ok (.iconst 0, 1) := by decide +kernel
theorem d_Law_set_14 : decode method_5_code 14 = .ok (.ireturn, 1) := by decide +kernel
abbrev y_Law_word : MethodName := ⟨"KateDeskLaw", "word", "(LKateDesk;II[J)I"⟩
theorem hd_Law_word : y_Law_word.cls ≠ "java/lang/invoke/MethodHandle" ∧ y_Law_word.cls ≠ "java/lang/invoke/VarHandle" ∧ (parseMethodDescriptor y_Law_word.desc).map (fun d => d.parameters.length) = some 4 := by decide +kernel
theorem d_Law_word_0 : decode method_6_code 0 = .ok (.aload_n 3, 1) := by decide +kernel
theorem d_Law_word_1 : decode method_6_code 1 = .ok (.iconst 0, 1) := by decide +kernel
theorem d_Law_word_2 : decode method_6_code 2 = .ok (.aload_n 0, 1) := by decide +kernel
theorem d_Law_word_3 : decode method_6_code 3 = .ok (.iload_n 1, 1) := by decide +kernel
theorem d_Law_word_4 : decode method_6_code 4 = .ok (.iload_n 2, 1) := by decide +kernel
theorem d_Law_word_5 : decode method_6_code 5 = .ok (.invokevirtual 25, 3) := by decide +kernel
theorem d_Law_word_8 : decode method_6_code 8 = .ok (.lastore, 1) := by decide +kernel
theorem d_Law_word_9 : decode method_6_code 9 = .ok (.goto 7, 3) := by decide +kernel
theorem d_Law_word_12 : decode method_6_code 12 = .ok (.astore 4, 2) := by decide +kernel
theorem d_Law_word_14 : decode method_6_code 14 = .ok (.iconst 1, 1) := by decide +kernel
theorem d_Law_word_15 : decode method_6_code 15 = .ok (.ireturn, 1) := by decide +kernel
theorem d_Law_word_16 : decode method_6_code 16 = .ok (.iconst 0, 1) := by decide +kernel
theorem d_Law_word_17 : decode method_6_code 17 = .ok (.ireturn, 1) := by decide +kernel
abbrev y_Law_reckon : MethodName := ⟨"KateDeskLaw", "reckon", "(LKateDesk;IIII)I"⟩
theorem hd_Law_reckon : y_Law_reckon.cls ≠ "java/lang/invoke/MethodHandle" ∧ y_Law_reckon.cls ≠ "java/lang/invoke/VarHandle" ∧ (parseMethodDescriptor y_Law_reckon.desc).map (fun d => d.parameters.length) = some 5 := by decide +kernel
theorem d_Law_reckon_0 : decode method_7_code 0 = .ok (.aload_n 0, 1) := by decide +kernel
theorem d_Law_reckon_1 : decode method_7_code 1 = .ok (.iload_n 1, 1) := by decide +kernel
theorem d_Law_reckon_2 : decode method_7_code 2 = .ok (.iload_n 2, 1) := by decide +kernel
theorem d_Law_reckon_3 : decode method_7_code 3 = .ok (.iload_n 3, 1) := by decide +kernel
theorem d_Law_reckon_4 : decode method_7_code 4 = .ok (.iload 4, 2) := by decide +kernel
theorem d_Law_reckon_6 : decode method_7_code 6 = .ok (.invokevirtual 29, 3) := by decide +kernel
theorem d_Law_reckon_9 : decode method_7_code 9 = .ok (.goto 11, 3) := by decide +kernel
theorem d_Law_reckon_12 : decode method_7_code 12 = .ok (.astore 5, 2) := by decide +kernel
theorem d_Law_reckon_14 : decode method_7_code 14 = .ok (.iconst 1, 1) := by decide +kernel
theorem d_Law_reckon_15 : decode method_7_code 15 = .ok (.ireturn, 1) := by decide +kernel
theorem d_Law_reckon_16 : decode method_7_code 16 = .ok (.astore 5, 2) := by decide +kernel
theorem d_Law_reckon_18 : decode method_7_code 18 = .ok (.iconst 2, 1) := by decide +kernel
theorem d_Law_reckon_19 : decode method_7_code 19 = .ok (.ireturn, 1) := by decide +kernel
theorem d_Law_reckon_20 : decode method_7_code 20 = .ok (.iconst 0, 1) := by decide +kernel
theorem d_Law_reckon_21 : decode method_7_code 21 = .ok (.ireturn, 1) := by decide +kernel
abbrev y_Law_power : MethodName := ⟨"KateDeskLaw", "power", "(LKateDesk;IIJ)I"⟩
theorem hd_Law_power : y_Law_power.cls ≠ "java/lang/invoke/MethodHandle" ∧ y_Law_power.cls ≠ "java/lang/invoke/VarHandle" ∧ (parseMethodDescriptor y_Law_power.desc).map (fun d => d.parameters.length) = some 4 := by decide +kernel
theorem d_Law_power_0 : decode method_8_code 0 = .ok (.aload_n 0, 1) := by decide +kernel
theorem d_Law_power_1 : decode method_8_code 1 = .ok (.iload_n 1, 1) := by decide +kernel
theorem d_Law_power_2 : decode method_8_code 2 = .ok (.iload_n 2, 1) := by decide +kernel
theorem d_Law_power_3 : decode method_8_code 3 = .ok (.lload_n 3, 1) := by decide +kernel
theorem d_Law_power_4 : decode method_8_code 4 = .ok (.invokevirtual 35, 3) := by decide +kernel
theorem d_Law_power_7 : decode method_8_code 7 = .ok (.goto 7, 3) := by decide +kernel
theorem d_Law_power_10 : decode method_8_code 10 = .ok (.astore 5, 2) := by decide +kernel
theorem d_Law_power_12 : decode method_8_code 12 = .ok (.iconst 1, 1) := by decide +kernel
theorem d_Law_power_13 : decode method_8_code 13 = .ok (.ireturn, 1) := by decide +kernel
theorem d_Law_power_14 : decode method_8_code 14 = .ok (.iconst 0, 1) := by decide +kernel
theorem d_Law_power_15 : decode method_8_code 15 = .ok (.ireturn, 1) := by decide +kernel
abbrev y_Law_unity : MethodName := ⟨"KateDeskLaw", "unity", "(LKateDesk;II)I"⟩
theorem hd_Law_unity : y_Law_unity.cls ≠ "java/lang/invoke/MethodHandle" ∧ y_Law_unity.cls ≠ "java/lang/invoke/VarHandle" ∧ (parseMethodDescriptor y_Law_unity.desc).map (fun d => d.parameters.length) = some 3 := by decide +kernel
theorem d_Law_unity_0 : decode method_9_code 0 = .ok (.aload_n 0, 1) := by decide +kernel
theorem d_Law_unity_1 : decode method_9_code 1 = .ok (.iload_n 1, 1) := by decide +kernel
theorem d_Law_unity_2 : decode method_9_code 2 = .ok (.iload_n 2, 1) := by decide +kernel
theorem d_Law_unity_3 : decode method_9_code 3 = .ok (.invokevirtual 39, 3) := by decide +kernel
theorem d_Law_unity_6 : decode method_9_code 6 = .ok (.goto 6, 3) := by decide +kernel
theorem d_Law_unity_9 : decode method_9_code 9 = .ok (.astore_n 3, 1) := by decide +kernel
theorem d_Law_unity_10 : decode method_9_code 10 = .ok (.iconst 1, 1) := by decide +kernel
theorem d_Law_unity_11 : decode method_9_code 11 = .ok (.ireturn, 1) := by decide +kernel
theorem d_Law_unity_12 : decode method_9_code 12 = .ok (.iconst 0, 1) := by decide +kernel
theorem d_Law_unity_13 : decode method_9_code 13 = .ok (.ireturn, 1) := by decide +kernel
abbrev y_Law_point : MethodName := ⟨"KateDeskLaw", "point", "(LKateDesk;I[J)I"⟩
theorem hd_Law_point : y_Law_point.cls ≠ "java/lang/invoke/MethodHandle" ∧ y_Law_point.cls ≠ "java/lang/invoke/VarHandle" ∧ (parseMethodDescriptor y_Law_point.desc).map (fun d => d.parameters.length) = some 3 := by decide +kernel
theorem d_Law_point_0 : decode method_10_code 0 = .ok (.aload_n 2, 1) := by decide +kernel
theorem d_Law_point_1 : decode method_10_code 1 = .ok (.iconst 0, 1) := by decide +kernel
theorem d_Law_point_2 : decode method_10_code 2 = .ok (.aload_n 0, 1) := by decide +kernel
theorem d_Law_point_3 : decode method_10_code 3 = .ok (.iload_n 1, 1) := by decide +kernel
theorem d_Law_point_4 : decode method_10_code 4 = .ok (.invokevirtual 43, 3) := by decide +kernel
theorem d_Law_point_7 : decode method_10_code 7 = .ok (.i2l, 1) := by decide +kernel
theorem d_Law_point_8 : decode method_10_code 8 = .ok (.lastore, 1) := by decide +kernel
theorem d_Law_point_9 : decode method_10_code 9 = .ok (.goto 6, 3) := by decide +kernel
theorem d_Law_point_12 : decode method_10_code 12 = .ok (.astore_n 3, 1) := by decide +kernel
theorem d_Law_point_13 : decode method_10_code 13 = .ok (.iconst 1, 1) := by decide +kernel
theorem d_Law_point_14 : decode method_10_code 14 = .ok (.ireturn, 1) := by decide +kernel
theorem d_Law_point_15 : decode method_10_code 15 = .ok (.iconst 0, 1) := by decide +kernel
theorem d_Law_point_16 : decode method_10_code 16 = .ok (.ireturn, 1) := by decide +kernel
abbrev y_Law_bytes : MethodName := ⟨"KateDeskLaw", "bytes", "(LKateDesk;IZ)I"⟩
theorem hd_Law_bytes : y_Law_bytes.cls ≠ "java/lang/invoke/MethodHandle" ∧ y_Law_bytes.cls ≠ "java/lang/invoke/VarHandle" ∧ (parseMethodDescriptor y_Law_bytes.desc).map (fun d => d.parameters.length) = some 3 := by decide +kernel
theorem d_Law_bytes_0 : decode method_11_code 0 = .ok (.aload_n 0, 1) := by decide +kernel
theorem d_Law_bytes_1 : decode method_11_code 1 = .ok (.iload_n 1, 1) := by decide +kernel
theorem d_Law_bytes_2 : decode method_11_code 2 = .ok (.iload_n 2, 1) := by decide +kernel
theorem d_Law_bytes_3 : decode method_11_code 3 = .ok (.invokevirtual 47, 3) := by decide +kernel
theorem d_Law_bytes_6 : decode method_11_code 6 = .ok (.goto 6, 3) := by decide +kernel
theorem d_Law_bytes_9 : decode method_11_code 9 = .ok (.astore_n 3, 1) := by decide +kernel
theorem d_Law_bytes_10 : decode method_11_code 10 = .ok (.iconst 1, 1) := by decide +kernel
theorem d_Law_bytes_11 : decode method_11_code 11 = .ok (.ireturn, 1) := by decide +kernel
theorem d_Law_bytes_12 : decode method_11_code 12 = .ok (.iconst 0, 1) := by decide +kernel
theorem d_Law_bytes_13 : decode method_11_code 13 = .ok (.ireturn, 1) := by decide +kernel
abbrev y_Law_out : MethodName := ⟨"KateDeskLaw", "out", "(LKateDesk;I[J)I"⟩
theorem hd_Law_out : y_Law_out.cls ≠ "java/lang/invoke/MethodHandle" ∧ y_Law_out.cls ≠ "java/lang/invoke/VarHandle" ∧ (parseMethodDescriptor y_Law_out.desc).map (fun d => d.parameters.length) = some 3 := by decide +kernel
theorem d_Law_out_0 : decode method_12_code 0 = .ok (.aload_n 2, 1) := by decide +kernel
theorem d_Law_out_1 : decode method_12_code 1 = .ok (.iconst 0, 1) := by decide +kernel
theorem d_Law_out_2 : decode method_12_code 2 = .ok (.aload_n 0, 1) := by decide +kernel
theorem d_Law_out_3 : decode method_12_code 3 = .ok (.iload_n 1, 1) := by decide +kernel
theorem d_Law_out_4 : decode method_12_code 4 = .ok (.invokevirtual 51, 3) := by decide +kernel
theorem d_Law_out_7 : decode method_12_code 7 = .ok (.lastore, 1) := by decide +kernel
theorem d_Law_out_8 : decode method_12_code 8 = .ok (.goto 6, 3) := by decide +kernel
theorem d_Law_out_11 : decode method_12_code 11 = .ok (.astore_n 3, 1) := by decide +kernel
theorem d_Law_out_12 : decode method_12_code 12 = .ok (.iconst 1, 1) := by decide +kernel
theorem d_Law_out_13 : decode method_12_code 13 = .ok (.ireturn, 1) := by decide +kernel
theorem d_Law_out_14 : decode method_12_code 14 = .ok (.iconst 0, 1) := by decide +kernel
theorem d_Law_out_15 : decode method_12_code 15 = .ok (.ireturn, 1) := by decide +kernel
abbrev y_Law_join : MethodName := ⟨"KateDeskLaw", "join", "(LKateDesk;IIII)I"⟩
theorem hd_Law_join : y_Law_join.cls ≠ "java/lang/invoke/MethodHandle" ∧ y_Law_join.cls ≠ "java/lang/invoke/VarHandle" ∧ (parseMethodDescriptor y_Law_join.desc).map (fun d => d.parameters.length) = some 5 := by decide +kernel
theorem d_Law_join_0 : decode method_13_code 0 = .ok (.aload_n 0, 1) := by decide +kernel
theorem d_Law_join_1 : decode method_13_code 1 = .ok (.iload_n 1, 1) := by decide +kernel
theorem d_Law_join_2 : decode method_13_code 2 = .ok (.iload_n 2, 1) := by decide +kernel
theorem d_Law_join_3 : decode method_13_code 3 = .ok (.iload_n 3, 1) := by decide +kernel
theorem d_Law_join_4 : decode method_13_code 4 = .ok (.iload 4, 2) := by decide +kernel
theorem d_Law_join_6 : decode method_13_code 6 = .ok (.invokevirtual 57, 3) := by decide +kernel
theorem d_Law_join_9 : decode method_13_code 9 = .ok (.goto 7, 3) := by decide +kernel
theorem d_Law_join_12 : decode method_13_code 12 = .ok (.astore 5, 2) := by decide +kernel
theorem d_Law_join_14 : decode method_13_code 14 = .ok (.iconst 1, 1) := by decide +kernel
theorem d_Law_join_15 : decode method_13_code 15 = .ok (.ireturn, 1) := by decide +kernel
theorem d_Law_join_16 : decode method_13_code 16 = .ok (.iconst 0, 1) := by decide +kernel
theorem d_Law_join_17 : decode method_13_code 17 = .ok (.ireturn, 1) := by decide +kernel
abbrev y_Law_times : MethodName := ⟨"KateDeskLaw", "times", "(LKateDesk;III)I"⟩
theorem hd_Law_times : y_Law_times.cls ≠ "java/lang/invoke/MethodHandle" ∧ y_Law_times.cls ≠ "java/lang/invoke/VarHandle" ∧ (parseMethodDescriptor y_Law_times.desc).map (fun d => d.parameters.length) = some 4 := by decide +kernel
theorem d_Law_times_0 : decode method_14_code 0 = .ok (.aload_n 0, 1) := by decide +kernel
theorem d_Law_times_1 : decode method_14_code 1 = .ok (.iload_n 1, 1) := by decide +kernel
theorem d_Law_times_2 : decode method_14_code 2 = .ok (.iload_n 2, 1) := by decide +kernel
theorem d_Law_times_3 : decode method_14_code 3 = .ok (.iload_n 3, 1) := by decide +kernel
theorem d_Law_times_4 : decode method_14_code 4 = .ok (.invokevirtual 60, 3) := by decide +kernel
theorem d_Law_times_7 : decode method_14_code 7 = .ok (.goto 7, 3) := by decide +kernel
theorem d_Law_times_10 : decode method_14_code 10 = .ok (.astore 4, 2) := by decide +kernel
theorem d_Law_times_12 : decode method_14_code 12 = .ok (.iconst 1, 1) := by decide +kernel
theorem d_Law_times_13 : decode method_14_code 13 = .ok (.ireturn, 1) := by decide +kernel
theorem d_Law_times_14 : decode method_14_code 14 = .ok (.iconst 0, 1) := by decide +kernel
theorem d_Law_times_15 : decode method_14_code 15 = .ok (.ireturn, 1) := by decide +kernel
abbrev y_Law_combine : MethodName := ⟨"KateDeskLaw", "combine", "(LKateDesk;IIII)I"⟩
theorem hd_Law_combine : y_Law_combine.cls ≠ "java/lang/invoke/MethodHandle" ∧ y_Law_combine.cls ≠ "java/lang/invoke/VarHandle" ∧ (parseMethodDescriptor y_Law_combine.desc).map (fun d => d.parameters.length) = some 5 := by decide +kernel
theorem d_Law_combine_0 : decode method_15_code 0 = .ok (.aload_n 0, 1) := by decide +kernel
theorem d_Law_combine_1 : decode method_15_code 1 = .ok (.iload_n 1, 1) := by decide +kernel
theorem d_Law_combine_2 : decode method_15_code 2 = .ok (.iload_n 2, 1) := by decide +kernel
theorem d_Law_combine_3 : decode method_15_code 3 = .ok (.iload_n 3, 1) := by decide +kernel
theorem d_Law_combine_4 : decode method_15_code 4 = .ok (.iload 4, 2) := by decide +kernel
theorem d_Law_combine_6 : decode method_15_code 6 = .ok (.invokevirtual 64, 3) := by decide +kernel
theorem d_Law_combine_9 : decode method_15_code 9 = .ok (.goto 7, 3) := by decide +kernel
theorem d_Law_combine_12 : decode method_15_code 12 = .ok (.astore 5, 2) := by decide +kernel
theorem d_Law_combine_14 : decode method_15_code 14 = .ok (.iconst 1, 1) := by decide +kernel
theorem d_Law_combine_15 : decode method_15_code 15 = .ok (.ireturn, 1) := by decide +kernel
theorem d_Law_combine_16 : decode method_15_code 16 = .ok (.iconst 0, 1) := by decide +kernel
theorem d_Law_combine_17 : decode method_15_code 17 = .ok (.ireturn, 1) := by decide +kernel
abbrev y_Law_same : MethodName := ⟨"KateDeskLaw", "same", "(LKateDesk;II[J)I"⟩
theorem hd_Law_same : y_Law_same.cls ≠ "java/lang/invoke/MethodHandle" ∧ y_Law_same.cls ≠ "java/lang/invoke/VarHandle" ∧ (parseMethodDescriptor y_Law_same.desc).map (fun d => d.parameters.length) = some 4 := by decide +kernel
theorem d_Law_same_0 : decode method_16_code 0 = .ok (.aload_n 3, 1) := by decide +kernel
theorem d_Law_same_1 : decode method_16_code 1 = .ok (.iconst 0, 1) := by decide +kernel
theorem d_Law_same_2 : decode method_16_code 2 = .ok (.aload_n 0, 1) := by decide +kernel
theorem d_Law_same_3 : decode method_16_code 3 = .ok (.iload_n 1, 1) := by decide +kernel
theorem d_Law_same_4 : decode method_16_code 4 = .ok (.iload_n 2, 1) := by decide +kernel
theorem d_Law_same_5 : decode method_16_code 5 = .ok (.invokevirtual 67, 3) := by decide +kernel
theorem d_Law_same_8 : decode method_16_code 8 = .ok (.ifCond .eq 7, 3) := by decide +kernel
theorem d_Law_same_11 : decode method_16_code 11 = .ok (.lconst 1, 1) := by decide +kernel
theorem d_Law_same_12 : decode method_16_code 12 = .ok (.goto 4, 3) := by decide +kernel
theorem d_Law_same_15 : decode method_16_code 15 = .ok (.lconst 0, 1) := by decide +kernel
theorem d_Law_same_16 : decode method_16_code 16 = .ok (.lastore, 1) := by decide +kernel
theorem d_Law_same_17 : decode method_16_code 17 = .ok (.goto 7, 3) := by decide +kernel
theorem d_Law_same_20 : decode method_16_code 20 = .ok (.astore 4, 2) := by decide +kernel
theorem d_Law_same_22 : decode method_16_code 22 = .ok (.iconst 1, 1) := by decide +kernel
theorem d_Law_same_23 : decode method_16_code 23 = .ok (.ireturn, 1) := by decide +kernel
theorem d_Law_same_24 : decode method_16_code 24 = .ok (.iconst 0, 1) := by decide +kernel
theorem d_Law_same_25 : decode method_16_code 25 = .ok (.ireturn, 1) := by decide +kernel
abbrev y_Law_setup : MethodName := ⟨"KateDeskLaw", "setup", "(LKateDesk;II)I"⟩
theorem hd_Law_setup : y_Law_setup.cls ≠ "java/lang/invoke/MethodHandle" ∧ y_Law_setup.cls ≠ "java/lang/invoke/VarHandle" ∧ (parseMethodDescriptor y_Law_setup.desc).map (fun d => d.parameters.length) = some 3 := by decide +kernel
theorem d_Law_setup_0 : decode method_17_code 0 = .ok (.aload_n 0, 1) := by decide +kernel
theorem d_Law_setup_1 : decode method_17_code 1 = .ok (.iload_n 1, 1) := by decide +kernel
theorem d_Law_setup_2 : decode method_17_code 2 = .ok (.iload_n 2, 1) := by decide +kernel
theorem d_Law_setup_3 : decode method_17_code 3 = .ok (.invokevirtual 71, 3) := by decide +kernel
theorem d_Law_setup_6 : decode method_17_code 6 = .ok (.goto 6, 3) := by decide +kernel
theorem d_Law_setup_9 : decode method_17_code 9 = .ok (.astore_n 3, 1) := by decide +kernel
theorem d_Law_setup_10 : decode method_17_code 10 = .ok (.iconst 1, 1) := by decide +kernel
theorem d_Law_setup_11 : decode method_17_code 11 = .ok (.ireturn, 1) := by decide +kernel
theorem d_Law_setup_12 : decode method_17_code 12 = .ok (.iconst 0, 1) := by decide +kernel
theorem d_Law_setup_13 : decode method_17_code 13 = .ok (.ireturn, 1) := by decide +kernel
abbrev y_Law_commit : MethodName := ⟨"KateDeskLaw", "commit", "(LKateDesk;III)I"⟩
theorem hd_Law_commit : y_Law_commit.cls ≠ "java/lang/invoke/MethodHandle" ∧ y_Law_commit.cls ≠ "java/lang/invoke/VarHandle" ∧ (parseMethodDescriptor y_Law_commit.desc).map (fun d => d.parameters.length) = some 4 := by decide +kernel
theorem d_Law_commit_0 : decode method_18_code 0 = .ok (.aload_n 0, 1) := by decide +kernel
theorem d_Law_commit_1 : decode method_18_code 1 = .ok (.iload_n 1, 1) := by decide +kernel
theorem d_Law_commit_2 : decode method_18_code 2 = .ok (.iload_n 2, 1) := by decide +kernel
theorem d_Law_commit_3 : decode method_18_code 3 = .ok (.iload_n 3, 1) := by decide +kernel
theorem d_Law_commit_4 : decode method_18_code 4 = .ok (.invokevirtual 74, 3) := by decide +kernel
theorem d_Law_commit_7 : decode method_18_code 7 = .ok (.goto 11, 3) := by decide +kernel
theorem d_Law_commit_10 : decode method_18_code 10 = .ok (.astore 4, 2) := by decide +kernel
theorem d_Law_commit_12 : decode method_18_code 12 = .ok (.iconst 1, 1) := by decide +kernel
theorem d_Law_commit_13 : decode method_18_code 13 = .ok (.ireturn, 1) := by decide +kernel
theorem d_Law_commit_14 : decode method_18_code 14 = .ok (.astore 4, 2) := by decide +kernel
theorem d_Law_commit_16 : decode method_18_code 16 = .ok (.iconst 2, 1) := by decide +kernel
theorem d_Law_commit_17 : decode method_18_code 17 = .ok (.ireturn, 1) := by decide +kernel
theorem d_Law_commit_18 : decode method_18_code 18 = .ok (.iconst 0, 1) := by decide +kernel
theorem d_Law_commit_19 : decode method_18_code 19 = .ok (.ireturn, 1) := by decide +kernel
abbrev y_Law_open : MethodName := ⟨"KateDeskLaw", "open", "(LKateDesk;IIII)I"⟩
theorem hd_Law_open : y_Law_open.cls ≠ "java/lang/invoke/MethodHandle" ∧ y_Law_open.cls ≠ "java/lang/invoke/VarHandle" ∧ (parseMethodDescriptor y_Law_open.desc).map (fun d => d.parameters.length) = some 5 := by decide +kernel
theorem d_Law_open_0 : decode method_19_code 0 = .ok (.aload_n 0, 1) := by decide +kernel
theorem d_Law_open_1 : decode method_19_code 1 = .ok (.iload_n 1, 1) := by decide +kernel
theorem d_Law_open_2 : decode method_19_code 2 = .ok (.iload_n 2, 1) := by decide +kernel
theorem d_Law_open_3 : decode method_19_code 3 = .ok (.iload_n 3, 1) := by decide +kernel
theorem d_Law_open_4 : decode method_19_code 4 = .ok (.iload 4, 2) := by decide +kernel
theorem d_Law_open_6 : decode method_19_code 6 = .ok (.invokevirtual 77, 3) := by decide +kernel
theorem d_Law_open_9 : decode method_19_code 9 = .ok (.goto 7, 3) := by decide +kernel
theorem d_Law_open_12 : decode method_19_code 12 = .ok (.astore 5, 2) := by decide +kernel
theorem d_Law_open_14 : decode method_19_code 14 = .ok (.iconst 1, 1) := by decide +kernel
theorem d_Law_open_15 : decode method_19_code 15 = .ok (.ireturn, 1) := by decide +kernel
theorem d_Law_open_16 : decode method_19_code 16 = .ok (.iconst 0, 1) := by decide +kernel
theorem d_Law_open_17 : decode method_19_code 17 = .ok (.ireturn, 1) := by decide +kernel
abbrev y_Law_checks : MethodName := ⟨"KateDeskLaw", "checks", "(LKateDesk;IIIII[J)I"⟩
theorem hd_Law_checks : y_Law_checks.cls ≠ "java/lang/invoke/MethodHandle" ∧ y_Law_checks.cls ≠ "java/lang/invoke/VarHandle" ∧ (parseMethodDescriptor y_Law_checks.desc).map (fun d => d.parameters.length) = some 7 := by decide +kernel
theorem d_Law_checks_0 : decode method_20_code 0 = .ok (.aload 6, 2) := by decide +kernel
theorem d_Law_checks_2 : decode method_20_code 2 = .ok (.iconst 0, 1) := by decide +kernel
theorem d_Law_checks_3 : decode method_20_code 3 = .ok (.aload_n 0, 1) := by decide +kernel
theorem d_Law_checks_4 : decode method_20_code 4 = .ok (.iload_n 1, 1) := by decide +kernel
theorem d_Law_checks_5 : decode method_20_code 5 = .ok (.iload_n 2, 1) := by decide +kernel
theorem d_Law_checks_6 : decode method_20_code 6 = .ok (.iload_n 3, 1) := by decide +kernel
theorem d_Law_checks_7 : decode method_20_code 7 = .ok (.iload 4, 2) := by decide +kernel
theorem d_Law_checks_9 : decode method_20_code 9 = .ok (.iload 5, 2) := by decide +kernel
theorem d_Law_checks_11 : decode method_20_code 11 = .ok (.invokevirtual 80, 3) := by decide +kernel
theorem d_Law_checks_14 : decode method_20_code 14 = .ok (.ifCond .eq 7, 3) := by decide +kernel
theorem d_Law_checks_17 : decode method_20_code 17 = .ok (.lconst 1, 1) := by decide +kernel
theorem d_Law_checks_18 : decode method_20_code 18 = .ok (.goto 4, 3) := by decide +kernel
theorem d_Law_checks_21 : decode method_20_code 21 = .ok (.lconst 0, 1) := by decide +kernel
theorem d_Law_checks_22 : decode method_20_code 22 = .ok (.lastore, 1) := by decide +kernel
theorem d_Law_checks_23 : decode method_20_code 23 = .ok (.goto 7, 3) := by decide +kernel
theorem d_Law_checks_26 : decode method_20_code 26 = .ok (.astore 7, 2) := by decide +kernel
theorem d_Law_checks_28 : decode method_20_code 28 = .ok (.iconst 1, 1) := by decide +kernel
theorem d_Law_checks_29 : decode method_20_code 29 = .ok (.ireturn, 1) := by decide +kernel
theorem d_Law_checks_30 : decode method_20_code 30 = .ok (.iconst 0, 1) := by decide +kernel
theorem d_Law_checks_31 : decode method_20_code 31 = .ok (.ireturn, 1) := by decide +kernel
abbrev y_Law_transform : MethodName := ⟨"KateDeskLaw", "transform", "(LKateDesk;IIZ)I"⟩
theorem hd_Law_transform : y_Law_transform.cls ≠ "java/lang/invoke/MethodHandle" ∧ y_Law_transform.cls ≠ "java/lang/invoke/VarHandle" ∧ (parseMethodDescriptor y_Law_transform.desc).map (fun d => d.parameters.length) = some 4 := by decide +kernel
theorem d_Law_transform_0 : decode method_21_code 0 = .ok (.aload_n 0, 1) := by decide +kernel
theorem d_Law_transform_1 : decode method_21_code 1 = .ok (.iload_n 1, 1) := by decide +kernel
theorem d_Law_transform_2 : decode method_21_code 2 = .ok (.iload_n 2, 1) := by decide +kernel
theorem d_Law_transform_3 : decode method_21_code 3 = .ok (.iload_n 3, 1) := by decide +kernel
theorem d_Law_transform_4 : decode method_21_code 4 = .ok (.invokevirtual 84, 3) := by decide +kernel
theorem d_Law_transform_7 : decode method_21_code 7 = .ok (.goto 7, 3) := by decide +kernel
theorem d_Law_transform_10 : decode method_21_code 10 = .ok (.astore 4, 2) := by decide +kernel
theorem d_Law_transform_12 : decode method_21_code 12 = .ok (.iconst 1, 1) := by decide +kernel
theorem d_Law_transform_13 : decode method_21_code 13 = .ok (.ireturn, 1) := by decide +kernel
theorem d_Law_transform_14 : decode method_21_code 14 = .ok (.iconst 0, 1) := by decide +kernel
theorem d_Law_transform_15 : decode method_21_code 15 = .ok (.ireturn, 1) := by decide +kernel
abbrev y_Law_lagrange : MethodName := ⟨"KateDeskLaw", "lagrange", "(LKateDesk;IIII)I"⟩
theorem hd_Law_lagrange : y_Law_lagrange.cls ≠ "java/lang/invoke/MethodHandle" ∧ y_Law_lagrange.cls ≠ "java/lang/invoke/VarHandle" ∧ (parseMethodDescriptor y_Law_lagrange.desc).map (fun d => d.parameters.length) = some 5 := by decide +kernel
theorem d_Law_lagrange_0 : decode method_22_code 0 = .ok (.aload_n 0, 1) := by decide +kernel
theorem d_Law_lagrange_1 : decode method_22_code 1 = .ok (.iload_n 1, 1) := by decide +kernel
theorem d_Law_lagrange_2 : decode method_22_code 2 = .ok (.iload_n 2, 1) := by decide +kernel
theorem d_Law_lagrange_3 : decode method_22_code 3 = .ok (.iload_n 3, 1) := by decide +kernel
theorem d_Law_lagrange_4 : decode method_22_code 4 = .ok (.iload 4, 2) := by decide +kernel
theorem d_Law_lagrange_6 : decode method_22_code 6 = .ok (.invokevirtual 88, 3) := by decide +kernel
theorem d_Law_lagrange_9 : decode method_22_code 9 = .ok (.goto 7, 3) := by decide +kernel
theorem d_Law_lagrange_12 : decode method_22_code 12 = .ok (.astore 5, 2) := by decide +kernel
theorem d_Law_lagrange_14 : decode method_22_code 14 = .ok (.iconst 1, 1) := by decide +kernel
theorem d_Law_lagrange_15 : decode method_22_code 15 = .ok (.ireturn, 1) := by decide +kernel
theorem d_Law_lagrange_16 : decode method_22_code 16 = .ok (.iconst 0, 1) := by decide +kernel
theorem d_Law_lagrange_17 : decode method_22_code 17 = .ok (.ireturn, 1) := by decide +kernel
abbrev y_Law_look : MethodName := ⟨"KateDeskLaw", "look", "(LKateDesk;I[J)I"⟩
theorem hd_Law_look : y_Law_look.cls ≠ "java/lang/invoke/MethodHandle" ∧ y_Law_look.cls ≠ "java/lang/invoke/VarHandle" ∧ (parseMethodDescriptor y_Law_look.desc).map (fun d => d.parameters.length) = some 3 := by decide +kernel
theorem d_Law_look_0 : decode method_23_code 0 = .ok (.aload_n 2, 1) := by decide +kernel
theorem d_Law_look_1 : decode method_23_code 1 = .ok (.iconst 0, 1) := by decide +kernel
theorem d_Law_look_2 : decode method_23_code 2 = .ok (.aload_n 0, 1) := by decide +kernel
theorem d_Law_look_3 : decode method_23_code 3 = .ok (.iload_n 1, 1) := by decide +kernel
theorem d_Law_look_4 : decode method_23_code 4 = .ok (.invokevirtual 91, 3) := by decide +kernel
theorem d_Law_look_7 : decode method_23_code 7 = .ok (.i2l, 1) := by decide +kernel
theorem d_Law_look_8 : decode method_23_code 8 = .ok (.lastore, 1) := by decide +kernel
theorem d_Law_look_9 : decode method_23_code 9 = .ok (.goto 6, 3) := by decide +kernel
theorem d_Law_look_12 : decode method_23_code 12 = .ok (.astore_n 3, 1) := by decide +kernel
theorem d_Law_look_13 : decode method_23_code 13 = .ok (.iconst 1, 1) := by decide +kernel
theorem d_Law_look_14 : decode method_23_code 14 = .ok (.ireturn, 1) := by decide +kernel
theorem d_Law_look_15 : decode method_23_code 15 = .ok (.iconst 0, 1) := by decide +kernel
theorem d_Law_look_16 : decode method_23_code 16 = .ok (.ireturn, 1) := by decide +kernel
set_option maxHeartbeats 4000000 in
set_option maxRecDepth 100000 in
theorem h_feed (l : Launch) (g : WG) (s0 : State) (hxs : XS l s0) (b : Nat) (mr mq : Int64) (hb0 : s0.heap.size ≤ b) (x1 : Int32) (v : Int64) : CtrH l y_Law_feed (.codeWith y_Law_feed method_3_code 6 (some FieldType.int) [(0, 11, 14, 13), (0, 11, 18, 15)]) 8 128 1 6 (HXA s0) g s0 [.ref b, .int x1, .long v, .ref (b + 510)] (fun H => LSt g s0 H b mr mq) (QI (fun r H H' => (((okC x1 (nI 1) (nI 8)) ∧ r = nI 0 ∧ AJ g H' (b + 510) 1 (fun _ => x1.toInt64)) ∨ (¬ (okC x1 (nI 1) (nI 8)) ∧ r = nI 1)) ∧ ∀ q, kM b q → H'[q]? = H[q]?)) := by
  refine ctrH_mk l (lv0 := [(0, .ref b), (1, .int x1), (2, .long v), (4, .ref (b + 510))]) (by decide) (Nat.le_of_ble_eq_true rfl) rfl ?_
  intro p e s m below meth c ls E hw0 hr hlk hex hl hP
  have hx := E.1
  have hb := E.2.1
  have hK := E.2.2.2.2.2
  have hF : ∀ q ∈ ([] : List Loc), HXA s0 q.base := fun q hq => absurd hq List.not_mem_nil
  obtain ⟨hold, hsz, hd1, hd2, hfr, f0, hA⟩ := hP
  by_cases hok : okC x1 (nI 1) (nI 8)
  · skip
    obtain ⟨k1, rfl, l1, q1⟩ := okC_nat (by decide) (by decide) hok
    refine lv_aload hx hb d_Law_feed_0 (lv_at hl 3 rfl) ?_
    refine lv_iconst (v := nI 0) hx hb d_Law_feed_2 (by decide) ?_
    refine lv_aload_n hx hb d_Law_feed_3 rfl (lv_at hl 0 rfl) ?_
    refine lv_iload_n hx hb d_Law_feed_4 rfl (lv_at hl 1 rfl) ?_
    refine lv_lload_n hx hb d_Law_feed_5 rfl (lv_at hl 2 rfl) ?_
    refine q_cV (rest := [.int (nI 0), .ref (b + 510)]) E ((c_Desk_feed l g (nD b) b mr mq k1 v l1 q1).up (nD_up hb0)) w_396 w_1 w_393 w_394 w_395 hd_Desk_feed rfl ⟨by decide, by decide⟩ (OB.recv E.2.2.2.2.2 (by rfl) hd1.ob) (⟨hd1, hfr⟩) hF hl.1 rfl (Nat.le_of_ble_eq_true rfl) d_Law_feed_6 ⟨by decide, by decide⟩ (qi (fun r0 H1 locs hq hF => ?_))
    obtain ⟨rfl, hq⟩ := hq
    refine lv_i2l (v := (nI k1).toInt64) hx hb d_Law_feed_9 rfl ?_
    refine q_last (N := 1) E (AJ.off hq nD_510 hA) (Nat.le_trans hb0 (Nat.le_add_right _ _)) hF 0 rfl (by decide) (by decide) d_Law_feed_10 (fun H2 locs hq2 hA2 hF => ?_)
    refine lv_goto (tgt := 22) hx hb d_Law_feed_11 (by decide) ?_
    refine lv_iconst (v := nI 0) hx hb d_Law_feed_22 (by decide) ?_
    refine W.widen (k := 1) (n := 6) (by decide) (by decide) ?_
    exact q_iret E hr hlk (⟨_, rfl, Or.inl ⟨hok, rfl, hA2.one⟩, fun q h9 => (hq2.off (n_510 h9)).trans (hq.2 q (nD_m h9))⟩) hF d_Law_feed_23
  · skip
    refine lv_aload hx hb d_Law_feed_0 (lv_at hl 3 rfl) ?_
    refine lv_iconst (v := nI 0) hx hb d_Law_feed_2 (by decide) ?_
    refine lv_aload_n hx hb d_Law_feed_3 rfl (lv_at hl 0 rfl) ?_
    refine lv_iload_n hx hb d_Law_feed_4 rfl (lv_at hl 1 rfl) ?_
    refine lv_lload_n hx hb d_Law_feed_5 rfl (lv_at hl 2 rfl) ?_
    refine q_catch E hw0 (q_runVT (rest := [.int (nI 0), .ref (b + 510)]) E hw0 (t_Desk_feed l g (HXA s0) s0 hxs b x1 v (okC_bad hok)) w_396 w_1 w_393 w_394 w_395 hd_Desk_feed rfl ⟨by decide, by decide⟩ (OB.recv E.2.2.2.2.2 (by rfl) hd2.ob) (⟨hold, (show s0.heap.size ≤ s.heap.size by rw [hsz]; exact Nat.le_trans hb0 (Nat.le_add_right _ _))⟩) hl.1 rfl (Nat.le_of_ble_eq_true rfl) d_Law_feed_6 ⟨by decide, by decide⟩) hF hex ⟨by decide, by decide⟩ (by decide) w_391 (fun xx H1 locs htq hF => ?_)
    refine lv_astore (lv' := [(5, .ref xx), (0, .ref b), (1, .int x1), (2, .long v), (4, .ref (b + 510))]) hx hb d_Law_feed_14 hl (by decide) rfl (fun ls hl => ?_)
    refine lv_iconst (v := nI 1) hx hb d_Law_feed_16 (by decide) ?_
    exact q_iret E hr hlk (⟨_, rfl, Or.inr ⟨hok, rfl⟩, fun q h9 => htq.2.1 q (n_511 hsz h9)⟩) hF d_Law_feed_17
set_option maxHeartbeats 4000000 in
set_option maxRecDepth 100000 in
theorem h_number (l : Launch) (g : WG) (s0 : State) (hxs : XS l s0) (b : Nat) (mr mq : Int64) (hb0 : s0.heap.size ≤ b) (x1 : Int32) : CtrH l y_Law_number (.codeWith y_Law_number method_4_code 4 (some FieldType.int) [(0, 16, 19, 13)]) 8 126 1 6 (HXA s0) g s0 [.ref b, .int x1, .ref (b + 510)] (fun H => LSt g s0 H b mr mq) (QI (fun r H H' => (((okS x1 (nI 1)) ∧ r = nI 0 ∧ AJ g H' (b + 510) 1 (fun _ => 1)) ∨ (¬ (okS x1 (nI 1)) ∧ r = nI 1)) ∧ ∀ q, kM b q → H'[q]? = H[q]?)) := by
  refine ctrH_mk l (lv0 := [(0, .ref b), (1, .int x1), (2, .ref (b + 510))]) (by decide) (Nat.le_of_ble_eq_true rfl) rfl ?_
  intro p e s m below meth c ls E hw0 hr hlk hex hl hP
  have hx := E.1
  have hb := E.2.1
  have hK := E.2.2.2.2.2
  have hF : ∀ q ∈ ([] : List Loc), HXA s0 q.base := fun q hq => absurd hq List.not_mem_nil
  obtain ⟨hold, hsz, hd1, hd2, hfr, f0, hA⟩ := hP
  by_cases hok : okS x1 (nI 1)
  · skip
    obtain ⟨k1, rfl, q1⟩ := okS_nat (by decide) (by decide) hok
    refine lv_aload_n hx hb d_Law_number_0 rfl (lv_at hl 2 rfl) ?_
    refine lv_iconst (v := nI 0) hx hb d_Law_number_1 (by decide) ?_
    refine lv_aload_n hx hb d_Law_number_2 rfl (lv_at hl 0 rfl) ?_
    refine lv_iload_n hx hb d_Law_number_3 rfl (lv_at hl 1 rfl) ?_
    refine q_cV (rest := [.int (nI 0), .ref (b + 510)]) E ((c_Desk_number l g (nD b) b mr mq k1 q1).up (nD_up hb0)) w_491 w_1 w_488 w_489 w_490 hd_Desk_number rfl ⟨by decide, by decide⟩ (OB.recv E.2.2.2.2.2 (by rfl) hd1.ob) (⟨hd1, hfr⟩) hF hl.1 rfl (Nat.le_of_ble_eq_true rfl) d_Law_number_4 ⟨by decide, by decide⟩ (qi (fun r0 H1 locs hq hF => ?_))
    obtain ⟨rfl, hq⟩ := hq
    refine lv_if_eq (tgt := 14) hx hb d_Law_number_7 (by decide) (fun h9 => absurd h9 (by decide)) (fun _ => ?_)
    refine lv_lconst (v := 1) hx hb d_Law_number_10 (by decide) ?_
    refine lv_goto (tgt := 15) hx hb d_Law_number_11 (by decide) ?_
    refine q_last (N := 1) E (AJ.off hq nD_510 hA) (Nat.le_trans hb0 (Nat.le_add_right _ _)) hF 0 rfl (by decide) (by decide) d_Law_number_15 (fun H2 locs hq2 hA2 hF => ?_)
    refine lv_goto (tgt := 22) hx hb d_Law_number_16 (by decide) ?_
    refine lv_iconst (v := nI 0) hx hb d_Law_number_22 (by decide) ?_
    refine W.widen (k := 1) (n := 6) (by decide) (by decide) ?_
    exact q_iret E hr hlk (⟨_, rfl, Or.inl ⟨hok, rfl, hA2.one⟩, fun q h9 => (hq2.off (n_510 h9)).trans (hq.2 q (nD_m h9))⟩) hF d_Law_number_23
  · skip
    refine lv_aload_n hx hb d_Law_number_0 rfl (lv_at hl 2 rfl) ?_
    refine lv_iconst (v := nI 0) hx hb d_Law_number_1 (by decide) ?_
    refine lv_aload_n hx hb d_Law_number_2 rfl (lv_at hl 0 rfl) ?_
    refine lv_iload_n hx hb d_Law_number_3 rfl (lv_at hl 1 rfl) ?_
    refine q_catch E hw0 (q_runVT (rest := [.int (nI 0), .ref (b + 510)]) E hw0 (t_Desk_number l g (HXA s0) s0 hxs b x1 (hok)) w_491 w_1 w_488 w_489 w_490 hd_Desk_number rfl ⟨by decide, by decide⟩ (OB.recv E.2.2.2.2.2 (by rfl) hd2.ob) (⟨hold, (show s0.heap.size ≤ s.heap.size by rw [hsz]; exact Nat.le_trans hb0 (Nat.le_add_right _ _))⟩) hl.1 rfl (Nat.le_of_ble_eq_true rfl) d_Law_number_4 ⟨by decide, by decide⟩) hF hex ⟨by decide, by decide⟩ (by decide) w_391 (fun xx H1 locs htq hF => ?_)
    refine lv_astore_n (lv' := [(3, .ref xx), (0, .ref b), (1, .int x1), (2, .ref (b + 510))]) hx hb d_Law_number_19 rfl hl (by decide) rfl (fun ls hl => ?_)
    refine lv_iconst (v := nI 1) hx hb d_Law_number_20 (by decide) ?_
    exact q_iret E hr hlk (⟨_, rfl, Or.inr ⟨hok, rfl⟩, fun q h9 => htq.2.1 q (n_511 hsz h9)⟩) hF d_Law_number_21
set_option maxHeartbeats 4000000 in
set_option maxRecDepth 100000 in
theorem h_set (l : Launch) (g : WG) (s0 : State) (hxs : XS l s0) (b : Nat) (mr mq : Int64) (hb0 : s0.heap.size ≤ b) (x1 : Int32) (v : Int64) : CtrH l y_Law_set (.codeWith y_Law_set method_5_code 5 (some FieldType.int) [(0, 6, 9, 13)]) 8 127 1 6 (HXA s0) g s0 [.ref b, .int x1, .long v] (fun H => LSt g s0 H b mr mq) (QI (fun r H H' => (((okS x1 (nI 1) ∧ ¬ v < 0) ∧ r = nI 0) ∨ (¬ (okS x1 (nI 1) ∧ ¬ v < 0) ∧ r = nI 1)) ∧ ∀ q, kM b q → H'[q]? = H[q]?)) := by
  refine ctrH_mk l (lv0 := [(0, .ref b), (1, .int x1), (2, .long v)]) (by decide) (Nat.le_of_ble_eq_true rfl) rfl ?_
  intro p e s m below meth c ls E hw0 hr hlk hex hl hP
  have hx := E.1
  have hb := E.2.1
  have hK := E.2.2.2.2.2
  have hF : ∀ q ∈ ([] : List Loc), HXA s0 q.base := fun q hq => absurd hq List.not_mem_nil
  obtain ⟨hold, hsz, hd1, hd2, hfr, f0, hA⟩ := hP
  by_cases hok : okS x1 (nI 1) ∧ ¬ v < 0
  · skip
    obtain ⟨k1, rfl, q1⟩ := okS_nat (by decide) (by decide) hok.1
    refine lv_aload_n hx hb d_Law_set_0 rfl (lv_at hl 0 rfl) ?_
    refine lv_iload_n hx hb d_Law_set_1 rfl (lv_at hl 1 rfl) ?_
    refine lv_lload_n hx hb d_Law_set_2 rfl (lv_at hl 2 rfl) ?_
    refine q_cV (rest := []) E ((c_Desk_set l g (nD b) b mr mq k1 v q1 hok.2).up (nD_up hb0)) w_519 w_1 w_516 w_517 w_518 hd_Desk_set rfl ⟨by decide, by decide⟩ (OB.recv E.2.2.2.2.2 (by rfl) hd1.ob) (⟨hd1, hfr⟩) hF hl.1 rfl (Nat.le_of_ble_eq_true rfl) d_Law_set_3 ⟨by decide, by decide⟩ (qv (fun H1 locs hq hF => ?_))
    refine lv_goto (tgt := 13) hx hb d_Law_set_6 (by decide) ?_
    refine lv_iconst (v := nI 0) hx hb d_Law_set_13 (by decide) ?_
    refine W.widen (k := 1) (n := 6) (by decide) (by decide) ?_
    exact q_iret E hr hlk (⟨_, rfl, Or.inl ⟨hok, rfl⟩, fun q h9 => hq.2 q (nD_m h9)⟩) hF d_Law_set_14
  · skip
    refine lv_aload_n hx hb d_Law_set_0 rfl (lv_at hl 0 rfl) ?_
    refine lv_iload_n hx hb d_Law_set_1 rfl (lv_at hl 1 rfl) ?_
    refine lv_lload_n hx hb d_Law_set_2 rfl (lv_at hl 2 rfl) ?_
    refine q_catch E hw0 (q_runVT (rest := []) E hw0 (t_Desk_set l g (HXA s0) s0 hxs b x1 v (nbn hok)) w_519 w_1 w_516 w_517 w_518 hd_Desk_set rfl ⟨by decide, by decide⟩ (OB.recv E.2.2.2.2.2 (by rfl) hd2.ob) (⟨hold, (show s0.heap.size ≤ s.heap.size by rw [hsz]; exact Nat.le_trans hb0 (Nat.le_add_right _ _))⟩) hl.1 rfl (Nat.le_of_ble_eq_true rfl) d_Law_set_3 ⟨by decide, by decide⟩) hF hex ⟨by decide, by decide⟩ (by decide) w_391 (fun xx H1 locs htq hF => ?_)
    refine lv_astore (lv' := [(4, .ref xx), (0, .ref b), (1, .int x1), (2, .long v)]) hx hb d_Law_set_9 hl (by decide) rfl (fun ls hl => ?_)
    refine lv_iconst (v := nI 1) hx hb d_Law_set_11 (by decide) ?_
    exact q_iret E hr hlk (⟨_, rfl, Or.inr ⟨hok, rfl⟩, fun q h9 => htq.2.1 q (n_511 hsz h9)⟩) hF d_Law_set_12
set_option maxHeartbeats 4000000 in
set_option maxRecDepth 100000 in
theorem h_word (l : Launch) (g : WG) (s0 : State) (hxs : XS l s0) (b : Nat) (mr mq : Int64) (hb0 : s0.heap.size ≤ b) (x1 : Int32) (x2 : Int32) : CtrH l y_Law_word (.codeWith y_Law_word method_6_code 5 (some FieldType.int) [(0, 9, 12, 13)]) 8 130 1 6 (HXA s0) g s0 [.ref b, .int x1, .int x2, .ref (b + 510)] (fun H => LSt g s0 H b mr mq) (QI (fun r H H' => (((okS x1 (nI 1) ∧ okC x2 (nI 0) (nI 7)) ∧ r = nI 0 ∧ AJ g H' (b + 510) 1 (fun _ => 0)) ∨ (¬ (okS x1 (nI 1) ∧ okC x2 (nI 0) (nI 7)) ∧ r = nI 1)) ∧ ∀ q, kM b q → H'[q]? = H[q]?)) := by
  refine ctrH_mk l (lv0 := [(0, .ref b), (1, .int x1), (2, .int x2), (3, .ref (b + 510))]) (by decide) (Nat.le_of_ble_eq_true rfl) rfl ?_
  intro p e s m below meth c ls E hw0 hr hlk hex hl hP
  have hx := E.1
  have hb := E.2.1
  have hK := E.2.2.2.2.2
  have hF : ∀ q ∈ ([] : List Loc), HXA s0 q.base := fun q hq => absurd hq List.not_mem_nil
  obtain ⟨hold, hsz, hd1, hd2, hfr, f0, hA⟩ := hP
  by_cases hok : okS x1 (nI 1) ∧ okC x2 (nI 0) (nI 7)
  · skip
    obtain ⟨k1, rfl, q1⟩ := okS_nat (by decide) (by decide) hok.1
    obtain ⟨k2, rfl, l2, q2⟩ := okC_nat (by decide) (by decide) hok.2
    refine lv_aload_n hx hb d_Law_word_0 rfl (lv_at hl 3 rfl) ?_
    refine lv_iconst (v := nI 0) hx hb d_Law_word_1 (by decide) ?_
    refine lv_aload_n hx hb d_Law_word_2 rfl (lv_at hl 0 rfl) ?_
    refine lv_iload_n hx hb d_Law_word_3 rfl (lv_at hl 1 rfl) ?_
    refine lv_iload_n hx hb d_Law_word_4 rfl (lv_at hl 2 rfl) ?_
    refine q_cV (rest := [.int (nI 0), .ref (b + 510)]) E ((c_Desk_word l g (nD b) b mr mq k1 k2 q1 (by omega)).up (nD_up hb0)) w_531 w_1 w_528 w_529 w_530 hd_Desk_word rfl ⟨by decide, by decide⟩ (OB.recv E.2.2.2.2.2 (by rfl) hd1.ob) (⟨hd1, hfr⟩) hF hl.1 rfl (Nat.le_of_ble_eq_true rfl) d_Law_word_5 ⟨by decide, by decide⟩ (ql (fun r0 H1 locs hq hF => ?_))
    obtain ⟨rfl, hq⟩ := hq
    refine q_last (N := 1) E (AJ.off hq nD_510 hA) (Nat.le_trans hb0 (Nat.le_add_right _ _)) hF 0 rfl (by decide) (by decide) d_Law_word_8 (fun H2 locs hq2 hA2 hF => ?_)
    refine lv_goto (tgt := 16) hx hb d_Law_word_9 (by decide) ?_
    refine lv_iconst (v := nI 0) hx hb d_Law_word_16 (by decide) ?_
    refine W.widen (k := 1) (n := 6) (by decide) (by decide) ?_
    exact q_iret E hr hlk (⟨_, rfl, Or.inl ⟨hok, rfl, hA2.one⟩, fun q h9 => (hq2.off (n_510 h9)).trans (hq.2 q (nD_m h9))⟩) hF d_Law_word_17
  · skip
    refine lv_aload_n hx hb d_Law_word_0 rfl (lv_at hl 3 rfl) ?_
    refine lv_iconst (v := nI 0) hx hb d_Law_word_1 (by decide) ?_
    refine lv_aload_n hx hb d_Law_word_2 rfl (lv_at hl 0 rfl) ?_
    refine lv_iload_n hx hb d_Law_word_3 rfl (lv_at hl 1 rfl) ?_
    refine lv_iload_n hx hb d_Law_word_4 rfl (lv_at hl 2 rfl) ?_
    refine q_catch E hw0 (q_runVT (rest := [.int (nI 0), .ref (b + 510)]) E hw0 (t_Desk_word l g (HXA s0) s0 hxs b x1 x2 ((nb hok).imp id bad_w)) w_531 w_1 w_528 w_529 w_530 hd_Desk_word rfl ⟨by decide, by decide⟩ (OB.recv E.2.2.2.2.2 (by rfl) hd2.ob) (⟨hold, (show s0.heap.size ≤ s.heap.size by rw [hsz]; exact Nat.le_trans hb0 (Nat.le_add_right _ _))⟩) hl.1 rfl (Nat.le_of_ble_eq_true rfl) d_Law_word_5 ⟨by decide, by decide⟩) hF hex ⟨by decide, by decide⟩ (by decide) w_391 (fun xx H1 locs htq hF => ?_)
    refine lv_astore (lv' := [(4, .ref xx), (0, .ref b), (1, .int x1), (2, .int x2), (3, .ref (b + 510))]) hx hb d_Law_word_12 hl (by decide) rfl (fun ls hl => ?_)
    refine lv_iconst (v := nI 1) hx hb d_Law_word_14 (by decide) ?_
    exact q_iret E hr hlk (⟨_, rfl, Or.inr ⟨hok, rfl⟩, fun q h9 => htq.2.1 q (n_511 hsz h9)⟩) hF d_Law_word_15
set_option maxHeartbeats 4000000 in
set_option maxRecDepth 100000 in
theorem h_reckon (l : Launch) (g : WG) (s0 : State) (hxs : XS l s0) (b : Nat) (mr mq : Int64) (hb0 : s0.heap.size ≤ b) (x1 x2 x3 x4 : Int32) (hno : va_Nc "java/lang/ArithmeticException" "java/lang/IllegalArgumentException" s0) : CtrH l y_Law_reckon (.codeWith y_Law_reckon method_7_code 6 (some FieldType.int) [(0, 9, 12, 13), (0, 9, 16, 33)]) 8 181 1 6 (HXA s0) g s0 [.ref b, .int x1, .int x2, .int x3, .int x4] (fun H => LSt g s0 H b mr mq) (QI (fun r H H' => (((okC x1 (nI 0) (nI 3) ∧ okS x2 (nI 1) ∧ okS x3 (nI 1) ∧ okS x4 (nI 1)) ∧ ((¬ x1 = nI 3 ∧ r = nI 0) ∨ (x1 = nI 3 ∧ r = nI 2))) ∨ (¬ (okC x1 (nI 0) (nI 3) ∧ okS x2 (nI 1) ∧ okS x3 (nI 1) ∧ okS x4 (nI 1)) ∧ r = nI 1)) ∧ ∀ q, kM b q → H'[q]? = H[q]?)) := by
  refine ctrH_mk l (lv0 := [(0, .ref b), (1, .int x1), (2, .int x2), (3, .int x3), (4, .int x4)]) (by decide) (Nat.le_of_ble_eq_true rfl) rfl ?_
  intro p e s m below meth c ls E hw0 hr hlk hex hl hP
  have hx := E.1
  have hb := E.2.1
  have hK := E.2.2.2.2.2
  have hF : ∀ q ∈ ([] : List Loc), HXA s0 q.base := fun q hq => absurd hq List.not_mem_nil
  obtain ⟨hold, hsz, hd1, hd2, hfr, f0, hA⟩ := hP
  by_cases hok : okC x1 (nI 0) (nI 3) ∧ okS x2 (nI 1) ∧ okS x3 (nI 1) ∧ okS x4 (nI 1)
  · skip
    by_cases h3 : x1 = nI 3
    · skip
      subst h3
      have h3 : nI 3 = nI 3 := rfl
      obtain ⟨k2, rfl, q2⟩ := okS_nat (by decide) (by decide) hok.2.1
      obtain ⟨k3, rfl, q3⟩ := okS_nat (by decide) (by decide) hok.2.2.1
      obtain ⟨k4, rfl, q4⟩ := okS_nat (by decide) (by decide) hok.2.2.2
      refine lv_aload_n hx hb d_Law_reckon_0 rfl (lv_at hl 0 rfl) ?_
      refine lv_iload_n hx hb d_Law_reckon_1 rfl (lv_at hl 1 rfl) ?_
      refine lv_iload_n hx hb d_Law_reckon_2 rfl (lv_at hl 2 rfl) ?_
      refine lv_iload_n hx hb d_Law_reckon_3 rfl (lv_at hl 3 rfl) ?_
      refine lv_iload hx hb d_Law_reckon_4 (lv_at hl 4 rfl) ?_
      refine q_catch2 E hw0 (q_runVT (rest := []) E hw0 (t_Desk_reckonA l g (HXA s0) s0 hxs b k2 k3 k4 mr mq q2 q3 q4) w_541 w_1 w_538 w_539 w_540 hd_Desk_reckon rfl ⟨by decide, by decide⟩ (OB.recv E.2.2.2.2.2 (by rfl) hd2.ob) (⟨hold, (show s0.heap.size ≤ s.heap.size by rw [hsz]; exact Nat.le_trans hb0 (Nat.le_add_right _ _)), hd2, hfr⟩) hl.1 rfl (Nat.le_of_ble_eq_true rfl) d_Law_reckon_6 ⟨by decide, by decide⟩) hF hex (by decide) w_391 hno ⟨by decide, by decide⟩ (by decide) w_537 (fun xx H1 locs htq hF => ?_)
      refine lv_astore (lv' := [(5, .ref xx), (0, .ref b), (1, .int (nI 3)), (2, .int (nI k2)), (3, .int (nI k3)), (4, .int (nI k4))]) hx hb d_Law_reckon_16 hl (by decide) rfl (fun ls hl => ?_)
      refine lv_iconst (v := nI 2) hx hb d_Law_reckon_18 (by decide) ?_
      exact q_iret E hr hlk (⟨_, rfl, Or.inl ⟨hok, Or.inr ⟨h3, rfl⟩⟩, fun q h9 => htq.2.1 q (n_511 hsz h9)⟩) hF d_Law_reckon_19
    · skip
      obtain ⟨k1, rfl, l1, q1⟩ := okC_nat (by decide) (by decide) hok.1
      obtain ⟨k2, rfl, q2⟩ := okS_nat (by decide) (by decide) hok.2.1
      obtain ⟨k3, rfl, q3⟩ := okS_nat (by decide) (by decide) hok.2.2.1
      obtain ⟨k4, rfl, q4⟩ := okS_nat (by decide) (by decide) hok.2.2.2
      have l3 : k1 < 3 := by
        rcases Nat.lt_or_ge k1 3 with h9 | h9
        · exact h9
        · exact absurd (show nI k1 = nI 3 by rw [Nat.le_antisymm q1 h9]) h3
      refine lv_aload_n hx hb d_Law_reckon_0 rfl (lv_at hl 0 rfl) ?_
      refine lv_iload_n hx hb d_Law_reckon_1 rfl (lv_at hl 1 rfl) ?_
      refine lv_iload_n hx hb d_Law_reckon_2 rfl (lv_at hl 2 rfl) ?_
      refine lv_iload_n hx hb d_Law_reckon_3 rfl (lv_at hl 3 rfl) ?_
      refine lv_iload hx hb d_Law_reckon_4 (lv_at hl 4 rfl) ?_
      refine q_cV (rest := []) E ((c_Desk_reckon l g (nD b) b mr mq k1 k2 k3 k4 l3 q2 q3 q4).up (nD_up hb0)) w_541 w_1 w_538 w_539 w_540 hd_Desk_reckon rfl ⟨by decide, by decide⟩ (OB.recv E.2.2.2.2.2 (by rfl) hd1.ob) (⟨hd1, hfr⟩) hF hl.1 rfl (Nat.le_of_ble_eq_true rfl) d_Law_reckon_6 ⟨by decide, by decide⟩ (qv (fun H1 locs hq hF => ?_))
      refine lv_goto (tgt := 20) hx hb d_Law_reckon_9 (by decide) ?_
      refine lv_iconst (v := nI 0) hx hb d_Law_reckon_20 (by decide) ?_
      refine W.widen (k := 1) (n := 6) (by decide) (by decide) ?_
      exact q_iret E hr hlk (⟨_, rfl, Or.inl ⟨hok, Or.inl ⟨h3, rfl⟩⟩, fun q h9 => hq.2 q (nD_m h9)⟩) hF d_Law_reckon_21
  · skip
    refine lv_aload_n hx hb d_Law_reckon_0 rfl (lv_at hl 0 rfl) ?_
    refine lv_iload_n hx hb d_Law_reckon_1 rfl (lv_at hl 1 rfl) ?_
    refine lv_iload_n hx hb d_Law_reckon_2 rfl (lv_at hl 2 rfl) ?_
    refine lv_iload_n hx hb d_Law_reckon_3 rfl (lv_at hl 3 rfl) ?_
    refine lv_iload hx hb d_Law_reckon_4 (lv_at hl 4 rfl) ?_
    refine q_catch E hw0 (q_runVT (rest := []) E hw0 (t_Desk_reckon l g (HXA s0) s0 hxs b x1 x2 x3 x4 ((nb hok).imp id (fun h => (nb h).imp id nb))) w_541 w_1 w_538 w_539 w_540 hd_Desk_reckon rfl ⟨by decide, by decide⟩ (OB.recv E.2.2.2.2.2 (by rfl) hd2.ob) (⟨hold, (show s0.heap.size ≤ s.heap.size by rw [hsz]; exact Nat.le_trans hb0 (Nat.le_add_right _ _))⟩) hl.1 rfl (Nat.le_of_ble_eq_true rfl) d_Law_reckon_6 ⟨by decide, by decide⟩) hF hex ⟨by decide, by decide⟩ (by decide) w_391 (fun xx H1 locs htq hF => ?_)
    refine lv_astore (lv' := [(5, .ref xx), (0, .ref b), (1, .int x1), (2, .int x2), (3, .int x3), (4, .int x4)]) hx hb d_Law_reckon_12 hl (by decide) rfl (fun ls hl => ?_)
    refine lv_iconst (v := nI 1) hx hb d_Law_reckon_14 (by decide) ?_
    exact q_iret E hr hlk (⟨_, rfl, Or.inr ⟨hok, rfl⟩, fun q h9 => htq.2.1 q (n_511 hsz h9)⟩) hF d_Law_reckon_15
set_option maxHeartbeats 4000000 in
set_option maxRecDepth 100000 in
theorem h_power (l : Launch) (g : WG) (s0 : State) (hxs : XS l s0) (b : Nat) (mr mq : Int64) (hb0 : s0.heap.size ≤ b) (x1 : Int32) (x2 : Int32) (v : Int64) : CtrH l y_Law_power (.codeWith y_Law_power method_8_code 6 (some FieldType.int) [(0, 7, 10, 13)]) 8 184 1 6 (HXA s0) g s0 [.ref b, .int x1, .int x2, .long v] (fun H => LSt g s0 H b mr mq) (QI (fun r H H' => (((okS x1 (nI 1) ∧ okS x2 (nI 1) ∧ ¬ v < 0) ∧ r = nI 0) ∨ (¬ (okS x1 (nI 1) ∧ okS x2 (nI 1) ∧ ¬ v < 0) ∧ r = nI 1)) ∧ ∀ q, kM b q → H'[q]? = H[q]?)) := by
  refine ctrH_mk l (lv0 := [(0, .ref b), (1, .int x1), (2, .int x2), (3, .long v)]) (by decide) (Nat.le_of_ble_eq_true rfl) rfl ?_
  intro p e s m below meth c ls E hw0 hr hlk hex hl hP
  have hx := E.1
  have hb := E.2.1
  have hK := E.2.2.2.2.2
  have hF : ∀ q ∈ ([] : List Loc), HXA s0 q.base := fun q hq => absurd hq List.not_mem_nil
  obtain ⟨hold, hsz, hd1, hd2, hfr, f0, hA⟩ := hP
  by_cases hok : okS x1 (nI 1) ∧ okS x2 (nI 1) ∧ ¬ v < 0
  · skip
    obtain ⟨k1, rfl, q1⟩ := okS_nat (by decide) (by decide) hok.1
    obtain ⟨k2, rfl, q2⟩ := okS_nat (by decide) (by decide) hok.2.1
    refine lv_aload_n hx hb d_Law_power_0 rfl (lv_at hl 0 rfl) ?_
    refine lv_iload_n hx hb d_Law_power_1 rfl (lv_at hl 1 rfl) ?_
    refine lv_iload_n hx hb d_Law_power_2 rfl (lv_at hl 2 rfl) ?_
    refine lv_lload_n hx hb d_Law_power_3 rfl (lv_at hl 3 rfl) ?_
    refine q_cV (rest := []) E ((c_Desk_power l g (nD b) b mr mq k1 k2 v q1 q2 hok.2.2).up (nD_up hb0)) w_583 w_1 w_580 w_581 w_582 hd_Desk_power rfl ⟨by decide, by decide⟩ (OB.recv E.2.2.2.2.2 (by rfl) hd1.ob) (⟨hd1, hfr⟩) hF hl.1 rfl (Nat.le_of_ble_eq_true rfl) d_Law_power_4 ⟨by decide, by decide⟩ (qv (fun H1 locs hq hF => ?_))
    refine lv_goto (tgt := 14) hx hb d_Law_power_7 (by decide) ?_
    refine lv_iconst (v := nI 0) hx hb d_Law_power_14 (by decide) ?_
    refine W.widen (k := 1) (n := 6) (by decide) (by decide) ?_
    exact q_iret E hr hlk (⟨_, rfl, Or.inl ⟨hok, rfl⟩, fun q h9 => hq.2 q (nD_m h9)⟩) hF d_Law_power_15
  · skip
    refine lv_aload_n hx hb d_Law_power_0 rfl (lv_at hl 0 rfl) ?_
    refine lv_iload_n hx hb d_Law_power_1 rfl (lv_at hl 1 rfl) ?_
    refine lv_iload_n hx hb d_Law_power_2 rfl (lv_at hl 2 rfl) ?_
    refine lv_lload_n hx hb d_Law_power_3 rfl (lv_at hl 3 rfl) ?_
    refine q_catch E hw0 (q_runVT (rest := []) E hw0 (t_Desk_power l g (HXA s0) s0 hxs b x1 x2 v ((nb hok).imp id nbn)) w_583 w_1 w_580 w_581 w_582 hd_Desk_power rfl ⟨by decide, by decide⟩ (OB.recv E.2.2.2.2.2 (by rfl) hd2.ob) (⟨hold, (show s0.heap.size ≤ s.heap.size by rw [hsz]; exact Nat.le_trans hb0 (Nat.le_add_right _ _))⟩) hl.1 rfl (Nat.le_of_ble_eq_true rfl) d_Law_power_4 ⟨by decide, by decide⟩) hF hex ⟨by decide, by decide⟩ (by decide) w_391 (fun xx H1 locs htq hF => ?_)
    refine lv_astore (lv' := [(5, .ref xx), (0, .ref b), (1, .int x1), (2, .int x2), (3, .long v)]) hx hb d_Law_power_10 hl (by decide) rfl (fun ls hl => ?_)
    refine lv_iconst (v := nI 1) hx hb d_Law_power_12 (by decide) ?_
    exact q_iret E hr hlk (⟨_, rfl, Or.inr ⟨hok, rfl⟩, fun q h9 => htq.2.1 q (n_511 hsz h9)⟩) hF d_Law_power_13
set_option maxHeartbeats 4000000 in
set_option maxRecDepth 100000 in
theorem h_unity (l : Launch) (g : WG) (s0 : State) (hxs : XS l s0) (b : Nat) (mr mq : Int64) (hb0 : s0.heap.size ≤ b) (x1 : Int32) (x2 : Int32) : CtrH l y_Law_unity (.codeWith y_Law_unity method_9_code 4 (some FieldType.int) [(0, 6, 9, 13)]) 8 204 1 6 (HXA s0) g s0 [.ref b, .int x1, .int x2] (fun H => LSt g s0 H b mr mq) (QI (fun r H H' => (((okS x1 (nI 1) ∧ okC x2 (nI 0) (nI 32)) ∧ r = nI 0) ∨ (¬ (okS x1 (nI 1) ∧ okC x2 (nI 0) (nI 32)) ∧ r = nI 1)) ∧ ∀ q, kM b q → H'[q]? = H[q]?)) := by
  refine ctrH_mk l (lv0 := [(0, .ref b), (1, .int x1), (2, .int x2)]) (by decide) (Nat.le_of_ble_eq_true rfl) rfl ?_
  intro p e s m below meth c ls E hw0 hr hlk hex hl hP
  have hx := E.1
  have hb := E.2.1
  have hK := E.2.2.2.2.2
  have hF : ∀ q ∈ ([] : List Loc), HXA s0 q.base := fun q hq => absurd hq List.not_mem_nil
  obtain ⟨hold, hsz, hd1, hd2, hfr, f0, hA⟩ := hP
  by_cases hok : okS x1 (nI 1) ∧ okC x2 (nI 0) (nI 32)
  · skip
    obtain ⟨k1, rfl, q1⟩ := okS_nat (by decide) (by decide) hok.1
    obtain ⟨k2, rfl, l2, q2⟩ := okC_nat (by decide) (by decide) hok.2
    refine lv_aload_n hx hb d_Law_unity_0 rfl (lv_at hl 0 rfl) ?_
    refine lv_iload_n hx hb d_Law_unity_1 rfl (lv_at hl 1 rfl) ?_
    refine lv_iload_n hx hb d_Law_unity_2 rfl (lv_at hl 2 rfl) ?_
    refine q_cV (rest := []) E ((c_Desk_unity l g (nD b) b mr mq k1 k2 q1 q2).up (nD_up hb0)) w_596 w_1 w_593 w_594 w_595 hd_Desk_unity rfl ⟨by decide, by decide⟩ (OB.recv E.2.2.2.2.2 (by rfl) hd1.ob) (⟨hd1, hfr⟩) hF hl.1 rfl (Nat.le_of_ble_eq_true rfl) d_Law_unity_3 ⟨by decide, by decide⟩ (qv (fun H1 locs hq hF => ?_))
    refine lv_goto (tgt := 12) hx hb d_Law_unity_6 (by decide) ?_
    refine lv_iconst (v := nI 0) hx hb d_Law_unity_12 (by decide) ?_
    refine W.widen (k := 1) (n := 6) (by decide) (by decide) ?_
    exact q_iret E hr hlk (⟨_, rfl, Or.inl ⟨hok, rfl⟩, fun q h9 => hq.2 q (nD_m h9)⟩) hF d_Law_unity_13
  · skip
    refine lv_aload_n hx hb d_Law_unity_0 rfl (lv_at hl 0 rfl) ?_
    refine lv_iload_n hx hb d_Law_unity_1 rfl (lv_at hl 1 rfl) ?_
    refine lv_iload_n hx hb d_Law_unity_2 rfl (lv_at hl 2 rfl) ?_
    refine q_catch E hw0 (q_runVT (rest := []) E hw0 (t_Desk_unity l g (HXA s0) s0 hxs b x1 x2 ((nb hok).imp id okC_bad)) w_596 w_1 w_593 w_594 w_595 hd_Desk_unity rfl ⟨by decide, by decide⟩ (OB.recv E.2.2.2.2.2 (by rfl) hd2.ob) (⟨hold, (show s0.heap.size ≤ s.heap.size by rw [hsz]; exact Nat.le_trans hb0 (Nat.le_add_right _ _))⟩) hl.1 rfl (Nat.le_of_ble_eq_true rfl) d_Law_unity_3 ⟨by decide, by decide⟩) hF hex ⟨by decide, by decide⟩ (by decide) w_391 (fun xx H1 locs htq hF => ?_)
    refine lv_astore_n (lv' := [(3, .ref xx), (0, .ref b), (1, .int x1), (2, .int x2)]) hx hb d_Law_unity_9 rfl hl (by decide) rfl (fun ls hl => ?_)
    refine lv_iconst (v := nI 1) hx hb d_Law_unity_10 (by decide) ?_
    exact q_iret E hr hlk (⟨_, rfl, Or.inr ⟨hok, rfl⟩, fun q h9 => htq.2.1 q (n_511 hsz h9)⟩) hF d_Law_unity_11
set_option maxHeartbeats 4000000 in
set_option maxRecDepth 100000 in
theorem h_point (l : Launch) (g : WG) (s0 : State) (hxs : XS l s0) (b : Nat) (mr mq : Int64) (hb0 : s0.heap.size ≤ b) (x1 : Int32) : CtrH l y_Law_point (.codeWith y_Law_point method_10_code 4 (some FieldType.int) [(0, 9, 12, 13)]) 8 126 1 6 (HXA s0) g s0 [.ref b, .int x1, .ref (b + 510)] (fun H => LSt g s0 H b mr mq) (QI (fun r H H' => (((okP x1 (nI 1)) ∧ r = nI 0 ∧ AJ g H' (b + 510) 1 (fun _ => (1 : Int32).toInt64)) ∨ (¬ (okP x1 (nI 1)) ∧ r = nI 1)) ∧ ∀ q, kM b q → H'[q]? = H[q]?)) := by
  refine ctrH_mk l (lv0 := [(0, .ref b), (1, .int x1), (2, .ref (b + 510))]) (by decide) (Nat.le_of_ble_eq_true rfl) rfl ?_
  intro p e s m below meth c ls E hw0 hr hlk hex hl hP
  have hx := E.1
  have hb := E.2.1
  have hK := E.2.2.2.2.2
  have hF : ∀ q ∈ ([] : List Loc), HXA s0 q.base := fun q hq => absurd hq List.not_mem_nil
  obtain ⟨hold, hsz, hd1, hd2, hfr, f0, hA⟩ := hP
  by_cases hok : okP x1 (nI 1)
  · skip
    obtain ⟨k1, rfl, q1⟩ := okP_nat (by decide) (by decide) hok
    refine lv_aload_n hx hb d_Law_point_0 rfl (lv_at hl 2 rfl) ?_
    refine lv_iconst (v := nI 0) hx hb d_Law_point_1 (by decide) ?_
    refine lv_aload_n hx hb d_Law_point_2 rfl (lv_at hl 0 rfl) ?_
    refine lv_iload_n hx hb d_Law_point_3 rfl (lv_at hl 1 rfl) ?_
    refine q_cV (rest := [.int (nI 0), .ref (b + 510)]) E ((c_Desk_point l g (nD b) b mr mq k1 q1).up (nD_up hb0)) w_619 w_1 w_616 w_617 w_618 hd_Desk_point rfl ⟨by decide, by decide⟩ (OB.recv E.2.2.2.2.2 (by rfl) hd1.ob) (⟨hd1, hfr⟩) hF hl.1 rfl (Nat.le_of_ble_eq_true rfl) d_Law_point_4 ⟨by decide, by decide⟩ (qi (fun r0 H1 locs hq hF => ?_))
    obtain ⟨rfl, hq⟩ := hq
    refine lv_i2l (v := (1 : Int32).toInt64) hx hb d_Law_point_7 rfl ?_
    refine q_last (N := 1) E (AJ.off hq nD_510 hA) (Nat.le_trans hb0 (Nat.le_add_right _ _)) hF 0 rfl (by decide) (by decide) d_Law_point_8 (fun H2 locs hq2 hA2 hF => ?_)
    refine lv_goto (tgt := 15) hx hb d_Law_point_9 (by decide) ?_
    refine lv_iconst (v := nI 0) hx hb d_Law_point_15 (by decide) ?_
    refine W.widen (k := 1) (n := 6) (by decide) (by decide) ?_
    exact q_iret E hr hlk (⟨_, rfl, Or.inl ⟨hok, rfl, hA2.one⟩, fun q h9 => (hq2.off (n_510 h9)).trans (hq.2 q (nD_m h9))⟩) hF d_Law_point_16
  · skip
    refine lv_aload_n hx hb d_Law_point_0 rfl (lv_at hl 2 rfl) ?_
    refine lv_iconst (v := nI 0) hx hb d_Law_point_1 (by decide) ?_
    refine lv_aload_n hx hb d_Law_point_2 rfl (lv_at hl 0 rfl) ?_
    refine lv_iload_n hx hb d_Law_point_3 rfl (lv_at hl 1 rfl) ?_
    refine q_catch E hw0 (q_runVT (rest := [.int (nI 0), .ref (b + 510)]) E hw0 (t_Desk_point l g (HXA s0) s0 hxs b x1 (hok)) w_619 w_1 w_616 w_617 w_618 hd_Desk_point rfl ⟨by decide, by decide⟩ (OB.recv E.2.2.2.2.2 (by rfl) hd2.ob) (⟨hold, (show s0.heap.size ≤ s.heap.size by rw [hsz]; exact Nat.le_trans hb0 (Nat.le_add_right _ _))⟩) hl.1 rfl (Nat.le_of_ble_eq_true rfl) d_Law_point_4 ⟨by decide, by decide⟩) hF hex ⟨by decide, by decide⟩ (by decide) w_391 (fun xx H1 locs htq hF => ?_)
    refine lv_astore_n (lv' := [(3, .ref xx), (0, .ref b), (1, .int x1), (2, .ref (b + 510))]) hx hb d_Law_point_12 rfl hl (by decide) rfl (fun ls hl => ?_)
    refine lv_iconst (v := nI 1) hx hb d_Law_point_13 (by decide) ?_
    exact q_iret E hr hlk (⟨_, rfl, Or.inr ⟨hok, rfl⟩, fun q h9 => htq.2.1 q (n_511 hsz h9)⟩) hF d_Law_point_14
set_option maxHeartbeats 4000000 in
set_option maxRecDepth 100000 in
theorem h_bytes (l : Launch) (g : WG) (s0 : State) (hxs : XS l s0) (b : Nat) (mr mq : Int64) (hb0 : s0.heap.size ≤ b) (x1 : Int32) (x2 : Int32) : CtrH l y_Law_bytes (.codeWith y_Law_bytes method_11_code 4 (some FieldType.int) [(0, 6, 9, 13)]) 8 126 1 6 (HXA s0) g s0 [.ref b, .int x1, .int x2] (fun H => LSt g s0 H b mr mq) (QI (fun r H H' => (((okP x1 (nI 1)) ∧ r = nI 0) ∨ (¬ (okP x1 (nI 1)) ∧ r = nI 1)) ∧ ∀ q, kM b q → H'[q]? = H[q]?)) := by
  refine ctrH_mk l (lv0 := [(0, .ref b), (1, .int x1), (2, .int x2)]) (by decide) (Nat.le_of_ble_eq_true rfl) rfl ?_
  intro p e s m below meth c ls E hw0 hr hlk hex hl hP
  have hx := E.1
  have hb := E.2.1
  have hK := E.2.2.2.2.2
  have hF : ∀ q ∈ ([] : List Loc), HXA s0 q.base := fun q hq => absurd hq List.not_mem_nil
  obtain ⟨hold, hsz, hd1, hd2, hfr, f0, hA⟩ := hP
  by_cases hok : okP x1 (nI 1)
  · skip
    obtain ⟨k1, rfl, q1⟩ := okP_nat (by decide) (by decide) hok
    refine lv_aload_n hx hb d_Law_bytes_0 rfl (lv_at hl 0 rfl) ?_
    refine lv_iload_n hx hb d_Law_bytes_1 rfl (lv_at hl 1 rfl) ?_
    refine lv_iload_n hx hb d_Law_bytes_2 rfl (lv_at hl 2 rfl) ?_
    refine q_cV (rest := []) E ((c_Desk_bytes l g (nD b) b mr mq k1 x2 q1).up (nD_up hb0)) w_737 w_1 w_734 w_735 w_736 hd_Desk_bytes rfl ⟨by decide, by decide⟩ (OB.recv E.2.2.2.2.2 (by rfl) hd1.ob) (⟨hd1, hfr⟩) hF hl.1 rfl (Nat.le_of_ble_eq_true rfl) d_Law_bytes_3 ⟨by decide, by decide⟩ (qv (fun H1 locs hq hF => ?_))
    refine lv_goto (tgt := 12) hx hb d_Law_bytes_6 (by decide) ?_
    refine lv_iconst (v := nI 0) hx hb d_Law_bytes_12 (by decide) ?_
    refine W.widen (k := 1) (n := 6) (by decide) (by decide) ?_
    exact q_iret E hr hlk (⟨_, rfl, Or.inl ⟨hok, rfl⟩, fun q h9 => hq.2 q (nD_m h9)⟩) hF d_Law_bytes_13
  · skip
    refine lv_aload_n hx hb d_Law_bytes_0 rfl (lv_at hl 0 rfl) ?_
    refine lv_iload_n hx hb d_Law_bytes_1 rfl (lv_at hl 1 rfl) ?_
    refine lv_iload_n hx hb d_Law_bytes_2 rfl (lv_at hl 2 rfl) ?_
    refine q_catch E hw0 (q_runVT (rest := []) E hw0 (t_Desk_bytes l g (HXA s0) s0 hxs b x1 x2 (hok)) w_737 w_1 w_734 w_735 w_736 hd_Desk_bytes rfl ⟨by decide, by decide⟩ (OB.recv E.2.2.2.2.2 (by rfl) hd2.ob) (⟨hold, (show s0.heap.size ≤ s.heap.size by rw [hsz]; exact Nat.le_trans hb0 (Nat.le_add_right _ _))⟩) hl.1 rfl (Nat.le_of_ble_eq_true rfl) d_Law_bytes_3 ⟨by decide, by decide⟩) hF hex ⟨by decide, by decide⟩ (by decide) w_391 (fun xx H1 locs htq hF => ?_)
    refine lv_astore_n (lv' := [(3, .ref xx), (0, .ref b), (1, .int x1), (2, .int x2)]) hx hb d_Law_bytes_9 rfl hl (by decide) rfl (fun ls hl => ?_)
    refine lv_iconst (v := nI 1) hx hb d_Law_bytes_10 (by decide) ?_
    exact q_iret E hr hlk (⟨_, rfl, Or.inr ⟨hok, rfl⟩, fun q h9 => htq.2.1 q (n_511 hsz h9)⟩) hF d_Law_bytes_11
set_option maxHeartbeats 4000000 in
set_option maxRecDepth 100000 in
theorem h_out (l : Launch) (g : WG) (s0 : State) (hxs : XS l s0) (b : Nat) (mr mq : Int64) (hb0 : s0.heap.size ≤ b) (x1 : Int32) : CtrH l y_Law_out (.codeWith y_Law_out method_12_code 4 (some FieldType.int) [(0, 8, 11, 55)]) 8 128 1 6 (HXA s0) g s0 [.ref b, .int x1, .ref (b + 510)] (fun H => LSt g s0 H b mr mq) (QI (fun r H H' => r = nI 1 ∧ ∀ q, kM b q → H'[q]? = H[q]?)) := by
  refine ctrH_mk l (lv0 := [(0, .ref b), (1, .int x1), (2, .ref (b + 510))]) (by decide) (Nat.le_of_ble_eq_true rfl) rfl ?_
  intro p e s m below meth c ls E hw0 hr hlk hex hl hP
  have hx := E.1
  have hb := E.2.1
  have hK := E.2.2.2.2.2
  have hF : ∀ q ∈ ([] : List Loc), HXA s0 q.base := fun q hq => absurd hq List.not_mem_nil
  obtain ⟨hold, hsz, hd1, hd2, hfr, f0, hA⟩ := hP
  refine lv_aload_n hx hb d_Law_out_0 rfl (lv_at hl 2 rfl) ?_
  refine lv_iconst (v := nI 0) hx hb d_Law_out_1 (by decide) ?_
  refine lv_aload_n hx hb d_Law_out_2 rfl (lv_at hl 0 rfl) ?_
  refine lv_iload_n hx hb d_Law_out_3 rfl (lv_at hl 1 rfl) ?_
  refine q_catch E hw0 (q_runVT (rest := [.int (nI 0), .ref (b + 510)]) E hw0 (t_Desk_out l g (HXA s0) s0 hxs b x1 mr mq) w_756 w_1 w_753 w_754 w_755 hd_Desk_out rfl ⟨by decide, by decide⟩ (OB.recv E.2.2.2.2.2 (by rfl) hd2.ob) (⟨hold, (show s0.heap.size ≤ s.heap.size by rw [hsz]; exact Nat.le_trans hb0 (Nat.le_add_right _ _)), hd2⟩) hl.1 rfl (Nat.le_of_ble_eq_true rfl) d_Law_out_4 ⟨by decide, by decide⟩) hF hex ⟨by decide, by decide⟩ (by decide) w_752 (fun xx H1 locs htq hF => ?_)
  refine lv_astore_n (lv' := [(3, .ref xx), (0, .ref b), (1, .int x1), (2, .ref (b + 510))]) hx hb d_Law_out_11 rfl hl (by decide) rfl (fun ls hl => ?_)
  refine lv_iconst (v := nI 1) hx hb d_Law_out_12 (by decide) ?_
  exact q_iret E hr hlk (⟨_, rfl, rfl, fun q h9 => htq.2.1 q (n_511 hsz h9)⟩) hF d_Law_out_13
set_option maxHeartbeats 4000000 in
set_option maxRecDepth 100000 in
theorem h_join (l : Launch) (g : WG) (s0 : State) (hxs : XS l s0) (b : Nat) (mr mq : Int64) (hb0 : s0.heap.size ≤ b) (x1 : Int32) (x2 : Int32) (x3 : Int32) (x4 : Int32) : CtrH l y_Law_join (.codeWith y_Law_join method_13_code 6 (some FieldType.int) [(0, 9, 12, 13)]) 8 211 1 6 (HXA s0) g s0 [.ref b, .int x1, .int x2, .int x3, .int x4] (fun H => LSt g s0 H b mr mq) (QI (fun r H H' => (((okC x1 (nI 0) (nI 3) ∧ okP x2 (nI 1) ∧ okP x3 (nI 1) ∧ okP x4 (nI 1)) ∧ r = nI 0) ∨ (¬ (okC x1 (nI 0) (nI 3) ∧ okP x2 (nI 1) ∧ okP x3 (nI 1) ∧ okP x4 (nI 1)) ∧ r = nI 1)) ∧ ∀ q, kM b q → H'[q]? = H[q]?)) := by
  refine ctrH_mk l (lv0 := [(0, .ref b), (1, .int x1), (2, .int x2), (3, .int x3), (4, .int x4)]) (by decide) (Nat.le_of_ble_eq_true rfl) rfl ?_
  intro p e s m below meth c ls E hw0 hr hlk hex hl hP
  have hx := E.1
  have hb := E.2.1
  have hK := E.2.2.2.2.2
  have hF : ∀ q ∈ ([] : List Loc), HXA s0 q.base := fun q hq => absurd hq List.not_mem_nil
  obtain ⟨hold, hsz, hd1, hd2, hfr, f0, hA⟩ := hP
  by_cases hok : okC x1 (nI 0) (nI 3) ∧ okP x2 (nI 1) ∧ okP x3 (nI 1) ∧ okP x4 (nI 1)
  · skip
    obtain ⟨k1, rfl, l1, q1⟩ := okC_nat (by decide) (by decide) hok.1
    obtain ⟨k2, rfl, q2⟩ := okP_nat (by decide) (by decide) hok.2.1
    obtain ⟨k3, rfl, q3⟩ := okP_nat (by decide) (by decide) hok.2.2.1
    obtain ⟨k4, rfl, q4⟩ := okP_nat (by decide) (by decide) hok.2.2.2
    refine lv_aload_n hx hb d_Law_join_0 rfl (lv_at hl 0 rfl) ?_
    refine lv_iload_n hx hb d_Law_join_1 rfl (lv_at hl 1 rfl) ?_
    refine lv_iload_n hx hb d_Law_join_2 rfl (lv_at hl 2 rfl) ?_
    refine lv_iload_n hx hb d_Law_join_3 rfl (lv_at hl 3 rfl) ?_
    refine lv_iload hx hb d_Law_join_4 (lv_at hl 4 rfl) ?_
    refine q_cV (rest := []) E ((c_Desk_join l g (nD b) b mr mq k1 k2 k3 k4 (by omega) q2 q3 q4).up (nD_up hb0)) w_779 w_1 w_776 w_777 w_778 hd_Desk_join rfl ⟨by decide, by decide⟩ (OB.recv E.2.2.2.2.2 (by rfl) hd1.ob) (⟨hd1, hfr⟩) hF hl.1 rfl (Nat.le_of_ble_eq_true rfl) d_Law_join_6 ⟨by decide, by decide⟩ (qv (fun H1 locs hq hF => ?_))
    refine lv_goto (tgt := 16) hx hb d_Law_join_9 (by decide) ?_
    refine lv_iconst (v := nI 0) hx hb d_Law_join_16 (by decide) ?_
    refine W.widen (k := 1) (n := 6) (by decide) (by decide) ?_
    exact q_iret E hr hlk (⟨_, rfl, Or.inl ⟨hok, rfl⟩, fun q h9 => hq.2 q (nD_m h9)⟩) hF d_Law_join_17
  · skip
    refine lv_aload_n hx hb d_Law_join_0 rfl (lv_at hl 0 rfl) ?_
    refine lv_iload_n hx hb d_Law_join_1 rfl (lv_at hl 1 rfl) ?_
    refine lv_iload_n hx hb d_Law_join_2 rfl (lv_at hl 2 rfl) ?_
    refine lv_iload_n hx hb d_Law_join_3 rfl (lv_at hl 3 rfl) ?_
    refine lv_iload hx hb d_Law_join_4 (lv_at hl 4 rfl) ?_
    refine q_catch E hw0 (q_runVT (rest := []) E hw0 (t_Desk_join l g (HXA s0) s0 hxs b x1 x2 x3 x4 ((nb hok).imp id (fun h => (nb h).imp id nb))) w_779 w_1 w_776 w_777 w_778 hd_Desk_join rfl ⟨by decide, by decide⟩ (OB.recv E.2.2.2.2.2 (by rfl) hd2.ob) (⟨hold, (show s0.heap.size ≤ s.heap.size by rw [hsz]; exact Nat.le_trans hb0 (Nat.le_add_right _ _))⟩) hl.1 rfl (Nat.le_of_ble_eq_true rfl) d_Law_join_6 ⟨by decide, by decide⟩) hF hex ⟨by decide, by decide⟩ (by decide) w_391 (fun xx H1 locs htq hF => ?_)
    refine lv_astore (lv' := [(5, .ref xx), (0, .ref b), (1, .int x1), (2, .int x2), (3, .int x3), (4, .int x4)]) hx hb d_Law_join_12 hl (by decide) rfl (fun ls hl => ?_)
    refine lv_iconst (v := nI 1) hx hb d_Law_join_14 (by decide) ?_
    exact q_iret E hr hlk (⟨_, rfl, Or.inr ⟨hok, rfl⟩, fun q h9 => htq.2.1 q (n_511 hsz h9)⟩) hF d_Law_join_15
set_option maxHeartbeats 4000000 in
set_option maxRecDepth 100000 in
theorem h_times (l : Launch) (g : WG) (s0 : State) (hxs : XS l s0) (b : Nat) (mr mq : Int64) (hb0 : s0.heap.size ≤ b) (x1 : Int32) (x2 : Int32) (x3 : Int32) : CtrH l y_Law_times (.codeWith y_Law_times method_14_code 5 (some FieldType.int) [(0, 7, 10, 13)]) 8 151 1 6 (HXA s0) g s0 [.ref b, .int x1, .int x2, .int x3] (fun H => LSt g s0 H b mr mq) (QI (fun r H H' => (((okP x1 (nI 1) ∧ okS x2 (nI 1) ∧ okP x3 (nI 1)) ∧ r = nI 0) ∨ (¬ (okP x1 (nI 1) ∧ okS x2 (nI 1) ∧ okP x3 (nI 1)) ∧ r = nI 1)) ∧ ∀ q, kM b q → H'[q]? = H[q]?)) := by
  refine ctrH_mk l (lv0 := [(0, .ref b), (1, .int x1), (2, .int x2), (3, .int x3)]) (by decide) (Nat.le_of_ble_eq_true rfl) rfl ?_
  intro p e s m below meth c ls E hw0 hr hlk hex hl hP
  have hx := E.1
  have hb := E.2.1
  have hK := E.2.2.2.2.2
  have hF : ∀ q ∈ ([] : List Loc), HXA s0 q.base := fun q hq => absurd hq List.not_mem_nil
  obtain ⟨hold, hsz, hd1, hd2, hfr, f0, hA⟩ := hP
  by_cases hok : okP x1 (nI 1) ∧ okS x2 (nI 1) ∧ okP x3 (nI 1)
  · skip
    obtain ⟨k1, rfl, q1⟩ := okP_nat (by decide) (by decide) hok.1
    obtain ⟨k2, rfl, q2⟩ := okS_nat (by decide) (by decide) hok.2.1
    obtain ⟨k3, rfl, q3⟩ := okP_nat (by decide) (by decide) hok.2.2
    refine lv_aload_n hx hb d_Law_times_0 rfl (lv_at hl 0 rfl) ?_
    refine lv_iload_n hx hb d_Law_times_1 rfl (lv_at hl 1 rfl) ?_
    refine lv_iload_n hx hb d_Law_times_2 rfl (lv_at hl 2 rfl) ?_
    refine lv_iload_n hx hb d_Law_times_3 rfl (lv_at hl 3 rfl) ?_
    refine q_cV (rest := []) E ((c_Desk_times l g (nD b) b mr mq k1 k2 k3 q1 q2 q3).up (nD_up hb0)) w_788 w_1 w_785 w_786 w_787 hd_Desk_times rfl ⟨by decide, by decide⟩ (OB.recv E.2.2.2.2.2 (by rfl) hd1.ob) (⟨hd1, hfr⟩) hF hl.1 rfl (Nat.le_of_ble_eq_true rfl) d_Law_times_4 ⟨by decide, by decide⟩ (qv (fun H1 locs hq hF => ?_))
    refine lv_goto (tgt := 14) hx hb d_Law_times_7 (by decide) ?_
    refine lv_iconst (v := nI 0) hx hb d_Law_times_14 (by decide) ?_
    refine W.widen (k := 1) (n := 6) (by decide) (by decide) ?_
    exact q_iret E hr hlk (⟨_, rfl, Or.inl ⟨hok, rfl⟩, fun q h9 => hq.2 q (nD_m h9)⟩) hF d_Law_times_15
  · skip
    refine lv_aload_n hx hb d_Law_times_0 rfl (lv_at hl 0 rfl) ?_
    refine lv_iload_n hx hb d_Law_times_1 rfl (lv_at hl 1 rfl) ?_
    refine lv_iload_n hx hb d_Law_times_2 rfl (lv_at hl 2 rfl) ?_
    refine lv_iload_n hx hb d_Law_times_3 rfl (lv_at hl 3 rfl) ?_
    refine q_catch E hw0 (q_runVT (rest := []) E hw0 (t_Desk_times l g (HXA s0) s0 hxs b x1 x2 x3 ((nb hok).imp id nb)) w_788 w_1 w_785 w_786 w_787 hd_Desk_times rfl ⟨by decide, by decide⟩ (OB.recv E.2.2.2.2.2 (by rfl) hd2.ob) (⟨hold, (show s0.heap.size ≤ s.heap.size by rw [hsz]; exact Nat.le_trans hb0 (Nat.le_add_right _ _))⟩) hl.1 rfl (Nat.le_of_ble_eq_true rfl) d_Law_times_4 ⟨by decide, by decide⟩) hF hex ⟨by decide, by decide⟩ (by decide) w_391 (fun xx H1 locs htq hF => ?_)
    refine lv_astore (lv' := [(4, .ref xx), (0, .ref b), (1, .int x1), (2, .int x2), (3, .int x3)]) hx hb d_Law_times_10 hl (by decide) rfl (fun ls hl => ?_)
    refine lv_iconst (v := nI 1) hx hb d_Law_times_12 (by decide) ?_
    exact q_iret E hr hlk (⟨_, rfl, Or.inr ⟨hok, rfl⟩, fun q h9 => htq.2.1 q (n_511 hsz h9)⟩) hF d_Law_times_13
set_option maxHeartbeats 4000000 in
set_option maxRecDepth 100000 in
theorem h_combine (l : Launch) (g : WG) (s0 : State) (hxs : XS l s0) (b : Nat) (mr mq : Int64) (hb0 : s0.heap.size ≤ b) (x1 : Int32) (x2 : Int32) (x3 : Int32) (x4 : Int32) : CtrH l y_Law_combine (.codeWith y_Law_combine method_15_code 6 (some FieldType.int) [(0, 9, 12, 13)]) 8 153 1 6 (HXA s0) g s0 [.ref b, .int x1, .int x2, .int x3, .int x4] (fun H => LSt g s0 H b mr mq) (QI (fun r H H' => (((okP x1 (nI 1) ∧ okC x4 (nI 0) (nI 12) ∧ okS x2 x4 ∧ okP x3 x4) ∧ r = nI 0) ∨ (¬ (okP x1 (nI 1) ∧ okC x4 (nI 0) (nI 12) ∧ okS x2 x4 ∧ okP x3 x4) ∧ r = nI 1)) ∧ ∀ q, kM b q → H'[q]? = H[q]?)) := by
  refine ctrH_mk l (lv0 := [(0, .ref b), (1, .int x1), (2, .int x2), (3, .int x3), (4, .int x4)]) (by decide) (Nat.le_of_ble_eq_true rfl) rfl ?_
  intro p e s m below meth c ls E hw0 hr hlk hex hl hP
  have hx := E.1
  have hb := E.2.1
  have hK := E.2.2.2.2.2
  have hF : ∀ q ∈ ([] : List Loc), HXA s0 q.base := fun q hq => absurd hq List.not_mem_nil
  obtain ⟨hold, hsz, hd1, hd2, hfr, f0, hA⟩ := hP
  by_cases hok : okP x1 (nI 1) ∧ okC x4 (nI 0) (nI 12) ∧ okS x2 x4 ∧ okP x3 x4
  · skip
    obtain ⟨k1, rfl, q1⟩ := okP_nat (by decide) (by decide) hok.1
    obtain ⟨k4, rfl, l4, q4⟩ := okC_nat (by decide) (by decide) hok.2.1
    obtain ⟨k2, rfl, q2⟩ := comb_S q4 hok.2.2.1
    obtain ⟨k3, rfl, q3⟩ := comb_P q4 hok.2.2.2
    refine lv_aload_n hx hb d_Law_combine_0 rfl (lv_at hl 0 rfl) ?_
    refine lv_iload_n hx hb d_Law_combine_1 rfl (lv_at hl 1 rfl) ?_
    refine lv_iload_n hx hb d_Law_combine_2 rfl (lv_at hl 2 rfl) ?_
    refine lv_iload_n hx hb d_Law_combine_3 rfl (lv_at hl 3 rfl) ?_
    refine lv_iload hx hb d_Law_combine_4 (lv_at hl 4 rfl) ?_
    refine q_cV (rest := []) E ((c_Desk_combine l g (nD b) b mr mq k1 k2 k3 k4 q1 q4 q2 q3).up (nD_up hb0)) w_795 w_1 w_792 w_793 w_794 hd_Desk_combine rfl ⟨by decide, by decide⟩ (OB.recv E.2.2.2.2.2 (by rfl) hd1.ob) (⟨hd1, hfr⟩) hF hl.1 rfl (Nat.le_of_ble_eq_true rfl) d_Law_combine_6 ⟨by decide, by decide⟩ (qv (fun H1 locs hq hF => ?_))
    refine lv_goto (tgt := 16) hx hb d_Law_combine_9 (by decide) ?_
    refine lv_iconst (v := nI 0) hx hb d_Law_combine_16 (by decide) ?_
    refine W.widen (k := 1) (n := 6) (by decide) (by decide) ?_
    exact q_iret E hr hlk (⟨_, rfl, Or.inl ⟨hok, rfl⟩, fun q h9 => hq.2 q (nD_m h9)⟩) hF d_Law_combine_17
  · skip
    refine lv_aload_n hx hb d_Law_combine_0 rfl (lv_at hl 0 rfl) ?_
    refine lv_iload_n hx hb d_Law_combine_1 rfl (lv_at hl 1 rfl) ?_
    refine lv_iload_n hx hb d_Law_combine_2 rfl (lv_at hl 2 rfl) ?_
    refine lv_iload_n hx hb d_Law_combine_3 rfl (lv_at hl 3 rfl) ?_
    refine lv_iload hx hb d_Law_combine_4 (lv_at hl 4 rfl) ?_
    refine q_catch E hw0 (q_runVT (rest := []) E hw0 (t_Desk_combine l g (HXA s0) s0 hxs b x1 x2 x3 x4 ((nb hok).imp id (fun h => (nb h).imp id nb))) w_795 w_1 w_792 w_793 w_794 hd_Desk_combine rfl ⟨by decide, by decide⟩ (OB.recv E.2.2.2.2.2 (by rfl) hd2.ob) (⟨hold, (show s0.heap.size ≤ s.heap.size by rw [hsz]; exact Nat.le_trans hb0 (Nat.le_add_right _ _))⟩) hl.1 rfl (Nat.le_of_ble_eq_true rfl) d_Law_combine_6 ⟨by decide, by decide⟩) hF hex ⟨by decide, by decide⟩ (by decide) w_391 (fun xx H1 locs htq hF => ?_)
    refine lv_astore (lv' := [(5, .ref xx), (0, .ref b), (1, .int x1), (2, .int x2), (3, .int x3), (4, .int x4)]) hx hb d_Law_combine_12 hl (by decide) rfl (fun ls hl => ?_)
    refine lv_iconst (v := nI 1) hx hb d_Law_combine_14 (by decide) ?_
    exact q_iret E hr hlk (⟨_, rfl, Or.inr ⟨hok, rfl⟩, fun q h9 => htq.2.1 q (n_511 hsz h9)⟩) hF d_Law_combine_15
set_option maxHeartbeats 4000000 in
set_option maxRecDepth 100000 in
theorem h_same (l : Launch) (g : WG) (s0 : State) (hxs : XS l s0) (b : Nat) (mr mq : Int64) (hb0 : s0.heap.size ≤ b) (x1 : Int32) (x2 : Int32) : CtrH l y_Law_same (.codeWith y_Law_same method_16_code 5 (some FieldType.int) [(0, 17, 20, 13)]) 8 203 1 6 (HXA s0) g s0 [.ref b, .int x1, .int x2, .ref (b + 510)] (fun H => LSt g s0 H b mr mq) (QI (fun r H H' => (((okP x1 (nI 1) ∧ okP x2 (nI 1)) ∧ r = nI 0 ∧ AJ g H' (b + 510) 1 (fun _ => 1)) ∨ (¬ (okP x1 (nI 1) ∧ okP x2 (nI 1)) ∧ r = nI 1)) ∧ ∀ q, kM b q → H'[q]? = H[q]?)) := by
  refine ctrH_mk l (lv0 := [(0, .ref b), (1, .int x1), (2, .int x2), (3, .ref (b + 510))]) (by decide) (Nat.le_of_ble_eq_true rfl) rfl ?_
  intro p e s m below meth c ls E hw0 hr hlk hex hl hP
  have hx := E.1
  have hb := E.2.1
  have hK := E.2.2.2.2.2
  have hF : ∀ q ∈ ([] : List Loc), HXA s0 q.base := fun q hq => absurd hq List.not_mem_nil
  obtain ⟨hold, hsz, hd1, hd2, hfr, f0, hA⟩ := hP
  by_cases hok : okP x1 (nI 1) ∧ okP x2 (nI 1)
  · skip
    obtain ⟨k1, rfl, q1⟩ := okP_nat (by decide) (by decide) hok.1
    obtain ⟨k2, rfl, q2⟩ := okP_nat (by decide) (by decide) hok.2
    refine lv_aload_n hx hb d_Law_same_0 rfl (lv_at hl 3 rfl) ?_
    refine lv_iconst (v := nI 0) hx hb d_Law_same_1 (by decide) ?_
    refine lv_aload_n hx hb d_Law_same_2 rfl (lv_at hl 0 rfl) ?_
    refine lv_iload_n hx hb d_Law_same_3 rfl (lv_at hl 1 rfl) ?_
    refine lv_iload_n hx hb d_Law_same_4 rfl (lv_at hl 2 rfl) ?_
    refine q_cV (rest := [.int (nI 0), .ref (b + 510)]) E ((c_Desk_same l g (nD b) b mr mq k1 k2 q1 q2).up (nD_up hb0)) w_806 w_1 w_803 w_804 w_805 hd_Desk_same rfl ⟨by decide, by decide⟩ (OB.recv E.2.2.2.2.2 (by rfl) hd1.ob) (⟨hd1, hfr⟩) hF hl.1 rfl (Nat.le_of_ble_eq_true rfl) d_Law_same_5 ⟨by decide, by decide⟩ (qi (fun r0 H1 locs hq hF => ?_))
    obtain ⟨rfl, hq⟩ := hq
    refine lv_if_eq (tgt := 15) hx hb d_Law_same_8 (by decide) (fun h9 => absurd h9 (by decide)) (fun _ => ?_)
    refine lv_lconst (v := 1) hx hb d_Law_same_11 (by decide) ?_
    refine lv_goto (tgt := 16) hx hb d_Law_same_12 (by decide) ?_
    refine q_last (N := 1) E (AJ.off hq nD_510 hA) (Nat.le_trans hb0 (Nat.le_add_right _ _)) hF 0 rfl (by decide) (by decide) d_Law_same_16 (fun H2 locs hq2 hA2 hF => ?_)
    refine lv_goto (tgt := 24) hx hb d_Law_same_17 (by decide) ?_
    refine lv_iconst (v := nI 0) hx hb d_Law_same_24 (by decide) ?_
    refine W.widen (k := 1) (n := 6) (by decide) (by decide) ?_
    exact q_iret E hr hlk (⟨_, rfl, Or.inl ⟨hok, rfl, hA2.one⟩, fun q h9 => (hq2.off (n_510 h9)).trans (hq.2 q (nD_m h9))⟩) hF d_Law_same_25
  · skip
    refine lv_aload_n hx hb d_Law_same_0 rfl (lv_at hl 3 rfl) ?_
    refine lv_iconst (v := nI 0) hx hb d_Law_same_1 (by decide) ?_
    refine lv_aload_n hx hb d_Law_same_2 rfl (lv_at hl 0 rfl) ?_
    refine lv_iload_n hx hb d_Law_same_3 rfl (lv_at hl 1 rfl) ?_
    refine lv_iload_n hx hb d_Law_same_4 rfl (lv_at hl 2 rfl) ?_
    refine q_catch E hw0 (q_runVT (rest := [.int (nI 0), .ref (b + 510)]) E hw0 (t_Desk_same l g (HXA s0) s0 hxs b x1 x2 (nb hok)) w_806 w_1 w_803 w_804 w_805 hd_Desk_same rfl ⟨by decide, by decide⟩ (OB.recv E.2.2.2.2.2 (by rfl) hd2.ob) (⟨hold, (show s0.heap.size ≤ s.heap.size by rw [hsz]; exact Nat.le_trans hb0 (Nat.le_add_right _ _))⟩) hl.1 rfl (Nat.le_of_ble_eq_true rfl) d_Law_same_5 ⟨by decide, by decide⟩) hF hex ⟨by decide, by decide⟩ (by decide) w_391 (fun xx H1 locs htq hF => ?_)
    refine lv_astore (lv' := [(4, .ref xx), (0, .ref b), (1, .int x1), (2, .int x2), (3, .ref (b + 510))]) hx hb d_Law_same_20 hl (by decide) rfl (fun ls hl => ?_)
    refine lv_iconst (v := nI 1) hx hb d_Law_same_22 (by decide) ?_
    exact q_iret E hr hlk (⟨_, rfl, Or.inr ⟨hok, rfl⟩, fun q h9 => htq.2.1 q (n_511 hsz h9)⟩) hF d_Law_same_23
set_option maxHeartbeats 4000000 in
set_option maxRecDepth 100000 in
theorem h_setup (l : Launch) (g : WG) (s0 : State) (hxs : XS l s0) (b : Nat) (mr mq : Int64) (hb0 : s0.heap.size ≤ b) (x1 : Int32) (x2 : Int32) : CtrH l y_Law_setup (.codeWith y_Law_setup method_17_code 4 (some FieldType.int) [(0, 6, 9, 13)]) 8 256 1 6 (HXA s0) g s0 [.ref b, .int x1, .int x2] (fun H => LSt g s0 H b mr mq) (QI (fun r H H' => (((okS x1 (nI 1) ∧ okC x2 (nI 1) (nI 16)) ∧ r = nI 0) ∨ (¬ (okS x1 (nI 1) ∧ okC x2 (nI 1) (nI 16)) ∧ r = nI 1)) ∧ ∀ q, kM b q → H'[q]? = H[q]?)) := by
  refine ctrH_mk l (lv0 := [(0, .ref b), (1, .int x1), (2, .int x2)]) (by decide) (Nat.le_of_ble_eq_true rfl) rfl ?_
  intro p e s m below meth c ls E hw0 hr hlk hex hl hP
  have hx := E.1
  have hb := E.2.1
  have hK := E.2.2.2.2.2
  have hF : ∀ q ∈ ([] : List Loc), HXA s0 q.base := fun q hq => absurd hq List.not_mem_nil
  obtain ⟨hold, hsz, hd1, hd2, hfr, f0, hA⟩ := hP
  by_cases hok : okS x1 (nI 1) ∧ okC x2 (nI 1) (nI 16)
  · skip
    obtain ⟨k1, rfl, q1⟩ := okS_nat (by decide) (by decide) hok.1
    obtain ⟨k2, rfl, l2, q2⟩ := okC_nat (by decide) (by decide) hok.2
    refine lv_aload_n hx hb d_Law_setup_0 rfl (lv_at hl 0 rfl) ?_
    refine lv_iload_n hx hb d_Law_setup_1 rfl (lv_at hl 1 rfl) ?_
    refine lv_iload_n hx hb d_Law_setup_2 rfl (lv_at hl 2 rfl) ?_
    refine q_cV (rest := []) E ((c_Desk_setup l g (nD b) b mr mq k1 k2 q1 l2 q2).up (nD_up hb0)) w_822 w_1 w_819 w_820 w_821 hd_Desk_setup rfl ⟨by decide, by decide⟩ (OB.recv E.2.2.2.2.2 (by rfl) hd1.ob) (⟨hd1, hfr⟩) hF hl.1 rfl (Nat.le_of_ble_eq_true rfl) d_Law_setup_3 ⟨by decide, by decide⟩ (qv (fun H1 locs hq hF => ?_))
    refine lv_goto (tgt := 12) hx hb d_Law_setup_6 (by decide) ?_
    refine lv_iconst (v := nI 0) hx hb d_Law_setup_12 (by decide) ?_
    refine W.widen (k := 1) (n := 6) (by decide) (by decide) ?_
    exact q_iret E hr hlk (⟨_, rfl, Or.inl ⟨hok, rfl⟩, fun q h9 => hq.2 q (nD_m h9)⟩) hF d_Law_setup_13
  · skip
    refine lv_aload_n hx hb d_Law_setup_0 rfl (lv_at hl 0 rfl) ?_
    refine lv_iload_n hx hb d_Law_setup_1 rfl (lv_at hl 1 rfl) ?_
    refine lv_iload_n hx hb d_Law_setup_2 rfl (lv_at hl 2 rfl) ?_
    refine q_catch E hw0 (q_runVT (rest := []) E hw0 (t_Desk_setup l g (HXA s0) s0 hxs b x1 x2 (nb hok)) w_822 w_1 w_819 w_820 w_821 hd_Desk_setup rfl ⟨by decide, by decide⟩ (OB.recv E.2.2.2.2.2 (by rfl) hd2.ob) (⟨hold, (show s0.heap.size ≤ s.heap.size by rw [hsz]; exact Nat.le_trans hb0 (Nat.le_add_right _ _))⟩) hl.1 rfl (Nat.le_of_ble_eq_true rfl) d_Law_setup_3 ⟨by decide, by decide⟩) hF hex ⟨by decide, by decide⟩ (by decide) w_391 (fun xx H1 locs htq hF => ?_)
    refine lv_astore_n (lv' := [(3, .ref xx), (0, .ref b), (1, .int x1), (2, .int x2)]) hx hb d_Law_setup_9 rfl hl (by decide) rfl (fun ls hl => ?_)
    refine lv_iconst (v := nI 1) hx hb d_Law_setup_10 (by decide) ?_
    exact q_iret E hr hlk (⟨_, rfl, Or.inr ⟨hok, rfl⟩, fun q h9 => htq.2.1 q (n_511 hsz h9)⟩) hF d_Law_setup_11
set_option maxHeartbeats 4000000 in
set_option maxRecDepth 100000 in
theorem h_commit (l : Launch) (g : WG) (s0 : State) (hxs : XS l s0) (b : Nat) (mr mq : Int64) (hb0 : s0.heap.size ≤ b) (x1 x2 x3 : Int32) (hno : va_Nc "java/lang/IllegalStateException" "java/lang/IllegalArgumentException" s0) : CtrH l y_Law_commit (.codeWith y_Law_commit method_18_code 5 (some FieldType.int) [(0, 7, 10, 13), (0, 7, 14, 15)]) 8 152 1 6 (HXA s0) g s0 [.ref b, .int x1, .int x2, .int x3] (fun H => LSt g s0 H b mr mq) (QI (fun r H H' => (((okP x1 (nI 1) ∧ okC x3 (nI 0) (nI 16) ∧ okS x2 x3) ∧ ((x3 ≤ 0 ∧ r = nI 0) ∨ (¬ x3 ≤ 0 ∧ r = nI 2))) ∨ (¬ (okP x1 (nI 1) ∧ okC x3 (nI 0) (nI 16) ∧ okS x2 x3) ∧ r = nI 1)) ∧ ∀ q, kM b q → H'[q]? = H[q]?)) := by
  refine ctrH_mk l (lv0 := [(0, .ref b), (1, .int x1), (2, .int x2), (3, .int x3)]) (by decide) (Nat.le_of_ble_eq_true rfl) rfl ?_
  intro p e s m below meth c ls E hw0 hr hlk hex hl hP
  have hx := E.1
  have hb := E.2.1
  have hK := E.2.2.2.2.2
  have hF : ∀ q ∈ ([] : List Loc), HXA s0 q.base := fun q hq => absurd hq List.not_mem_nil
  obtain ⟨hold, hsz, hd1, hd2, hfr, f0, hA⟩ := hP
  by_cases hok : okP x1 (nI 1) ∧ okC x3 (nI 0) (nI 16) ∧ okS x2 x3
  · skip
    by_cases h3 : x3 ≤ 0
    · skip
      obtain rfl : x3 = nI 0 := com_0 hok.2.1 h3
      obtain ⟨k1, rfl, q1⟩ := okP_nat (by decide) (by decide) hok.1
      refine lv_aload_n hx hb d_Law_commit_0 rfl (lv_at hl 0 rfl) ?_
      refine lv_iload_n hx hb d_Law_commit_1 rfl (lv_at hl 1 rfl) ?_
      refine lv_iload_n hx hb d_Law_commit_2 rfl (lv_at hl 2 rfl) ?_
      refine lv_iload_n hx hb d_Law_commit_3 rfl (lv_at hl 3 rfl) ?_
      refine q_cV (rest := []) E ((c_Desk_commit l g (nD b) b mr mq k1 x2 q1).up (nD_up hb0)) w_840 w_1 w_837 w_838 w_839 hd_Desk_commit rfl ⟨by decide, by decide⟩ (OB.recv E.2.2.2.2.2 (by rfl) hd1.ob) (⟨hd1, hfr⟩) hF hl.1 rfl (Nat.le_of_ble_eq_true rfl) d_Law_commit_4 ⟨by decide, by decide⟩ (qv (fun H1 locs hq hF => ?_))
      refine lv_goto (tgt := 18) hx hb d_Law_commit_7 (by decide) ?_
      refine lv_iconst (v := nI 0) hx hb d_Law_commit_18 (by decide) ?_
      refine W.widen (k := 1) (n := 6) (by decide) (by decide) ?_
      exact q_iret E hr hlk (⟨_, rfl, Or.inl ⟨hok, Or.inl ⟨h3, rfl⟩⟩, fun q h9 => hq.2 q (nD_m h9)⟩) hF d_Law_commit_19
    · skip
      refine lv_aload_n hx hb d_Law_commit_0 rfl (lv_at hl 0 rfl) ?_
      refine lv_iload_n hx hb d_Law_commit_1 rfl (lv_at hl 1 rfl) ?_
      refine lv_iload_n hx hb d_Law_commit_2 rfl (lv_at hl 2 rfl) ?_
      refine lv_iload_n hx hb d_Law_commit_3 rfl (lv_at hl 3 rfl) ?_
      refine q_catch2 E hw0 (q_runVT (rest := []) E hw0 (t_Desk_commitS l g (HXA s0) s0 hxs b x1 x2 x3 mr mq hok.1 hok.2.1 hok.2.2 h3) w_840 w_1 w_837 w_838 w_839 hd_Desk_commit rfl ⟨by decide, by decide⟩ (OB.recv E.2.2.2.2.2 (by rfl) hd2.ob) (⟨hold, (show s0.heap.size ≤ s.heap.size by rw [hsz]; exact Nat.le_trans hb0 (Nat.le_add_right _ _)), hd2⟩) hl.1 rfl (Nat.le_of_ble_eq_true rfl) d_Law_commit_4 ⟨by decide, by decide⟩) hF hex (by decide) w_391 hno ⟨by decide, by decide⟩ (by decide) w_392 (fun xx H1 locs htq hF => ?_)
      refine lv_astore (lv' := [(4, .ref xx), (0, .ref b), (1, .int x1), (2, .int x2), (3, .int x3)]) hx hb d_Law_commit_14 hl (by decide) rfl (fun ls hl => ?_)
      refine lv_iconst (v := nI 2) hx hb d_Law_commit_16 (by decide) ?_
      exact q_iret E hr hlk (⟨_, rfl, Or.inl ⟨hok, Or.inr ⟨h3, rfl⟩⟩, fun q h9 => htq.2.1 q (n_511 hsz h9)⟩) hF d_Law_commit_17
  · skip
    refine lv_aload_n hx hb d_Law_commit_0 rfl (lv_at hl 0 rfl) ?_
    refine lv_iload_n hx hb d_Law_commit_1 rfl (lv_at hl 1 rfl) ?_
    refine lv_iload_n hx hb d_Law_commit_2 rfl (lv_at hl 2 rfl) ?_
    refine lv_iload_n hx hb d_Law_commit_3 rfl (lv_at hl 3 rfl) ?_
    refine q_catch E hw0 (q_runVT (rest := []) E hw0 (t_Desk_commit l g (HXA s0) s0 hxs b x1 x2 x3 ((nb hok).imp id nb)) w_840 w_1 w_837 w_838 w_839 hd_Desk_commit rfl ⟨by decide, by decide⟩ (OB.recv E.2.2.2.2.2 (by rfl) hd2.ob) (⟨hold, (show s0.heap.size ≤ s.heap.size by rw [hsz]; exact Nat.le_trans hb0 (Nat.le_add_right _ _))⟩) hl.1 rfl (Nat.le_of_ble_eq_true rfl) d_Law_commit_4 ⟨by decide, by decide⟩) hF hex ⟨by decide, by decide⟩ (by decide) w_391 (fun xx H1 locs htq hF => ?_)
    refine lv_astore (lv' := [(4, .ref xx), (0, .ref b), (1, .int x1), (2, .int x2), (3, .int x3)]) hx hb d_Law_commit_10 hl (by decide) rfl (fun ls hl => ?_)
    refine lv_iconst (v := nI 1) hx hb d_Law_commit_12 (by decide) ?_
    exact q_iret E hr hlk (⟨_, rfl, Or.inr ⟨hok, rfl⟩, fun q h9 => htq.2.1 q (n_511 hsz h9)⟩) hF d_Law_commit_13
set_option maxHeartbeats 4000000 in
set_option maxRecDepth 100000 in
theorem h_open (l : Launch) (g : WG) (s0 : State) (hxs : XS l s0) (b : Nat) (mr mq : Int64) (hb0 : s0.heap.size ≤ b) (x1 : Int32) (x2 : Int32) (x3 : Int32) (x4 : Int32) : CtrH l y_Law_open (.codeWith y_Law_open method_19_code 6 (some FieldType.int) [(0, 9, 12, 13)]) 8 185 1 6 (HXA s0) g s0 [.ref b, .int x1, .int x2, .int x3, .int x4] (fun H => LSt g s0 H b mr mq) (QI (fun r H H' => (((okC x2 (nI 1) (nI 16) ∧ okS x1 x2 ∧ okS x3 (nI 1) ∧ okS x4 (nI 1)) ∧ r = nI 0) ∨ (¬ (okC x2 (nI 1) (nI 16) ∧ okS x1 x2 ∧ okS x3 (nI 1) ∧ okS x4 (nI 1)) ∧ r = nI 1)) ∧ ∀ q, kM b q → H'[q]? = H[q]?)) := by
  refine ctrH_mk l (lv0 := [(0, .ref b), (1, .int x1), (2, .int x2), (3, .int x3), (4, .int x4)]) (by decide) (Nat.le_of_ble_eq_true rfl) rfl ?_
  intro p e s m below meth c ls E hw0 hr hlk hex hl hP
  have hx := E.1
  have hb := E.2.1
  have hK := E.2.2.2.2.2
  have hF : ∀ q ∈ ([] : List Loc), HXA s0 q.base := fun q hq => absurd hq List.not_mem_nil
  obtain ⟨hold, hsz, hd1, hd2, hfr, f0, hA⟩ := hP
  by_cases hok : okC x2 (nI 1) (nI 16) ∧ okS x1 x2 ∧ okS x3 (nI 1) ∧ okS x4 (nI 1)
  · skip
    obtain ⟨k2, rfl, l2, q2⟩ := okC_nat (by decide) (by decide) hok.1
    obtain ⟨k1, rfl, q1⟩ := okS_nat (by omega) (by omega) hok.2.1
    obtain ⟨k3, rfl, q3⟩ := okS_nat (by decide) (by decide) hok.2.2.1
    obtain ⟨k4, rfl, q4⟩ := okS_nat (by decide) (by decide) hok.2.2.2
    refine lv_aload_n hx hb d_Law_open_0 rfl (lv_at hl 0 rfl) ?_
    refine lv_iload_n hx hb d_Law_open_1 rfl (lv_at hl 1 rfl) ?_
    refine lv_iload_n hx hb d_Law_open_2 rfl (lv_at hl 2 rfl) ?_
    refine lv_iload_n hx hb d_Law_open_3 rfl (lv_at hl 3 rfl) ?_
    refine lv_iload hx hb d_Law_open_4 (lv_at hl 4 rfl) ?_
    refine q_cV (rest := []) E ((c_Desk_open l g (nD b) b mr mq k1 k2 k3 k4 l2 q2 q1 q3 q4).up (nD_up hb0)) w_848 w_1 w_845 w_846 w_847 hd_Desk_open rfl ⟨by decide, by decide⟩ (OB.recv E.2.2.2.2.2 (by rfl) hd1.ob) (⟨hd1, hfr⟩) hF hl.1 rfl (Nat.le_of_ble_eq_true rfl) d_Law_open_6 ⟨by decide, by decide⟩ (qv (fun H1 locs hq hF => ?_))
    refine lv_goto (tgt := 16) hx hb d_Law_open_9 (by decide) ?_
    refine lv_iconst (v := nI 0) hx hb d_Law_open_16 (by decide) ?_
    refine W.widen (k := 1) (n := 6) (by decide) (by decide) ?_
    exact q_iret E hr hlk (⟨_, rfl, Or.inl ⟨hok, rfl⟩, fun q h9 => hq.2 q (nD_m h9)⟩) hF d_Law_open_17
  · skip
    refine lv_aload_n hx hb d_Law_open_0 rfl (lv_at hl 0 rfl) ?_
    refine lv_iload_n hx hb d_Law_open_1 rfl (lv_at hl 1 rfl) ?_
    refine lv_iload_n hx hb d_Law_open_2 rfl (lv_at hl 2 rfl) ?_
    refine lv_iload_n hx hb d_Law_open_3 rfl (lv_at hl 3 rfl) ?_
    refine lv_iload hx hb d_Law_open_4 (lv_at hl 4 rfl) ?_
    refine q_catch E hw0 (q_runVT (rest := []) E hw0 (t_Desk_open l g (HXA s0) s0 hxs b x1 x2 x3 x4 ((nb hok).imp id (fun h => (nb h).imp id nb))) w_848 w_1 w_845 w_846 w_847 hd_Desk_open rfl ⟨by decide, by decide⟩ (OB.recv E.2.2.2.2.2 (by rfl) hd2.ob) (⟨hold, (show s0.heap.size ≤ s.heap.size by rw [hsz]; exact Nat.le_trans hb0 (Nat.le_add_right _ _))⟩) hl.1 rfl (Nat.le_of_ble_eq_true rfl) d_Law_open_6 ⟨by decide, by decide⟩) hF hex ⟨by decide, by decide⟩ (by decide) w_391 (fun xx H1 locs htq hF => ?_)
    refine lv_astore (lv' := [(5, .ref xx), (0, .ref b), (1, .int x1), (2, .int x2), (3, .int x3), (4, .int x4)]) hx hb d_Law_open_12 hl (by decide) rfl (fun ls hl => ?_)
    refine lv_iconst (v := nI 1) hx hb d_Law_open_14 (by decide) ?_
    exact q_iret E hr hlk (⟨_, rfl, Or.inr ⟨hok, rfl⟩, fun q h9 => htq.2.1 q (n_511 hsz h9)⟩) hF d_Law_open_15
set_option maxHeartbeats 4000000 in
set_option maxRecDepth 100000 in
theorem h_checks (l : Launch) (g : WG) (s0 : State) (hxs : XS l s0) (b : Nat) (mr mq : Int64) (hb0 : s0.heap.size ≤ b) (x1 : Int32) (x2 : Int32) (x3 : Int32) (x4 : Int32) (x5 : Int32) : CtrH l y_Law_checks (.codeWith y_Law_checks method_20_code 8 (some FieldType.int) [(0, 23, 26, 13)]) 8 206 1 6 (HXA s0) g s0 [.ref b, .int x1, .int x2, .int x3, .int x4, .int x5, .ref (b + 510)] (fun H => LSt g s0 H b mr mq) (QI (fun r H H' => (((okP x1 (nI 1) ∧ okP x2 (nI 1) ∧ okS x3 (nI 1) ∧ okS x4 (nI 1) ∧ okS x5 (nI 1)) ∧ r = nI 0 ∧ AJ g H' (b + 510) 1 (fun _ => 1)) ∨ (¬ (okP x1 (nI 1) ∧ okP x2 (nI 1) ∧ okS x3 (nI 1) ∧ okS x4 (nI 1) ∧ okS x5 (nI 1)) ∧ r = nI 1)) ∧ ∀ q, kM b q → H'[q]? = H[q]?)) := by
  refine ctrH_mk l (lv0 := [(0, .ref b), (1, .int x1), (2, .int x2), (3, .int x3), (4, .int x4), (5, .int x5), (6, .ref (b + 510))]) (by decide) (Nat.le_of_ble_eq_true rfl) rfl ?_
  intro p e s m below meth c ls E hw0 hr hlk hex hl hP
  have hx := E.1
  have hb := E.2.1
  have hK := E.2.2.2.2.2
  have hF : ∀ q ∈ ([] : List Loc), HXA s0 q.base := fun q hq => absurd hq List.not_mem_nil
  obtain ⟨hold, hsz, hd1, hd2, hfr, f0, hA⟩ := hP
  by_cases hok : okP x1 (nI 1) ∧ okP x2 (nI 1) ∧ okS x3 (nI 1) ∧ okS x4 (nI 1) ∧ okS x5 (nI 1)
  · skip
    obtain ⟨k1, rfl, q1⟩ := okP_nat (by decide) (by decide) hok.1
    obtain ⟨k2, rfl, q2⟩ := okP_nat (by decide) (by decide) hok.2.1
    obtain ⟨k3, rfl, q3⟩ := okS_nat (by decide) (by decide) hok.2.2.1
    obtain ⟨k4, rfl, q4⟩ := okS_nat (by decide) (by decide) hok.2.2.2.1
    obtain ⟨k5, rfl, q5⟩ := okS_nat (by decide) (by decide) hok.2.2.2.2
    refine lv_aload hx hb d_Law_checks_0 (lv_at hl 6 rfl) ?_
    refine lv_iconst (v := nI 0) hx hb d_Law_checks_2 (by decide) ?_
    refine lv_aload_n hx hb d_Law_checks_3 rfl (lv_at hl 0 rfl) ?_
    refine lv_iload_n hx hb d_Law_checks_4 rfl (lv_at hl 1 rfl) ?_
    refine lv_iload_n hx hb d_Law_checks_5 rfl (lv_at hl 2 rfl) ?_
    refine lv_iload_n hx hb d_Law_checks_6 rfl (lv_at hl 3 rfl) ?_
    refine lv_iload hx hb d_Law_checks_7 (lv_at hl 4 rfl) ?_
    refine lv_iload hx hb d_Law_checks_9 (lv_at hl 5 rfl) ?_
    refine q_cV (rest := [.int (nI 0), .ref (b + 510)]) E ((c_Desk_checks l g (nD b) b mr mq k1 k2 k3 k4 k5 q1 q2 q3 q4 q5).up (nD_up hb0)) w_863 w_1 w_860 w_861 w_862 hd_Desk_checks rfl ⟨by decide, by decide⟩ (OB.recv E.2.2.2.2.2 (by rfl) hd1.ob) (⟨hd1, hfr⟩) hF hl.1 rfl (Nat.le_of_ble_eq_true rfl) d_Law_checks_11 ⟨by decide, by decide⟩ (qi (fun r0 H1 locs hq hF => ?_))
    obtain ⟨rfl, hq⟩ := hq
    refine lv_if_eq (tgt := 21) hx hb d_Law_checks_14 (by decide) (fun h9 => absurd h9 (by decide)) (fun _ => ?_)
    refine lv_lconst (v := 1) hx hb d_Law_checks_17 (by decide) ?_
    refine lv_goto (tgt := 22) hx hb d_Law_checks_18 (by decide) ?_
    refine q_last (N := 1) E (AJ.off hq nD_510 hA) (Nat.le_trans hb0 (Nat.le_add_right _ _)) hF 0 rfl (by decide) (by decide) d_Law_checks_22 (fun H2 locs hq2 hA2 hF => ?_)
    refine lv_goto (tgt := 30) hx hb d_Law_checks_23 (by decide) ?_
    refine lv_iconst (v := nI 0) hx hb d_Law_checks_30 (by decide) ?_
    refine W.widen (k := 1) (n := 6) (by decide) (by decide) ?_
    exact q_iret E hr hlk (⟨_, rfl, Or.inl ⟨hok, rfl, hA2.one⟩, fun q h9 => (hq2.off (n_510 h9)).trans (hq.2 q (nD_m h9))⟩) hF d_Law_checks_31
  · skip
    refine lv_aload hx hb d_Law_checks_0 (lv_at hl 6 rfl) ?_
    refine lv_iconst (v := nI 0) hx hb d_Law_checks_2 (by decide) ?_
    refine lv_aload_n hx hb d_Law_checks_3 rfl (lv_at hl 0 rfl) ?_
    refine lv_iload_n hx hb d_Law_checks_4 rfl (lv_at hl 1 rfl) ?_
    refine lv_iload_n hx hb d_Law_checks_5 rfl (lv_at hl 2 rfl) ?_
    refine lv_iload_n hx hb d_Law_checks_6 rfl (lv_at hl 3 rfl) ?_
    refine lv_iload hx hb d_Law_checks_7 (lv_at hl 4 rfl) ?_
    refine lv_iload hx hb d_Law_checks_9 (lv_at hl 5 rfl) ?_
    refine q_catch E hw0 (q_runVT (rest := [.int (nI 0), .ref (b + 510)]) E hw0 (t_Desk_checks l g (HXA s0) s0 hxs b x1 x2 x3 x4 x5 ((nb hok).imp id (fun h => (nb h).imp id (fun h => (nb h).imp id nb)))) w_863 w_1 w_860 w_861 w_862 hd_Desk_checks rfl ⟨by decide, by decide⟩ (OB.recv E.2.2.2.2.2 (by rfl) hd2.ob) (⟨hold, (show s0.heap.size ≤ s.heap.size by rw [hsz]; exact Nat.le_trans hb0 (Nat.le_add_right _ _))⟩) hl.1 rfl (Nat.le_of_ble_eq_true rfl) d_Law_checks_11 ⟨by decide, by decide⟩) hF hex ⟨by decide, by decide⟩ (by decide) w_391 (fun xx H1 locs htq hF => ?_)
    refine lv_astore (lv' := [(7, .ref xx), (0, .ref b), (1, .int x1), (2, .int x2), (3, .int x3), (4, .int x4), (5, .int x5), (6, .ref (b + 510))]) hx hb d_Law_checks_26 hl (by decide) rfl (fun ls hl => ?_)
    refine lv_iconst (v := nI 1) hx hb d_Law_checks_28 (by decide) ?_
    exact q_iret E hr hlk (⟨_, rfl, Or.inr ⟨hok, rfl⟩, fun q h9 => htq.2.1 q (n_511 hsz h9)⟩) hF d_Law_checks_29
set_option maxHeartbeats 4000000 in
set_option maxRecDepth 100000 in
theorem h_transform (l : Launch) (g : WG) (s0 : State) (hxs : XS l s0) (b : Nat) (mr mq : Int64) (hb0 : s0.heap.size ≤ b) (x1 : Int32) (x2 : Int32) (x3 : Int32) : CtrH l y_Law_transform (.codeWith y_Law_transform method_21_code 5 (some FieldType.int) [(0, 7, 10, 13)]) 8 256 1 6 (HXA s0) g s0 [.ref b, .int x1, .int x2, .int x3] (fun H => LSt g s0 H b mr mq) (QI (fun r H H' => (((okC x2 (nI 0) (nI 4) ∧ okS x1 (nI 1 <<< ((x2 &&& nI 7) &&& 31))) ∧ r = nI 0) ∨ (¬ (okC x2 (nI 0) (nI 4) ∧ okS x1 (nI 1 <<< ((x2 &&& nI 7) &&& 31))) ∧ r = nI 1)) ∧ ∀ q, kM b q → H'[q]? = H[q]?)) := by
  refine ctrH_mk l (lv0 := [(0, .ref b), (1, .int x1), (2, .int x2), (3, .int x3)]) (by decide) (Nat.le_of_ble_eq_true rfl) rfl ?_
  intro p e s m below meth c ls E hw0 hr hlk hex hl hP
  have hx := E.1
  have hb := E.2.1
  have hK := E.2.2.2.2.2
  have hF : ∀ q ∈ ([] : List Loc), HXA s0 q.base := fun q hq => absurd hq List.not_mem_nil
  obtain ⟨hold, hsz, hd1, hd2, hfr, f0, hA⟩ := hP
  by_cases hok : okC x2 (nI 0) (nI 4) ∧ okS x1 (nI 1 <<< ((x2 &&& nI 7) &&& 31))
  · skip
    obtain ⟨k2, rfl, l2, q2⟩ := okC_nat (by decide) (by decide) hok.1
    have hs9 := hok.2
    rw [sh7 k2 (by omega)] at hs9
    obtain ⟨k1, rfl, q1⟩ := okS_nat (pw16 (by omega)).1 (Nat.le_trans (pw16 (by omega)).2 (by decide)) hs9
    refine lv_aload_n hx hb d_Law_transform_0 rfl (lv_at hl 0 rfl) ?_
    refine lv_iload_n hx hb d_Law_transform_1 rfl (lv_at hl 1 rfl) ?_
    refine lv_iload_n hx hb d_Law_transform_2 rfl (lv_at hl 2 rfl) ?_
    refine lv_iload_n hx hb d_Law_transform_3 rfl (lv_at hl 3 rfl) ?_
    refine q_cV (rest := []) E ((c_Desk_transform l g (nD b) b mr mq k1 k2 x3 (by omega) q1).up (nD_up hb0)) w_870 w_1 w_867 w_868 w_869 hd_Desk_transform rfl ⟨by decide, by decide⟩ (OB.recv E.2.2.2.2.2 (by rfl) hd1.ob) (⟨hd1, hfr⟩) hF hl.1 rfl (Nat.le_of_ble_eq_true rfl) d_Law_transform_4 ⟨by decide, by decide⟩ (qv (fun H1 locs hq hF => ?_))
    refine lv_goto (tgt := 14) hx hb d_Law_transform_7 (by decide) ?_
    refine lv_iconst (v := nI 0) hx hb d_Law_transform_14 (by decide) ?_
    refine W.widen (k := 1) (n := 6) (by decide) (by decide) ?_
    exact q_iret E hr hlk (⟨_, rfl, Or.inl ⟨hok, rfl⟩, fun q h9 => hq.2 q (nD_m h9)⟩) hF d_Law_transform_15
  · skip
    refine lv_aload_n hx hb d_Law_transform_0 rfl (lv_at hl 0 rfl) ?_
    refine lv_iload_n hx hb d_Law_transform_1 rfl (lv_at hl 1 rfl) ?_
    refine lv_iload_n hx hb d_Law_transform_2 rfl (lv_at hl 2 rfl) ?_
    refine lv_iload_n hx hb d_Law_transform_3 rfl (lv_at hl 3 rfl) ?_
    refine q_catch E hw0 (q_runVT (rest := []) E hw0 (t_Desk_transform l g (HXA s0) s0 hxs b x1 x2 x3 (bad_t hok)) w_870 w_1 w_867 w_868 w_869 hd_Desk_transform rfl ⟨by decide, by decide⟩ (OB.recv E.2.2.2.2.2 (by rfl) hd2.ob) (⟨hold, (show s0.heap.size ≤ s.heap.size by rw [hsz]; exact Nat.le_trans hb0 (Nat.le_add_right _ _))⟩) hl.1 rfl (Nat.le_of_ble_eq_true rfl) d_Law_transform_4 ⟨by decide, by decide⟩) hF hex ⟨by decide, by decide⟩ (by decide) w_391 (fun xx H1 locs htq hF => ?_)
    refine lv_astore (lv' := [(4, .ref xx), (0, .ref b), (1, .int x1), (2, .int x2), (3, .int x3)]) hx hb d_Law_transform_10 hl (by decide) rfl (fun ls hl => ?_)
    refine lv_iconst (v := nI 1) hx hb d_Law_transform_12 (by decide) ?_
    exact q_iret E hr hlk (⟨_, rfl, Or.inr ⟨hok, rfl⟩, fun q h9 => htq.2.1 q (n_511 hsz h9)⟩) hF d_Law_transform_13
set_option maxHeartbeats 4000000 in
set_option maxRecDepth 100000 in
theorem h_lagrange (l : Launch) (g : WG) (s0 : State) (hxs : XS l s0) (b : Nat) (mr mq : Int64) (hb0 : s0.heap.size ≤ b) (x1 : Int32) (x2 : Int32) (x3 : Int32) (x4 : Int32) : CtrH l y_Law_lagrange (.codeWith y_Law_lagrange method_22_code 6 (some FieldType.int) [(0, 9, 12, 13)]) 8 232 1 6 (HXA s0) g s0 [.ref b, .int x1, .int x2, .int x3, .int x4] (fun H => LSt g s0 H b mr mq) (QI (fun r H H' => (((okS x1 (nI 1) ∧ okC x2 (nI 0) (nI 4) ∧ ((0 : Int64).toInt ≤ x3.toInt64.toInt ∧ x3.toInt64.toInt ≤ ((nI 1 <<< ((x2 &&& nI 7) &&& 31)) - nI 1).toInt64.toInt) ∧ okS x4 (nI 1)) ∧ r = nI 0) ∨ (¬ (okS x1 (nI 1) ∧ okC x2 (nI 0) (nI 4) ∧ ((0 : Int64).toInt ≤ x3.toInt64.toInt ∧ x3.toInt64.toInt ≤ ((nI 1 <<< ((x2 &&& nI 7) &&& 31)) - nI 1).toInt64.toInt) ∧ okS x4 (nI 1)) ∧ r = nI 1)) ∧ ∀ q, kM b q → H'[q]? = H[q]?)) := by
  refine ctrH_mk l (lv0 := [(0, .ref b), (1, .int x1), (2, .int x2), (3, .int x3), (4, .int x4)]) (by decide) (Nat.le_of_ble_eq_true rfl) rfl ?_
  intro p e s m below meth c ls E hw0 hr hlk hex hl hP
  have hx := E.1
  have hb := E.2.1
  have hK := E.2.2.2.2.2
  have hF : ∀ q ∈ ([] : List Loc), HXA s0 q.base := fun q hq => absurd hq List.not_mem_nil
  obtain ⟨hold, hsz, hd1, hd2, hfr, f0, hA⟩ := hP
  by_cases hok : okS x1 (nI 1) ∧ okC x2 (nI 0) (nI 4) ∧ ((0 : Int64).toInt ≤ x3.toInt64.toInt ∧ x3.toInt64.toInt ≤ ((nI 1 <<< ((x2 &&& nI 7) &&& 31)) - nI 1).toInt64.toInt) ∧ okS x4 (nI 1)
  · skip
    obtain ⟨k1, rfl, q1⟩ := okS_nat (by decide) (by decide) hok.1
    obtain ⟨k2, rfl, l2, q2⟩ := okC_nat (by decide) (by decide) hok.2.1
    obtain ⟨k3, rfl, l3, q3⟩ := okC_nat (by decide) (Nat.lt_of_le_of_lt (Nat.sub_le _ _) (Nat.lt_of_le_of_lt (pw16 (show k2 < 5 by omega)).2 (by decide))) ((lag_C (show k2 < 5 by omega)).mp hok.2.2.1)
    obtain ⟨k4, rfl, q4⟩ := okS_nat (by decide) (by decide) hok.2.2.2
    refine lv_aload_n hx hb d_Law_lagrange_0 rfl (lv_at hl 0 rfl) ?_
    refine lv_iload_n hx hb d_Law_lagrange_1 rfl (lv_at hl 1 rfl) ?_
    refine lv_iload_n hx hb d_Law_lagrange_2 rfl (lv_at hl 2 rfl) ?_
    refine lv_iload_n hx hb d_Law_lagrange_3 rfl (lv_at hl 3 rfl) ?_
    refine lv_iload hx hb d_Law_lagrange_4 (lv_at hl 4 rfl) ?_
    refine q_cV (rest := []) E ((c_Desk_lagrange l g (nD b) b mr mq k1 k2 k3 k4 (by omega) (lag_i (by omega) q3) q1 q4).up (nD_up hb0)) w_894 w_1 w_891 w_892 w_893 hd_Desk_lagrange rfl ⟨by decide, by decide⟩ (OB.recv E.2.2.2.2.2 (by rfl) hd1.ob) (⟨hd1, hfr⟩) hF hl.1 rfl (Nat.le_of_ble_eq_true rfl) d_Law_lagrange_6 ⟨by decide, by decide⟩ (qv (fun H1 locs hq hF => ?_))
    refine lv_goto (tgt := 16) hx hb d_Law_lagrange_9 (by decide) ?_
    refine lv_iconst (v := nI 0) hx hb d_Law_lagrange_16 (by decide) ?_
    refine W.widen (k := 1) (n := 6) (by decide) (by decide) ?_
    exact q_iret E hr hlk (⟨_, rfl, Or.inl ⟨hok, rfl⟩, fun q h9 => hq.2 q (nD_m h9)⟩) hF d_Law_lagrange_17
  · skip
    refine lv_aload_n hx hb d_Law_lagrange_0 rfl (lv_at hl 0 rfl) ?_
    refine lv_iload_n hx hb d_Law_lagrange_1 rfl (lv_at hl 1 rfl) ?_
    refine lv_iload_n hx hb d_Law_lagrange_2 rfl (lv_at hl 2 rfl) ?_
    refine lv_iload_n hx hb d_Law_lagrange_3 rfl (lv_at hl 3 rfl) ?_
    refine lv_iload hx hb d_Law_lagrange_4 (lv_at hl 4 rfl) ?_
    refine q_catch E hw0 (q_runVT (rest := []) E hw0 (t_Desk_lagrange l g (HXA s0) s0 hxs b x1 x2 x3 x4 (bad_l hok)) w_894 w_1 w_891 w_892 w_893 hd_Desk_lagrange rfl ⟨by decide, by decide⟩ (OB.recv E.2.2.2.2.2 (by rfl) hd2.ob) (⟨hold, (show s0.heap.size ≤ s.heap.size by rw [hsz]; exact Nat.le_trans hb0 (Nat.le_add_right _ _))⟩) hl.1 rfl (Nat.le_of_ble_eq_true rfl) d_Law_lagrange_6 ⟨by decide, by decide⟩) hF hex ⟨by decide, by decide⟩ (by decide) w_391 (fun xx H1 locs htq hF => ?_)
    refine lv_astore (lv' := [(5, .ref xx), (0, .ref b), (1, .int x1), (2, .int x2), (3, .int x3), (4, .int x4)]) hx hb d_Law_lagrange_12 hl (by decide) rfl (fun ls hl => ?_)
    refine lv_iconst (v := nI 1) hx hb d_Law_lagrange_14 (by decide) ?_
    exact q_iret E hr hlk (⟨_, rfl, Or.inr ⟨hok, rfl⟩, fun q h9 => htq.2.1 q (n_511 hsz h9)⟩) hF d_Law_lagrange_15
set_option maxHeartbeats 4000000 in
set_option maxRecDepth 100000 in
theorem h_look (l : Launch) (g : WG) (s0 : State) (hxs : XS l s0) (b : Nat) (mr mq : Int64) (hb0 : s0.heap.size ≤ b) (x1 : Int32) : CtrH l y_Law_look (.codeWith y_Law_look method_23_code 4 (some FieldType.int) [(0, 9, 12, 13)]) 8 125 1 6 (HXA s0) g s0 [.ref b, .int x1, .ref (b + 510)] (fun H => LSt g s0 H b mr mq) (QI (fun r H H' => (((okC x1 (nI 0) (nI 2)) ∧ r = nI 0 ∧ AJ g H' (b + 510) 1 (fun _ => (0 : Int32).toInt64)) ∨ (¬ (okC x1 (nI 0) (nI 2)) ∧ r = nI 1)) ∧ ∀ q, kM b q → H'[q]? = H[q]?)) := by
  refine ctrH_mk l (lv0 := [(0, .ref b), (1, .int x1), (2, .ref (b + 510))]) (by decide) (Nat.le_of_ble_eq_true rfl) rfl ?_
  intro p e s m below meth c ls E hw0 hr hlk hex hl hP
  have hx := E.1
  have hb := E.2.1
  have hK := E.2.2.2.2.2
  have hF : ∀ q ∈ ([] : List Loc), HXA s0 q.base := fun q hq => absurd hq List.not_mem_nil
  obtain ⟨hold, hsz, hd1, hd2, hfr, f0, hA⟩ := hP
  by_cases hok : okC x1 (nI 0) (nI 2)
  · skip
    obtain ⟨k1, rfl, l1, q1⟩ := okC_nat (by decide) (by decide) hok
    refine lv_aload_n hx hb d_Law_look_0 rfl (lv_at hl 2 rfl) ?_
    refine lv_iconst (v := nI 0) hx hb d_Law_look_1 (by decide) ?_
    refine lv_aload_n hx hb d_Law_look_2 rfl (lv_at hl 0 rfl) ?_
    refine lv_iload_n hx hb d_Law_look_3 rfl (lv_at hl 1 rfl) ?_
    refine q_cV (rest := [.int (nI 0), .ref (b + 510)]) E ((c_Desk_look l g (nD b) b mr mq k1 (by omega)).up (nD_up hb0)) w_905 w_1 w_902 w_903 w_904 hd_Desk_look rfl ⟨by decide, by decide⟩ (OB.recv E.2.2.2.2.2 (by rfl) hd1.ob) (⟨hd1, hfr⟩) hF hl.1 rfl (Nat.le_of_ble_eq_true rfl) d_Law_look_4 ⟨by decide, by decide⟩ (qi (fun r0 H1 locs hq hF => ?_))
    obtain ⟨rfl, hq⟩ := hq
    refine lv_i2l (v := (0 : Int32).toInt64) hx hb d_Law_look_7 rfl ?_
    refine q_last (N := 1) E (AJ.off hq nD_510 hA) (Nat.le_trans hb0 (Nat.le_add_right _ _)) hF 0 rfl (by decide) (by decide) d_Law_look_8 (fun H2 locs hq2 hA2 hF => ?_)
    refine lv_goto (tgt := 15) hx hb d_Law_look_9 (by decide) ?_
    refine lv_iconst (v := nI 0) hx hb d_Law_look_15 (by decide) ?_
    refine W.widen (k := 1) (n := 6) (by decide) (by decide) ?_
    exact q_iret E hr hlk (⟨_, rfl, Or.inl ⟨hok, rfl, hA2.one⟩, fun q h9 => (hq2.off (n_510 h9)).trans (hq.2 q (nD_m h9))⟩) hF d_Law_look_16
  · skip
    refine lv_aload_n hx hb d_Law_look_0 rfl (lv_at hl 2 rfl) ?_
    refine lv_iconst (v := nI 0) hx hb d_Law_look_1 (by decide) ?_
    refine lv_aload_n hx hb d_Law_look_2 rfl (lv_at hl 0 rfl) ?_
    refine lv_iload_n hx hb d_Law_look_3 rfl (lv_at hl 1 rfl) ?_
    refine q_catch E hw0 (q_runVT (rest := [.int (nI 0), .ref (b + 510)]) E hw0 (t_Desk_look l g (HXA s0) s0 hxs b x1 (⟨fun e9 => hok (by rw [e9]; exact okC_of (k := 0) (by decide) (by decide) (by decide)), fun e9 => hok (by rw [e9]; exact okC_of (k := 1) (by decide) (by decide) (by decide)), fun e9 => hok (by rw [e9]; exact okC_of (k := 2) (by decide) (by decide) (by decide))⟩)) w_905 w_1 w_902 w_903 w_904 hd_Desk_look rfl ⟨by decide, by decide⟩ (OB.recv E.2.2.2.2.2 (by rfl) hd2.ob) (⟨hold, (show s0.heap.size ≤ s.heap.size by rw [hsz]; exact Nat.le_trans hb0 (Nat.le_add_right _ _))⟩) hl.1 rfl (Nat.le_of_ble_eq_true rfl) d_Law_look_4 ⟨by decide, by decide⟩) hF hex ⟨by decide, by decide⟩ (by decide) w_391 (fun xx H1 locs htq hF => ?_)
    refine lv_astore_n (lv' := [(3, .ref xx), (0, .ref b), (1, .int x1), (2, .ref (b + 510))]) hx hb d_Law_look_12 rfl hl (by decide) rfl (fun ls hl => ?_)
    refine lv_iconst (v := nI 1) hx hb d_Law_look_13 (by decide) ?_
    exact q_iret E hr hlk (⟨_, rfl, Or.inr ⟨hok, rfl⟩, fun q h9 => htq.2.1 q (n_511 hsz h9)⟩) hF d_Law_look_14
