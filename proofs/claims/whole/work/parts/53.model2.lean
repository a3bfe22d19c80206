theorem cmp_eq {x y : Int64} (h : lg_cmp x y = 0) : x = y := by
  unfold lg_cmp at h
  by_cases h1 : x > y
  · rw [if_pos h1] at h; exact absurd h (by decide)
  · rw [if_neg h1] at h
    by_cases h2 : x = y
    · exact h2
    · rw [if_neg h2] at h; exact absurd h (by decide)
theorem cmp_lt {x y : Int64} (h : ¬ 0 ≤ lg_cmp x y) : x.toInt < y.toInt := by
  unfold lg_cmp at h
  by_cases h1 : x > y
  · rw [if_pos h1] at h; exact absurd (by decide) h
  · rw [if_neg h1] at h
    by_cases h2 : x = y
    · rw [if_pos h2] at h; exact absurd (by decide) h
    · have h3 : ¬ y.toInt < x.toInt := fun q => h1 (Int64.lt_iff_toInt_lt.mpr q)
      have h4 : x.toInt ≠ y.toInt := fun q => h2 (Int64.toInt_inj.mp q)
      omega
theorem cmp_gt {x y : Int64} (h1 : ¬ lg_cmp x y = 0) (h2 : 0 ≤ lg_cmp x y) : y.toInt < x.toInt := by
  unfold lg_cmp at h1 h2
  by_cases h3 : x > y
  · exact Int64.lt_iff_toInt_lt.mp h3
  · rw [if_neg h3] at h1 h2
    by_cases h4 : x = y
    · rw [if_pos h4] at h1; exact absurd rfl h1
    · rw [if_neg h4] at h2; exact absurd h2 (by decide)
theorem cmp_le {x : Int64} (h : lg_cmp x 0 ≤ 0) : x.toInt ≤ 0 := by
  unfold lg_cmp at h
  by_cases h1 : x > 0
  · rw [if_pos h1] at h; exact absurd h (by decide)
  · have : ¬ (0 : Int64).toInt < x.toInt := fun q => h1 (Int64.lt_iff_toInt_lt.mpr q)
    have e : (0 : Int64).toInt = 0 := by decide
    omega
theorem cmp_nle {x : Int64} (h : ¬ lg_cmp x 0 ≤ 0) : 0 < x.toInt := by
  unfold lg_cmp at h
  by_cases h1 : x > 0
  · have := Int64.lt_iff_toInt_lt.mp h1
    have e : (0 : Int64).toInt = 0 := by decide
    omega
  · rw [if_neg h1] at h
    by_cases h2 : x = 0
    · rw [if_pos h2] at h; exact absurd (by decide) h
    · rw [if_neg h2] at h; exact absurd (by decide) h
abbrev y_Model_isBelow : MethodName := ⟨"KateDeskModel", "isBelow", "()Z"⟩
theorem hd_Model_isBelow : y_Model_isBelow.cls ≠ "java/lang/invoke/MethodHandle" ∧ y_Model_isBelow.cls ≠ "java/lang/invoke/VarHandle" ∧ (parseMethodDescriptor y_Model_isBelow.desc).map (fun d => d.parameters.length) = some 0 := by decide +kernel
theorem d_Model_isBelow_0 : decode prog_11_method_12_code 0 = .ok (.aload_n 0, 1) := by decide +kernel
theorem d_Model_isBelow_1 : decode prog_11_method_12_code 1 = .ok (.getfield 144, 3) := by decide +kernel
theorem d_Model_isBelow_4 : decode prog_11_method_12_code 4 = .ok (.iconst 1, 1) := by decide +kernel
theorem d_Model_isBelow_5 : decode prog_11_method_12_code 5 = .ok (.isub, 1) := by decide +kernel
theorem d_Model_isBelow_6 : decode prog_11_method_12_code 6 = .ok (.istore_n 1, 1) := by decide +kernel
theorem d_Model_isBelow_7 : decode prog_11_method_12_code 7 = .ok (.iload_n 1, 1) := by decide +kernel
theorem d_Model_isBelow_8 : decode prog_11_method_12_code 8 = .ok (.ifCond .lt 52, 3) := by decide +kernel
theorem d_Model_isBelow_11 : decode prog_11_method_12_code 11 = .ok (.aload_n 0, 1) := by decide +kernel
theorem d_Model_isBelow_12 : decode prog_11_method_12_code 12 = .ok (.getfield 59, 3) := by decide +kernel
theorem d_Model_isBelow_15 : decode prog_11_method_12_code 15 = .ok (.bipush 14, 2) := by decide +kernel
theorem d_Model_isBelow_17 : decode prog_11_method_12_code 17 = .ok (.aload_n 0, 1) := by decide +kernel
theorem d_Model_isBelow_18 : decode prog_11_method_12_code 18 = .ok (.getfield 161, 3) := by decide +kernel
theorem d_Model_isBelow_21 : decode prog_11_method_12_code 21 = .ok (.imul, 1) := by decide +kernel
theorem d_Model_isBelow_22 : decode prog_11_method_12_code 22 = .ok (.iload_n 1, 1) := by decide +kernel
theorem d_Model_isBelow_23 : decode prog_11_method_12_code 23 = .ok (.iadd, 1) := by decide +kernel
theorem d_Model_isBelow_24 : decode prog_11_method_12_code 24 = .ok (.laload, 1) := by decide +kernel
theorem d_Model_isBelow_25 : decode prog_11_method_12_code 25 = .ok (.lstore_n 2, 1) := by decide +kernel
theorem d_Model_isBelow_26 : decode prog_11_method_12_code 26 = .ok (.aload_n 0, 1) := by decide +kernel
theorem d_Model_isBelow_27 : decode prog_11_method_12_code 27 = .ok (.getfield 124, 3) := by decide +kernel
theorem d_Model_isBelow_30 : decode prog_11_method_12_code 30 = .ok (.iload_n 1, 1) := by decide +kernel
theorem d_Model_isBelow_31 : decode prog_11_method_12_code 31 = .ok (.laload, 1) := by decide +kernel
theorem d_Model_isBelow_32 : decode prog_11_method_12_code 32 = .ok (.lload_n 2, 1) := by decide +kernel
theorem d_Model_isBelow_33 : decode prog_11_method_12_code 33 = .ok (.lcmp, 1) := by decide +kernel
theorem d_Model_isBelow_34 : decode prog_11_method_12_code 34 = .ok (.ifCond .eq 20, 3) := by decide +kernel
theorem d_Model_isBelow_37 : decode prog_11_method_12_code 37 = .ok (.aload_n 0, 1) := by decide +kernel
theorem d_Model_isBelow_38 : decode prog_11_method_12_code 38 = .ok (.getfield 124, 3) := by decide +kernel
theorem d_Model_isBelow_41 : decode prog_11_method_12_code 41 = .ok (.iload_n 1, 1) := by decide +kernel
theorem d_Model_isBelow_42 : decode prog_11_method_12_code 42 = .ok (.laload, 1) := by decide +kernel
theorem d_Model_isBelow_43 : decode prog_11_method_12_code 43 = .ok (.lload_n 2, 1) := by decide +kernel
theorem d_Model_isBelow_44 : decode prog_11_method_12_code 44 = .ok (.lcmp, 1) := by decide +kernel
theorem d_Model_isBelow_45 : decode prog_11_method_12_code 45 = .ok (.ifCond .ge 7, 3) := by decide +kernel
theorem d_Model_isBelow_48 : decode prog_11_method_12_code 48 = .ok (.iconst 1, 1) := by decide +kernel
theorem d_Model_isBelow_49 : decode prog_11_method_12_code 49 = .ok (.goto 4, 3) := by decide +kernel
theorem d_Model_isBelow_52 : decode prog_11_method_12_code 52 = .ok (.iconst 0, 1) := by decide +kernel
theorem d_Model_isBelow_53 : decode prog_11_method_12_code 53 = .ok (.ireturn, 1) := by decide +kernel
theorem d_Model_isBelow_54 : decode prog_11_method_12_code 54 = .ok (.iinc 1 (-1), 3) := by decide +kernel
theorem d_Model_isBelow_57 : decode prog_11_method_12_code 57 = .ok (.goto (-50), 3) := by decide +kernel
theorem d_Model_isBelow_60 : decode prog_11_method_12_code 60 = .ok (.iconst 0, 1) := by decide +kernel
theorem d_Model_isBelow_61 : decode prog_11_method_12_code 61 = .ok (.ireturn, 1) := by decide +kernel
set_option maxHeartbeats 4000000 in
set_option maxRecDepth 100000 in
/-- is the number below the prime -/
theorem c_Model_isBelow (l : Launch) (g : WG) (n0 : Nat → Prop) (mo : Nat) (th pw td wr : Int32) (w n : Nat) (hw : WH w n) (f : Nat → Int64) (hd : ∀ k, k < n → dg (f k)) : Ctr l y_Model_isBelow (.code y_Model_isBelow prog_11_method_12_code 4 (some FieldType.boolean)) 0 0 0 0 n0 g [.ref mo] (fun H => MO g H mo th (nI w) (nI n) pw td wr ∧ AJ g H (mo + 2) 28 kPr ∧ AJ g H (mo + 5) 32 f) (QI (fun r H H' => ((r = 1 ∧ VL f n < PP w n) ∨ (r = 0 ∧ PP w n ≤ VL f n)) ∧ H' = H)) := by
  refine ctr_mk l (lv0 := [(0, .ref mo)]) (by decide) (Nat.le_of_ble_eq_true rfl) rfl ?_
  intro p e s m below meth c ls E hr hlk hnm hl hP
  have hx := E.1
  have hb := E.2.1
  have hK := E.2.2.2.2.2
  have hF : ∀ q ∈ ([] : List Loc), n0 q.base := fun q hq => absurd hq List.not_mem_nil
  obtain ⟨hmo, hpr, hac⟩ := hP
  obtain ⟨hpd, hn1, hn14, hw1, hPT, hP1, hT0, hT1⟩ := wh_kP hw
  have loop : ∀ (k : Nat) (ls : Array Slot) (x : Int32), k ≤ n → x = nI k - 1 → (∀ j, k ≤ j → j < n → f j = kP w j) → lv_has ls 4 [(1, .int x), (0, .ref mo)] → W p l e { frames := 0, cells := 0, slots := 0, locals := 0 } s m [.ref mo].toArray below meth c s.heap [] 0 0 (MQ below (QcP (QI (fun r H H' => ((r = 1 ∧ VL f n < PP w n) ∨ (r = 0 ∧ PP w n ≤ VL f n)) ∧ H' = H))) [.ref mo].toArray s 0 0 (fun q => n0 q)) (F0 m 7 ls []) := by
    intro k
    induction k with
    | zero =>
      intro  ls   x hkn hxx heq hl
      subst hxx
      refine lv_iload_n hx hb d_Model_isBelow_7 rfl (lv_at hl 0 rfl) ?_
      refine lv_if_lt (tgt := 60) hx hb d_Model_isBelow_8 (by decide) (fun _ => ?_) (fun h9 => absurd (by decide) h9)
      refine lv_iconst (v := nI 0) hx hb d_Model_isBelow_60 (by decide) ?_
      exact q_zret E hr rfl hlk (⟨_, rfl, Or.inr ⟨rfl, Int.le_of_eq (VL_ext (fun j hj => (heq j (Nat.zero_le _) hj).symm))⟩, rfl⟩) hF d_Model_isBelow_61
    | succ k ih =>
      intro  ls   x hkn hxx heq hl
      rw [nI_pred] at hxx
      subst hxx
      refine lv_iload_n hx hb d_Model_isBelow_7 rfl (lv_at hl 0 rfl) ?_
      refine lv_if_lt (tgt := 60) hx hb d_Model_isBelow_8 (by decide) (fun h9 => absurd h9 (nI_pos (by omega))) (fun _ => ?_)
      refine lv_aload_n hx hb d_Model_isBelow_11 rfl (lv_at hl 1 rfl) ?_
      refine q_get (C := "KateDeskModel") (T := T_Model) (N := 14) (ci := 8) E hmo in_Model rfl 2 (by decide) w_1003 rfl rfl d_Model_isBelow_12 ?_
      refine lv_bipush (v := nI 14) hx hb d_Model_isBelow_15 (by decide) ?_
      refine lv_aload_n hx hb d_Model_isBelow_17 rfl (lv_at hl 1 rfl) ?_
      refine q_get (C := "KateDeskModel") (T := T_Model) (N := 14) (ci := 8) E hmo in_Model rfl 6 (by decide) w_1007 rfl rfl d_Model_isBelow_18 ?_
      refine lv_imul hx hb d_Model_isBelow_21 ?_
      refine lv_iload_n hx hb d_Model_isBelow_22 rfl (lv_at hl 0 rfl) ?_
      refine lv_iadd hx hb d_Model_isBelow_23 ?_
      have hpi : (nI 14) * (nI w) + nI k = nI (14 * w + k) := by rw [pk_mul, nI_add]
      refine q_lald (N := 28) (f := kPr) E hpr (14 * w + k) hpi (by omega) (by decide) d_Model_isBelow_24 ?_
      refine lv_lstore_n (lv' := [(2, .long (kPr (14 * w + k))), (1, .int (nI k)), (0, .ref mo)]) hx hb d_Model_isBelow_25 rfl hl (by decide) rfl (fun ls hl => ?_)
      refine lv_aload_n hx hb d_Model_isBelow_26 rfl (lv_at hl 2 rfl) ?_
      refine q_get (C := "KateDeskModel") (T := T_Model) (N := 14) (ci := 8) E hmo in_Model rfl 5 (by decide) w_1006 rfl rfl d_Model_isBelow_27 ?_
      refine lv_iload_n hx hb d_Model_isBelow_30 rfl (lv_at hl 1 rfl) ?_
      refine q_lald (N := 32) (f := f) E hac k rfl (by omega) (by decide) d_Model_isBelow_31 ?_
      refine lv_lload_n hx hb d_Model_isBelow_32 rfl (lv_at hl 0 rfl) ?_
      refine W.lcmp hx hb d_Model_isBelow_33 ?_
      refine lv_if_eq (tgt := 54) hx hb d_Model_isBelow_34 (by decide) (fun h1 => ?_) (fun h1 => ?_)
      rotate_left
      · skip
        refine lv_aload_n hx hb d_Model_isBelow_37 rfl (lv_at hl 2 rfl) ?_
        refine q_get (C := "KateDeskModel") (T := T_Model) (N := 14) (ci := 8) E hmo in_Model rfl 5 (by decide) w_1006 rfl rfl d_Model_isBelow_38 ?_
        refine lv_iload_n hx hb d_Model_isBelow_41 rfl (lv_at hl 1 rfl) ?_
        refine q_lald (N := 32) (f := f) E hac k rfl (by omega) (by decide) d_Model_isBelow_42 ?_
        refine lv_lload_n hx hb d_Model_isBelow_43 rfl (lv_at hl 0 rfl) ?_
        refine W.lcmp hx hb d_Model_isBelow_44 ?_
        refine lv_if_ge (tgt := 52) hx hb d_Model_isBelow_45 (by decide) (fun h2 => ?_) (fun h2 => ?_)
        rotate_left
        · skip
          refine lv_iconst (v := nI 1) hx hb d_Model_isBelow_48 (by decide) ?_
          refine lv_goto (tgt := 53) hx hb d_Model_isBelow_49 (by decide) ?_
          exact q_zret E hr rfl hlk (⟨_, rfl, Or.inl ⟨rfl, VL_lex (k := k) (by omega) hd (fun j hj => hpd j (by omega)) (fun j a c => heq j (by omega) c) (cmp_lt h2)⟩, rfl⟩) hF d_Model_isBelow_53
        refine lv_iconst (v := nI 0) hx hb d_Model_isBelow_52 (by decide) ?_
        exact q_zret E hr rfl hlk (⟨_, rfl, Or.inr ⟨rfl, Int.le_of_lt (VL_lex (k := k) (by omega) (fun j hj => hpd j (by omega)) hd (fun j a c => (heq j (by omega) c).symm) (cmp_gt h1 h2))⟩, rfl⟩) hF d_Model_isBelow_53
      refine lv_iinc (k := 1) (v := nI k - 1) (lv' := [(1, .int (nI k - 1)), (2, .long (kPr (14 * w + k))), (0, .ref mo)]) hx hb d_Model_isBelow_54 hl rfl (i_dec _) (by decide) rfl (fun ls hl => ?_)
      refine lv_goto (tgt := 7) hx hb d_Model_isBelow_57 (by decide) ?_
      have hl : lv_has ls 4 [(1, .int (nI k - 1)), (0, .ref mo)] := lv_sub hl [0, 2] rfl
      exact ih ls _ (by omega) rfl (fun j h3 h4 => if e : j = k then by subst e; exact cmp_eq h1 else heq j (by omega) h4) hl
  refine lv_aload_n hx hb d_Model_isBelow_0 rfl (lv_at hl 0 rfl) ?_
  refine q_get (C := "KateDeskModel") (T := T_Model) (N := 14) (ci := 8) E hmo in_Model rfl 7 (by decide) w_1008 rfl rfl d_Model_isBelow_1 ?_
  refine lv_iconst (v := nI 1) hx hb d_Model_isBelow_4 (by decide) ?_
  refine lv_isub hx hb d_Model_isBelow_5 ?_
  refine lv_istore_n (lv' := [(1, .int ((nI n) - (nI 1))), (0, .ref mo)]) hx hb d_Model_isBelow_6 rfl hl (by decide) rfl (fun ls hl => ?_)
  exact loop n ls _ (Nat.le_refl _) rfl (fun j h3 h4 => absurd h4 (by omega)) hl
