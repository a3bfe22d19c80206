/-! the model's numbers -/
def DD (fd : Nat → Int64) : Prop := ∀ k, k < 2380 → dg (fd k)
def SV (fd : Nat → Int64) (s n : Nat) : Int := VL (fun k => fd (14 * s + k)) n
/-- from fd to fd' the number s alone is written: n digits, noughts above -/
def PV (fd fd' : Nat → Int64) (s n : Nat) : Prop := (∀ j, (j < 14 * s ∨ 14 * s + 14 ≤ j) → fd' j = fd j) ∧ (∀ k, k < 14 → dg (fd' (14 * s + k))) ∧ (∀ k, n ≤ k → k < 14 → fd' (14 * s + k) = 0)
theorem PV.dd {fd fd' : Nat → Int64} {s n : Nat} (h : PV fd fd' s n) (hd : DD fd) : DD fd' := by
  intro k hk
  by_cases e : k < 14 * s ∨ 14 * s + 14 ≤ k
  · rw [h.1 k e]; exact hd k hk
  · have h2 := h.2.1 (k - 14 * s) (by omega)
    rw [show 14 * s + (k - 14 * s) = k by omega] at h2
    exact h2
theorem PV.sv {fd fd' : Nat → Int64} {s n : Nat} (h : PV fd fd' s n) {t m : Nat} (ht : t ≠ s) (hm : m ≤ 14) : SV fd' t m = SV fd t m := VL_ext (fun k hk => h.1 _ (by omega))
theorem VL_lin {f h f' : Nat → Int64} {n : Nat} (e : ∀ k, k < n → (f' k).toInt = (f k).toInt + (h k).toInt) : VL f' n = VL f n + VL h n := by
  induction n with
  | zero => rfl
  | succ n ih =>
    unfold VL
    rw [ih (fun k hk => e k (by omega)), e n (by omega)]
    generalize (268435456 : Int) ^ n = b at *
    grind
theorem VL_lin3 {f h q f' : Nat → Int64} {n : Nat} (e : ∀ k, k < n → (f' k).toInt = (f k).toInt - (h k).toInt + (q k).toInt) : VL f' n = VL f n - VL h n + VL q n := by
  induction n with
  | zero => rfl
  | succ n ih =>
    unfold VL
    rw [ih (fun k hk => e k (by omega)), e n (by omega)]
    generalize (268435456 : Int) ^ n = b at *
    grind
/-- the model on the heap: its numbers fd are digits -/
def MS (g : WG) (n0 : Nat → Prop) (H : Heap) (mo : Nat) (th pw td wr : Int32) (w n : Nat) (fd : Nat → Int64) : Prop := MO g H mo th (nI w) (nI n) pw td wr ∧ AJ g H (mo + 2) 28 kPr ∧ (∃ f, AJ g H (mo + 4) 420 f ∧ ∀ k, k < 420 → dg (f k)) ∧ (∃ f, AJ g H (mo + 5) 32 f) ∧ AJ g H (mo + 1) 2380 fd ∧ DD fd ∧ n0 (mo + 1) ∧ n0 (mo + 5)
theorem MS.step {g : WG} {n0 : Nat → Prop} {H H' : Heap} {mo : Nat} {th pw td wr : Int32} {w n : Nat} {fd fd' : Nat → Int64} {U : State} (hK : KW g U) (h : MS g n0 H mo th pw td wr w n fd) (hk : KJ g (fun q => q = mo + 1 ∨ q = mo + 5) H H') (hf : AJ g H' (mo + 1) 2380 fd') (hd : DD fd') : MS g n0 H' mo th pw td wr w n fd' := by
  obtain ⟨h1, h2, ⟨f, h3, h4⟩, ⟨f5, h5⟩, h6, h7, h8, h9⟩ := h
  exact ⟨hk.ob hK h1, hk.ajo (by omega) h2, ⟨f, hk.ajo (by omega) h3, h4⟩, hk.aj h5, hf, hd, h8, h9⟩
abbrev y_Model_add : MethodName := ⟨"KateDeskModel", "add", "(III)V"⟩
theorem hd_Model_add : y_Model_add.cls ≠ "java/lang/invoke/MethodHandle" ∧ y_Model_add.cls ≠ "java/lang/invoke/VarHandle" ∧ (parseMethodDescriptor y_Model_add.desc).map (fun d => d.parameters.length) = some 3 := by decide +kernel
theorem d_Model_add_0 : decode prog_11_method_15_code 0 = .ok (.iconst 0, 1) := by decide +kernel
theorem d_Model_add_1 : decode prog_11_method_15_code 1 = .ok (.istore 4, 2) := by decide +kernel
theorem d_Model_add_3 : decode prog_11_method_15_code 3 = .ok (.iload 4, 2) := by decide +kernel
theorem d_Model_add_5 : decode prog_11_method_15_code 5 = .ok (.aload_n 0, 1) := by decide +kernel
theorem d_Model_add_6 : decode prog_11_method_15_code 6 = .ok (.getfield 144, 3) := by decide +kernel
theorem d_Model_add_9 : decode prog_11_method_15_code 9 = .ok (.if_icmp .gt 44, 3) := by decide +kernel
theorem d_Model_add_12 : decode prog_11_method_15_code 12 = .ok (.aload_n 0, 1) := by decide +kernel
theorem d_Model_add_13 : decode prog_11_method_15_code 13 = .ok (.getfield 124, 3) := by decide +kernel
theorem d_Model_add_16 : decode prog_11_method_15_code 16 = .ok (.iload 4, 2) := by decide +kernel
theorem d_Model_add_18 : decode prog_11_method_15_code 18 = .ok (.iload 4, 2) := by decide +kernel
theorem d_Model_add_20 : decode prog_11_method_15_code 20 = .ok (.aload_n 0, 1) := by decide +kernel
theorem d_Model_add_21 : decode prog_11_method_15_code 21 = .ok (.getfield 144, 3) := by decide +kernel
theorem d_Model_add_24 : decode prog_11_method_15_code 24 = .ok (.if_icmp .ge 21, 3) := by decide +kernel
theorem d_Model_add_27 : decode prog_11_method_15_code 27 = .ok (.aload_n 0, 1) := by decide +kernel
theorem d_Model_add_28 : decode prog_11_method_15_code 28 = .ok (.iload_n 2, 1) := by decide +kernel
theorem d_Model_add_29 : decode prog_11_method_15_code 29 = .ok (.iload 4, 2) := by decide +kernel
theorem d_Model_add_31 : decode prog_11_method_15_code 31 = .ok (.invokevirtual 164, 3) := by decide +kernel
theorem d_Model_add_34 : decode prog_11_method_15_code 34 = .ok (.aload_n 0, 1) := by decide +kernel
theorem d_Model_add_35 : decode prog_11_method_15_code 35 = .ok (.iload_n 3, 1) := by decide +kernel
theorem d_Model_add_36 : decode prog_11_method_15_code 36 = .ok (.iload 4, 2) := by decide +kernel
theorem d_Model_add_38 : decode prog_11_method_15_code 38 = .ok (.invokevirtual 164, 3) := by decide +kernel
theorem d_Model_add_41 : decode prog_11_method_15_code 41 = .ok (.ladd, 1) := by decide +kernel
theorem d_Model_add_42 : decode prog_11_method_15_code 42 = .ok (.goto 4, 3) := by decide +kernel
theorem d_Model_add_45 : decode prog_11_method_15_code 45 = .ok (.lconst 0, 1) := by decide +kernel
theorem d_Model_add_46 : decode prog_11_method_15_code 46 = .ok (.lastore, 1) := by decide +kernel
theorem d_Model_add_47 : decode prog_11_method_15_code 47 = .ok (.iinc 4 1, 3) := by decide +kernel
theorem d_Model_add_50 : decode prog_11_method_15_code 50 = .ok (.goto (-47), 3) := by decide +kernel
theorem d_Model_add_53 : decode prog_11_method_15_code 53 = .ok (.aload_n 0, 1) := by decide +kernel
theorem d_Model_add_54 : decode prog_11_method_15_code 54 = .ok (.aload_n 0, 1) := by decide +kernel
theorem d_Model_add_55 : decode prog_11_method_15_code 55 = .ok (.getfield 144, 3) := by decide +kernel
theorem d_Model_add_58 : decode prog_11_method_15_code 58 = .ok (.invokevirtual 174, 3) := by decide +kernel
theorem d_Model_add_61 : decode prog_11_method_15_code 61 = .ok (.aload_n 0, 1) := by decide +kernel
theorem d_Model_add_62 : decode prog_11_method_15_code 62 = .ok (.iload_n 1, 1) := by decide +kernel
theorem d_Model_add_63 : decode prog_11_method_15_code 63 = .ok (.invokevirtual 177, 3) := by decide +kernel
theorem d_Model_add_66 : decode prog_11_method_15_code 66 = .ok (.return_, 1) := by decide +kernel
abbrev y_Model_less : MethodName := ⟨"KateDeskModel", "less", "(III)V"⟩
theorem hd_Model_less : y_Model_less.cls ≠ "java/lang/invoke/MethodHandle" ∧ y_Model_less.cls ≠ "java/lang/invoke/VarHandle" ∧ (parseMethodDescriptor y_Model_less.desc).map (fun d => d.parameters.length) = some 3 := by decide +kernel
theorem d_Model_less_0 : decode prog_11_method_16_code 0 = .ok (.iconst 0, 1) := by decide +kernel
theorem d_Model_less_1 : decode prog_11_method_16_code 1 = .ok (.istore 4, 2) := by decide +kernel
theorem d_Model_less_3 : decode prog_11_method_16_code 3 = .ok (.iload 4, 2) := by decide +kernel
theorem d_Model_less_5 : decode prog_11_method_16_code 5 = .ok (.aload_n 0, 1) := by decide +kernel
theorem d_Model_less_6 : decode prog_11_method_16_code 6 = .ok (.getfield 144, 3) := by decide +kernel
theorem d_Model_less_9 : decode prog_11_method_16_code 9 = .ok (.if_icmp .gt 60, 3) := by decide +kernel
theorem d_Model_less_12 : decode prog_11_method_16_code 12 = .ok (.aload_n 0, 1) := by decide +kernel
theorem d_Model_less_13 : decode prog_11_method_16_code 13 = .ok (.getfield 124, 3) := by decide +kernel
theorem d_Model_less_16 : decode prog_11_method_16_code 16 = .ok (.iload 4, 2) := by decide +kernel
theorem d_Model_less_18 : decode prog_11_method_16_code 18 = .ok (.iload 4, 2) := by decide +kernel
theorem d_Model_less_20 : decode prog_11_method_16_code 20 = .ok (.aload_n 0, 1) := by decide +kernel
theorem d_Model_less_21 : decode prog_11_method_16_code 21 = .ok (.getfield 144, 3) := by decide +kernel
theorem d_Model_less_24 : decode prog_11_method_16_code 24 = .ok (.if_icmp .ge 37, 3) := by decide +kernel
theorem d_Model_less_27 : decode prog_11_method_16_code 27 = .ok (.aload_n 0, 1) := by decide +kernel
theorem d_Model_less_28 : decode prog_11_method_16_code 28 = .ok (.iload_n 2, 1) := by decide +kernel
theorem d_Model_less_29 : decode prog_11_method_16_code 29 = .ok (.iload 4, 2) := by decide +kernel
theorem d_Model_less_31 : decode prog_11_method_16_code 31 = .ok (.invokevirtual 164, 3) := by decide +kernel
theorem d_Model_less_34 : decode prog_11_method_16_code 34 = .ok (.aload_n 0, 1) := by decide +kernel
theorem d_Model_less_35 : decode prog_11_method_16_code 35 = .ok (.iload_n 3, 1) := by decide +kernel
theorem d_Model_less_36 : decode prog_11_method_16_code 36 = .ok (.iload 4, 2) := by decide +kernel
theorem d_Model_less_38 : decode prog_11_method_16_code 38 = .ok (.invokevirtual 164, 3) := by decide +kernel
theorem d_Model_less_41 : decode prog_11_method_16_code 41 = .ok (.lsub, 1) := by decide +kernel
theorem d_Model_less_42 : decode prog_11_method_16_code 42 = .ok (.aload_n 0, 1) := by decide +kernel
theorem d_Model_less_43 : decode prog_11_method_16_code 43 = .ok (.getfield 59, 3) := by decide +kernel
theorem d_Model_less_46 : decode prog_11_method_16_code 46 = .ok (.bipush 14, 2) := by decide +kernel
theorem d_Model_less_48 : decode prog_11_method_16_code 48 = .ok (.aload_n 0, 1) := by decide +kernel
theorem d_Model_less_49 : decode prog_11_method_16_code 49 = .ok (.getfield 161, 3) := by decide +kernel
theorem d_Model_less_52 : decode prog_11_method_16_code 52 = .ok (.imul, 1) := by decide +kernel
theorem d_Model_less_53 : decode prog_11_method_16_code 53 = .ok (.iload 4, 2) := by decide +kernel
theorem d_Model_less_55 : decode prog_11_method_16_code 55 = .ok (.iadd, 1) := by decide +kernel
theorem d_Model_less_56 : decode prog_11_method_16_code 56 = .ok (.laload, 1) := by decide +kernel
theorem d_Model_less_57 : decode prog_11_method_16_code 57 = .ok (.ladd, 1) := by decide +kernel
theorem d_Model_less_58 : decode prog_11_method_16_code 58 = .ok (.goto 4, 3) := by decide +kernel
theorem d_Model_less_61 : decode prog_11_method_16_code 61 = .ok (.lconst 0, 1) := by decide +kernel
theorem d_Model_less_62 : decode prog_11_method_16_code 62 = .ok (.lastore, 1) := by decide +kernel
theorem d_Model_less_63 : decode prog_11_method_16_code 63 = .ok (.iinc 4 1, 3) := by decide +kernel
theorem d_Model_less_66 : decode prog_11_method_16_code 66 = .ok (.goto (-63), 3) := by decide +kernel
theorem d_Model_less_69 : decode prog_11_method_16_code 69 = .ok (.aload_n 0, 1) := by decide +kernel
theorem d_Model_less_70 : decode prog_11_method_16_code 70 = .ok (.aload_n 0, 1) := by decide +kernel
theorem d_Model_less_71 : decode prog_11_method_16_code 71 = .ok (.getfield 144, 3) := by decide +kernel
theorem d_Model_less_74 : decode prog_11_method_16_code 74 = .ok (.invokevirtual 174, 3) := by decide +kernel
theorem d_Model_less_77 : decode prog_11_method_16_code 77 = .ok (.aload_n 0, 1) := by decide +kernel
theorem d_Model_less_78 : decode prog_11_method_16_code 78 = .ok (.iload_n 1, 1) := by decide +kernel
theorem d_Model_less_79 : decode prog_11_method_16_code 79 = .ok (.invokevirtual 177, 3) := by decide +kernel
theorem d_Model_less_82 : decode prog_11_method_16_code 82 = .ok (.return_, 1) := by decide +kernel
set_option maxHeartbeats 4000000 in
set_option maxRecDepth 100000 in
/-- add: a number is written -/
theorem c_Model_add (l : Launch) (g : WG) (n0 : Nat → Prop) (mo r a b : Nat) (th pw td wr : Int32) (w n : Nat) (hw : WH w n) (fd : Nat → Int64) (hr1 : r < 170) (ha : a < 170) (hb1 : b < 170) : Ctr l y_Model_add (.code y_Model_add prog_11_method_15_code 5 none) 2 51 0 0 n0 g [.ref mo, .int (nI r), .int (nI a), .int (nI b)] (fun H => MS g n0 H mo th pw td wr w n fd) (QV (fun H H' => KJ g (fun q => q = mo + 1 ∨ q = mo + 5) H H' ∧ ∃ fd', MS g n0 H' mo th pw td wr w n fd' ∧ PV fd fd' r n ∧ (0 ≤ SV fd a n + SV fd b n → SV fd a n + SV fd b n < 268435456 ^ n → SV fd' r n = (SV fd a n + SV fd b n) % PP w n))) := by
  refine ctr_mk l (lv0 := [(0, .ref mo), (1, .int (nI r)), (2, .int (nI a)), (3, .int (nI b))]) (by decide) (Nat.le_of_ble_eq_true rfl) rfl ?_
  intro p e s m below meth c ls E hr hlk hnm hl hP
  have hx := E.1
  have hb := E.2.1
  have hK := E.2.2.2.2.2
  have hF : ∀ q ∈ ([] : List Loc), n0 q.base := fun q hq => absurd hq List.not_mem_nil
  obtain ⟨hmo, hpr, ⟨fa, hab, had⟩, ⟨fc, hac⟩, hfd, hDD, hn01, hn05⟩ := id hP
  obtain ⟨hpd, hn1, hn14, hw1, hPT, hP1, hT0, hT1⟩ := wh_kP hw
  have loop : ∀ (k : Nat) (i : Nat) (H : Heap) (locs : List Loc) (ls : Array Slot) (f1 : Nat → Int64), i + k = n + 1 → KJ g (fun q => q = mo + 5) s.heap H → AJ g H (mo + 5) 32 f1 → (∀ k, k < i → f1 k = if k < n then fd (14 * a + k) + fd (14 * b + k) else 0) → (∀ q ∈ locs, n0 q.base) → lv_has ls 5 [(4, .int (nI i)), (0, .ref mo), (1, .int (nI r)), (2, .int (nI a)), (3, .int (nI b))] → W p l e { frames := 2, cells := 0, slots := 0, locals := 51 } s m [.ref mo, .int (nI r), .int (nI a), .int (nI b)].toArray below meth c H locs 0 0 (MQ below (QcP (QV (fun H H' => KJ g (fun q => q = mo + 1 ∨ q = mo + 5) H H' ∧ ∃ fd', MS g n0 H' mo th pw td wr w n fd' ∧ PV fd fd' r n ∧ (0 ≤ SV fd a n + SV fd b n → SV fd a n + SV fd b n < 268435456 ^ n → SV fd' r n = (SV fd a n + SV fd b n) % PP w n)))) [.ref mo, .int (nI r), .int (nI a), .int (nI b)].toArray s 0 0 (fun q => n0 q)) (F0 m 3 ls []) := by
    intro k
    induction k with
    | zero =>
      intro  i   H   locs   ls   f1 hi hk5 hf hlow hF hl
      obtain rfl : i = n + 1 := by omega
      refine lv_iload hx hb d_Model_add_3 (lv_at hl 0 rfl) ?_
      refine lv_aload_n hx hb d_Model_add_5 rfl (lv_at hl 1 rfl) ?_
      refine q_get (C := "KateDeskModel") (T := T_Model) (N := 14) (ci := 8) E (hk5.ob hK hmo) in_Model rfl 7 (by decide) w_1008 rfl rfl d_Model_add_6 ?_
      refine lv_icmp_gt (tgt := 53) hx hb d_Model_add_9 (by decide) (fun _ => ?_) (fun h9 => absurd (nI_lt (by omega) (by omega)) h9)
      refine lv_aload_n hx hb d_Model_add_53 rfl (lv_at hl 1 rfl) ?_
      refine lv_aload_n hx hb d_Model_add_54 rfl (lv_at hl 1 rfl) ?_
      refine q_get (C := "KateDeskModel") (T := T_Model) (N := 14) (ci := 8) E (hk5.ob hK hmo) in_Model rfl 7 (by decide) w_1008 rfl rfl d_Model_add_55 ?_
      have hfn : f1 n = 0 := by rw [hlow n (by omega), if_neg (by omega)]
      have hfl : ∀ k, k < n → (f1 k).toInt = (fd (14 * a + k)).toInt + (fd (14 * b + k)).toInt := by
        intro k hk1
        have h1 := hDD (14 * a + k) (by omega)
        have h2 := hDD (14 * b + k) (by omega)
        have h3 := hpd k (by omega)
        unfold dg at h1 h2 h3
        rw [hlow k (by omega), if_pos hk1]
        exact i64_add (by omega) (by omega)
      refine q_cV (rest := []) E (c_Model_carries l g n0 mo n th (nI w) (nI n) pw td wr f1 (by omega) (fun k hk1 => by by_cases e : k = n; (rw [e, hfn]; exact ⟨by decide, by decide⟩); (have h1 := hDD (14 * a + k) (by omega); have h2 := hDD (14 * b + k) (by omega); have h3 := hpd k (by omega); unfold dg at h1 h2 h3; rw [hfl k (by omega)]; omega))) w_983 w_15 w_980 w_982 (bw_s 19 rfl) hd_Model_carries rfl ⟨by decide, by decide⟩ (OB.recv E.2.2.2.2.2 (by rfl) (hk5.ob hK hmo)) (⟨hk5.ob hK hmo, hf, hn05⟩) hF hl.1 rfl (Nat.le_of_ble_eq_true rfl) d_Model_add_58 ⟨by decide, by decide⟩ (qv (fun H1 locs hq hF => ?_))
      obtain ⟨hq, f3, hf3, hd3, hV3, hj3, hb3⟩ := hq
      have hk5 := hk5.tr hq
      refine lv_aload_n hx hb d_Model_add_61 rfl (lv_at hl 1 rfl) ?_
      refine lv_iload_n hx hb d_Model_add_62 rfl (lv_at hl 2 rfl) ?_
      refine q_cV (rest := []) E (c_Model_settles l g n0 mo r th pw td wr w n hw f3 fd hr1 hd3) w_988 w_15 w_985 w_987 (bw_s 20 rfl) hd_Model_settles rfl ⟨by decide, by decide⟩ (OB.recv E.2.2.2.2.2 (by rfl) (hk5.ob hK hmo)) (⟨hk5.ob hK hmo, hk5.ajo (by omega) hpr, hf3, hk5.ajo (by omega) hfd, hn01, hn05⟩) hF hl.1 rfl (Nat.le_of_ble_eq_true rfl) d_Model_add_63 ⟨by decide, by decide⟩ (qv (fun H2 locs hq hF => ?_))
      obtain ⟨hq, fd2, hfd2, ho, hdd, hz, hV⟩ := hq
      have hk := (hk5.mono (fun q h => Or.inr h) : KJ g (fun q => q = mo + 1 ∨ q = mo + 5) s.heap _).tr hq
      have hpv : PV fd fd2 r n := ⟨ho, hdd, hz⟩
      have hsum : VL f1 n = SV fd a n + SV fd b n := VL_lin (f := fun k => fd (14 * a + k)) (h := fun k => fd (14 * b + k)) hfl
      rw [hfn, hsum, show (0 : Int64).toInt = 0 by decide, Int.zero_mul, Int.add_zero] at hV3
      exact q_vret E hr hlk (⟨rfl, hk, fd2, hP.step hK hk hfd2 (hpv.dd hDD), hpv, fun h1 h2 => hV.trans (by rw [(carry0 (pw_pos n) (VL_range hd3) ⟨h1, h2⟩ hV3).2])⟩) hF d_Model_add_66
    | succ k ih =>
      intro  i   H   locs   ls   f1 hi hk5 hf hlow hF hl
      refine lv_iload hx hb d_Model_add_3 (lv_at hl 0 rfl) ?_
      refine lv_aload_n hx hb d_Model_add_5 rfl (lv_at hl 1 rfl) ?_
      refine q_get (C := "KateDeskModel") (T := T_Model) (N := 14) (ci := 8) E (hk5.ob hK hmo) in_Model rfl 7 (by decide) w_1008 rfl rfl d_Model_add_6 ?_
      refine lv_icmp_gt (tgt := 53) hx hb d_Model_add_9 (by decide) (fun h9 => absurd h9 (nI_nlt (by omega) (by omega))) (fun _ => ?_)
      refine lv_aload_n hx hb d_Model_add_12 rfl (lv_at hl 1 rfl) ?_
      refine q_get (C := "KateDeskModel") (T := T_Model) (N := 14) (ci := 8) E (hk5.ob hK hmo) in_Model rfl 5 (by decide) w_1006 rfl rfl d_Model_add_13 ?_
      refine lv_iload hx hb d_Model_add_16 (lv_at hl 0 rfl) ?_
      refine lv_iload hx hb d_Model_add_18 (lv_at hl 0 rfl) ?_
      refine lv_aload_n hx hb d_Model_add_20 rfl (lv_at hl 1 rfl) ?_
      refine q_get (C := "KateDeskModel") (T := T_Model) (N := 14) (ci := 8) E (hk5.ob hK hmo) in_Model rfl 7 (by decide) w_1008 rfl rfl d_Model_add_21 ?_
      refine lv_icmp_ge (tgt := 45) hx hb d_Model_add_24 (by decide) (fun hin => ?_) (fun hin => ?_)
      rotate_left
      · skip
        have hin : i < n := Nat.lt_of_not_le (fun q => hin (nI_le q (by omega)))
        refine lv_aload_n hx hb d_Model_add_27 rfl (lv_at hl 1 rfl) ?_
        refine lv_iload_n hx hb d_Model_add_28 rfl (lv_at hl 3 rfl) ?_
        refine lv_iload hx hb d_Model_add_29 (lv_at hl 0 rfl) ?_
        refine q_cV (rest := [.int (nI i), .ref (mo + 5)]) E (c_Model_limb l g n0 mo a i th (nI w) (nI n) pw td wr fd ha (by omega)) w_979 w_15 w_976 w_978 (bw_s 18 rfl) hd_Model_limb rfl ⟨by decide, by decide⟩ (OB.recv E.2.2.2.2.2 (by rfl) (hk5.ob hK hmo)) (⟨hk5.ob hK hmo, hk5.ajo (by omega) hfd⟩) hF hl.1 rfl (Nat.le_of_ble_eq_true rfl) d_Model_add_31 ⟨by decide, by decide⟩ (ql (fun v1 H1 locs hq hF => ?_))
        obtain ⟨hq, hq9⟩ := hq
        obtain rfl := hq9
        subst hq
        refine lv_aload_n hx hb d_Model_add_34 rfl (lv_at hl 1 rfl) ?_
        refine lv_iload_n hx hb d_Model_add_35 rfl (lv_at hl 4 rfl) ?_
        refine lv_iload hx hb d_Model_add_36 (lv_at hl 0 rfl) ?_
        refine q_cV (rest := [.long (fd (14 * a + i)), .int (nI i), .ref (mo + 5)]) E (c_Model_limb l g n0 mo b i th (nI w) (nI n) pw td wr fd hb1 (by omega)) w_979 w_15 w_976 w_978 (bw_s 18 rfl) hd_Model_limb rfl ⟨by decide, by decide⟩ (OB.recv E.2.2.2.2.2 (by rfl) (hk5.ob hK hmo)) (⟨hk5.ob hK hmo, hk5.ajo (by omega) hfd⟩) hF hl.1 rfl (Nat.le_of_ble_eq_true rfl) d_Model_add_38 ⟨by decide, by decide⟩ (ql (fun v2 H2 locs hq hF => ?_))
        obtain ⟨hq, hq9⟩ := hq
        obtain rfl := hq9
        subst hq
        refine lv_ladd hx hb d_Model_add_41 ?_
        refine lv_goto (tgt := 46) hx hb d_Model_add_42 (by decide) ?_
        have hv9 : (fd (14 * a + i)) + (fd (14 * b + i)) = (if i < n then fd (14 * a + i) + fd (14 * b + i) else 0) := by rw [if_pos hin]
        refine q_last E hf hn05 hF i rfl (by omega) (by decide) d_Model_add_46 (fun H3 locs hq hf2 hF => ?_)
        have hk5 := hk5.tr hq
        refine lv_iinc (k := 0) (v := nI (i + 1)) (lv' := [(4, .int (nI (i + 1))), (0, .ref mo), (1, .int (nI r)), (2, .int (nI a)), (3, .int (nI b))]) hx hb d_Model_add_47 hl rfl (i_inc i) (by decide) rfl (fun ls hl => ?_)
        refine lv_goto (tgt := 3) hx hb d_Model_add_50 (by decide) ?_
        have hl : lv_has ls 5 [(4, .int (nI (i + 1))), (0, .ref mo), (1, .int (nI r)), (2, .int (nI a)), (3, .int (nI b))] := lv_sub hl [0, 1, 2, 3, 4] rfl
        exact ih (i + 1) H3 _ ls _ (by omega) hk5 hf2 (fun k hk1 => by by_cases e : k = i; (subst e; simp only [vp_updL, if_true]; exact hv9); (simp only [vp_updL, e, if_false]; exact hlow k (by omega))) hF hl
      have hin : ¬ i < n := fun q => absurd hin (nI_ge q (by omega))
      refine lv_lconst (v := 0) hx hb d_Model_add_45 (by decide) ?_
      have hv9 : 0 = (if i < n then fd (14 * a + i) + fd (14 * b + i) else 0) := by rw [if_neg hin]
      refine q_last E hf hn05 hF i rfl (by omega) (by decide) d_Model_add_46 (fun H1 locs hq hf2 hF => ?_)
      have hk5 := hk5.tr hq
      refine lv_iinc (k := 0) (v := nI (i + 1)) (lv' := [(4, .int (nI (i + 1))), (0, .ref mo), (1, .int (nI r)), (2, .int (nI a)), (3, .int (nI b))]) hx hb d_Model_add_47 hl rfl (i_inc i) (by decide) rfl (fun ls hl => ?_)
      refine lv_goto (tgt := 3) hx hb d_Model_add_50 (by decide) ?_
      have hl : lv_has ls 5 [(4, .int (nI (i + 1))), (0, .ref mo), (1, .int (nI r)), (2, .int (nI a)), (3, .int (nI b))] := lv_sub hl [0, 1, 2, 3, 4] rfl
      exact ih (i + 1) H1 _ ls _ (by omega) hk5 hf2 (fun k hk1 => by by_cases e : k = i; (subst e; simp only [vp_updL, if_true]; exact hv9); (simp only [vp_updL, e, if_false]; exact hlow k (by omega))) hF hl
  refine lv_iconst (v := nI 0) hx hb d_Model_add_0 (by decide) ?_
  refine lv_istore (lv' := [(4, .int (nI 0)), (0, .ref mo), (1, .int (nI r)), (2, .int (nI a)), (3, .int (nI b))]) hx hb d_Model_add_1 hl (by decide) rfl (fun ls hl => ?_)
  have hl : lv_has ls 5 [(4, .int (nI 0)), (0, .ref mo), (1, .int (nI r)), (2, .int (nI a)), (3, .int (nI b))] := lv_sub hl [0, 1, 2, 3, 4] rfl
  exact loop (n + 1) 0 s.heap [] ls fc (by omega) KJ.rf hac (fun k hk1 => absurd hk1 (Nat.not_lt_zero _)) hF hl
set_option maxHeartbeats 4000000 in
set_option maxRecDepth 100000 in
/-- less: a number is written -/
theorem c_Model_less (l : Launch) (g : WG) (n0 : Nat → Prop) (mo r a b : Nat) (th pw td wr : Int32) (w n : Nat) (hw : WH w n) (fd : Nat → Int64) (hr1 : r < 170) (ha : a < 170) (hb1 : b < 170) : Ctr l y_Model_less (.code y_Model_less prog_11_method_16_code 5 none) 2 51 0 0 n0 g [.ref mo, .int (nI r), .int (nI a), .int (nI b)] (fun H => MS g n0 H mo th pw td wr w n fd) (QV (fun H H' => KJ g (fun q => q = mo + 1 ∨ q = mo + 5) H H' ∧ ∃ fd', MS g n0 H' mo th pw td wr w n fd' ∧ PV fd fd' r n ∧ (0 ≤ SV fd a n - SV fd b n + PP w n → SV fd a n - SV fd b n + PP w n < 268435456 ^ n → SV fd' r n = (SV fd a n - SV fd b n + PP w n) % PP w n))) := by
  refine ctr_mk l (lv0 := [(0, .ref mo), (1, .int (nI r)), (2, .int (nI a)), (3, .int (nI b))]) (by decide) (Nat.le_of_ble_eq_true rfl) rfl ?_
  intro p e s m below meth c ls E hr hlk hnm hl hP
  have hx := E.1
  have hb := E.2.1
  have hK := E.2.2.2.2.2
  have hF : ∀ q ∈ ([] : List Loc), n0 q.base := fun q hq => absurd hq List.not_mem_nil
  obtain ⟨hmo, hpr, ⟨fa, hab, had⟩, ⟨fc, hac⟩, hfd, hDD, hn01, hn05⟩ := id hP
  obtain ⟨hpd, hn1, hn14, hw1, hPT, hP1, hT0, hT1⟩ := wh_kP hw
  have loop : ∀ (k : Nat) (i : Nat) (H : Heap) (locs : List Loc) (ls : Array Slot) (f1 : Nat → Int64), i + k = n + 1 → KJ g (fun q => q = mo + 5) s.heap H → AJ g H (mo + 5) 32 f1 → (∀ k, k < i → f1 k = if k < n then fd (14 * a + k) - fd (14 * b + k) + kP w k else 0) → (∀ q ∈ locs, n0 q.base) → lv_has ls 5 [(4, .int (nI i)), (0, .ref mo), (1, .int (nI r)), (2, .int (nI a)), (3, .int (nI b))] → W p l e { frames := 2, cells := 0, slots := 0, locals := 51 } s m [.ref mo, .int (nI r), .int (nI a), .int (nI b)].toArray below meth c H locs 0 0 (MQ below (QcP (QV (fun H H' => KJ g (fun q => q = mo + 1 ∨ q = mo + 5) H H' ∧ ∃ fd', MS g n0 H' mo th pw td wr w n fd' ∧ PV fd fd' r n ∧ (0 ≤ SV fd a n - SV fd b n + PP w n → SV fd a n - SV fd b n + PP w n < 268435456 ^ n → SV fd' r n = (SV fd a n - SV fd b n + PP w n) % PP w n)))) [.ref mo, .int (nI r), .int (nI a), .int (nI b)].toArray s 0 0 (fun q => n0 q)) (F0 m 3 ls []) := by
    intro k
    induction k with
    | zero =>
      intro  i   H   locs   ls   f1 hi hk5 hf hlow hF hl
      obtain rfl : i = n + 1 := by omega
      refine lv_iload hx hb d_Model_less_3 (lv_at hl 0 rfl) ?_
      refine lv_aload_n hx hb d_Model_less_5 rfl (lv_at hl 1 rfl) ?_
      refine q_get (C := "KateDeskModel") (T := T_Model) (N := 14) (ci := 8) E (hk5.ob hK hmo) in_Model rfl 7 (by decide) w_1008 rfl rfl d_Model_less_6 ?_
      refine lv_icmp_gt (tgt := 69) hx hb d_Model_less_9 (by decide) (fun _ => ?_) (fun h9 => absurd (nI_lt (by omega) (by omega)) h9)
      refine lv_aload_n hx hb d_Model_less_69 rfl (lv_at hl 1 rfl) ?_
      refine lv_aload_n hx hb d_Model_less_70 rfl (lv_at hl 1 rfl) ?_
      refine q_get (C := "KateDeskModel") (T := T_Model) (N := 14) (ci := 8) E (hk5.ob hK hmo) in_Model rfl 7 (by decide) w_1008 rfl rfl d_Model_less_71 ?_
      have hfn : f1 n = 0 := by rw [hlow n (by omega), if_neg (by omega)]
      have hfl : ∀ k, k < n → (f1 k).toInt = (fd (14 * a + k)).toInt - (fd (14 * b + k)).toInt + (kP w k).toInt := by
        intro k hk1
        have h1 := hDD (14 * a + k) (by omega)
        have h2 := hDD (14 * b + k) (by omega)
        have h3 := hpd k (by omega)
        unfold dg at h1 h2 h3
        rw [hlow k (by omega), if_pos hk1]
        have e1 : (fd (14 * a + k) - fd (14 * b + k)).toInt = (fd (14 * a + k)).toInt - (fd (14 * b + k)).toInt := i64_sub (by omega) (by omega)
        rw [i64_add (by omega) (by omega), e1]
      refine q_cV (rest := []) E (c_Model_carries l g n0 mo n th (nI w) (nI n) pw td wr f1 (by omega) (fun k hk1 => by by_cases e : k = n; (rw [e, hfn]; exact ⟨by decide, by decide⟩); (have h1 := hDD (14 * a + k) (by omega); have h2 := hDD (14 * b + k) (by omega); have h3 := hpd k (by omega); unfold dg at h1 h2 h3; rw [hfl k (by omega)]; omega))) w_983 w_15 w_980 w_982 (bw_s 19 rfl) hd_Model_carries rfl ⟨by decide, by decide⟩ (OB.recv E.2.2.2.2.2 (by rfl) (hk5.ob hK hmo)) (⟨hk5.ob hK hmo, hf, hn05⟩) hF hl.1 rfl (Nat.le_of_ble_eq_true rfl) d_Model_less_74 ⟨by decide, by decide⟩ (qv (fun H1 locs hq hF => ?_))
      obtain ⟨hq, f3, hf3, hd3, hV3, hj3, hb3⟩ := hq
      have hk5 := hk5.tr hq
      refine lv_aload_n hx hb d_Model_less_77 rfl (lv_at hl 1 rfl) ?_
      refine lv_iload_n hx hb d_Model_less_78 rfl (lv_at hl 2 rfl) ?_
      refine q_cV (rest := []) E (c_Model_settles l g n0 mo r th pw td wr w n hw f3 fd hr1 hd3) w_988 w_15 w_985 w_987 (bw_s 20 rfl) hd_Model_settles rfl ⟨by decide, by decide⟩ (OB.recv E.2.2.2.2.2 (by rfl) (hk5.ob hK hmo)) (⟨hk5.ob hK hmo, hk5.ajo (by omega) hpr, hf3, hk5.ajo (by omega) hfd, hn01, hn05⟩) hF hl.1 rfl (Nat.le_of_ble_eq_true rfl) d_Model_less_79 ⟨by decide, by decide⟩ (qv (fun H2 locs hq hF => ?_))
      obtain ⟨hq, fd2, hfd2, ho, hdd, hz, hV⟩ := hq
      have hk := (hk5.mono (fun q h => Or.inr h) : KJ g (fun q => q = mo + 1 ∨ q = mo + 5) s.heap _).tr hq
      have hpv : PV fd fd2 r n := ⟨ho, hdd, hz⟩
      have hsum : VL f1 n = SV fd a n - SV fd b n + PP w n := VL_lin3 (f := fun k => fd (14 * a + k)) (h := fun k => fd (14 * b + k)) (q := kP w) hfl
      rw [hfn, hsum, show (0 : Int64).toInt = 0 by decide, Int.zero_mul, Int.add_zero] at hV3
      exact q_vret E hr hlk (⟨rfl, hk, fd2, hP.step hK hk hfd2 (hpv.dd hDD), hpv, fun h1 h2 => hV.trans (by rw [(carry0 (pw_pos n) (VL_range hd3) ⟨h1, h2⟩ hV3).2])⟩) hF d_Model_less_82
    | succ k ih =>
      intro  i   H   locs   ls   f1 hi hk5 hf hlow hF hl
      refine lv_iload hx hb d_Model_less_3 (lv_at hl 0 rfl) ?_
      refine lv_aload_n hx hb d_Model_less_5 rfl (lv_at hl 1 rfl) ?_
      refine q_get (C := "KateDeskModel") (T := T_Model) (N := 14) (ci := 8) E (hk5.ob hK hmo) in_Model rfl 7 (by decide) w_1008 rfl rfl d_Model_less_6 ?_
      refine lv_icmp_gt (tgt := 69) hx hb d_Model_less_9 (by decide) (fun h9 => absurd h9 (nI_nlt (by omega) (by omega))) (fun _ => ?_)
      refine lv_aload_n hx hb d_Model_less_12 rfl (lv_at hl 1 rfl) ?_
      refine q_get (C := "KateDeskModel") (T := T_Model) (N := 14) (ci := 8) E (hk5.ob hK hmo) in_Model rfl 5 (by decide) w_1006 rfl rfl d_Model_less_13 ?_
      refine lv_iload hx hb d_Model_less_16 (lv_at hl 0 rfl) ?_
      refine lv_iload hx hb d_Model_less_18 (lv_at hl 0 rfl) ?_
      refine lv_aload_n hx hb d_Model_less_20 rfl (lv_at hl 1 rfl) ?_
      refine q_get (C := "KateDeskModel") (T := T_Model) (N := 14) (ci := 8) E (hk5.ob hK hmo) in_Model rfl 7 (by decide) w_1008 rfl rfl d_Model_less_21 ?_
      refine lv_icmp_ge (tgt := 61) hx hb d_Model_less_24 (by decide) (fun hin => ?_) (fun hin => ?_)
      rotate_left
      · skip
        have hin : i < n := Nat.lt_of_not_le (fun q => hin (nI_le q (by omega)))
        refine lv_aload_n hx hb d_Model_less_27 rfl (lv_at hl 1 rfl) ?_
        refine lv_iload_n hx hb d_Model_less_28 rfl (lv_at hl 3 rfl) ?_
        refine lv_iload hx hb d_Model_less_29 (lv_at hl 0 rfl) ?_
        refine q_cV (rest := [.int (nI i), .ref (mo + 5)]) E (c_Model_limb l g n0 mo a i th (nI w) (nI n) pw td wr fd ha (by omega)) w_979 w_15 w_976 w_978 (bw_s 18 rfl) hd_Model_limb rfl ⟨by decide, by decide⟩ (OB.recv E.2.2.2.2.2 (by rfl) (hk5.ob hK hmo)) (⟨hk5.ob hK hmo, hk5.ajo (by omega) hfd⟩) hF hl.1 rfl (Nat.le_of_ble_eq_true rfl) d_Model_less_31 ⟨by decide, by decide⟩ (ql (fun v1 H1 locs hq hF => ?_))
        obtain ⟨hq, hq9⟩ := hq
        obtain rfl := hq9
        subst hq
        refine lv_aload_n hx hb d_Model_less_34 rfl (lv_at hl 1 rfl) ?_
        refine lv_iload_n hx hb d_Model_less_35 rfl (lv_at hl 4 rfl) ?_
        refine lv_iload hx hb d_Model_less_36 (lv_at hl 0 rfl) ?_
        refine q_cV (rest := [.long (fd (14 * a + i)), .int (nI i), .ref (mo + 5)]) E (c_Model_limb l g n0 mo b i th (nI w) (nI n) pw td wr fd hb1 (by omega)) w_979 w_15 w_976 w_978 (bw_s 18 rfl) hd_Model_limb rfl ⟨by decide, by decide⟩ (OB.recv E.2.2.2.2.2 (by rfl) (hk5.ob hK hmo)) (⟨hk5.ob hK hmo, hk5.ajo (by omega) hfd⟩) hF hl.1 rfl (Nat.le_of_ble_eq_true rfl) d_Model_less_38 ⟨by decide, by decide⟩ (ql (fun v2 H2 locs hq hF => ?_))
        obtain ⟨hq, hq9⟩ := hq
        obtain rfl := hq9
        subst hq
        refine lv_lsub hx hb d_Model_less_41 ?_
        refine lv_aload_n hx hb d_Model_less_42 rfl (lv_at hl 1 rfl) ?_
        refine q_get (C := "KateDeskModel") (T := T_Model) (N := 14) (ci := 8) E (hk5.ob hK hmo) in_Model rfl 2 (by decide) w_1003 rfl rfl d_Model_less_43 ?_
        refine lv_bipush (v := nI 14) hx hb d_Model_less_46 (by decide) ?_
        refine lv_aload_n hx hb d_Model_less_48 rfl (lv_at hl 1 rfl) ?_
        refine q_get (C := "KateDeskModel") (T := T_Model) (N := 14) (ci := 8) E (hk5.ob hK hmo) in_Model rfl 6 (by decide) w_1007 rfl rfl d_Model_less_49 ?_
        refine lv_imul hx hb d_Model_less_52 ?_
        refine lv_iload hx hb d_Model_less_53 (lv_at hl 0 rfl) ?_
        refine lv_iadd hx hb d_Model_less_55 ?_
        have hpi : (nI 14) * (nI w) + nI i = nI (14 * w + i) := by rw [pk_mul, nI_add]
        refine q_lald (N := 28) (f := kPr) E (hk5.ajo (by omega) hpr) (14 * w + i) hpi (by omega) (by decide) d_Model_less_56 ?_
        refine lv_ladd hx hb d_Model_less_57 ?_
        refine lv_goto (tgt := 62) hx hb d_Model_less_58 (by decide) ?_
        have hv9 : ((fd (14 * a + i)) - (fd (14 * b + i))) + (kPr (14 * w + i)) = (if i < n then fd (14 * a + i) - fd (14 * b + i) + kP w i else 0) := by rw [if_pos hin]; rfl
        refine q_last E hf hn05 hF i rfl (by omega) (by decide) d_Model_less_62 (fun H3 locs hq hf2 hF => ?_)
        have hk5 := hk5.tr hq
        refine lv_iinc (k := 0) (v := nI (i + 1)) (lv' := [(4, .int (nI (i + 1))), (0, .ref mo), (1, .int (nI r)), (2, .int (nI a)), (3, .int (nI b))]) hx hb d_Model_less_63 hl rfl (i_inc i) (by decide) rfl (fun ls hl => ?_)
        refine lv_goto (tgt := 3) hx hb d_Model_less_66 (by decide) ?_
        have hl : lv_has ls 5 [(4, .int (nI (i + 1))), (0, .ref mo), (1, .int (nI r)), (2, .int (nI a)), (3, .int (nI b))] := lv_sub hl [0, 1, 2, 3, 4] rfl
        exact ih (i + 1) H3 _ ls _ (by omega) hk5 hf2 (fun k hk1 => by by_cases e : k = i; (subst e; simp only [vp_updL, if_true]; exact hv9); (simp only [vp_updL, e, if_false]; exact hlow k (by omega))) hF hl
      have hin : ¬ i < n := fun q => absurd hin (nI_ge q (by omega))
      refine lv_lconst (v := 0) hx hb d_Model_less_61 (by decide) ?_
      have hv9 : 0 = (if i < n then fd (14 * a + i) - fd (14 * b + i) + kP w i else 0) := by rw [if_neg hin]
      refine q_last E hf hn05 hF i rfl (by omega) (by decide) d_Model_less_62 (fun H1 locs hq hf2 hF => ?_)
      have hk5 := hk5.tr hq
      refine lv_iinc (k := 0) (v := nI (i + 1)) (lv' := [(4, .int (nI (i + 1))), (0, .ref mo), (1, .int (nI r)), (2, .int (nI a)), (3, .int (nI b))]) hx hb d_Model_less_63 hl rfl (i_inc i) (by decide) rfl (fun ls hl => ?_)
      refine lv_goto (tgt := 3) hx hb d_Model_less_66 (by decide) ?_
      have hl : lv_has ls 5 [(4, .int (nI (i + 1))), (0, .ref mo), (1, .int (nI r)), (2, .int (nI a)), (3, .int (nI b))] := lv_sub hl [0, 1, 2, 3, 4] rfl
      exact ih (i + 1) H1 _ ls _ (by omega) hk5 hf2 (fun k hk1 => by by_cases e : k = i; (subst e; simp only [vp_updL, if_true]; exact hv9); (simp only [vp_updL, e, if_false]; exact hlow k (by omega))) hF hl
  refine lv_iconst (v := nI 0) hx hb d_Model_less_0 (by decide) ?_
  refine lv_istore (lv' := [(4, .int (nI 0)), (0, .ref mo), (1, .int (nI r)), (2, .int (nI a)), (3, .int (nI b))]) hx hb d_Model_less_1 hl (by decide) rfl (fun ls hl => ?_)
  have hl : lv_has ls 5 [(4, .int (nI 0)), (0, .ref mo), (1, .int (nI r)), (2, .int (nI a)), (3, .int (nI b))] := lv_sub hl [0, 1, 2, 3, 4] rfl
  exact loop (n + 1) 0 s.heap [] ls fc (by omega) KJ.rf hac (fun k hk1 => absurd hk1 (Nat.not_lt_zero _)) hF hl
