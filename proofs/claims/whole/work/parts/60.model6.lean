theorem r_add {A B R P b a1 b1 v : Int} (hv : 0 ≤ A + B → A + B < b → R = (A + B) % P) (ha : A = a1) (hb1 : B = b1) (h : a1 + b1 = v) (hr : 0 ≤ v ∧ v < P) (hb : P + P ≤ b) : R = v := by
  have h' : A + B = v := by omega
  rw [hv (by omega) (by omega), h']; exact Int.emod_eq_of_lt hr.1 hr.2
theorem r_less {A B R P b a1 b1 v : Int} (hv : 0 ≤ A - B + P → A - B + P < b → R = (A - B + P) % P) (ha : A = a1) (hb1 : B = b1) (h : a1 - b1 = v) (hr : 0 ≤ v ∧ v < P) (hb : P + P ≤ b) : R = v := by
  have h' : A - B = v := by omega
  rw [hv (by omega) (by omega), h', Int.add_emod_right]; exact Int.emod_eq_of_lt hr.1 hr.2
theorem r_lessN {A B R P b v : Int} (hv : 0 ≤ A - B + P → A - B + P < b → R = (A - B + P) % P) (h : A - B + P = v) (hr : 0 ≤ v ∧ v < P) (hb : P + P ≤ b) : R = v := by
  rw [hv (by omega) (by omega), h]; exact Int.emod_eq_of_lt hr.1 hr.2
theorem r_mul {A B R P b a1 b1 v : Int} (hv : A * B < b → R = (A * B) % P) (ha : A = a1) (hb1 : B = b1) (h : a1 * b1 = v) (hr : 0 ≤ v ∧ v < P) (hb : P + P ≤ b) : R = v := by
  have h' : A * B = v := by rw [ha, hb1]; exact h
  rw [hv (by omega), h']; exact Int.emod_eq_of_lt hr.1 hr.2
theorem r_mulL {A B R P b : Int} (hv : A * B < b → R = (A * B) % P) (ha : A = 0) (hr : 0 ≤ (0 : Int) ∧ 0 < P) (hb : P + P ≤ b) : R = 0 := r_mul hv ha rfl (Int.zero_mul _) hr hb
theorem r_mulR {A B R P b : Int} (hv : A * B < b → R = (A * B) % P) (ha : B = 0) (hr : 0 ≤ (0 : Int) ∧ 0 < P) (hb : P + P ≤ b) : R = 0 := r_mul hv rfl ha (Int.mul_zero _) hr hb
theorem pp2 {w n : Nat} (h : WH w n) : PP w n + PP w n ≤ 268435456 ^ n := by
  rcases h with ⟨rfl, rfl⟩ | ⟨rfl, rfl⟩
  · decide +kernel
  · decide +kernel
abbrev y_Model_small : MethodName := ⟨"KateDeskModel", "small", "(IJ)V"⟩
theorem hd_Model_small : y_Model_small.cls ≠ "java/lang/invoke/MethodHandle" ∧ y_Model_small.cls ≠ "java/lang/invoke/VarHandle" ∧ (parseMethodDescriptor y_Model_small.desc).map (fun d => d.parameters.length) = some 2 := by decide +kernel
theorem d_Model_small_0 : decode prog_11_method_23_code 0 = .ok (.aload_n 0, 1) := by decide +kernel
theorem d_Model_small_1 : decode prog_11_method_23_code 1 = .ok (.iload_n 1, 1) := by decide +kernel
theorem d_Model_small_2 : decode prog_11_method_23_code 2 = .ok (.invokevirtual 200, 3) := by decide +kernel
theorem d_Model_small_5 : decode prog_11_method_23_code 5 = .ok (.iconst 0, 1) := by decide +kernel
theorem d_Model_small_6 : decode prog_11_method_23_code 6 = .ok (.istore 4, 2) := by decide +kernel
theorem d_Model_small_8 : decode prog_11_method_23_code 8 = .ok (.iload 4, 2) := by decide +kernel
theorem d_Model_small_10 : decode prog_11_method_23_code 10 = .ok (.iconst 3, 1) := by decide +kernel
theorem d_Model_small_11 : decode prog_11_method_23_code 11 = .ok (.if_icmp .ge 32, 3) := by decide +kernel
theorem d_Model_small_14 : decode prog_11_method_23_code 14 = .ok (.aload_n 0, 1) := by decide +kernel
theorem d_Model_small_15 : decode prog_11_method_23_code 15 = .ok (.getfield 7, 3) := by decide +kernel
theorem d_Model_small_18 : decode prog_11_method_23_code 18 = .ok (.bipush 14, 2) := by decide +kernel
theorem d_Model_small_20 : decode prog_11_method_23_code 20 = .ok (.iload_n 1, 1) := by decide +kernel
theorem d_Model_small_21 : decode prog_11_method_23_code 21 = .ok (.imul, 1) := by decide +kernel
theorem d_Model_small_22 : decode prog_11_method_23_code 22 = .ok (.iload 4, 2) := by decide +kernel
theorem d_Model_small_24 : decode prog_11_method_23_code 24 = .ok (.iadd, 1) := by decide +kernel
theorem d_Model_small_25 : decode prog_11_method_23_code 25 = .ok (.lload_n 2, 1) := by decide +kernel
theorem d_Model_small_26 : decode prog_11_method_23_code 26 = .ok (.bipush 28, 2) := by decide +kernel
theorem d_Model_small_28 : decode prog_11_method_23_code 28 = .ok (.iload 4, 2) := by decide +kernel
theorem d_Model_small_30 : decode prog_11_method_23_code 30 = .ok (.imul, 1) := by decide +kernel
theorem d_Model_small_31 : decode prog_11_method_23_code 31 = .ok (.lshr, 1) := by decide +kernel
theorem d_Model_small_32 : decode prog_11_method_23_code 32 = .ok (.ldc2_w 168, 3) := by decide +kernel
theorem d_Model_small_35 : decode prog_11_method_23_code 35 = .ok (.land, 1) := by decide +kernel
theorem d_Model_small_36 : decode prog_11_method_23_code 36 = .ok (.lastore, 1) := by decide +kernel
theorem d_Model_small_37 : decode prog_11_method_23_code 37 = .ok (.iinc 4 1, 3) := by decide +kernel
theorem d_Model_small_40 : decode prog_11_method_23_code 40 = .ok (.goto (-32), 3) := by decide +kernel
theorem d_Model_small_43 : decode prog_11_method_23_code 43 = .ok (.return_, 1) := by decide +kernel
abbrev y_Model_halves : MethodName := ⟨"KateDeskModel", "halves", "(II)V"⟩
theorem hd_Model_halves : y_Model_halves.cls ≠ "java/lang/invoke/MethodHandle" ∧ y_Model_halves.cls ≠ "java/lang/invoke/VarHandle" ∧ (parseMethodDescriptor y_Model_halves.desc).map (fun d => d.parameters.length) = some 2 := by decide +kernel
theorem d_Model_halves_0 : decode prog_11_method_22_code 0 = .ok (.iconst 0, 1) := by decide +kernel
theorem d_Model_halves_1 : decode prog_11_method_22_code 1 = .ok (.istore_n 3, 1) := by decide +kernel
theorem d_Model_halves_2 : decode prog_11_method_22_code 2 = .ok (.iload_n 3, 1) := by decide +kernel
theorem d_Model_halves_3 : decode prog_11_method_22_code 3 = .ok (.iload_n 2, 1) := by decide +kernel
theorem d_Model_halves_4 : decode prog_11_method_22_code 4 = .ok (.if_icmp .ge 74, 3) := by decide +kernel
theorem d_Model_halves_7 : decode prog_11_method_22_code 7 = .ok (.iconst 0, 1) := by decide +kernel
theorem d_Model_halves_8 : decode prog_11_method_22_code 8 = .ok (.istore 4, 2) := by decide +kernel
theorem d_Model_halves_10 : decode prog_11_method_22_code 10 = .ok (.iload 4, 2) := by decide +kernel
theorem d_Model_halves_12 : decode prog_11_method_22_code 12 = .ok (.bipush 14, 2) := by decide +kernel
theorem d_Model_halves_14 : decode prog_11_method_22_code 14 = .ok (.if_icmp .ge 58, 3) := by decide +kernel
theorem d_Model_halves_17 : decode prog_11_method_22_code 17 = .ok (.aload_n 0, 1) := by decide +kernel
theorem d_Model_halves_18 : decode prog_11_method_22_code 18 = .ok (.getfield 7, 3) := by decide +kernel
theorem d_Model_halves_21 : decode prog_11_method_22_code 21 = .ok (.bipush 14, 2) := by decide +kernel
theorem d_Model_halves_23 : decode prog_11_method_22_code 23 = .ok (.iload_n 1, 1) := by decide +kernel
theorem d_Model_halves_24 : decode prog_11_method_22_code 24 = .ok (.imul, 1) := by decide +kernel
theorem d_Model_halves_25 : decode prog_11_method_22_code 25 = .ok (.iload 4, 2) := by decide +kernel
theorem d_Model_halves_27 : decode prog_11_method_22_code 27 = .ok (.iadd, 1) := by decide +kernel
theorem d_Model_halves_28 : decode prog_11_method_22_code 28 = .ok (.aload_n 0, 1) := by decide +kernel
theorem d_Model_halves_29 : decode prog_11_method_22_code 29 = .ok (.iload_n 1, 1) := by decide +kernel
theorem d_Model_halves_30 : decode prog_11_method_22_code 30 = .ok (.iload 4, 2) := by decide +kernel
theorem d_Model_halves_32 : decode prog_11_method_22_code 32 = .ok (.invokevirtual 164, 3) := by decide +kernel
theorem d_Model_halves_35 : decode prog_11_method_22_code 35 = .ok (.iconst 1, 1) := by decide +kernel
theorem d_Model_halves_36 : decode prog_11_method_22_code 36 = .ok (.lshr, 1) := by decide +kernel
theorem d_Model_halves_37 : decode prog_11_method_22_code 37 = .ok (.iload 4, 2) := by decide +kernel
theorem d_Model_halves_39 : decode prog_11_method_22_code 39 = .ok (.iconst 1, 1) := by decide +kernel
theorem d_Model_halves_40 : decode prog_11_method_22_code 40 = .ok (.iadd, 1) := by decide +kernel
theorem d_Model_halves_41 : decode prog_11_method_22_code 41 = .ok (.bipush 14, 2) := by decide +kernel
theorem d_Model_halves_43 : decode prog_11_method_22_code 43 = .ok (.if_icmp .ge 20, 3) := by decide +kernel
theorem d_Model_halves_46 : decode prog_11_method_22_code 46 = .ok (.aload_n 0, 1) := by decide +kernel
theorem d_Model_halves_47 : decode prog_11_method_22_code 47 = .ok (.iload_n 1, 1) := by decide +kernel
theorem d_Model_halves_48 : decode prog_11_method_22_code 48 = .ok (.iload 4, 2) := by decide +kernel
theorem d_Model_halves_50 : decode prog_11_method_22_code 50 = .ok (.iconst 1, 1) := by decide +kernel
theorem d_Model_halves_51 : decode prog_11_method_22_code 51 = .ok (.iadd, 1) := by decide +kernel
theorem d_Model_halves_52 : decode prog_11_method_22_code 52 = .ok (.invokevirtual 164, 3) := by decide +kernel
theorem d_Model_halves_55 : decode prog_11_method_22_code 55 = .ok (.lconst 1, 1) := by decide +kernel
theorem d_Model_halves_56 : decode prog_11_method_22_code 56 = .ok (.land, 1) := by decide +kernel
theorem d_Model_halves_57 : decode prog_11_method_22_code 57 = .ok (.bipush 27, 2) := by decide +kernel
theorem d_Model_halves_59 : decode prog_11_method_22_code 59 = .ok (.lshl, 1) := by decide +kernel
theorem d_Model_halves_60 : decode prog_11_method_22_code 60 = .ok (.goto 4, 3) := by decide +kernel
theorem d_Model_halves_63 : decode prog_11_method_22_code 63 = .ok (.lconst 0, 1) := by decide +kernel
theorem d_Model_halves_64 : decode prog_11_method_22_code 64 = .ok (.lor, 1) := by decide +kernel
theorem d_Model_halves_65 : decode prog_11_method_22_code 65 = .ok (.lastore, 1) := by decide +kernel
theorem d_Model_halves_66 : decode prog_11_method_22_code 66 = .ok (.iinc 4 1, 3) := by decide +kernel
theorem d_Model_halves_69 : decode prog_11_method_22_code 69 = .ok (.goto (-59), 3) := by decide +kernel
theorem d_Model_halves_72 : decode prog_11_method_22_code 72 = .ok (.iinc 3 1, 3) := by decide +kernel
theorem d_Model_halves_75 : decode prog_11_method_22_code 75 = .ok (.goto (-73), 3) := by decide +kernel
theorem d_Model_halves_78 : decode prog_11_method_22_code 78 = .ok (.return_, 1) := by decide +kernel
abbrev y_Model_nothing : MethodName := ⟨"KateDeskModel", "nothing", "(I)V"⟩
theorem hd_Model_nothing : y_Model_nothing.cls ≠ "java/lang/invoke/MethodHandle" ∧ y_Model_nothing.cls ≠ "java/lang/invoke/VarHandle" ∧ (parseMethodDescriptor y_Model_nothing.desc).map (fun d => d.parameters.length) = some 1 := by decide +kernel
theorem d_Model_nothing_0 : decode prog_11_method_27_code 0 = .ok (.aload_n 0, 1) := by decide +kernel
theorem d_Model_nothing_1 : decode prog_11_method_27_code 1 = .ok (.iload_n 1, 1) := by decide +kernel
theorem d_Model_nothing_2 : decode prog_11_method_27_code 2 = .ok (.invokevirtual 200, 3) := by decide +kernel
theorem d_Model_nothing_5 : decode prog_11_method_27_code 5 = .ok (.aload_n 0, 1) := by decide +kernel
theorem d_Model_nothing_6 : decode prog_11_method_27_code 6 = .ok (.iload_n 1, 1) := by decide +kernel
theorem d_Model_nothing_7 : decode prog_11_method_27_code 7 = .ok (.iconst 1, 1) := by decide +kernel
theorem d_Model_nothing_8 : decode prog_11_method_27_code 8 = .ok (.iadd, 1) := by decide +kernel
theorem d_Model_nothing_9 : decode prog_11_method_27_code 9 = .ok (.invokevirtual 141, 3) := by decide +kernel
theorem d_Model_nothing_12 : decode prog_11_method_27_code 12 = .ok (.aload_n 0, 1) := by decide +kernel
theorem d_Model_nothing_13 : decode prog_11_method_27_code 13 = .ok (.iload_n 1, 1) := by decide +kernel
theorem d_Model_nothing_14 : decode prog_11_method_27_code 14 = .ok (.iconst 2, 1) := by decide +kernel
theorem d_Model_nothing_15 : decode prog_11_method_27_code 15 = .ok (.iadd, 1) := by decide +kernel
theorem d_Model_nothing_16 : decode prog_11_method_27_code 16 = .ok (.invokevirtual 200, 3) := by decide +kernel
theorem d_Model_nothing_19 : decode prog_11_method_27_code 19 = .ok (.return_, 1) := by decide +kernel
abbrev y_Model_movePoint : MethodName := ⟨"KateDeskModel", "movePoint", "(II)V"⟩
theorem hd_Model_movePoint : y_Model_movePoint.cls ≠ "java/lang/invoke/MethodHandle" ∧ y_Model_movePoint.cls ≠ "java/lang/invoke/VarHandle" ∧ (parseMethodDescriptor y_Model_movePoint.desc).map (fun d => d.parameters.length) = some 2 := by decide +kernel
theorem d_Model_movePoint_0 : decode prog_11_method_28_code 0 = .ok (.iconst 0, 1) := by decide +kernel
theorem d_Model_movePoint_1 : decode prog_11_method_28_code 1 = .ok (.istore_n 3, 1) := by decide +kernel
theorem d_Model_movePoint_2 : decode prog_11_method_28_code 2 = .ok (.iload_n 3, 1) := by decide +kernel
theorem d_Model_movePoint_3 : decode prog_11_method_28_code 3 = .ok (.iconst 3, 1) := by decide +kernel
theorem d_Model_movePoint_4 : decode prog_11_method_28_code 4 = .ok (.if_icmp .ge 19, 3) := by decide +kernel
theorem d_Model_movePoint_7 : decode prog_11_method_28_code 7 = .ok (.aload_n 0, 1) := by decide +kernel
theorem d_Model_movePoint_8 : decode prog_11_method_28_code 8 = .ok (.iload_n 1, 1) := by decide +kernel
theorem d_Model_movePoint_9 : decode prog_11_method_28_code 9 = .ok (.iload_n 3, 1) := by decide +kernel
theorem d_Model_movePoint_10 : decode prog_11_method_28_code 10 = .ok (.iadd, 1) := by decide +kernel
theorem d_Model_movePoint_11 : decode prog_11_method_28_code 11 = .ok (.iload_n 2, 1) := by decide +kernel
theorem d_Model_movePoint_12 : decode prog_11_method_28_code 12 = .ok (.iload_n 3, 1) := by decide +kernel
theorem d_Model_movePoint_13 : decode prog_11_method_28_code 13 = .ok (.iadd, 1) := by decide +kernel
theorem d_Model_movePoint_14 : decode prog_11_method_28_code 14 = .ok (.invokevirtual 180, 3) := by decide +kernel
theorem d_Model_movePoint_17 : decode prog_11_method_28_code 17 = .ok (.iinc 3 1, 3) := by decide +kernel
theorem d_Model_movePoint_20 : decode prog_11_method_28_code 20 = .ok (.goto (-18), 3) := by decide +kernel
theorem d_Model_movePoint_23 : decode prog_11_method_28_code 23 = .ok (.return_, 1) := by decide +kernel
abbrev y_Model_twelve : MethodName := ⟨"KateDeskModel", "twelve", "(I)V"⟩
theorem hd_Model_twelve : y_Model_twelve.cls ≠ "java/lang/invoke/MethodHandle" ∧ y_Model_twelve.cls ≠ "java/lang/invoke/VarHandle" ∧ (parseMethodDescriptor y_Model_twelve.desc).map (fun d => d.parameters.length) = some 1 := by decide +kernel
theorem d_Model_twelve_0 : decode prog_11_method_29_code 0 = .ok (.aload_n 0, 1) := by decide +kernel
theorem d_Model_twelve_1 : decode prog_11_method_29_code 1 = .ok (.sipush 134, 3) := by decide +kernel
theorem d_Model_twelve_4 : decode prog_11_method_29_code 4 = .ok (.iload_n 1, 1) := by decide +kernel
theorem d_Model_twelve_5 : decode prog_11_method_29_code 5 = .ok (.iload_n 1, 1) := by decide +kernel
theorem d_Model_twelve_6 : decode prog_11_method_29_code 6 = .ok (.invokevirtual 148, 3) := by decide +kernel
theorem d_Model_twelve_9 : decode prog_11_method_29_code 9 = .ok (.aload_n 0, 1) := by decide +kernel
theorem d_Model_twelve_10 : decode prog_11_method_29_code 10 = .ok (.iload_n 1, 1) := by decide +kernel
theorem d_Model_twelve_11 : decode prog_11_method_29_code 11 = .ok (.sipush 134, 3) := by decide +kernel
theorem d_Model_twelve_14 : decode prog_11_method_29_code 14 = .ok (.iload_n 1, 1) := by decide +kernel
theorem d_Model_twelve_15 : decode prog_11_method_29_code 15 = .ok (.invokevirtual 148, 3) := by decide +kernel
theorem d_Model_twelve_18 : decode prog_11_method_29_code 18 = .ok (.aload_n 0, 1) := by decide +kernel
theorem d_Model_twelve_19 : decode prog_11_method_29_code 19 = .ok (.iload_n 1, 1) := by decide +kernel
theorem d_Model_twelve_20 : decode prog_11_method_29_code 20 = .ok (.iload_n 1, 1) := by decide +kernel
theorem d_Model_twelve_21 : decode prog_11_method_29_code 21 = .ok (.iload_n 1, 1) := by decide +kernel
theorem d_Model_twelve_22 : decode prog_11_method_29_code 22 = .ok (.invokevirtual 148, 3) := by decide +kernel
theorem d_Model_twelve_25 : decode prog_11_method_29_code 25 = .ok (.aload_n 0, 1) := by decide +kernel
theorem d_Model_twelve_26 : decode prog_11_method_29_code 26 = .ok (.iload_n 1, 1) := by decide +kernel
theorem d_Model_twelve_27 : decode prog_11_method_29_code 27 = .ok (.iload_n 1, 1) := by decide +kernel
theorem d_Model_twelve_28 : decode prog_11_method_29_code 28 = .ok (.iload_n 1, 1) := by decide +kernel
theorem d_Model_twelve_29 : decode prog_11_method_29_code 29 = .ok (.invokevirtual 148, 3) := by decide +kernel
theorem d_Model_twelve_32 : decode prog_11_method_29_code 32 = .ok (.return_, 1) := by decide +kernel
set_option maxHeartbeats 4000000 in
set_option maxRecDepth 100000 in
theorem c_Model_nothing (l : Launch) (g : WG) (n0 : Nat → Prop) (mo r : Nat) (th pw td wr : Int32) (w n : Nat) (hw : WH w n) (fd : Nat → Int64) (hr1 : r + 2 < 170) : Ctr l y_Model_nothing (.code y_Model_nothing prog_11_method_27_code 2 none) 1 22 0 0 n0 g [.ref mo, .int (nI r)] (fun H => MS g n0 H mo th pw td wr w n fd) (QV (fun H H' => FRM (MR mo) H H' ∧ ∃ fd', MS g n0 H' mo th pw td wr w n fd' ∧ SAME fd fd' (fun t => t = r ∨ t = r + 1 ∨ t = r + 2) ∧ Z0 fd' r ∧ (∀ m, 1 ≤ m → m ≤ 14 → SV fd' (r + 1) m = 1) ∧ Z0 fd' (r + 2))) := by
  refine ctr_mk l (lv0 := [(0, .ref mo), (1, .int (nI r))]) (by decide) (Nat.le_of_ble_eq_true rfl) rfl ?_
  intro p e s m below meth c ls E hr hlk hnm hl hP
  have hx := E.1
  have hb := E.2.1
  have hK := E.2.2.2.2.2
  have hF : ∀ q ∈ ([] : List Loc), n0 q.base := fun q hq => absurd hq List.not_mem_nil
  have hm := hP
  have hDD := hm.2.2.2.2.2.1
  obtain ⟨hpd, hn1, hn14, hw1, hPT, hP1, hT0, hT1⟩ := wh_kP hw
  have hfr : FRM (MR mo) s.heap s.heap := FRM.rf
  refine lv_aload_n hx hb d_Model_nothing_0 rfl (lv_at hl 0 rfl) ?_
  refine lv_iload_n hx hb d_Model_nothing_1 rfl (lv_at hl 1 rfl) ?_
  refine q_cV (rest := []) E (c_Model_zero l g n0 mo r th pw td wr w n hw  fd (by omega) ) w_1000 w_15 w_997 w_999 (bw_s 23 rfl) hd_Model_zero rfl ⟨by decide, by decide⟩ (OB.recv E.2.2.2.2.2 (by rfl) hm.1) hm hF hl.1 rfl (Nat.le_of_ble_eq_true rfl) d_Model_nothing_2 ⟨by decide, by decide⟩ (qv (fun H1 locs hq hF => ?_))
  obtain ⟨hq, fd_1, hm, hpv⟩ := hq
  have hfr := hfr.tr hq
  have hp1 := hpv
  refine lv_aload_n hx hb d_Model_nothing_5 rfl (lv_at hl 0 rfl) ?_
  refine lv_iload_n hx hb d_Model_nothing_6 rfl (lv_at hl 1 rfl) ?_
  refine lv_iconst (v := nI 1) hx hb d_Model_nothing_7 (by decide) ?_
  refine lv_iadd hx hb d_Model_nothing_8 ?_
  refine lv_topi (fun t9 e9 => ?_)
  obtain rfl : t9 = nI (r + 1) := e9.trans (nI_add _ _)
  refine q_cV (rest := []) E (c_Model_one l g n0 mo (r + 1) th pw td wr w n hw  fd_1 (by omega) ) w_971 w_15 w_968 w_970 (bw_s 16 rfl) hd_Model_one rfl ⟨by decide, by decide⟩ (OB.recv E.2.2.2.2.2 (by rfl) hm.1) hm hF hl.1 rfl (Nat.le_of_ble_eq_true rfl) d_Model_nothing_9 ⟨by decide, by decide⟩ (qv (fun H2 locs hq hF => ?_))
  obtain ⟨hq, fd_2, hm, hpv⟩ := hq
  have hfr := hfr.tr hq
  have hp2 := hpv
  refine lv_aload_n hx hb d_Model_nothing_12 rfl (lv_at hl 0 rfl) ?_
  refine lv_iload_n hx hb d_Model_nothing_13 rfl (lv_at hl 1 rfl) ?_
  refine lv_iconst (v := nI 2) hx hb d_Model_nothing_14 (by decide) ?_
  refine lv_iadd hx hb d_Model_nothing_15 ?_
  refine lv_topi (fun t9 e9 => ?_)
  obtain rfl : t9 = nI (r + 2) := e9.trans (nI_add _ _)
  refine q_cV (rest := []) E (c_Model_zero l g n0 mo (r + 2) th pw td wr w n hw  fd_2 (by omega) ) w_1000 w_15 w_997 w_999 (bw_s 23 rfl) hd_Model_zero rfl ⟨by decide, by decide⟩ (OB.recv E.2.2.2.2.2 (by rfl) hm.1) hm hF hl.1 rfl (Nat.le_of_ble_eq_true rfl) d_Model_nothing_16 ⟨by decide, by decide⟩ (qv (fun H3 locs hq hF => ?_))
  obtain ⟨hq, fd_3, hm, hpv⟩ := hq
  have hfr := hfr.tr hq
  have hp3 := hpv
  exact q_vret E hr hlk (⟨rfl, hfr, _, hm, ((SAME.rf.put hp1.1 (Or.inl rfl)).put hp2.1 (Or.inr (Or.inl rfl))).put hp3.1 (Or.inr (Or.inr rfl)), out_z0 hp3.1 (by omega) (out_z0 hp2.1 (by omega) hp1.2), fun m h1 h2 => (out_sv hp3.1 (by omega) h2).trans (VL_one (hp2.2 0 (by decide)) (fun k h3 h4 => (hp2.2 k (by omega)).trans (if_neg (by omega))) h1), hp3.2⟩) hF d_Model_nothing_19
set_option maxHeartbeats 4000000 in
set_option maxRecDepth 100000 in
theorem c_Model_movePoint (l : Launch) (g : WG) (n0 : Nat → Prop) (mo r a : Nat) (th pw td wr : Int32) (w n : Nat) (hw : WH w n) (fd : Nat → Int64) (hr1 : r + 2 < 170) (ha : a + 2 < 170) (hdj : r + 2 < a ∨ a + 2 < r) : Ctr l y_Model_movePoint (.code y_Model_movePoint prog_11_method_28_code 4 none) 1 23 0 0 n0 g [.ref mo, .int (nI r), .int (nI a)] (fun H => MS g n0 H mo th pw td wr w n fd) (QV (fun H H' => FRM (MR mo) H H' ∧ ∃ fd', MS g n0 H' mo th pw td wr w n fd' ∧ SAME fd fd' (fun t => t = r ∨ t = r + 1 ∨ t = r + 2) ∧ (∀ i k, i < 3 → k < 14 → fd' (14 * (r + i) + k) = fd (14 * (a + i) + k)))) := by
  refine ctr_mk l (lv0 := [(0, .ref mo), (1, .int (nI r)), (2, .int (nI a))]) (by decide) (Nat.le_of_ble_eq_true rfl) rfl ?_
  intro p e s m below meth c ls E hr hlk hnm hl hP
  have hx := E.1
  have hb := E.2.1
  have hK := E.2.2.2.2.2
  have hF : ∀ q ∈ ([] : List Loc), n0 q.base := fun q hq => absurd hq List.not_mem_nil
  have hm := hP
  have hDD := hm.2.2.2.2.2.1
  obtain ⟨hpd, hn1, hn14, hw1, hPT, hP1, hT0, hT1⟩ := wh_kP hw
  have hfr : FRM (MR mo) s.heap s.heap := FRM.rf
  have loop : ∀ (k : Nat) (i : Nat) (H : Heap) (locs : List Loc) (ls : Array Slot) (fd1 : Nat → Int64), i + k = 3 → FRM (MR mo) s.heap H → MS g n0 H mo th pw td wr w n fd1 → SAME fd fd1 (fun t => t = r ∨ t = r + 1 ∨ t = r + 2) → (∀ j k, j < i → k < 14 → fd1 (14 * (r + j) + k) = fd (14 * (a + j) + k)) → (∀ q ∈ locs, n0 q.base) → lv_has ls 4 [(3, .int (nI i)), (0, .ref mo), (1, .int (nI r)), (2, .int (nI a))] → W p l e { frames := 1, cells := 0, slots := 0, locals := 23 } s m [.ref mo, .int (nI r), .int (nI a)].toArray below meth c H locs 0 0 (MQ below (QcP (QV (fun H H' => FRM (MR mo) H H' ∧ ∃ fd', MS g n0 H' mo th pw td wr w n fd' ∧ SAME fd fd' (fun t => t = r ∨ t = r + 1 ∨ t = r + 2) ∧ (∀ i k, i < 3 → k < 14 → fd' (14 * (r + i) + k) = fd (14 * (a + i) + k))))) [.ref mo, .int (nI r), .int (nI a)].toArray s 0 0 (fun q => n0 q)) (F0 m 2 ls []) := by
    intro k
    induction k with
    | zero =>
      intro  i   H   locs   ls   fd1 hi hfr hm hS hcp hF hl
      obtain rfl : i = 3 := by omega
      refine lv_iload_n hx hb d_Model_movePoint_2 rfl (lv_at hl 0 rfl) ?_
      refine lv_iconst (v := nI 3) hx hb d_Model_movePoint_3 (by decide) ?_
      refine lv_icmp_ge (tgt := 23) hx hb d_Model_movePoint_4 (by decide) (fun _ => ?_) (fun h9 => absurd (by decide) h9)
      exact q_vret E hr hlk (⟨rfl, hfr, _, hm, hS, hcp⟩) hF d_Model_movePoint_23
    | succ k ih =>
      intro  i   H   locs   ls   fd1 hi hfr hm hS hcp hF hl
      refine lv_iload_n hx hb d_Model_movePoint_2 rfl (lv_at hl 0 rfl) ?_
      refine lv_iconst (v := nI 3) hx hb d_Model_movePoint_3 (by decide) ?_
      refine lv_icmp_ge (tgt := 23) hx hb d_Model_movePoint_4 (by decide) (fun h9 => absurd h9 (nI_ge (by omega) (by decide))) (fun _ => ?_)
      refine lv_aload_n hx hb d_Model_movePoint_7 rfl (lv_at hl 1 rfl) ?_
      refine lv_iload_n hx hb d_Model_movePoint_8 rfl (lv_at hl 2 rfl) ?_
      refine lv_iload_n hx hb d_Model_movePoint_9 rfl (lv_at hl 0 rfl) ?_
      refine lv_iadd hx hb d_Model_movePoint_10 ?_
      refine lv_topi (fun t9 e9 => ?_)
      obtain rfl : t9 = nI (r + i) := e9.trans (nI_add _ _)
      refine lv_iload_n hx hb d_Model_movePoint_11 rfl (lv_at hl 3 rfl) ?_
      refine lv_iload_n hx hb d_Model_movePoint_12 rfl (lv_at hl 0 rfl) ?_
      refine lv_iadd hx hb d_Model_movePoint_13 ?_
      refine lv_topi (fun t9 e9 => ?_)
      obtain rfl : t9 = nI (a + i) := e9.trans (nI_add _ _)
      refine q_cV (rest := []) E (c_Model_move l g n0 mo (r + i) (a + i) th pw td wr w n hw  fd1 (by omega) (by omega) ) w_1076 w_15 w_1073 w_1075 (bw_s 27 rfl) hd_Model_move rfl ⟨by decide, by decide⟩ (OB.recv E.2.2.2.2.2 (by rfl) hm.1) hm hF hl.1 rfl (Nat.le_of_ble_eq_true rfl) d_Model_movePoint_14 ⟨by decide, by decide⟩ (qv (fun H1 locs hq hF => ?_))
      obtain ⟨hq, fd_1, hm, hpv⟩ := hq
      have hfr := hfr.tr hq
      refine lv_iinc (k := 0) (v := nI (i + 1)) (lv' := [(3, .int (nI (i + 1))), (0, .ref mo), (1, .int (nI r)), (2, .int (nI a))]) hx hb d_Model_movePoint_17 hl rfl (i_inc i) (by decide) rfl (fun ls hl => ?_)
      refine lv_goto (tgt := 2) hx hb d_Model_movePoint_20 (by decide) ?_
      have hl : lv_has ls 4 [(3, .int (nI (i + 1))), (0, .ref mo), (1, .int (nI r)), (2, .int (nI a))] := lv_sub hl [0, 1, 2, 3] rfl
      refine ih (i + 1) _ _ ls _ (by omega) hfr hm (hS.put hpv.1 (by omega)) (fun j k h1 h2 => ?_) hF hl
      by_cases e : j = i
      · subst e; exact (hpv.2 k h2).trans (hS _ k (by omega) h2)
      · exact (hpv.1 _ (by omega)).trans (hcp j k (by omega) h2)
  refine lv_iconst (v := nI 0) hx hb d_Model_movePoint_0 (by decide) ?_
  refine lv_istore_n (lv' := [(3, .int (nI 0)), (0, .ref mo), (1, .int (nI r)), (2, .int (nI a))]) hx hb d_Model_movePoint_1 rfl hl (by decide) rfl (fun ls hl => ?_)
  have hl : lv_has ls 4 [(3, .int (nI 0)), (0, .ref mo), (1, .int (nI r)), (2, .int (nI a))] := lv_sub hl [0, 1, 2, 3] rfl
  exact loop 3 0 _ _ ls _ (by omega) hfr hm SAME.rf (fun j k h1 _ => absurd h1 (Nat.not_lt_zero _)) hF hl