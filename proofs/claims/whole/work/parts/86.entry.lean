theorem tbl_i {w : Cond} {i : Nat} (h : tables_1[i]? = some w) : w ∈ lw_tbl := List.mem_append_right _ (List.mem_of_getElem? h)
theorem bw_tbl {w : Cond} (h : w ∈ BW) : w ∈ lw_tbl := by
  rcases List.mem_append.mp h with h | h
  · exact List.mem_append_left _ h
  · exact List.mem_append_right _ (List.mem_filter.mp h).1
/-- a constant text's words in the Statement -/
def strW (k n : Nat) (f : Nat → Int32) : List Cond := [.exactly (.string "KateDesk" k) "java/lang/String", .eq (.field (.string "KateDesk" k) "java/lang/String" "coder" "B") (.int 0), .arrayOf (.field (.string "KateDesk" k) "java/lang/String" "value" "[B") .byte, .eq (.length (.field (.string "KateDesk" k) "java/lang/String" "value" "[B")) (.int (Int32.ofNat n))] ++ (List.range n).map (fun j => .eq (.elem (.field (.string "KateDesk" k) "java/lang/String" "value" "[B") (.int (Int32.ofNat j))) (.int (f j)))
theorem strW_mem {L : List Cond} {i m k n : Nat} {f : Nat → Int32} (h : (L.drop i).take m = strW k n f) : ∀ w ∈ strW k n f, w ∈ L := fun w hw => List.mem_of_mem_drop (List.mem_of_mem_take (h ▸ hw))
theorem kt_mk {s : State} {args : Array Value} {k n : Nat} {tx : String} {f : Nat → Int32} (hn : n < 2 ^ 31) (href : (Cond.stringRef "KateDesk" k tx).before args s = true) (h : ∀ w ∈ strW k n f, w.before args s = true) : ∃ a, vk_R "KateDesk" k tx a s ∧ KT s a n f := by
  have hA : ∀ a : Nat, a < s.heap.size → ¬ HXA s a := fun a h1 h2 => absurd h2 (Nat.not_le.mpr h1)
  have h1 := h (.exactly (.string "KateDesk" k) "java/lang/String") (by simp [strW])
  have h2 := h (.eq (.field (.string "KateDesk" k) "java/lang/String" "coder" "B") (.int 0)) (by simp [strW])
  have h3 := h (.arrayOf (.field (.string "KateDesk" k) "java/lang/String" "value" "[B") .byte) (by simp [strW])
  have h4 := h (.eq (.length (.field (.string "KateDesk" k) "java/lang/String" "value" "[B")) (.int (Int32.ofNat n))) (by simp [strW])
  obtain ⟨a, c, cA, kA, q1, q2, q3, q4, q5, q6, -⟩ := Cond.exactly_spec (args := args) (first := s) (o := none) (s := s) (idx := []) (t := .string "KateDesk" k) (cls := "java/lang/String") h1
  obtain ⟨t, ht, hT⟩ := va_Tof (f := fun j => .int (f j)) (A := HXA s) hn h3 (va_eqt h4) (fun j hj => va_eqt (h _ (List.mem_append_right _ (List.mem_map.mpr ⟨j, List.mem_range.mpr hj, rfl⟩)))) hA
  exact ⟨a, vk_R.of href q1, ⟨cA, q3, q5, by rw [q6]; exact q2, hA a (Array.getElem?_eq_some_iff.mp q3).1⟩, vk_OFof q1 (va_eqt h2) hA, t, vk_OFof q1 ht hA, hT⟩
theorem vr_mk {s : State} {args : Array Value} {k : Nat} {tx : String} (href : (Cond.stringRef "KateDesk" k tx).before args s = true) (h1 : (Cond.exactly (.string "KateDesk" k) "java/lang/String").before args s = true) : ∃ a, vk_R "KateDesk" k tx a s := by
  obtain ⟨a, c, cA, kA, q1, -⟩ := Cond.exactly_spec (args := args) (first := s) (o := none) (s := s) (idx := []) (t := .string "KateDesk" k) (cls := "java/lang/String") h1
  exact ⟨a, vk_R.of href q1⟩
theorem sw_60 : ((flatC (Jvm.Cond.and given_1 narrow_1)).drop 59).take 68 = strW 60 64 hb60 := by decide +kernel
theorem sw_65 : ((flatC (Jvm.Cond.and given_1 narrow_1)).drop 127).take 100 = strW 65 96 hb65 := by decide +kernel
theorem sw_292 : ((flatC (Jvm.Cond.and given_1 narrow_1)).drop 228).take 100 = strW 292 96 hb292 := by decide +kernel
theorem sw_301 : ((flatC (Jvm.Cond.and given_1 narrow_1)).drop 330).take 100 = strW 301 96 hb301 := by decide +kernel
theorem fl_i {w : Cond} {i : Nat} (h : (flatC (Jvm.Cond.and given_1 narrow_1))[i]? = some w) : w ∈ flatC (Jvm.Cond.and given_1 narrow_1) := List.mem_of_getElem? h
set_option maxHeartbeats 1000000 in
theorem xs_start {l : Launch} {s : State} {args : Array Value} (hfl : l.flags = flags0) (hts : ∀ w ∈ lw_tbl, w.before args s = true) (hs : ∀ w ∈ flatC (Jvm.Cond.and given_1 narrow_1), w.before args s = true) : XS l s := by
  refine ⟨hfl, ?_, ?_⟩
  · unfold kd_XL
    refine List.forall_mem_cons.mpr ⟨va_Nw.of rfl (hts _ (tbl_i (i := 401) (by decide +kernel))), List.forall_mem_cons.mpr ⟨va_Nw.of rfl (hts _ (tbl_i (i := 403) (by decide +kernel))), List.forall_mem_cons.mpr ⟨va_Nw.of rfl (hts _ (tbl_i (i := 405) (by decide +kernel))), List.forall_mem_cons.mpr ⟨va_Nw.of rfl (hts _ (tbl_i (i := 399) (by decide +kernel))), List.forall_mem_cons.mpr ⟨va_Nw.of rfl (hts _ (tbl_i (i := 467) (by decide +kernel))), List.forall_mem_cons.mpr ⟨va_Nw.of rfl (hts _ (tbl_i (i := 551) (by decide +kernel))), List.forall_mem_cons.mpr ⟨va_Nw.of rfl (hts _ (tbl_i (i := 759) (by decide +kernel))), List.forall_mem_cons.mpr ⟨kd_ls (V := s) rfl (fun _ _ => rfl) (hts _ (tbl_i (i := 424) (by decide +kernel))), List.forall_mem_cons.mpr ⟨kd_ls (V := s) rfl (fun _ _ => rfl) (hts _ (tbl_i (i := 426) (by decide +kernel))), List.forall_mem_cons.mpr ⟨kd_is (V := s) rfl (fun _ _ => rfl) (hs _ (fl_i (i := 9) (by decide +kernel))), List.forall_mem_cons.mpr ⟨kd_is (V := s) rfl (fun _ _ => rfl) (hs _ (fl_i (i := 10) (by decide +kernel))), fun _ h => absurd h List.not_mem_nil⟩⟩⟩⟩⟩⟩⟩⟩⟩⟩⟩
  · unfold kd_MSG
    exact List.forall_mem_cons.mpr ⟨vr_mk (hts _ (tbl_i (i := 439) (by decide +kernel))) (hs _ (fl_i (i := 433) (by decide +kernel))), List.forall_mem_cons.mpr ⟨vr_mk (hts _ (tbl_i (i := 474) (by decide +kernel))) (hs _ (fl_i (i := 471) (by decide +kernel))), List.forall_mem_cons.mpr ⟨vr_mk (hts _ (tbl_i (i := 495) (by decide +kernel))) (hs _ (fl_i (i := 496) (by decide +kernel))), List.forall_mem_cons.mpr ⟨vr_mk (hts _ (tbl_i (i := 520) (by decide +kernel))) (hs _ (fl_i (i := 529) (by decide +kernel))), List.forall_mem_cons.mpr ⟨vr_mk (hts _ (tbl_i (i := 532) (by decide +kernel))) (hs _ (fl_i (i := 560) (by decide +kernel))), List.forall_mem_cons.mpr ⟨vr_mk (hts _ (tbl_i (i := 545) (by decide +kernel))) (hs _ (fl_i (i := 597) (by decide +kernel))), List.forall_mem_cons.mpr ⟨vr_mk (hts _ (tbl_i (i := 558) (by decide +kernel))) (hs _ (fl_i (i := 632) (by decide +kernel))), List.forall_mem_cons.mpr ⟨vr_mk (hts _ (tbl_i (i := 584) (by decide +kernel))) (hs _ (fl_i (i := 661) (by decide +kernel))), List.forall_mem_cons.mpr ⟨vr_mk (hts _ (tbl_i (i := 597) (by decide +kernel))) (hs _ (fl_i (i := 699) (by decide +kernel))), List.forall_mem_cons.mpr ⟨vr_mk (hts _ (tbl_i (i := 623) (by decide +kernel))) (hs _ (fl_i (i := 740) (by decide +kernel))), List.forall_mem_cons.mpr ⟨vr_mk (hts _ (tbl_i (i := 766) (by decide +kernel))) (hs _ (fl_i (i := 779) (by decide +kernel))), List.forall_mem_cons.mpr ⟨vr_mk (hts _ (tbl_i (i := 799) (by decide +kernel))) (hs _ (fl_i (i := 818) (by decide +kernel))), List.forall_mem_cons.mpr ⟨vr_mk (hts _ (tbl_i (i := 841) (by decide +kernel))) (hs _ (fl_i (i := 867) (by decide +kernel))), List.forall_mem_cons.mpr ⟨vr_mk (hts _ (tbl_i (i := 906) (by decide +kernel))) (hs _ (fl_i (i := 909) (by decide +kernel))), fun _ h => absurd h List.not_mem_nil⟩⟩⟩⟩⟩⟩⟩⟩⟩⟩⟩⟩⟩⟩
theorem kh_start {s : State} {args : Array Value} (hts : ∀ w ∈ lw_tbl, w.before args s = true) (hs : ∀ w ∈ flatC (Jvm.Cond.and given_1 narrow_1), w.before args s = true) : KH s := by
  have hA : ∀ a : Nat, a < s.heap.size → ¬ HXA s a := fun a h1 h2 => absurd h2 (Nat.not_le.mpr h1)
  obtain ⟨r, hr, hrf⟩ := Cond.isRef_spec (hs (.isRef (.static "jdk/internal/util/Preconditions" "SIOOBE_FORMATTER" "Ljava/util/function/BiFunction;")) (fl_i (i := 5) (by decide +kernel)))
  refine ⟨⟨va_Zof (hts _ (tbl_i (i := 100) (by decide +kernel))) (hts _ (tbl_i (i := 6) (by decide +kernel))) (va_eqt (hs _ (fl_i (i := 4) (by decide +kernel)))) hA, r, hrf, va_Zof (hts _ (tbl_i (i := 116) (by decide +kernel))) (hts _ (tbl_i (i := 8) (by decide +kernel))) hr hA⟩, kt_mk (by decide) (hts _ (tbl_i (i := 83) (by decide +kernel))) (fun w hw => hs w (strW_mem sw_60 w hw)), kt_mk (by decide) (hts _ (tbl_i (i := 198) (by decide +kernel))) (fun w hw => hs w (strW_mem sw_65 w hw)), kt_mk (by decide) (hts _ (tbl_i (i := 334) (by decide +kernel))) (fun w hw => hs w (strW_mem sw_292 w hw)), kt_mk (by decide) (hts _ (tbl_i (i := 337) (by decide +kernel))) (fun w hw => hs w (strW_mem sw_301 w hw))⟩
theorem kd_AOA.of {t : FieldType} {A : Array Value} {U : State} (h : (Cond.arrayOver (.array t)).before A U = true) : kd_AOA t U := h
set_option maxHeartbeats 1000000 in
theorem kw_start {s : State} {args : Array Value} (hts : ∀ w ∈ BW, w.before args s = true) (h1 : va_AO "KateDesk$Point" s) (h2 : kd_AOA .long s) (h3 : kd_AOA .byte s) : ∃ g : WG, KW g s := by
  obtain ⟨c0, i0, k0⟩ := u_known (ws := BW) hts in_Curve (hts _ w_200)
  obtain ⟨c1, i1, k1⟩ := u_known (ws := BW) hts in_Field (hts _ w_82)
  obtain ⟨c2, i2, k2⟩ := u_known (ws := BW) hts in_Point (hts _ w_40)
  obtain ⟨c3, i3, k3⟩ := u_known (ws := BW) hts in_Row (hts _ w_66)
  obtain ⟨c4, i4, k4⟩ := u_known (ws := BW) hts in_Sums (hts _ w_237)
  obtain ⟨c5, i5, k5⟩ := u_known (ws := BW) hts in_Desk (hts _ w_26)
  obtain ⟨c6, i6, k6⟩ := u_known (ws := BW) hts in_Forms (hts _ w_261)
  obtain ⟨c7, i7, k7⟩ := u_known (ws := BW) hts in_Polys (hts _ w_292)
  obtain ⟨c8, i8, k8⟩ := u_known (ws := BW) hts in_Model (hts _ w_908)
  obtain ⟨aJ, kJ, pJ, fJ, gJ, dJ⟩ := Cond.arrayClass_spec (hts _ w_64)
  obtain ⟨aB, kB, pB, fB, gB, dB⟩ := Cond.arrayClass_spec (hts _ w_80)
  obtain ⟨aI, kI, pI, fI, gI, dI⟩ := Cond.arrayClass_spec (hts _ w_1044)
  obtain ⟨pP, aP, kP, eP, -, gP, dP, fP⟩ := Cond.arrayOver_spec h1
  obtain ⟨pL, aL, kL, eL, -, gL, dL, fL⟩ := arrayOverA_spec h2
  obtain ⟨pY, aY, kY, eY, -, gY, dY, fY⟩ := arrayOverA_spec h3
  refine ⟨((fun c => match c with | 0 => c0 | 1 => c1 | 2 => c2 | 3 => c3 | 4 => c4 | 5 => c5 | 6 => c6 | 7 => c7 | _ => c8, fun c => match c with | 0 => i0 | 1 => i1 | 2 => i2 | 3 => i3 | 4 => i4 | 5 => i5 | 6 => i6 | 7 => i7 | _ => i8), aJ, aB, aI, aP, aL, aY), ⟨fun c q hq => ?_, fun k q hk => ?_⟩, h1, h2, h3⟩
  · match c, hq with
    | 0, hq => cases hq; exact k0
    | 1, hq => cases hq; exact k1
    | 2, hq => cases hq; exact k2
    | 3, hq => cases hq; exact k3
    | 4, hq => cases hq; exact k4
    | 5, hq => cases hq; exact k5
    | 6, hq => cases hq; exact k6
    | 7, hq => cases hq; exact k7
    | 8, hq => cases hq; exact k8
    | c + 9, hq => simp [CL] at hq
  · match k, hk with
    | 0, hk => cases hk; exact ⟨fun N z => ⟨(fun k h => by cases h), kJ, gJ, pJ, dJ⟩, fJ⟩
    | 1, hk => cases hk; exact ⟨fun N z => ⟨(fun k h => by cases h), kB, gB, pB, dB⟩, fB⟩
    | 2, hk => cases hk; exact ⟨fun N z => ⟨(fun k h => by cases h), kI, gI, pI, dI⟩, fI⟩
    | 3, hk => cases hk; exact ⟨fun N z => ⟨(fun k h => by cases h), kP, gP, pP, dP⟩, kP, pP, gP, dP, eP, fP⟩
    | 4, hk => cases hk; exact ⟨fun N z => ⟨(fun k h => by cases h), kL, gL, pL, dL⟩, fL⟩
    | 5, hk => cases hk; exact ⟨fun N z => ⟨(fun k h => by cases h), kY, gY, pY, dY⟩, fY⟩
    | k + 6, hk => simp at hk
/-- all that the law's entry brings -/
theorem law_start {l : Launch} {s : State} {args : Array Value} (hfl : l.flags = flags0) (hts : ∀ w ∈ lw_tbl, w.before args s = true) (hgv : (Jvm.Cond.and given_1 narrow_1).before args s = true) : (∃ g : WG, KW g s) ∧ XS l s ∧ KH s ∧ va_Nw (.methodLinkNest "KateDesk" 33 y_Row_init "KateDesk") s ∧ va_Nw (.methodLinkNest "KateDesk$Sums" 9 y_Desk_newPoints "KateDesk") s ∧ va_Nc "java/lang/ArithmeticException" "java/lang/IllegalArgumentException" s ∧ va_Nc "java/lang/IllegalStateException" "java/lang/IllegalArgumentException" s := by
  have hs := flat_of_before _ hgv
  exact ⟨kw_start (fun w hw => hts w (bw_tbl hw)) (va_AO.of (hts _ (tbl_i (i := 39) (by decide +kernel)))) (kd_AOA.of (hts (.arrayOver (.array .long)) (tbl_i (i := 34) (by decide +kernel)))) (kd_AOA.of (hts (.arrayOver (.array .byte)) (tbl_i (i := 244) (by decide +kernel)))), xs_start hfl hts hs, kh_start hts hs, va_Nw.of rfl (hts _ (tbl_i (i := 67) (by decide +kernel))), va_Nw.of rfl (hts _ (tbl_i (i := 242) (by decide +kernel))), va_Nc.of (hs _ (fl_i (i := 21) (by decide +kernel))), va_Nc.of (hs _ (fl_i (i := 20) (by decide +kernel)))⟩
