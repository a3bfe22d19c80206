theorem np_up (h j : Nat) : updV (fun i => if i < j then Value.ref (h + 1 + 4 * i) else .null) j (.ref (h + 1 + 4 * j)) = fun i => if i < j + 1 then Value.ref (h + 1 + 4 * i) else .null := by
  funext i
  by_cases e : i = j
  · subst e
    simp [updV]
  · simp only [updV, if_neg e]
    by_cases h1 : i < j
    · rw [if_pos h1, if_pos (by omega)]
    · rw [if_neg h1, if_neg (by omega)]
theorem np_c (j : Nat) : 1 + 4 * (j + 1) = 1 + 4 * j + 1 + 3 := by omega
theorem np_s (N j : Nat) : N + 45 * (j + 1) = N + 45 * j + 3 + 42 := by omega
theorem np_z (h j : Nat) : h + 1 + 4 * j + 4 = h + 1 + 4 * (j + 1) := by omega
theorem np_e (N : Nat) : 46 * N = N + 45 * N := by omega
abbrev y_Desk_newPoints : MethodName := ⟨"KateDesk", "newPoints", "(I)[LKateDesk$Point;"⟩
theorem hd_Desk_newPoints : y_Desk_newPoints.cls ≠ "java/lang/invoke/MethodHandle" ∧ y_Desk_newPoints.cls ≠ "java/lang/invoke/VarHandle" ∧ (parseMethodDescriptor y_Desk_newPoints.desc).map (fun d => d.parameters.length) = some 1 := by decide +kernel
theorem d_Desk_newPoints_0 : decode prog_1_method_27_code 0 = .ok (.iload_n 0, 1) := by decide +kernel
theorem d_Desk_newPoints_1 : decode prog_1_method_27_code 1 = .ok (.anewarray 41, 3) := by decide +kernel
theorem d_Desk_newPoints_4 : decode prog_1_method_27_code 4 = .ok (.astore_n 1, 1) := by decide +kernel
theorem d_Desk_newPoints_5 : decode prog_1_method_27_code 5 = .ok (.iconst 0, 1) := by decide +kernel
theorem d_Desk_newPoints_6 : decode prog_1_method_27_code 6 = .ok (.istore_n 2, 1) := by decide +kernel
theorem d_Desk_newPoints_7 : decode prog_1_method_27_code 7 = .ok (.iload_n 2, 1) := by decide +kernel
theorem d_Desk_newPoints_8 : decode prog_1_method_27_code 8 = .ok (.iload_n 0, 1) := by decide +kernel
theorem d_Desk_newPoints_9 : decode prog_1_method_27_code 9 = .ok (.if_icmp .ge 19, 3) := by decide +kernel
theorem d_Desk_newPoints_12 : decode prog_1_method_27_code 12 = .ok (.aload_n 1, 1) := by decide +kernel
theorem d_Desk_newPoints_13 : decode prog_1_method_27_code 13 = .ok (.iload_n 2, 1) := by decide +kernel
theorem d_Desk_newPoints_14 : decode prog_1_method_27_code 14 = .ok (.new 41, 3) := by decide +kernel
theorem d_Desk_newPoints_17 : decode prog_1_method_27_code 17 = .ok (.dup, 1) := by decide +kernel
theorem d_Desk_newPoints_18 : decode prog_1_method_27_code 18 = .ok (.invokespecial 43, 3) := by decide +kernel
theorem d_Desk_newPoints_21 : decode prog_1_method_27_code 21 = .ok (.aastore, 1) := by decide +kernel
theorem d_Desk_newPoints_22 : decode prog_1_method_27_code 22 = .ok (.iinc 2 1, 3) := by decide +kernel
theorem d_Desk_newPoints_25 : decode prog_1_method_27_code 25 = .ok (.goto (-18), 3) := by decide +kernel
theorem d_Desk_newPoints_28 : decode prog_1_method_27_code 28 = .ok (.aload_n 1, 1) := by decide +kernel
theorem d_Desk_newPoints_29 : decode prog_1_method_27_code 29 = .ok (.areturn, 1) := by decide +kernel
set_option maxHeartbeats 4000000 in
set_option maxRecDepth 100000 in
theorem c_Desk_newPoints (l : Launch) (g : WG) (n0 : Nat → Prop) (h N : Nat) (hN : N ≤ 64) (hna : ∀ q, h ≤ q → n0 q) : Ctr l y_Desk_newPoints (.code y_Desk_newPoints prog_1_method_27_code 3 (some (FieldType.array (FieldType.object "KateDesk$Point")))) 2 60 (1 + 4 * N) (N + 45 * N) n0 g [.int (nI N)] (fun H => H.size = h) (QR (fun r H H' => r = h ∧ H'.size = h + 1 + 4 * N ∧ (∀ q, q < h → H'[q]? = H[q]?) ∧ AR g.2.2.2.2.1 H' h N (fun k => h + 1 + 4 * k) ∧ ∀ k, k < N → PZ g H' (h + 1 + 4 * k))) := by
  refine ctr_mk l (lv0 := [(0, .int (nI N))]) (by decide) (Nat.le_of_ble_eq_true rfl) rfl ?_
  intro p e s m below meth c ls E hr hlk hnm hl hP
  have hx := E.1
  have hb := E.2.1
  have hK := E.2.2.2.2.2
  have hF : ∀ q ∈ ([] : List Loc), n0 q.base := fun q hq => absurd hq List.not_mem_nil
  refine lv_iload_n hx hb d_Desk_newPoints_0 rfl (lv_at hl 0 rfl) ?_
  refine q_newP E (nI_pos (by omega)) (nI_clamp (by omega)) (by omega) w_38 (by show 0 + 1 ≤ 1 + 4 * N; omega) (by show 0 + N ≤ N + 45 * N; omega) hP d_Desk_newPoints_1 (fun H1 hsz hlow hA => ?_)
  have lp : ∀ (k : Nat) (j : Nat) (H : Heap) (locs : List Loc) (ls : Array Slot), j + k = N → H.size = h + 1 + 4 * j → (∀ q, q < h → H[q]? = s.heap[q]?) → H[h]? = some (arrV g.2.2.2.2.1 N (fun i => if i < j then Value.ref (h + 1 + 4 * i) else .null)) → (∀ i, i < j → PZ g H (h + 1 + 4 * i)) → (∀ q ∈ locs, n0 q.base) → lv_has ls 3 [(2, .int (nI j)), (1, .ref h), (0, .int (nI N))] → W p l e { frames := 2, cells := (1 + 4 * N), slots := (N + 45 * N), locals := 60 } s m [.int (nI N)].toArray below meth c H locs (1 + 4 * j) (N + 45 * j) (MQ below (QcP (QR (fun r H H' => r = h ∧ H'.size = h + 1 + 4 * N ∧ (∀ q, q < h → H'[q]? = H[q]?) ∧ AR g.2.2.2.2.1 H' h N (fun k => h + 1 + 4 * k) ∧ ∀ k, k < N → PZ g H' (h + 1 + 4 * k)))) [.int (nI N)].toArray s (1 + 4 * N) (N + 45 * N) (fun q => n0 q)) (F0 m 7 ls []) := by
    intro k
    induction k with
    | zero =>
      intro  j   H   locs   ls hj hsz hlow hA hp hF hl
      obtain rfl : j = N := by omega
      refine lv_iload_n hx hb d_Desk_newPoints_7 rfl (lv_at hl 0 rfl) ?_
      refine lv_iload_n hx hb d_Desk_newPoints_8 rfl (lv_at hl 2 rfl) ?_
      refine lv_icmp_ge (tgt := 28) hx hb d_Desk_newPoints_9 (by decide) (fun _ => ?_) (fun h9 => absurd (nI_le (Nat.le_refl _) (by omega)) h9)
      refine lv_aload_n hx hb d_Desk_newPoints_28 rfl (lv_at hl 1 rfl) ?_
      exact q_aret E hr (Or.inr ⟨_, rfl⟩) hlk (⟨_, rfl, rfl, hsz, hlow, by unfold AR; rw [hA]; exact congrArg some (arrV_ext (fun i hi => if_pos hi)), hp⟩) hF d_Desk_newPoints_29
    | succ k ih =>
      intro  j   H   locs   ls hj hsz hlow hA hp hF hl
      have hjN : j < N := by omega
      refine lv_iload_n hx hb d_Desk_newPoints_7 rfl (lv_at hl 0 rfl) ?_
      refine lv_iload_n hx hb d_Desk_newPoints_8 rfl (lv_at hl 2 rfl) ?_
      refine lv_icmp_ge (tgt := 28) hx hb d_Desk_newPoints_9 (by decide) (fun h9 => absurd h9 (nI_ge hjN (by omega))) (fun _ => ?_)
      refine lv_aload_n hx hb d_Desk_newPoints_12 rfl (lv_at hl 1 rfl) ?_
      refine lv_iload_n hx hb d_Desk_newPoints_13 rfl (lv_at hl 0 rfl) ?_
      refine q_new (C := "KateDesk$Point") (T := T_Point) (N := 3) (ci := 2) (fs := [.null, .null, .null]) E in_Point ty_Point tyok_Point rfl w_38 w_40 w_2 (by decide +kernel) (by show 1 + 4 * j + 1 ≤ 1 + 4 * N; omega) (by show N + 45 * j + 3 ≤ N + 45 * N; omega) hsz d_Desk_newPoints_14 (fun H1 hsz2 hnw ho => ?_)
      have hlow1 : ∀ q, q < h → H1[q]? = s.heap[q]? := fun q hq9 => (hnw q (by omega)).trans (hlow q hq9)
      have hA1 := (hnw h (by omega)).trans hA
      have hp1 : ∀ i, i < j → PZ g H1 (h + 1 + 4 * i) := fun i hi => (hp i hi).on (fun q h1 h2 => hnw q (by omega))
      refine lv_dup hx hb d_Desk_newPoints_17 rfl ?_
      refine q_cI (rest := [.ref (h + 1 + 4 * j), .int (nI j), .ref h]) E (c_Point_init l g n0 (h + 1 + 4 * j) (fun q h1 _ => hna q (by omega))) w_43 w_2 w_41 w_42 rfl hd_Point_init rfl ⟨Nat.le_of_ble_eq_true rfl, Nat.le_of_ble_eq_true rfl⟩ (⟨ho, hsz2⟩) hF hl.1 rfl (Nat.le_of_ble_eq_true rfl) d_Desk_newPoints_18 ⟨by show 1 + 4 * j + 1 + 3 ≤ 1 + 4 * N; omega, by show N + 45 * j + 3 + 42 ≤ N + 45 * N; omega⟩ (qv (fun H2 locs hq hF => ?_))
      obtain ⟨hpz, hsz3, hlow3⟩ := hq
      refine q_aastP E ((hlow3 h (by omega)).trans hA1) hpz.1 (hna h (Nat.le_refl _)) hF j rfl hjN (by omega) d_Desk_newPoints_21 (fun H3 locs hsz4 hoff hA4 hF => ?_)
      rw [np_up] at hA4
      have hsz5 : H3.size = h + 1 + 4 * (j + 1) := hsz4.trans (hsz3.trans (np_z h j))
      have hlow5 : ∀ q, q < h → H3[q]? = s.heap[q]? := fun q hq9 => (hoff q (Nat.ne_of_lt hq9)).trans ((hlow3 q (by omega)).trans (hlow1 q hq9))
      have hp5 : ∀ i, i < j + 1 → PZ g H3 (h + 1 + 4 * i) := by
        intro i hi
        by_cases e : i = j
        · subst e
          exact PZ.on (H := H2) hpz (fun q h1 h2 => hoff q (by omega))
        · exact (hp1 i (by omega)).on (fun q h1 h2 => (hoff q (by omega)).trans (hlow3 q (by omega)))
      clear hoff hlow3 hp1 hA1 hpz hsz3 hsz4
      refine lv_iinc (k := 0) (v := nI (j + 1)) (lv' := [(2, .int (nI (j + 1))), (1, .ref h), (0, .int (nI N))]) hx hb d_Desk_newPoints_22 hl rfl (i_inc j) (by decide) rfl (fun ls hl => ?_)
      refine lv_goto (tgt := 7) hx hb d_Desk_newPoints_25 (by decide) ?_
      have hl : lv_has ls 3 [(2, .int (nI (j + 1))), (1, .ref h), (0, .int (nI N))] := lv_sub hl [0, 1, 2] rfl
      rw [← np_c, ← np_s]
      exact ih (j + 1) _ _ ls (by omega) hsz5 hlow5 hA4 hp5 hF hl
  refine lv_astore_n (lv' := [(1, .ref h), (0, .int (nI N))]) hx hb d_Desk_newPoints_4 rfl hl (by decide) rfl (fun ls hl => ?_)
  refine lv_iconst (v := nI 0) hx hb d_Desk_newPoints_5 (by decide) ?_
  refine lv_istore_n (lv' := [(2, .int (nI 0)), (1, .ref h), (0, .int (nI N))]) hx hb d_Desk_newPoints_6 rfl hl (by decide) rfl (fun ls hl => ?_)
  have hl : lv_has ls 3 [(2, .int (nI 0)), (1, .ref h), (0, .int (nI N))] := lv_sub hl [0, 1, 2] rfl
  have h9 := lp N 0 H1 [] ls (by omega) hsz hlow hA (fun i hi => absurd hi (Nat.not_lt_zero _)) hF hl
  rw [show 0 + 1 = 1 + 4 * 0 from rfl, show 0 + N = N + 45 * 0 from by omega]
  exact h9
