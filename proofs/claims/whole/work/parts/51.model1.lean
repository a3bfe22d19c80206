/-- the model: an object and its eight arrays behind it -/
def MO (g : WG) (H : Heap) (mo : Nat) (th wh nn pw td wr : Int32) : Prop := OB g H mo 8 [.int th, .ref (mo + 1), .ref (mo + 2), .ref (mo + 3), .ref (mo + 4), .ref (mo + 5), .int wh, .int nn, .int pw, .ref (mo + 6), .int td, .ref (mo + 7), .int wr, .ref (mo + 8)]
def kPr (k : Nat) : Int64 := ([268413611, 267386879, 67108793, 268430101, 103030443, 168782607, 258420946, 255349035, 74926980, 79351158, 195540547, 241804465, 32127359, 106513, 1, 268435440, 240910079, 171978751, 134566845, 8428061, 137574872, 43636692, 65906515, 7, 0, 0, 0, 0] : List Int64).getD k 0
/-- which field: its number and its limbs -/
def WH (w n : Nat) : Prop := (w = 0 ∧ n = 14) ∨ (w = 1 ∧ n = 10)
abbrev y_Model_limb : MethodName := ⟨"KateDeskModel", "limb", "(II)J"⟩
theorem hd_Model_limb : y_Model_limb.cls ≠ "java/lang/invoke/MethodHandle" ∧ y_Model_limb.cls ≠ "java/lang/invoke/VarHandle" ∧ (parseMethodDescriptor y_Model_limb.desc).map (fun d => d.parameters.length) = some 2 := by decide +kernel
theorem d_Model_limb_0 : decode prog_11_method_6_code 0 = .ok (.aload_n 0, 1) := by decide +kernel
theorem d_Model_limb_1 : decode prog_11_method_6_code 1 = .ok (.getfield 7, 3) := by decide +kernel
theorem d_Model_limb_4 : decode prog_11_method_6_code 4 = .ok (.bipush 14, 2) := by decide +kernel
theorem d_Model_limb_6 : decode prog_11_method_6_code 6 = .ok (.iload_n 1, 1) := by decide +kernel
theorem d_Model_limb_7 : decode prog_11_method_6_code 7 = .ok (.imul, 1) := by decide +kernel
theorem d_Model_limb_8 : decode prog_11_method_6_code 8 = .ok (.iload_n 2, 1) := by decide +kernel
theorem d_Model_limb_9 : decode prog_11_method_6_code 9 = .ok (.iadd, 1) := by decide +kernel
theorem d_Model_limb_10 : decode prog_11_method_6_code 10 = .ok (.laload, 1) := by decide +kernel
theorem d_Model_limb_11 : decode prog_11_method_6_code 11 = .ok (.lreturn, 1) := by decide +kernel
abbrev y_Model_carries : MethodName := ⟨"KateDeskModel", "carries", "(I)V"⟩
theorem hd_Model_carries : y_Model_carries.cls ≠ "java/lang/invoke/MethodHandle" ∧ y_Model_carries.cls ≠ "java/lang/invoke/VarHandle" ∧ (parseMethodDescriptor y_Model_carries.desc).map (fun d => d.parameters.length) = some 1 := by decide +kernel
theorem d_Model_carries_0 : decode prog_11_method_13_code 0 = .ok (.lconst 0, 1) := by decide +kernel
theorem d_Model_carries_1 : decode prog_11_method_13_code 1 = .ok (.lstore_n 2, 1) := by decide +kernel
theorem d_Model_carries_2 : decode prog_11_method_13_code 2 = .ok (.iconst 0, 1) := by decide +kernel
theorem d_Model_carries_3 : decode prog_11_method_13_code 3 = .ok (.istore 4, 2) := by decide +kernel
theorem d_Model_carries_5 : decode prog_11_method_13_code 5 = .ok (.iload 4, 2) := by decide +kernel
theorem d_Model_carries_7 : decode prog_11_method_13_code 7 = .ok (.iload_n 1, 1) := by decide +kernel
theorem d_Model_carries_8 : decode prog_11_method_13_code 8 = .ok (.if_icmp .ge 36, 3) := by decide +kernel
theorem d_Model_carries_11 : decode prog_11_method_13_code 11 = .ok (.lload_n 2, 1) := by decide +kernel
theorem d_Model_carries_12 : decode prog_11_method_13_code 12 = .ok (.aload_n 0, 1) := by decide +kernel
theorem d_Model_carries_13 : decode prog_11_method_13_code 13 = .ok (.getfield 124, 3) := by decide +kernel
theorem d_Model_carries_16 : decode prog_11_method_13_code 16 = .ok (.iload 4, 2) := by decide +kernel
theorem d_Model_carries_18 : decode prog_11_method_13_code 18 = .ok (.laload, 1) := by decide +kernel
theorem d_Model_carries_19 : decode prog_11_method_13_code 19 = .ok (.ladd, 1) := by decide +kernel
theorem d_Model_carries_20 : decode prog_11_method_13_code 20 = .ok (.lstore_n 2, 1) := by decide +kernel
theorem d_Model_carries_21 : decode prog_11_method_13_code 21 = .ok (.aload_n 0, 1) := by decide +kernel
theorem d_Model_carries_22 : decode prog_11_method_13_code 22 = .ok (.getfield 124, 3) := by decide +kernel
theorem d_Model_carries_25 : decode prog_11_method_13_code 25 = .ok (.iload 4, 2) := by decide +kernel
theorem d_Model_carries_27 : decode prog_11_method_13_code 27 = .ok (.lload_n 2, 1) := by decide +kernel
theorem d_Model_carries_28 : decode prog_11_method_13_code 28 = .ok (.ldc2_w 168, 3) := by decide +kernel
theorem d_Model_carries_31 : decode prog_11_method_13_code 31 = .ok (.land, 1) := by decide +kernel
theorem d_Model_carries_32 : decode prog_11_method_13_code 32 = .ok (.lastore, 1) := by decide +kernel
theorem d_Model_carries_33 : decode prog_11_method_13_code 33 = .ok (.lload_n 2, 1) := by decide +kernel
theorem d_Model_carries_34 : decode prog_11_method_13_code 34 = .ok (.bipush 28, 2) := by decide +kernel
theorem d_Model_carries_36 : decode prog_11_method_13_code 36 = .ok (.lshr, 1) := by decide +kernel
theorem d_Model_carries_37 : decode prog_11_method_13_code 37 = .ok (.lstore_n 2, 1) := by decide +kernel
theorem d_Model_carries_38 : decode prog_11_method_13_code 38 = .ok (.iinc 4 1, 3) := by decide +kernel
theorem d_Model_carries_41 : decode prog_11_method_13_code 41 = .ok (.goto (-36), 3) := by decide +kernel
theorem d_Model_carries_44 : decode prog_11_method_13_code 44 = .ok (.aload_n 0, 1) := by decide +kernel
theorem d_Model_carries_45 : decode prog_11_method_13_code 45 = .ok (.getfield 124, 3) := by decide +kernel
theorem d_Model_carries_48 : decode prog_11_method_13_code 48 = .ok (.iload_n 1, 1) := by decide +kernel
theorem d_Model_carries_49 : decode prog_11_method_13_code 49 = .ok (.dup2, 1) := by decide +kernel
theorem d_Model_carries_50 : decode prog_11_method_13_code 50 = .ok (.laload, 1) := by decide +kernel
theorem d_Model_carries_51 : decode prog_11_method_13_code 51 = .ok (.lload_n 2, 1) := by decide +kernel
theorem d_Model_carries_52 : decode prog_11_method_13_code 52 = .ok (.ladd, 1) := by decide +kernel
theorem d_Model_carries_53 : decode prog_11_method_13_code 53 = .ok (.lastore, 1) := by decide +kernel
theorem d_Model_carries_54 : decode prog_11_method_13_code 54 = .ok (.return_, 1) := by decide +kernel
set_option maxHeartbeats 4000000 in
set_option maxRecDepth 100000 in
theorem c_Model_limb (l : Launch) (g : WG) (n0 : Nat → Prop) (mo s0 k : Nat) (th wh nn pw td wr : Int32) (f : Nat → Int64) (hs : s0 < 170) (hk14 : k < 14) : Ctr l y_Model_limb (.code y_Model_limb prog_11_method_6_code 3 (some FieldType.long)) 0 0 0 0 n0 g [.ref mo, .int (nI s0), .int (nI k)] (fun H => MO g H mo th wh nn pw td wr ∧ AJ g H (mo + 1) 2380 f) (QL (fun r H H' => r = f (14 * s0 + k) ∧ H' = H)) := by
  refine ctr_mk l (lv0 := [(0, .ref mo), (1, .int (nI s0)), (2, .int (nI k))]) (by decide) (Nat.le_of_ble_eq_true rfl) rfl ?_
  intro p e s m below meth c ls E hr hlk hnm hl hP
  have hx := E.1
  have hb := E.2.1
  have hK := E.2.2.2.2.2
  have hF : ∀ q ∈ ([] : List Loc), n0 q.base := fun q hq => absurd hq List.not_mem_nil
  refine lv_aload_n hx hb d_Model_limb_0 rfl (lv_at hl 0 rfl) ?_
  refine q_get (C := "KateDeskModel") (T := T_Model) (N := 14) (ci := 8) E hP.1 in_Model rfl 1 (by decide) w_1002 rfl rfl d_Model_limb_1 ?_
  refine lv_bipush (v := nI 14) hx hb d_Model_limb_4 (by decide) ?_
  refine lv_iload_n hx hb d_Model_limb_6 rfl (lv_at hl 1 rfl) ?_
  refine lv_imul hx hb d_Model_limb_7 ?_
  refine lv_topi (fun t9 e9 => ?_)
  obtain rfl : t9 = nI (14 * s0) := e9.trans (pk_mul _ _)
  refine lv_iload_n hx hb d_Model_limb_8 rfl (lv_at hl 2 rfl) ?_
  refine lv_iadd hx hb d_Model_limb_9 ?_
  refine lv_topi (fun t9 e9 => ?_)
  obtain rfl : t9 = nI (14 * s0 + k) := e9.trans (nI_add _ _)
  refine q_lald (N := 2380) (f := f) E hP.2 (14 * s0 + k) rfl (by omega) (by decide) d_Model_limb_10 ?_
  exact q_lret E hr hlk (⟨_, rfl, rfl, rfl⟩) hF d_Model_limb_11
set_option maxHeartbeats 4000000 in
set_option maxRecDepth 100000 in
/-- the limbs below t become digits; the number stays -/
theorem c_Model_carries (l : Launch) (g : WG) (n0 : Nat → Prop) (mo t : Nat) (th wh nn pw td wr : Int32) (f : Nat → Int64) (ht : t ≤ 28) (hB : ∀ k, k ≤ t → -4611686018427387904 ≤ (f k).toInt ∧ (f k).toInt ≤ 4611686018427387904) : Ctr l y_Model_carries (.code y_Model_carries prog_11_method_13_code 5 none) 0 0 0 0 n0 g [.ref mo, .int (nI t)] (fun H => MO g H mo th wh nn pw td wr ∧ AJ g H (mo + 5) 32 f ∧ n0 (mo + 5)) (QV (fun H H' => KJ g (fun q => q = mo + 5) H H' ∧ ∃ f', AJ g H' (mo + 5) 32 f' ∧ (∀ k, k < t → dg (f' k)) ∧ VL f' t + (f' t).toInt * 268435456 ^ t = VL f t + (f t).toInt * 268435456 ^ t ∧ (∀ j, t < j → f' j = f j) ∧ (-68719476736 ≤ (f' t).toInt - (f t).toInt ∧ (f' t).toInt - (f t).toInt ≤ 68719476736))) := by
  refine ctr_mk l (lv0 := [(0, .ref mo), (1, .int (nI t))]) (by decide) (Nat.le_of_ble_eq_true rfl) rfl ?_
  intro p e s m below meth c ls E hr hlk hnm hl hP
  have hx := E.1
  have hb := E.2.1
  have hK := E.2.2.2.2.2
  have hF : ∀ q ∈ ([] : List Loc), n0 q.base := fun q hq => absurd hq List.not_mem_nil
  obtain ⟨hmo, hac, hn5⟩ := hP
  have hk : KJ g (fun q => q = mo + 5) s.heap s.heap := KJ.rf
  have loop : ∀ (k : Nat) (i : Nat) (H : Heap) (locs : List Loc) (ls : Array Slot) (cr : Int64) (f1 : Nat → Int64), i + k = t → KJ g (fun q => q = mo + 5) s.heap H → AJ g H (mo + 5) 32 f1 → (-68719476736 ≤ cr.toInt ∧ cr.toInt ≤ 68719476736) → VL f1 i + cr.toInt * 268435456 ^ i = VL f i → (∀ k, k < i → dg (f1 k)) → (∀ j, i ≤ j → f1 j = f j) → (∀ q ∈ locs, n0 q.base) → lv_has ls 5 [(4, .int (nI i)), (2, .long cr), (0, .ref mo), (1, .int (nI t))] → W p l e { frames := 0, cells := 0, slots := 0, locals := 0 } s m [.ref mo, .int (nI t)].toArray below meth c H locs 0 0 (MQ below (QcP (QV (fun H H' => KJ g (fun q => q = mo + 5) H H' ∧ ∃ f', AJ g H' (mo + 5) 32 f' ∧ (∀ k, k < t → dg (f' k)) ∧ VL f' t + (f' t).toInt * 268435456 ^ t = VL f t + (f t).toInt * 268435456 ^ t ∧ (∀ j, t < j → f' j = f j) ∧ (-68719476736 ≤ (f' t).toInt - (f t).toInt ∧ (f' t).toInt - (f t).toInt ≤ 68719476736)))) [.ref mo, .int (nI t)].toArray s 0 0 (fun q => n0 q)) (F0 m 5 ls []) := by
    intro k
    induction k with
    | zero =>
      intro  i   H   locs   ls   cr   f1 hi hk hf hcr hV hdg hge hF hl
      obtain rfl : i = t := by omega
      refine lv_iload hx hb d_Model_carries_5 (lv_at hl 0 rfl) ?_
      refine lv_iload_n hx hb d_Model_carries_7 rfl (lv_at hl 3 rfl) ?_
      refine lv_icmp_ge (tgt := 44) hx hb d_Model_carries_8 (by decide) (fun _ => ?_) (fun h9 => absurd (nI_le (Nat.le_refl _) (by omega)) h9)
      refine lv_aload_n hx hb d_Model_carries_44 rfl (lv_at hl 2 rfl) ?_
      refine q_get (C := "KateDeskModel") (T := T_Model) (N := 14) (ci := 8) E (hk.ob hK hmo) in_Model rfl 5 (by decide) w_1006 rfl rfl d_Model_carries_45 ?_
      refine lv_iload_n hx hb d_Model_carries_48 rfl (lv_at hl 3 rfl) ?_
      refine lv_dup2_11 hx hb d_Model_carries_49 rfl rfl ?_
      refine q_lald (N := 32) (f := f1) E hf i rfl (by omega) (by decide) d_Model_carries_50 ?_
      refine lv_lload_n hx hb d_Model_carries_51 rfl (lv_at hl 1 rfl) ?_
      refine lv_ladd hx hb d_Model_carries_52 ?_
      refine q_last E hf hn5 hF i rfl (by omega) (by decide) d_Model_carries_53 (fun H1 locs hq hf2 hF => ?_)
      have hk := hk.tr hq
      have e1 : f1 i = f i := hge i (Nat.le_refl _)
      have e2 := hB i (Nat.le_refl _)
      have e3 : (f1 i + cr).toInt = (f i).toInt + cr.toInt := by rw [← e1]; exact i64_add (by rw [e1]; omega) (by rw [e1]; omega)
      exact q_vret E hr hlk (⟨rfl, hk, _, hf2, fun k hk1 => by simp only [vp_updL, show k ≠ i by omega, if_false]; exact hdg k hk1, by rw [VL_upd_ge (Nat.le_refl _)]; simp only [vp_updL, if_true]; rw [e3, ← hV]; grind, fun j hj => by simp only [vp_updL, show j ≠ i by omega, if_false]; exact hge j (by omega), by simp only [vp_updL, if_true]; rw [e3]; omega⟩) hF d_Model_carries_54
    | succ k ih =>
      intro  i   H   locs   ls   cr   f1 hi hk hf hcr hV hdg hge hF hl
      refine lv_iload hx hb d_Model_carries_5 (lv_at hl 0 rfl) ?_
      refine lv_iload_n hx hb d_Model_carries_7 rfl (lv_at hl 3 rfl) ?_
      refine lv_icmp_ge (tgt := 44) hx hb d_Model_carries_8 (by decide) (fun h9 => absurd h9 (nI_ge (by omega) (by omega))) (fun _ => ?_)
      refine lv_lload_n hx hb d_Model_carries_11 rfl (lv_at hl 1 rfl) ?_
      refine lv_aload_n hx hb d_Model_carries_12 rfl (lv_at hl 2 rfl) ?_
      refine q_get (C := "KateDeskModel") (T := T_Model) (N := 14) (ci := 8) E (hk.ob hK hmo) in_Model rfl 5 (by decide) w_1006 rfl rfl d_Model_carries_13 ?_
      refine lv_iload hx hb d_Model_carries_16 (lv_at hl 0 rfl) ?_
      refine q_lald (N := 32) (f := f1) E hf i rfl (by omega) (by decide) d_Model_carries_18 ?_
      have e1 : f1 i = f i := hge i (Nat.le_refl _)
      have hst := carry_step (f := f) (f' := f1) hcr (hB i (by omega)) hV
      refine lv_ladd hx hb d_Model_carries_19 ?_
      refine lv_topl (fun t9 e9 => ?_)
      obtain rfl : t9 = cr + f i := e9.trans (by rw [e1])
      refine lv_lstore_n (lv' := [(2, .long (cr + f i)), (4, .int (nI i)), (0, .ref mo), (1, .int (nI t))]) hx hb d_Model_carries_20 rfl hl (by decide) rfl (fun ls hl => ?_)
      refine lv_aload_n hx hb d_Model_carries_21 rfl (lv_at hl 2 rfl) ?_
      refine q_get (C := "KateDeskModel") (T := T_Model) (N := 14) (ci := 8) E (hk.ob hK hmo) in_Model rfl 5 (by decide) w_1006 rfl rfl d_Model_carries_22 ?_
      refine lv_iload hx hb d_Model_carries_25 (lv_at hl 1 rfl) ?_
      refine lv_lload_n hx hb d_Model_carries_27 rfl (lv_at hl 0 rfl) ?_
      refine lv_ldc2 (v := 268435455) hx hb E.2.2.2.1 (E.2.2.2.2.1 _ w_984) d_Model_carries_28 ?_
      refine lv_land hx hb d_Model_carries_31 ?_
      refine q_last E hf hn5 hF i rfl (by omega) (by decide) d_Model_carries_32 (fun H1 locs hq hf2 hF => ?_)
      have hk := hk.tr hq
      refine lv_lload_n hx hb d_Model_carries_33 rfl (lv_at hl 0 rfl) ?_
      refine lv_bipush (v := nI 28) hx hb d_Model_carries_34 (by decide) ?_
      refine lv_lshr (v := (cr + f i) >>> ((nI 28).toInt64 &&& 63)) hx hb d_Model_carries_36 rfl ?_
      refine lv_lstore_n (lv' := [(2, .long ((cr + f i) >>> ((nI 28).toInt64 &&& 63))), (4, .int (nI i)), (0, .ref mo), (1, .int (nI t))]) hx hb d_Model_carries_37 rfl hl (by decide) rfl (fun ls hl => ?_)
      refine lv_iinc (k := 1) (v := nI (i + 1)) (lv' := [(4, .int (nI (i + 1))), (2, .long ((cr + f i) >>> ((nI 28).toInt64 &&& 63))), (0, .ref mo), (1, .int (nI t))]) hx hb d_Model_carries_38 hl rfl (i_inc i) (by decide) rfl (fun ls hl => ?_)
      refine lv_goto (tgt := 5) hx hb d_Model_carries_41 (by decide) ?_
      have hl : lv_has ls 5 [(4, .int (nI (i + 1))), (2, .long ((cr + f i) >>> ((nI 28).toInt64 &&& 63))), (0, .ref mo), (1, .int (nI t))] := lv_sub hl [0, 1, 2, 3] rfl
      exact ih (i + 1) H1 locs ls _ _ (by omega) hk hf2 ⟨hst.2.1, hst.2.2.1⟩ hst.1 (fun k hk1 => by by_cases e : k = i; (subst e; simp only [vp_updL, if_true]; exact hst.2.2.2); (simp only [vp_updL, e, if_false]; exact hdg k (by omega))) (fun j hj => by simp only [vp_updL, show j ≠ i by omega, if_false]; exact hge j (by omega)) hF hl
  refine lv_lconst (v := 0) hx hb d_Model_carries_0 (by decide) ?_
  refine lv_lstore_n (lv' := [(2, .long 0), (0, .ref mo), (1, .int (nI t))]) hx hb d_Model_carries_1 rfl hl (by decide) rfl (fun ls hl => ?_)
  refine lv_iconst (v := nI 0) hx hb d_Model_carries_2 (by decide) ?_
  refine lv_istore (lv' := [(4, .int (nI 0)), (2, .long 0), (0, .ref mo), (1, .int (nI t))]) hx hb d_Model_carries_3 hl (by decide) rfl (fun ls hl => ?_)
  have hl : lv_has ls 5 [(4, .int (nI 0)), (2, .long 0), (0, .ref mo), (1, .int (nI t))] := lv_sub hl [0, 1, 2, 3] rfl
  exact loop t 0 s.heap [] ls 0 f (by omega) hk hac (by decide) rfl (fun k hk1 => absurd hk1 (Nat.not_lt_zero _)) (fun _ _ => rfl) hF hl
