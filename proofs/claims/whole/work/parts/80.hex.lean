/-- a hex digit's value -/
def hxD (b : Int32) : Int64 := if nI 57 < b then (b - nI 97 + nI 10).toInt64 else (b - nI 48).toInt64
/-- the limbs after k digits of a text of n bytes -/
def hxF (f : Nat → Int32) (n : Nat) : Nat → Nat → Int64
  | 0 => fun _ => 0
  | k + 1 => vp_updL (hxF f n k) (4 * k / 28) (hxF f n k (4 * k / 28) ||| (hxD (f (n - 1 - k) &&& 255) <<< ((nI (4 * k % 28)).toInt64 &&& 63)))
theorem hx_m : ∀ i, i < 98 → nI 4 * nI i = nI (4 * i) := by decide +kernel
theorem hx_d : ∀ i, i < 98 → nI (4 * i) / nI 28 = nI (4 * i / 28) := by decide +kernel
theorem hx_r : ∀ i, i < 98 → nI (4 * i) - nI (4 * i) / nI 28 * nI 28 = nI (4 * i % 28) := by decide +kernel
theorem hx_s {n i : Nat} (h : i < n) : nI n - nI 1 - nI i = nI (n - 1 - i) := by
  have e : nI n = nI (n - 1 - i) + nI i + nI 1 := by
    rw [nI_add, nI_add]
    congr 1
    omega
  rw [e, Int32.add_sub_cancel, Int32.add_sub_cancel]
theorem hx_14 {i : Nat} (h : i < 98) : 4 * i / 28 < 14 := by omega
theorem OLD.lt {s0 : State} {H H' : Heap} {h : Nat} (ho : OLD s0 H) (hh : s0.heap.size ≤ h) (he : ∀ q, q < h → H'[q]? = H[q]?) : OLD s0 H' := fun q hq => (he q (Nat.lt_of_lt_of_le hq hh)).trans (ho q hq)
abbrev y_Limbs_fromHex : MethodName := ⟨"KateDesk$Limbs", "fromHex", "(Ljava/lang/String;)[J"⟩
theorem hd_Limbs_fromHex : y_Limbs_fromHex.cls ≠ "java/lang/invoke/MethodHandle" ∧ y_Limbs_fromHex.cls ≠ "java/lang/invoke/VarHandle" ∧ (parseMethodDescriptor y_Limbs_fromHex.desc).map (fun d => d.parameters.length) = some 1 := by decide +kernel
theorem d_Limbs_fromHex_0 : decode prog_5_method_2_code 0 = .ok (.bipush 14, 2) := by decide +kernel
theorem d_Limbs_fromHex_2 : decode prog_5_method_2_code 2 = .ok (.newarray .long, 2) := by decide +kernel
theorem d_Limbs_fromHex_4 : decode prog_5_method_2_code 4 = .ok (.astore_n 1, 1) := by decide +kernel
theorem d_Limbs_fromHex_5 : decode prog_5_method_2_code 5 = .ok (.aload_n 0, 1) := by decide +kernel
theorem d_Limbs_fromHex_6 : decode prog_5_method_2_code 6 = .ok (.invokevirtual 9, 3) := by decide +kernel
theorem d_Limbs_fromHex_9 : decode prog_5_method_2_code 9 = .ok (.istore_n 2, 1) := by decide +kernel
theorem d_Limbs_fromHex_10 : decode prog_5_method_2_code 10 = .ok (.iconst 0, 1) := by decide +kernel
theorem d_Limbs_fromHex_11 : decode prog_5_method_2_code 11 = .ok (.istore_n 3, 1) := by decide +kernel
theorem d_Limbs_fromHex_12 : decode prog_5_method_2_code 12 = .ok (.iload_n 3, 1) := by decide +kernel
theorem d_Limbs_fromHex_13 : decode prog_5_method_2_code 13 = .ok (.iload_n 2, 1) := by decide +kernel
theorem d_Limbs_fromHex_14 : decode prog_5_method_2_code 14 = .ok (.if_icmp .ge 76, 3) := by decide +kernel
theorem d_Limbs_fromHex_17 : decode prog_5_method_2_code 17 = .ok (.iconst 4, 1) := by decide +kernel
theorem d_Limbs_fromHex_18 : decode prog_5_method_2_code 18 = .ok (.iload_n 3, 1) := by decide +kernel
theorem d_Limbs_fromHex_19 : decode prog_5_method_2_code 19 = .ok (.imul, 1) := by decide +kernel
theorem d_Limbs_fromHex_20 : decode prog_5_method_2_code 20 = .ok (.sipush 392, 3) := by decide +kernel
theorem d_Limbs_fromHex_23 : decode prog_5_method_2_code 23 = .ok (.if_icmp .ge 67, 3) := by decide +kernel
theorem d_Limbs_fromHex_26 : decode prog_5_method_2_code 26 = .ok (.aload_n 0, 1) := by decide +kernel
theorem d_Limbs_fromHex_27 : decode prog_5_method_2_code 27 = .ok (.iload_n 2, 1) := by decide +kernel
theorem d_Limbs_fromHex_28 : decode prog_5_method_2_code 28 = .ok (.iconst 1, 1) := by decide +kernel
theorem d_Limbs_fromHex_29 : decode prog_5_method_2_code 29 = .ok (.isub, 1) := by decide +kernel
theorem d_Limbs_fromHex_30 : decode prog_5_method_2_code 30 = .ok (.iload_n 3, 1) := by decide +kernel
theorem d_Limbs_fromHex_31 : decode prog_5_method_2_code 31 = .ok (.isub, 1) := by decide +kernel
theorem d_Limbs_fromHex_32 : decode prog_5_method_2_code 32 = .ok (.invokevirtual 15, 3) := by decide +kernel
theorem d_Limbs_fromHex_35 : decode prog_5_method_2_code 35 = .ok (.istore 4, 2) := by decide +kernel
theorem d_Limbs_fromHex_37 : decode prog_5_method_2_code 37 = .ok (.iload 4, 2) := by decide +kernel
theorem d_Limbs_fromHex_39 : decode prog_5_method_2_code 39 = .ok (.bipush 57, 2) := by decide +kernel
theorem d_Limbs_fromHex_41 : decode prog_5_method_2_code 41 = .ok (.if_icmp .gt 12, 3) := by decide +kernel
theorem d_Limbs_fromHex_44 : decode prog_5_method_2_code 44 = .ok (.iload 4, 2) := by decide +kernel
theorem d_Limbs_fromHex_46 : decode prog_5_method_2_code 46 = .ok (.bipush 48, 2) := by decide +kernel
theorem d_Limbs_fromHex_48 : decode prog_5_method_2_code 48 = .ok (.isub, 1) := by decide +kernel
theorem d_Limbs_fromHex_49 : decode prog_5_method_2_code 49 = .ok (.i2l, 1) := by decide +kernel
theorem d_Limbs_fromHex_50 : decode prog_5_method_2_code 50 = .ok (.goto 12, 3) := by decide +kernel
theorem d_Limbs_fromHex_53 : decode prog_5_method_2_code 53 = .ok (.iload 4, 2) := by decide +kernel
theorem d_Limbs_fromHex_55 : decode prog_5_method_2_code 55 = .ok (.bipush 97, 2) := by decide +kernel
theorem d_Limbs_fromHex_57 : decode prog_5_method_2_code 57 = .ok (.isub, 1) := by decide +kernel
theorem d_Limbs_fromHex_58 : decode prog_5_method_2_code 58 = .ok (.bipush 10, 2) := by decide +kernel
theorem d_Limbs_fromHex_60 : decode prog_5_method_2_code 60 = .ok (.iadd, 1) := by decide +kernel
theorem d_Limbs_fromHex_61 : decode prog_5_method_2_code 61 = .ok (.i2l, 1) := by decide +kernel
theorem d_Limbs_fromHex_62 : decode prog_5_method_2_code 62 = .ok (.lstore 5, 2) := by decide +kernel
theorem d_Limbs_fromHex_64 : decode prog_5_method_2_code 64 = .ok (.aload_n 1, 1) := by decide +kernel
theorem d_Limbs_fromHex_65 : decode prog_5_method_2_code 65 = .ok (.iconst 4, 1) := by decide +kernel
theorem d_Limbs_fromHex_66 : decode prog_5_method_2_code 66 = .ok (.iload_n 3, 1) := by decide +kernel
theorem d_Limbs_fromHex_67 : decode prog_5_method_2_code 67 = .ok (.imul, 1) := by decide +kernel
theorem d_Limbs_fromHex_68 : decode prog_5_method_2_code 68 = .ok (.bipush 28, 2) := by decide +kernel
theorem d_Limbs_fromHex_70 : decode prog_5_method_2_code 70 = .ok (.idiv, 1) := by decide +kernel
theorem d_Limbs_fromHex_71 : decode prog_5_method_2_code 71 = .ok (.dup2, 1) := by decide +kernel
theorem d_Limbs_fromHex_72 : decode prog_5_method_2_code 72 = .ok (.laload, 1) := by decide +kernel
theorem d_Limbs_fromHex_73 : decode prog_5_method_2_code 73 = .ok (.lload 5, 2) := by decide +kernel
theorem d_Limbs_fromHex_75 : decode prog_5_method_2_code 75 = .ok (.iconst 4, 1) := by decide +kernel
theorem d_Limbs_fromHex_76 : decode prog_5_method_2_code 76 = .ok (.iload_n 3, 1) := by decide +kernel
theorem d_Limbs_fromHex_77 : decode prog_5_method_2_code 77 = .ok (.imul, 1) := by decide +kernel
theorem d_Limbs_fromHex_78 : decode prog_5_method_2_code 78 = .ok (.bipush 28, 2) := by decide +kernel
theorem d_Limbs_fromHex_80 : decode prog_5_method_2_code 80 = .ok (.irem, 1) := by decide +kernel
theorem d_Limbs_fromHex_81 : decode prog_5_method_2_code 81 = .ok (.lshl, 1) := by decide +kernel
theorem d_Limbs_fromHex_82 : decode prog_5_method_2_code 82 = .ok (.lor, 1) := by decide +kernel
theorem d_Limbs_fromHex_83 : decode prog_5_method_2_code 83 = .ok (.lastore, 1) := by decide +kernel
theorem d_Limbs_fromHex_84 : decode prog_5_method_2_code 84 = .ok (.iinc 3 1, 3) := by decide +kernel
theorem d_Limbs_fromHex_87 : decode prog_5_method_2_code 87 = .ok (.goto (-75), 3) := by decide +kernel
theorem d_Limbs_fromHex_90 : decode prog_5_method_2_code 90 = .ok (.aload_n 1, 1) := by decide +kernel
theorem d_Limbs_fromHex_91 : decode prog_5_method_2_code 91 = .ok (.areturn, 1) := by decide +kernel
set_option maxHeartbeats 4000000 in
set_option maxRecDepth 100000 in
theorem c_Limbs_fromHex (l : Launch) (g : WG) (n0 : Nat → Prop) (s0 : State) (hn0 : ∀ q, n0 q → s0.heap.size ≤ q) (a n : Nat) (f : Nat → Int32) (hks : KS s0) (hkt : KT s0 a n f) (h : Nat) (hn98 : n ≤ 98) (hnh : n0 h) : CtrW l y_Limbs_fromHex (.code y_Limbs_fromHex prog_5_method_2_code 7 (some (FieldType.array FieldType.long))) 4 85 1 14 n0 g s0 [.ref a] (fun H => OLD s0 H ∧ H.size = h) (QR (fun r H H' => r = h ∧ H'.size = h + 1 ∧ (∀ q, q < h → H'[q]? = H[q]?) ∧ AJ g H' h 14 (hxF f n n))) := by
  refine ctrW_mk l (lv0 := [(0, .ref a)]) (by decide) (Nat.le_of_ble_eq_true rfl) rfl ?_
  intro p e s m below meth c ls E hw0 hr hlk hnm hl hP
  have hx := E.1
  have hb := E.2.1
  have hK := E.2.2.2.2.2
  have hF : ∀ q ∈ ([] : List Loc), n0 q.base := fun q hq => absurd hq List.not_mem_nil
  obtain ⟨ho, hsz0⟩ := hP
  refine lv_bipush (v := nI 14) hx hb d_Limbs_fromHex_0 (by decide) ?_
  refine q_newJ E 14 rfl (by decide) w_64 (by decide) (by decide) hsz0 d_Limbs_fromHex_2 (fun H1 hsz hlow hA => ?_)
  refine lv_astore_n (lv' := [(1, .ref h), (0, .ref a)]) hx hb d_Limbs_fromHex_4 rfl hl (by decide) rfl (fun ls hl => ?_)
  refine lv_aload_n hx hb d_Limbs_fromHex_5 rfl (lv_at hl 1 rfl) ?_
  have ho1 : OLD s0 H1 := ho.lt (hn0 _ hnh) hlow
  refine q_cVW (rest := []) E hw0 (c_String_length l g n0 s0 hn0 a n f hks hkt (by omega)) w_94 w_6 w_91 w_92 w_93 hd_String_length rfl ⟨by decide, by decide⟩ (kt_R hkt.1 hw0 ho1) ho1 hF hl.1 rfl (Nat.le_of_ble_eq_true rfl) d_Limbs_fromHex_6 ⟨by decide, by decide⟩ (qi (fun r H2 locs hq hF => ?_))
  obtain ⟨rfl, hH⟩ := hq
  subst hH
  have lp : ∀ (k : Nat) (i : Nat) (H : Heap) (locs : List Loc) (ls : Array Slot), i + k = n → H.size = h + 1 → (∀ q, q < h → H[q]? = s.heap[q]?) → AJ g H h 14 (hxF f n i) → (∀ q ∈ locs, n0 q.base) → lv_has ls 7 [(3, .int (nI i)), (2, .int (nI n)), (1, .ref h), (0, .ref a)] → W p l e { frames := 4, cells := 1, slots := 14, locals := 85 } s m [.ref a].toArray below meth c H locs (0 + 1) (0 + 14) (MQ below (QcP (QR (fun r H H' => r = h ∧ H'.size = h + 1 ∧ (∀ q, q < h → H'[q]? = H[q]?) ∧ AJ g H' h 14 (hxF f n n)))) [.ref a].toArray s 1 14 (fun q => n0 q)) (F0 m 12 ls []) := by
    intro k
    induction k with
    | zero =>
      intro  i   H   locs   ls hi hsz hlow hA hF hl
      obtain rfl : i = n := by omega
      refine lv_iload_n hx hb d_Limbs_fromHex_12 rfl (lv_at hl 0 rfl) ?_
      refine lv_iload_n hx hb d_Limbs_fromHex_13 rfl (lv_at hl 1 rfl) ?_
      refine lv_icmp_ge (tgt := 90) hx hb d_Limbs_fromHex_14 (by decide) (fun _ => ?_) (fun h9 => absurd (nI_le (Nat.le_refl _) (by omega)) h9)
      refine lv_aload_n hx hb d_Limbs_fromHex_90 rfl (lv_at hl 2 rfl) ?_
      exact q_aret E hr (Or.inr ⟨_, rfl⟩) hlk (⟨_, rfl, rfl, hsz, hlow, hA⟩) hF d_Limbs_fromHex_91
    | succ k ih =>
      intro  i   H   locs   ls hi hsz hlow hA hF hl
      have hin : i < n := by omega
      have hi98 : i < 98 := by omega
      refine lv_iload_n hx hb d_Limbs_fromHex_12 rfl (lv_at hl 0 rfl) ?_
      refine lv_iload_n hx hb d_Limbs_fromHex_13 rfl (lv_at hl 1 rfl) ?_
      refine lv_icmp_ge (tgt := 90) hx hb d_Limbs_fromHex_14 (by decide) (fun h9 => absurd h9 (nI_ge hin (by omega))) (fun _ => ?_)
      refine lv_iconst (v := nI 4) hx hb d_Limbs_fromHex_17 (by decide) ?_
      refine lv_iload_n hx hb d_Limbs_fromHex_18 rfl (lv_at hl 0 rfl) ?_
      refine lv_imul hx hb d_Limbs_fromHex_19 ?_
      refine lv_topi (fun t9 e9 => ?_)
      obtain rfl : t9 = nI (4 * i) := e9.trans (hx_m i hi98)
      refine lv_sipush (v := nI 392) hx hb d_Limbs_fromHex_20 (by decide) ?_
      refine lv_icmp_ge (tgt := 90) hx hb d_Limbs_fromHex_23 (by decide) (fun h9 => absurd h9 (nI_ge (show 4 * i < 392 by omega) (by decide))) (fun _ => ?_)
      refine lv_aload_n hx hb d_Limbs_fromHex_26 rfl (lv_at hl 3 rfl) ?_
      refine lv_iload_n hx hb d_Limbs_fromHex_27 rfl (lv_at hl 1 rfl) ?_
      refine lv_iconst (v := nI 1) hx hb d_Limbs_fromHex_28 (by decide) ?_
      refine lv_isub hx hb d_Limbs_fromHex_29 ?_
      refine lv_iload_n hx hb d_Limbs_fromHex_30 rfl (lv_at hl 0 rfl) ?_
      refine lv_isub hx hb d_Limbs_fromHex_31 ?_
      refine lv_topi (fun t9 e9 => ?_)
      obtain rfl : t9 = nI (n - 1 - i) := e9.trans (hx_s hin)
      have ho1 : OLD s0 H := ho.lt (hn0 _ hnh) hlow
      refine q_cVW (rest := []) E hw0 (c_String_charAt l g n0 s0 hn0 a n f hks hkt (n - 1 - i) (by omega) (by omega)) w_104 w_6 w_101 w_102 w_103 hd_String_charAt rfl ⟨by decide, by decide⟩ (kt_R hkt.1 hw0 ho1) ho1 hF hl.1 rfl (Nat.le_of_ble_eq_true rfl) d_Limbs_fromHex_32 ⟨by decide, by decide⟩ (qi (fun r H1 locs hq hF => ?_))
      obtain ⟨hr9, hH⟩ := hq
      have hH := hH.symm
      subst hH
      refine lv_istore (lv' := [(4, .int r), (3, .int (nI i)), (2, .int (nI n)), (1, .ref h), (0, .ref a)]) hx hb d_Limbs_fromHex_35 hl (by decide) rfl (fun ls hl => ?_)
      refine lv_iload hx hb d_Limbs_fromHex_37 (lv_at hl 0 rfl) ?_
      refine lv_bipush (v := nI 57) hx hb d_Limbs_fromHex_39 (by decide) ?_
      have tl : ∀ (d : Int64) (ls : Array Slot), d = hxD r → lv_has ls 7 [(4, .int r), (3, .int (nI i)), (2, .int (nI n)), (1, .ref h), (0, .ref a)] → W p l e { frames := 4, cells := 1, slots := 14, locals := 85 } s m [.ref a].toArray below meth c H locs (0 + 1) (0 + 14) (MQ below (QcP (QR (fun r H H' => r = h ∧ H'.size = h + 1 ∧ (∀ q, q < h → H'[q]? = H[q]?) ∧ AJ g H' h 14 (hxF f n n)))) [.ref a].toArray s 1 14 (fun q => n0 q)) (F0 m 62 ls [.long d]) := by
        intro  d   ls hd hl
        refine lv_lstore (lv' := [(5, .long d), (4, .int r), (3, .int (nI i)), (2, .int (nI n)), (1, .ref h), (0, .ref a)]) hx hb d_Limbs_fromHex_62 hl (by decide) rfl (fun ls hl => ?_)
        refine lv_aload_n hx hb d_Limbs_fromHex_64 rfl (lv_at hl 4 rfl) ?_
        refine lv_iconst (v := nI 4) hx hb d_Limbs_fromHex_65 (by decide) ?_
        refine lv_iload_n hx hb d_Limbs_fromHex_66 rfl (lv_at hl 2 rfl) ?_
        refine lv_imul hx hb d_Limbs_fromHex_67 ?_
        refine lv_topi (fun t9 e9 => ?_)
        obtain rfl : t9 = nI (4 * i) := e9.trans (hx_m i hi98)
        refine lv_bipush (v := nI 28) hx hb d_Limbs_fromHex_68 (by decide) ?_
        refine lv_idiv hx hb d_Limbs_fromHex_70 (by decide) ?_
        refine lv_topi (fun t9 e9 => ?_)
        obtain rfl : t9 = nI (4 * i / 28) := e9.trans (hx_d i hi98)
        refine lv_dup2_11 hx hb d_Limbs_fromHex_71 rfl rfl ?_
        refine q_lald (N := 14) (f := (hxF f n i)) E hA (4 * i / 28) rfl (hx_14 hi98) (by decide) d_Limbs_fromHex_72 ?_
        refine lv_lload hx hb d_Limbs_fromHex_73 (lv_at hl 0 rfl) ?_
        refine lv_iconst (v := nI 4) hx hb d_Limbs_fromHex_75 (by decide) ?_
        refine lv_iload_n hx hb d_Limbs_fromHex_76 rfl (lv_at hl 2 rfl) ?_
        refine lv_imul hx hb d_Limbs_fromHex_77 ?_
        refine lv_topi (fun t9 e9 => ?_)
        obtain rfl : t9 = nI (4 * i) := e9.trans (hx_m i hi98)
        refine lv_bipush (v := nI 28) hx hb d_Limbs_fromHex_78 (by decide) ?_
        refine lv_irem hx hb d_Limbs_fromHex_80 (by decide) ?_
        refine lv_topi (fun t9 e9 => ?_)
        obtain rfl : t9 = nI (4 * i % 28) := e9.trans (hx_r i hi98)
        refine lv_lshl (v := d <<< ((nI (4 * i % 28)).toInt64 &&& 63)) hx hb d_Limbs_fromHex_81 rfl ?_
        refine lv_lor hx hb d_Limbs_fromHex_82 ?_
        refine q_last E hA hnh hF (4 * i / 28) rfl (hx_14 hi98) (by decide) d_Limbs_fromHex_83 (fun H1 locs hq hA2 hF => ?_)
        refine lv_iinc (k := 2) (v := nI (i + 1)) (lv' := [(3, .int (nI (i + 1))), (5, .long d), (4, .int r), (2, .int (nI n)), (1, .ref h), (0, .ref a)]) hx hb d_Limbs_fromHex_84 hl rfl (i_inc i) (by decide) rfl (fun ls hl => ?_)
        refine lv_goto (tgt := 12) hx hb d_Limbs_fromHex_87 (by decide) ?_
        have hl : lv_has ls 7 [(3, .int (nI (i + 1))), (2, .int (nI n)), (1, .ref h), (0, .ref a)] := lv_sub hl [0, 3, 4, 5] rfl
        exact ih (i + 1) _ _ ls (by omega) (hq.1.trans hsz) (fun q hq9 => (hq.off (show ¬ q = h from Nat.ne_of_lt hq9)).trans (hlow q hq9)) (by rw [hd, hr9] at hA2; exact hA2) hF hl
      refine lv_icmp_gt (tgt := 53) hx hb d_Limbs_fromHex_41 (by decide) (fun hg => ?_) (fun hg => ?_)
      rotate_left
      · skip
        refine lv_iload hx hb d_Limbs_fromHex_44 (lv_at hl 0 rfl) ?_
        refine lv_bipush (v := nI 48) hx hb d_Limbs_fromHex_46 (by decide) ?_
        refine lv_isub hx hb d_Limbs_fromHex_48 ?_
        refine lv_i2l (v := (r - (nI 48)).toInt64) hx hb d_Limbs_fromHex_49 rfl ?_
        refine lv_goto (tgt := 62) hx hb d_Limbs_fromHex_50 (by decide) ?_
        have hl : lv_has ls 7 [(4, .int r), (3, .int (nI i)), (2, .int (nI n)), (1, .ref h), (0, .ref a)] := lv_sub hl [0, 1, 2, 3, 4] rfl
        exact tl _ ls (if_neg hg).symm hl
      refine lv_iload hx hb d_Limbs_fromHex_53 (lv_at hl 0 rfl) ?_
      refine lv_bipush (v := nI 97) hx hb d_Limbs_fromHex_55 (by decide) ?_
      refine lv_isub hx hb d_Limbs_fromHex_57 ?_
      refine lv_bipush (v := nI 10) hx hb d_Limbs_fromHex_58 (by decide) ?_
      refine lv_iadd hx hb d_Limbs_fromHex_60 ?_
      refine lv_i2l (v := ((r - (nI 97)) + (nI 10)).toInt64) hx hb d_Limbs_fromHex_61 rfl ?_
      have hl : lv_has ls 7 [(4, .int r), (3, .int (nI i)), (2, .int (nI n)), (1, .ref h), (0, .ref a)] := lv_sub hl [0, 1, 2, 3, 4] rfl
      exact tl _ ls (if_pos hg).symm hl
  refine lv_istore_n (lv' := [(2, .int (nI n)), (1, .ref h), (0, .ref a)]) hx hb d_Limbs_fromHex_9 rfl hl (by decide) rfl (fun ls hl => ?_)
  refine lv_iconst (v := nI 0) hx hb d_Limbs_fromHex_10 (by decide) ?_
  refine lv_istore_n (lv' := [(3, .int (nI 0)), (2, .int (nI n)), (1, .ref h), (0, .ref a)]) hx hb d_Limbs_fromHex_11 rfl hl (by decide) rfl (fun ls hl => ?_)
  have hl : lv_has ls 7 [(3, .int (nI 0)), (2, .int (nI n)), (1, .ref h), (0, .ref a)] := lv_sub hl [0, 1, 2, 3] rfl
  exact lp n 0 _ _ ls (by omega) hsz hlow hA hF hl
