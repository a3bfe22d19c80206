/-! a coordinate's bytes -/
def wby (N mk j : Nat) : Nat := N / 2 ^ (8 * (47 - j)) % 2 ^ 8 + (if j = 0 then 32 * mk else 0)
theorem lN_r8 {r : Int64} {jb : Nat} (h : r.toInt = (jb : Int)) (hj : jb < 256) : r = lN jb := by
  refine i64_eq_of (h.trans ?_)
  have h9 : ∀ j : Fin 256, ((j.val : Nat) : Int) = (lN j.val).toInt := by decide +kernel
  exact h9 ⟨jb, hj⟩
theorem or_mk {mk v : Nat} (hm : mk < 8) (hv : v < 32) : (nI mk <<< (nI 5 &&& 31)) ||| nI v = nI (v + 32 * mk) := by
  have h : ∀ m : Fin 8, ∀ q : Fin 32, (nI m.val <<< (nI 5 &&& 31)) ||| nI q.val = nI (q.val + 32 * m.val) := by decide +kernel
  exact h ⟨mk, hm⟩ ⟨v, hv⟩
theorem by_9 {v : Nat} (hv : v < 256) : (vp_nar .byte ((nI v).toInt8.toInt32)) &&& 255 = nI v := by
  have h : ∀ q : Fin 256, (((nI q.val).toInt8.toInt32).toInt8.toInt32) &&& 255 = nI q.val := by decide +kernel
  exact h ⟨v, hv⟩
theorem top_32 {N : Nat} (h : N < 2 ^ 381) : N / 2 ^ 376 % 2 ^ 8 < 32 := by
  have e : (2 : Nat) ^ 381 = 2 ^ 376 * 32 := by rw [show (381 : Nat) = 376 + 5 from rfl, Nat.pow_add]
  have h1 : N / 2 ^ 376 < 32 := Nat.div_lt_of_lt_mul (by rw [← e]; exact h)
  exact Nat.lt_of_le_of_lt (Nat.mod_le _ _) h1
theorem wby_lt {N mk j : Nat} (hN : N < 2 ^ 381) (hm : mk < 8) : wby N mk j < 256 := by
  unfold wby
  by_cases e : j = 0
  · subst e
    rw [if_pos rfl]
    have := top_32 hN
    show N / 2 ^ (8 * (47 - 0)) % 2 ^ 8 + 32 * mk < 256
    rw [show 8 * (47 - 0) = 376 from rfl]
    omega
  · rw [if_neg e, Nat.add_zero]
    exact Nat.mod_lt _ (by decide)
theorem bt_n {r : Int64} {N a : Nat} (h : r.toInt = (N : Int) / 2 ^ a % 2 ^ 8) : r.toInt = ((N / 2 ^ a % 2 ^ 8 : Nat) : Int) := lN_of h rfl
set_option maxHeartbeats 4000000 in
set_option maxRecDepth 100000 in
theorem L_Forms_writeCoordinate (l : Launch) (g : WG) (n0 : Nat → Prop) (rw ce ts a mk N : Nat) (fa : Nat → Int64) (hfa : RV fa (N : Int)) (hN : N < 2 ^ 381) (hmk : mk < 8) (hts : ts ≤ 48) (c0 : Nat → Int32) (hnr : n0 rw) (hnc : n0 ce) (h1 : a ≠ rw) (h2 : a ≠ ce) : Ctr l y_Forms_writeCoordinate (.code y_Forms_writeCoordinate prog_4_method_9_code 4 none) 1 26 0 0 n0 g [.ref rw, .ref a, .int (nI mk)] (fun H => OB g H rw 3 [.ref ce, .int (nI ts)] ∧ AB g H ce 96 c0 ∧ AJ g H a 14 fa) (QV (fun H H' => FRM (fun q => q = rw ∨ q = ce) H H' ∧ OB g H' rw 3 [.ref ce, .int (nI (ts + 48))] ∧ ∃ c', AB g H' ce 96 c' ∧ (∀ j, j < ts → c' j = c0 j) ∧ ∀ j, j < 48 → c' (ts + j) &&& 255 = nI (wby N mk j))) := by
  refine ctr_mk l (lv0 := [(0, .ref rw), (1, .ref a), (2, .int (nI mk))]) (by decide) (Nat.le_of_ble_eq_true rfl) rfl ?_
  intro p e s m below meth c ls E hr hlk hnm hl hP
  have hx := E.1
  have hb := E.2.1
  have hK := E.2.2.2.2.2
  have hF : ∀ q ∈ ([] : List Loc), n0 q.base := fun q hq => absurd hq List.not_mem_nil
  obtain ⟨hob, hc, hA⟩ := hP
  have hfr : FRM (fun q => q = rw ∨ q = ce) s.heap s.heap := FRM.rf
  refine lv_aload_n hx hb d_Forms_writeCoordinate_0 rfl (lv_at hl 0 rfl) ?_
  refine lv_iload_n hx hb d_Forms_writeCoordinate_1 rfl (lv_at hl 2 rfl) ?_
  refine lv_iconst (v := nI 5) hx hb d_Forms_writeCoordinate_2 (by decide) ?_
  refine lv_ishl hx hb d_Forms_writeCoordinate_3 ?_
  refine lv_aload_n hx hb d_Forms_writeCoordinate_4 rfl (lv_at hl 1 rfl) ?_
  refine lv_sipush (v := nI 376) hx hb d_Forms_writeCoordinate_5 (by decide) ?_
  refine lv_bipush (v := nI 8) hx hb d_Forms_writeCoordinate_8 (by decide) ?_
  refine q_cS (rest := [.int ((nI mk) <<< ((nI 5) &&& 31)), .ref rw]) E (V_Limbs_bits l g n0 a 376 8 fa (N : Int) hfa (by omega) (by decide)) w_271 w_5 w_748 w_270 hd_Limbs_bits rfl ⟨by decide, by decide⟩ hA hF hl.1 rfl (Nat.le_of_ble_eq_true rfl) d_Forms_writeCoordinate_10 ⟨by decide, by decide⟩ (ql (fun r1 H1 locs hq hF => ?_))
  obtain ⟨hb9, hq⟩ := hq
  have hq := hq.symm
  subst hq
  have hb8 : r1 = lN (N / 2 ^ 376 % 2 ^ 8) := lN_r8 (bt_n hb9) (Nat.mod_lt _ (by decide))
  subst hb8
  refine lv_l2i (v := (lN (N / 2 ^ 376 % 2 ^ 8)).toInt32) hx hb d_Forms_writeCoordinate_13 rfl ?_
  refine lv_topi (fun t9 e9 => ?_)
  obtain rfl : t9 = nI (N / 2 ^ 376 % 2 ^ 8) := e9.trans (lN_i _)
  refine lv_ior hx hb d_Forms_writeCoordinate_14 ?_
  refine lv_topi (fun t9 e9 => ?_)
  obtain rfl : t9 = nI (wby N mk 0) := e9.trans (or_mk hmk (top_32 hN))
  refine q_cV (rest := []) E (X_Row_append l g n0 rw ce ts (nI (wby N mk 0)) c0 (by omega)) w_484 w_3 w_743 w_482 w_483 hd_Row_append rfl ⟨by decide, by decide⟩ (OB.recv E.2.2.2.2.2 (by rfl) hob) (⟨hob, hc, hnr, hnc⟩) hF hl.1 rfl (Nat.le_of_ble_eq_true rfl) d_Forms_writeCoordinate_15 ⟨by decide, by decide⟩ (qv (fun H2 locs hq hF => ?_))
  obtain ⟨hq, hob, hc⟩ := hq
  have hA := AJ.off hq (fun h => h.elim h1 h2) hA
  have hfr := hfr.tr hq
  have hold : ∀ j, j < ts → upd c0 ts (vp_nar .byte (nI (wby N mk 0)).toInt8.toInt32) j = c0 j := fun j hj => up_n (by omega)
  have hnew : ∀ j, j < 48 - 47 → upd c0 ts (vp_nar .byte (nI (wby N mk 0)).toInt8.toInt32) (ts + j) &&& 255 = nI (wby N mk j) := fun j hj => by (have e : j = 0 := by omega); subst e; rw [Nat.add_zero, up_s]; exact by_9 (wby_lt hN hmk)
  refine lv_bipush (v := nI 46) hx hb d_Forms_writeCoordinate_18 (by decide) ?_
  refine lv_istore_n (lv' := [(3, .int (nI 46)), (0, .ref rw), (1, .ref a), (2, .int (nI mk))]) hx hb d_Forms_writeCoordinate_20 rfl hl (by decide) rfl (fun ls hl => ?_)
  have hl : lv_has ls 4 [(3, .int (nI 46)), (0, .ref rw), (1, .ref a), (2, .int (nI mk))] := lv_sub hl [0, 1, 2, 3] rfl
  have lp : ∀ (k : Nat) (H : Heap) (locs : List Loc) (ls : Array Slot) (x : Int32) (c1 : Nat → Int32), k ≤ 47 → x = nI k - 1 → FRM (fun q => q = rw ∨ q = ce) s.heap H → OB g H rw 3 [.ref ce, .int (nI (ts + (48 - k)))] → AB g H ce 96 c1 → AJ g H a 14 fa → (∀ j, j < ts → c1 j = c0 j) → (∀ j, j < 48 - k → c1 (ts + j) &&& 255 = nI (wby N mk j)) → (∀ q ∈ locs, n0 q.base) → lv_has ls 4 [(3, .int x), (0, .ref rw), (1, .ref a), (2, .int (nI mk))] → W p l e { frames := 1, cells := 0, slots := 0, locals := 26 } s m [.ref rw, .ref a, .int (nI mk)].toArray below meth c H locs 0 0 (MQ below (QcP (QV (fun H H' => FRM (fun q => q = rw ∨ q = ce) H H' ∧ OB g H' rw 3 [.ref ce, .int (nI (ts + 48))] ∧ ∃ c', AB g H' ce 96 c' ∧ (∀ j, j < ts → c' j = c0 j) ∧ ∀ j, j < 48 → c' (ts + j) &&& 255 = nI (wby N mk j)))) [.ref rw, .ref a, .int (nI mk)].toArray s 0 0 (fun q => n0 q)) (F0 m 21 ls []) := by
    intro k
    induction k with
    | zero =>
      intro  H   locs   ls   x   c1 hk47 hxx hfr hob hc hA hold hnew hF hl
      subst hxx
      refine lv_iload_n hx hb d_Forms_writeCoordinate_21 rfl (lv_at hl 0 rfl) ?_
      refine lv_if_lt (tgt := 46) hx hb d_Forms_writeCoordinate_22 (by decide) (fun _ => ?_) (fun h9 => absurd (by decide) h9)
      exact q_vret E hr hlk (⟨rfl, hfr, hob, c1, hc, hold, hnew⟩) hF d_Forms_writeCoordinate_46
    | succ k ih =>
      intro  H   locs   ls   x   c1 hk47 hxx hfr hob hc hA hold hnew hF hl
      rw [nI_pred] at hxx
      subst hxx
      refine lv_iload_n hx hb d_Forms_writeCoordinate_21 rfl (lv_at hl 0 rfl) ?_
      refine lv_if_lt (tgt := 46) hx hb d_Forms_writeCoordinate_22 (by decide) (fun h9 => absurd h9 (nI_pos (by omega))) (fun _ => ?_)
      refine lv_aload_n hx hb d_Forms_writeCoordinate_25 rfl (lv_at hl 1 rfl) ?_
      refine lv_aload_n hx hb d_Forms_writeCoordinate_26 rfl (lv_at hl 2 rfl) ?_
      refine lv_bipush (v := nI 8) hx hb d_Forms_writeCoordinate_27 (by decide) ?_
      refine lv_iload_n hx hb d_Forms_writeCoordinate_29 rfl (lv_at hl 0 rfl) ?_
      refine lv_imul hx hb d_Forms_writeCoordinate_30 ?_
      refine lv_topi (fun t9 e9 => ?_)
      obtain rfl : t9 = nI (8 * k) := e9.trans (pk_mul _ _)
      refine lv_bipush (v := nI 8) hx hb d_Forms_writeCoordinate_31 (by decide) ?_
      refine q_cS (rest := [.ref rw]) E (V_Limbs_bits l g n0 a (8 * k) 8 fa (N : Int) hfa (by omega) (by decide)) w_271 w_5 w_748 w_270 hd_Limbs_bits rfl ⟨by decide, by decide⟩ hA hF hl.1 rfl (Nat.le_of_ble_eq_true rfl) d_Forms_writeCoordinate_33 ⟨by decide, by decide⟩ (ql (fun r2 H11 locs hq hF => ?_))
      obtain ⟨hb9, hq⟩ := hq
      have hq := hq.symm
      subst hq
      have hb8 : r2 = lN (N / 2 ^ (8 * k) % 2 ^ 8) := lN_r8 (bt_n hb9) (Nat.mod_lt _ (by decide))
      subst hb8
      refine lv_l2i (v := (lN (N / 2 ^ (8 * k) % 2 ^ 8)).toInt32) hx hb d_Forms_writeCoordinate_36 rfl ?_
      refine lv_topi (fun t9 e9 => ?_)
      obtain rfl : t9 = nI (N / 2 ^ (8 * k) % 2 ^ 8) := e9.trans (lN_i _)
      have ew : N / 2 ^ (8 * k) % 2 ^ 8 = wby N mk (47 - k) := by unfold wby; rw [show 47 - (47 - k) = k by omega, if_neg (by omega), Nat.add_zero]
      rw [ew]
      refine q_cV (rest := []) E (X_Row_append l g n0 rw ce (ts + (48 - (k + 1))) (nI (wby N mk (47 - k))) c1 (by omega)) w_484 w_3 w_743 w_482 w_483 hd_Row_append rfl ⟨by decide, by decide⟩ (OB.recv E.2.2.2.2.2 (by rfl) hob) (⟨hob, hc, hnr, hnc⟩) hF hl.1 rfl (Nat.le_of_ble_eq_true rfl) d_Forms_writeCoordinate_37 ⟨by decide, by decide⟩ (qv (fun H12 locs hq hF => ?_))
      obtain ⟨hq, hob, hc⟩ := hq
      have hA := AJ.off hq (fun h => h.elim h1 h2) hA
      have hfr := hfr.tr hq
      have ek : ts + (48 - (k + 1)) + 1 = ts + (48 - k) := by omega
      rw [ek] at hob
      have hold2 : ∀ j, j < ts → upd c1 (ts + (48 - (k + 1))) (vp_nar .byte (nI (wby N mk (47 - k))).toInt8.toInt32) j = c0 j := fun j hj => (up_n (by omega)).trans (hold j hj)
      have hnew2 : ∀ j, j < 48 - k → upd c1 (ts + (48 - (k + 1))) (vp_nar .byte (nI (wby N mk (47 - k))).toInt8.toInt32) (ts + j) &&& 255 = nI (wby N mk j) := fun j hj => by
        by_cases e : j = 48 - (k + 1)
        · rw [e, up_s, show 48 - (k + 1) = 47 - k by omega]; exact by_9 (wby_lt hN hmk)
        · rw [up_n (by omega)]; exact hnew j (by omega)
      refine lv_iinc (k := 0) (v := nI k - 1) (lv' := [(3, .int (nI k - 1)), (0, .ref rw), (1, .ref a), (2, .int (nI mk))]) hx hb d_Forms_writeCoordinate_40 hl rfl (i_dec (nI k)) (by decide) rfl (fun ls hl => ?_)
      refine lv_goto (tgt := 21) hx hb d_Forms_writeCoordinate_43 (by decide) ?_
      have hl : lv_has ls 4 [(3, .int (nI k - 1)), (0, .ref rw), (1, .ref a), (2, .int (nI mk))] := lv_sub hl [0, 1, 2, 3] rfl
      exact ih _ _ ls _ _ (by omega) rfl hfr hob hc hA hold2 hnew2 hF hl
  exact lp 47 _ _ ls _ _ (by decide) (by decide) hfr hob hc hA hold hnew hF hl
